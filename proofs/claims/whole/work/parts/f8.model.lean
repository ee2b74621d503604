/-! ===== the reference: isSo, said ===== -/
theorem dX13_isSo_0 : decode cX13_isSo 0 = .ok (.sipush 550, 3) := by decide +kernel
theorem dX13_isSo_3 : decode cX13_isSo 3 = .ok (.iconst 4, 1) := by decide +kernel
theorem dX13_isSo_4 : decode cX13_isSo 4 = .ok (.iload_n 1, 1) := by decide +kernel
theorem dX13_isSo_5 : decode cX13_isSo 5 = .ok (.imul, 1) := by decide +kernel
theorem dX13_isSo_6 : decode cX13_isSo 6 = .ok (.iadd, 1) := by decide +kernel
theorem dX13_isSo_7 : decode cX13_isSo 7 = .ok (.istore_n 3, 1) := by decide +kernel
theorem dX13_isSo_8 : decode cX13_isSo 8 = .ok (.aload_n 0, 1) := by decide +kernel
theorem dX13_isSo_9 : decode cX13_isSo 9 = .ok (.getfield 13, 3) := by decide +kernel
theorem dX13_isSo_12 : decode cX13_isSo 12 = .ok (.iload_n 3, 1) := by decide +kernel
theorem dX13_isSo_13 : decode cX13_isSo 13 = .ok (.iconst 1, 1) := by decide +kernel
theorem dX13_isSo_14 : decode cX13_isSo 14 = .ok (.iadd, 1) := by decide +kernel
theorem dX13_isSo_15 : decode cX13_isSo 15 = .ok (.iaload, 1) := by decide +kernel
theorem dX13_isSo_16 : decode cX13_isSo 16 = .ok (.istore 4, 2) := by decide +kernel
theorem dX13_isSo_18 : decode cX13_isSo 18 = .ok (.aload_n 0, 1) := by decide +kernel
theorem dX13_isSo_19 : decode cX13_isSo 19 = .ok (.getfield 13, 3) := by decide +kernel
theorem dX13_isSo_22 : decode cX13_isSo 22 = .ok (.iload_n 3, 1) := by decide +kernel
theorem dX13_isSo_23 : decode cX13_isSo 23 = .ok (.iconst 2, 1) := by decide +kernel
theorem dX13_isSo_24 : decode cX13_isSo 24 = .ok (.iadd, 1) := by decide +kernel
theorem dX13_isSo_25 : decode cX13_isSo 25 = .ok (.iaload, 1) := by decide +kernel
theorem dX13_isSo_26 : decode cX13_isSo 26 = .ok (.istore 5, 2) := by decide +kernel
theorem dX13_isSo_28 : decode cX13_isSo 28 = .ok (.aload_n 0, 1) := by decide +kernel
theorem dX13_isSo_29 : decode cX13_isSo 29 = .ok (.getfield 13, 3) := by decide +kernel
theorem dX13_isSo_32 : decode cX13_isSo 32 = .ok (.iload_n 3, 1) := by decide +kernel
theorem dX13_isSo_33 : decode cX13_isSo 33 = .ok (.iaload, 1) := by decide +kernel
theorem dX13_isSo_34 : decode cX13_isSo 34 = .ok (.tableswitch 117 1 4 #[30, 46, 72, 98], 30) := by decide +kernel
theorem dX13_isSo_64 : decode cX13_isSo 64 = .ok (.aload_n 0, 1) := by decide +kernel
theorem dX13_isSo_65 : decode cX13_isSo 65 = .ok (.iload 4, 2) := by decide +kernel
theorem dX13_isSo_67 : decode cX13_isSo 67 = .ok (.iload_n 2, 1) := by decide +kernel
theorem dX13_isSo_68 : decode cX13_isSo 68 = .ok (.invokevirtual 537, 3) := by decide +kernel
theorem dX13_isSo_71 : decode cX13_isSo 71 = .ok (.ifCond .ne 7, 3) := by decide +kernel
theorem dX13_isSo_74 : decode cX13_isSo 74 = .ok (.iconst 1, 1) := by decide +kernel
theorem dX13_isSo_75 : decode cX13_isSo 75 = .ok (.goto 4, 3) := by decide +kernel
theorem dX13_isSo_78 : decode cX13_isSo 78 = .ok (.iconst 0, 1) := by decide +kernel
theorem dX13_isSo_79 : decode cX13_isSo 79 = .ok (.ireturn, 1) := by decide +kernel
theorem dX13_isSo_80 : decode cX13_isSo 80 = .ok (.aload_n 0, 1) := by decide +kernel
theorem dX13_isSo_81 : decode cX13_isSo 81 = .ok (.iload 4, 2) := by decide +kernel
theorem dX13_isSo_83 : decode cX13_isSo 83 = .ok (.iload_n 2, 1) := by decide +kernel
theorem dX13_isSo_84 : decode cX13_isSo 84 = .ok (.invokevirtual 537, 3) := by decide +kernel
theorem dX13_isSo_87 : decode cX13_isSo 87 = .ok (.ifCond .eq 17, 3) := by decide +kernel
theorem dX13_isSo_90 : decode cX13_isSo 90 = .ok (.aload_n 0, 1) := by decide +kernel
theorem dX13_isSo_91 : decode cX13_isSo 91 = .ok (.iload 5, 2) := by decide +kernel
theorem dX13_isSo_93 : decode cX13_isSo 93 = .ok (.iload_n 2, 1) := by decide +kernel
theorem dX13_isSo_94 : decode cX13_isSo 94 = .ok (.invokevirtual 537, 3) := by decide +kernel
theorem dX13_isSo_97 : decode cX13_isSo 97 = .ok (.ifCond .eq 7, 3) := by decide +kernel
theorem dX13_isSo_100 : decode cX13_isSo 100 = .ok (.iconst 1, 1) := by decide +kernel
theorem dX13_isSo_101 : decode cX13_isSo 101 = .ok (.goto 4, 3) := by decide +kernel
theorem dX13_isSo_104 : decode cX13_isSo 104 = .ok (.iconst 0, 1) := by decide +kernel
theorem dX13_isSo_105 : decode cX13_isSo 105 = .ok (.ireturn, 1) := by decide +kernel
theorem dX13_isSo_106 : decode cX13_isSo 106 = .ok (.aload_n 0, 1) := by decide +kernel
theorem dX13_isSo_107 : decode cX13_isSo 107 = .ok (.iload 4, 2) := by decide +kernel
theorem dX13_isSo_109 : decode cX13_isSo 109 = .ok (.iload_n 2, 1) := by decide +kernel
theorem dX13_isSo_110 : decode cX13_isSo 110 = .ok (.invokevirtual 537, 3) := by decide +kernel
theorem dX13_isSo_113 : decode cX13_isSo 113 = .ok (.ifCond .ne 13, 3) := by decide +kernel
theorem dX13_isSo_116 : decode cX13_isSo 116 = .ok (.aload_n 0, 1) := by decide +kernel
theorem dX13_isSo_117 : decode cX13_isSo 117 = .ok (.iload 5, 2) := by decide +kernel
theorem dX13_isSo_119 : decode cX13_isSo 119 = .ok (.iload_n 2, 1) := by decide +kernel
theorem dX13_isSo_120 : decode cX13_isSo 120 = .ok (.invokevirtual 537, 3) := by decide +kernel
theorem dX13_isSo_123 : decode cX13_isSo 123 = .ok (.ifCond .eq 7, 3) := by decide +kernel
theorem dX13_isSo_126 : decode cX13_isSo 126 = .ok (.iconst 1, 1) := by decide +kernel
theorem dX13_isSo_127 : decode cX13_isSo 127 = .ok (.goto 4, 3) := by decide +kernel
theorem dX13_isSo_130 : decode cX13_isSo 130 = .ok (.iconst 0, 1) := by decide +kernel
theorem dX13_isSo_131 : decode cX13_isSo 131 = .ok (.ireturn, 1) := by decide +kernel
theorem dX13_isSo_132 : decode cX13_isSo 132 = .ok (.aload_n 0, 1) := by decide +kernel
theorem dX13_isSo_133 : decode cX13_isSo 133 = .ok (.getfield 142, 3) := by decide +kernel
theorem dX13_isSo_136 : decode cX13_isSo 136 = .ok (.iconst 4, 1) := by decide +kernel
theorem dX13_isSo_137 : decode cX13_isSo 137 = .ok (.iload_n 2, 1) := by decide +kernel
theorem dX13_isSo_138 : decode cX13_isSo 138 = .ok (.imul, 1) := by decide +kernel
theorem dX13_isSo_139 : decode cX13_isSo 139 = .ok (.iconst 2, 1) := by decide +kernel
theorem dX13_isSo_140 : decode cX13_isSo 140 = .ok (.iadd, 1) := by decide +kernel
theorem dX13_isSo_141 : decode cX13_isSo 141 = .ok (.iaload, 1) := by decide +kernel
theorem dX13_isSo_142 : decode cX13_isSo 142 = .ok (.ifCond .ne 7, 3) := by decide +kernel
theorem dX13_isSo_145 : decode cX13_isSo 145 = .ok (.iconst 1, 1) := by decide +kernel
theorem dX13_isSo_146 : decode cX13_isSo 146 = .ok (.goto 4, 3) := by decide +kernel
theorem dX13_isSo_149 : decode cX13_isSo 149 = .ok (.iconst 0, 1) := by decide +kernel
theorem dX13_isSo_150 : decode cX13_isSo 150 = .ok (.ireturn, 1) := by decide +kernel
theorem dX13_isSo_151 : decode cX13_isSo 151 = .ok (.iload 4, 2) := by decide +kernel
theorem dX13_isSo_153 : decode cX13_isSo 153 = .ok (.ifCond .ne 7, 3) := by decide +kernel
theorem dX13_isSo_156 : decode cX13_isSo 156 = .ok (.iload_n 2, 1) := by decide +kernel
theorem dX13_isSo_157 : decode cX13_isSo 157 = .ok (.goto 16, 3) := by decide +kernel
theorem dX13_isSo_160 : decode cX13_isSo 160 = .ok (.aload_n 0, 1) := by decide +kernel
theorem dX13_isSo_161 : decode cX13_isSo 161 = .ok (.getfield 142, 3) := by decide +kernel
theorem dX13_isSo_164 : decode cX13_isSo 164 = .ok (.iconst 4, 1) := by decide +kernel
theorem dX13_isSo_165 : decode cX13_isSo 165 = .ok (.iload_n 2, 1) := by decide +kernel
theorem dX13_isSo_166 : decode cX13_isSo 166 = .ok (.imul, 1) := by decide +kernel
theorem dX13_isSo_167 : decode cX13_isSo 167 = .ok (.iload 4, 2) := by decide +kernel
theorem dX13_isSo_169 : decode cX13_isSo 169 = .ok (.iadd, 1) := by decide +kernel
theorem dX13_isSo_170 : decode cX13_isSo 170 = .ok (.iconst 1, 1) := by decide +kernel
theorem dX13_isSo_171 : decode cX13_isSo 171 = .ok (.isub, 1) := by decide +kernel
theorem dX13_isSo_172 : decode cX13_isSo 172 = .ok (.iaload, 1) := by decide +kernel
theorem dX13_isSo_173 : decode cX13_isSo 173 = .ok (.istore 6, 2) := by decide +kernel
theorem dX13_isSo_175 : decode cX13_isSo 175 = .ok (.aload_n 0, 1) := by decide +kernel
theorem dX13_isSo_176 : decode cX13_isSo 176 = .ok (.getfield 13, 3) := by decide +kernel
theorem dX13_isSo_179 : decode cX13_isSo 179 = .ok (.iload_n 3, 1) := by decide +kernel
theorem dX13_isSo_180 : decode cX13_isSo 180 = .ok (.iconst 3, 1) := by decide +kernel
theorem dX13_isSo_181 : decode cX13_isSo 181 = .ok (.iadd, 1) := by decide +kernel
theorem dX13_isSo_182 : decode cX13_isSo 182 = .ok (.iaload, 1) := by decide +kernel
theorem dX13_isSo_183 : decode cX13_isSo 183 = .ok (.bipush 60, 2) := by decide +kernel
theorem dX13_isSo_185 : decode cX13_isSo 185 = .ok (.if_icmp .ne 18, 3) := by decide +kernel
theorem dX13_isSo_188 : decode cX13_isSo 188 = .ok (.iload 6, 2) := by decide +kernel
theorem dX13_isSo_190 : decode cX13_isSo 190 = .ok (.iload 5, 2) := by decide +kernel
theorem dX13_isSo_192 : decode cX13_isSo 192 = .ok (.if_icmp .ge 7, 3) := by decide +kernel
theorem dX13_isSo_195 : decode cX13_isSo 195 = .ok (.iconst 1, 1) := by decide +kernel
theorem dX13_isSo_196 : decode cX13_isSo 196 = .ok (.goto 47, 3) := by decide +kernel
theorem dX13_isSo_199 : decode cX13_isSo 199 = .ok (.iconst 0, 1) := by decide +kernel
theorem dX13_isSo_200 : decode cX13_isSo 200 = .ok (.goto 43, 3) := by decide +kernel
theorem dX13_isSo_203 : decode cX13_isSo 203 = .ok (.aload_n 0, 1) := by decide +kernel
theorem dX13_isSo_204 : decode cX13_isSo 204 = .ok (.getfield 13, 3) := by decide +kernel
theorem dX13_isSo_207 : decode cX13_isSo 207 = .ok (.iload_n 3, 1) := by decide +kernel
theorem dX13_isSo_208 : decode cX13_isSo 208 = .ok (.iconst 3, 1) := by decide +kernel
theorem dX13_isSo_209 : decode cX13_isSo 209 = .ok (.iadd, 1) := by decide +kernel
theorem dX13_isSo_210 : decode cX13_isSo 210 = .ok (.iaload, 1) := by decide +kernel
theorem dX13_isSo_211 : decode cX13_isSo 211 = .ok (.bipush 61, 2) := by decide +kernel
theorem dX13_isSo_213 : decode cX13_isSo 213 = .ok (.if_icmp .ne 18, 3) := by decide +kernel
theorem dX13_isSo_216 : decode cX13_isSo 216 = .ok (.iload 6, 2) := by decide +kernel
theorem dX13_isSo_218 : decode cX13_isSo 218 = .ok (.iload 5, 2) := by decide +kernel
theorem dX13_isSo_220 : decode cX13_isSo 220 = .ok (.if_icmp .ne 7, 3) := by decide +kernel
theorem dX13_isSo_223 : decode cX13_isSo 223 = .ok (.iconst 1, 1) := by decide +kernel
theorem dX13_isSo_224 : decode cX13_isSo 224 = .ok (.goto 19, 3) := by decide +kernel
theorem dX13_isSo_227 : decode cX13_isSo 227 = .ok (.iconst 0, 1) := by decide +kernel
theorem dX13_isSo_228 : decode cX13_isSo 228 = .ok (.goto 15, 3) := by decide +kernel
theorem dX13_isSo_231 : decode cX13_isSo 231 = .ok (.iload 6, 2) := by decide +kernel
theorem dX13_isSo_233 : decode cX13_isSo 233 = .ok (.iload 5, 2) := by decide +kernel
theorem dX13_isSo_235 : decode cX13_isSo 235 = .ok (.if_icmp .le 7, 3) := by decide +kernel
theorem dX13_isSo_238 : decode cX13_isSo 238 = .ok (.iconst 1, 1) := by decide +kernel
theorem dX13_isSo_239 : decode cX13_isSo 239 = .ok (.goto 4, 3) := by decide +kernel
theorem dX13_isSo_242 : decode cX13_isSo 242 = .ok (.iconst 0, 1) := by decide +kernel
theorem dX13_isSo_243 : decode cX13_isSo 243 = .ok (.ireturn, 1) := by decide +kernel
theorem dX13_said_0 : decode cX13_said 0 = .ok (.aload_n 0, 1) := by decide +kernel
theorem dX13_said_1 : decode cX13_said 1 = .ok (.iconst 0, 1) := by decide +kernel
theorem dX13_said_2 : decode cX13_said 2 = .ok (.putfield 148, 3) := by decide +kernel
theorem dX13_said_5 : decode cX13_said 5 = .ok (.aload_n 0, 1) := by decide +kernel
theorem dX13_said_6 : decode cX13_said 6 = .ok (.invokevirtual 232, 3) := by decide +kernel
theorem dX13_said_9 : decode cX13_said 9 = .ok (.aload_n 0, 1) := by decide +kernel
theorem dX13_said_10 : decode cX13_said 10 = .ok (.getfield 13, 3) := by decide +kernel
theorem dX13_said_13 : decode cX13_said 13 = .ok (.sipush 540, 3) := by decide +kernel
theorem dX13_said_16 : decode cX13_said 16 = .ok (.iaload, 1) := by decide +kernel
theorem dX13_said_17 : decode cX13_said 17 = .ok (.ifCond .eq 8, 3) := by decide +kernel
theorem dX13_said_20 : decode cX13_said 20 = .ok (.iload_n 1, 1) := by decide +kernel
theorem dX13_said_21 : decode cX13_said 21 = .ok (.iconst (-1), 1) := by decide +kernel
theorem dX13_said_22 : decode cX13_said 22 = .ok (.if_icmp .ge 5, 3) := by decide +kernel
theorem dX13_said_25 : decode cX13_said 25 = .ok (.iconst (-1), 1) := by decide +kernel
theorem dX13_said_26 : decode cX13_said 26 = .ok (.ireturn, 1) := by decide +kernel
theorem dX13_said_27 : decode cX13_said 27 = .ok (.aload_n 0, 1) := by decide +kernel
theorem dX13_said_28 : decode cX13_said 28 = .ok (.invokevirtual 500, 3) := by decide +kernel
theorem dX13_said_31 : decode cX13_said 31 = .ok (.iconst 0, 1) := by decide +kernel
theorem dX13_said_32 : decode cX13_said 32 = .ok (.istore_n 2, 1) := by decide +kernel
theorem dX13_said_33 : decode cX13_said 33 = .ok (.iconst 0, 1) := by decide +kernel
theorem dX13_said_34 : decode cX13_said 34 = .ok (.istore_n 3, 1) := by decide +kernel
theorem dX13_said_35 : decode cX13_said 35 = .ok (.iload_n 3, 1) := by decide +kernel
theorem dX13_said_36 : decode cX13_said 36 = .ok (.bipush 60, 2) := by decide +kernel
theorem dX13_said_38 : decode cX13_said 38 = .ok (.if_icmp .ge 38, 3) := by decide +kernel
theorem dX13_said_41 : decode cX13_said 41 = .ok (.aload_n 0, 1) := by decide +kernel
theorem dX13_said_42 : decode cX13_said 42 = .ok (.aload_n 0, 1) := by decide +kernel
theorem dX13_said_43 : decode cX13_said 43 = .ok (.getfield 13, 3) := by decide +kernel
theorem dX13_said_46 : decode cX13_said 46 = .ok (.sipush 541, 3) := by decide +kernel
theorem dX13_said_49 : decode cX13_said 49 = .ok (.iaload, 1) := by decide +kernel
theorem dX13_said_50 : decode cX13_said 50 = .ok (.iload_n 3, 1) := by decide +kernel
theorem dX13_said_51 : decode cX13_said 51 = .ok (.invokevirtual 537, 3) := by decide +kernel
theorem dX13_said_54 : decode cX13_said 54 = .ok (.ifCond .ne 6, 3) := by decide +kernel
theorem dX13_said_57 : decode cX13_said 57 = .ok (.goto 13, 3) := by decide +kernel
theorem dX13_said_60 : decode cX13_said 60 = .ok (.iload_n 2, 1) := by decide +kernel
theorem dX13_said_61 : decode cX13_said 61 = .ok (.iload_n 1, 1) := by decide +kernel
theorem dX13_said_62 : decode cX13_said 62 = .ok (.if_icmp .ne 5, 3) := by decide +kernel
theorem dX13_said_65 : decode cX13_said 65 = .ok (.iload_n 3, 1) := by decide +kernel
theorem dX13_said_66 : decode cX13_said 66 = .ok (.ireturn, 1) := by decide +kernel
theorem dX13_said_67 : decode cX13_said 67 = .ok (.iinc 2 1, 3) := by decide +kernel
theorem dX13_said_70 : decode cX13_said 70 = .ok (.iinc 3 1, 3) := by decide +kernel
theorem dX13_said_73 : decode cX13_said 73 = .ok (.goto (-38), 3) := by decide +kernel
theorem dX13_said_76 : decode cX13_said 76 = .ok (.iload_n 1, 1) := by decide +kernel
theorem dX13_said_77 : decode cX13_said 77 = .ok (.iconst (-1), 1) := by decide +kernel
theorem dX13_said_78 : decode cX13_said 78 = .ok (.if_icmp .ne 7, 3) := by decide +kernel
theorem dX13_said_81 : decode cX13_said 81 = .ok (.iload_n 2, 1) := by decide +kernel
theorem dX13_said_82 : decode cX13_said 82 = .ok (.goto 4, 3) := by decide +kernel
theorem dX13_said_85 : decode cX13_said 85 = .ok (.iconst (-1), 1) := by decide +kernel
theorem dX13_said_86 : decode cX13_said 86 = .ok (.ireturn, 1) := by decide +kernel
theorem sMe_1 {o1 o2 o3 o4 : Nat → Int32} {m w : Nat} (h : w = 1) : nI m = sMe o1 o2 o3 o4 m w := by
  subst h; rfl
theorem sMe_k {f o1 o2 o3 o4 : Nat → Int32} {m w : Nat} (h : f (4 * m) = o1 m ∧ f (4 * m + 1) = o2 m ∧ f (4 * m + 2) = o3 m ∧ f (4 * m + 3) = o4 m) (h2 : 2 ≤ w) (h5 : w ≤ 5) : f (4 * m + (w - 1) - 1) = sMe o1 o2 o3 o4 m w := by
  have : w = 2 ∨ w = 3 ∨ w = 4 ∨ w = 5 := by omega
  rcases this with rfl | rfl | rfl | rfl
  · exact h.1
  · exact h.2.1
  · exact h.2.2.1
  · exact h.2.2.2
set_option maxRecDepth 100000 in
theorem s_mIs1 (l : Launch) (dd : Nat) (mo : Nat) (e : Nat → Nat) (g : Nat → Int32) (w : Int64) (nw nt o1 o2 o3 o4 : Nat → Int32) (S : zSe) (mi k x y q : Nat) (hd : 1 ≤ dd) (hmi : mi < 60) (hk : k < 40) (ho : nt (4 * mi) = o1 mi ∧ nt (4 * mi + 1) = o2 mi ∧ nt (4 * mi + 2) = o3 mi ∧ nt (4 * mi + 3) = o4 mi) (hq0 : nw (550 + 4 * k) = nI 1) (h1 : nw (550 + 4 * k + 1) = nI x) (hx : x < 40) (hrx : zSp l mX13_isSo (dd - 1) 0 0 [.ref mo, .int (nI x), .int (nI mi)] [(mo, .inr (11, fMo e g w)), ((e 14), .inl (0, 800, .inl nw)), ((e 85), .inl (0, 240, .inl nt))] (fun r K' => r = some (.int (bI (sEv (sSo o1 o2 o3 o4 mi S) (fun j => nw (550 + j)) q x))) ∧ K' = [(mo, .inr (11, fMo e g w)), ((e 14), .inl (0, 800, .inl nw)), ((e 85), .inl (0, 240, .inl nt))])) : zSp l mX13_isSo dd 0 0 [.ref mo, .int (nI k), .int (nI mi)] [(mo, .inr (11, fMo e g w)), ((e 14), .inl (0, 800, .inl nw)), ((e 85), .inl (0, 240, .inl nt))] (fun r K' => r = some (.int (bI (sEv (sSo o1 o2 o3 o4 mi S) (fun j => nw (550 + j)) (q + 1) k))) ∧ K' = [(mo, .inr (11, fMo e g w)), ((e 14), .inl (0, 800, .inl nw)), ((e 85), .inl (0, 240, .inl nt))]) := by
  refine zSp.of (by decide) (Nat.le_of_ble_eq_true rfl) (fun h0 => ?_)
  show zS _ 0 0 0 [(0, .ref mo), (1, .int (nI k)), (2, .int (nI mi))] [] [(mo, .inr (11, fMo e g w)), ((e 14), .inl (0, 800, .inl nw)), ((e 85), .inl (0, 240, .inl nt))]
  have e2 : (sEv (sSo o1 o2 o3 o4 mi S) (fun j => nw (550 + j)) (q + 1) k) = !(sEv (sSo o1 o2 o3 o4 mi S) (fun j => nw (550 + j)) q x) := by rw [sEv, if_pos (show nw (550 + 4 * k) = nI 1 from hq0), show nw (550 + (4 * k + 1)) = nI x from h1, nI_c (by omega)]
  refine zs_sipush (v := nI 550) dX13_isSo_0 (by decide) ?_
  refine zs_iconst (v := nI 4) dX13_isSo_3 (by decide) ?_
  refine zs_iload_n dX13_isSo_4 rfl ?_
  refine zs_imul dX13_isSo_5 ?_
  refine zs_as (y := nI (4 * k)) (nI_mul _ _) ?_
  refine zs_iadd dX13_isSo_6 ?_
  refine zs_as (y := nI (550 + (4 * k))) (nI_add _ _) ?_
  refine zs_istore_n (lv' := [(3, .int (nI (550 + (4 * k)))), (0, .ref mo), (1, .int (nI k)), (2, .int (nI mi))]) dX13_isSo_7 (Nat.le_of_ble_eq_true rfl) rfl ?_
  refine zs_aload_n dX13_isSo_8 rfl rfl ?_
  refine zs_get 0 dX13_isSo_9 zf_RX13_13 rfl (v := .ref (e 14)) rfl ?_
  refine zs_iload_n dX13_isSo_12 rfl ?_
  refine zs_iconst (v := nI 1) dX13_isSo_13 (by decide) ?_
  refine zs_iadd dX13_isSo_14 ?_
  refine zs_as (y := nI ((550 + (4 * k)) + 1)) (nI_add _ _) ?_
  refine zs_iald 1 dX13_isSo_15 rfl (vp_in_nI (by omega) (by omega)) ?_
  refine zs_as (y := nI x) (by rw [nI_c (n := 550 + 4 * k + 1) (by omega)]; exact h1) ?_
  refine zs_istore (lv' := [(4, .int (nI x)), (3, .int (nI (550 + (4 * k)))), (0, .ref mo), (1, .int (nI k)), (2, .int (nI mi))]) dX13_isSo_16 (Nat.le_of_ble_eq_true rfl) rfl ?_
  refine zs_aload_n dX13_isSo_18 rfl rfl ?_
  refine zs_get 0 dX13_isSo_19 zf_RX13_13 rfl (v := .ref (e 14)) rfl ?_
  refine zs_iload_n dX13_isSo_22 rfl ?_
  refine zs_iconst (v := nI 2) dX13_isSo_23 (by decide) ?_
  refine zs_iadd dX13_isSo_24 ?_
  refine zs_as (y := nI ((550 + (4 * k)) + 2)) (nI_add _ _) ?_
  refine zs_iald 1 dX13_isSo_25 rfl (vp_in_nI (by omega) (by omega)) ?_
  refine zs_as (y := nw ((550 + (4 * k)) + 2)) (by rw [nI_c (n := (550 + (4 * k)) + 2) (by omega)]) ?_
  refine zs_istore (lv' := [(5, .int (nw ((550 + (4 * k)) + 2))), (4, .int (nI x)), (3, .int (nI (550 + (4 * k)))), (0, .ref mo), (1, .int (nI k)), (2, .int (nI mi))]) dX13_isSo_26 (Nat.le_of_ble_eq_true rfl) rfl ?_
  refine zs_aload_n dX13_isSo_28 rfl rfl ?_
  refine zs_get 0 dX13_isSo_29 zf_RX13_13 rfl (v := .ref (e 14)) rfl ?_
  refine zs_iload_n dX13_isSo_32 rfl ?_
  refine zs_iald 1 dX13_isSo_33 rfl (vp_in_nI (by omega) (by omega)) ?_
  refine zs_as (y := nI 1) (by rw [nI_c (n := 550 + 4 * k) (by omega)]; exact hq0) ?_
  by_cases h34_1 : 1 = 1
  · refine zs_as (y := nI 1) (congrArg nI h34_1) ?_
    refine zs_tableIn (off := 30) (tgt := 64) dX13_isSo_34 (by decide) (by decide) rfl (by decide) ?_
    refine zs_aload_n dX13_isSo_64 rfl rfl ?_
    refine zs_iload dX13_isSo_65 rfl ?_
    refine zs_iload_n dX13_isSo_67 rfl ?_
    refine zs_callV (M := mX13_isSo) (As := [.int (nI x), .int (nI mi)]) (st := []) (Kc := [(mo, .inr (11, fMo e g w)), ((e 14), .inl (0, 800, .inl nw)), ((e 85), .inl (0, 240, .inl nt))]) (Kr := []) [0, 1, 2] [] 0 dX13_isSo_68 zl_RX13_537 kX13_isSo rfl rfl rfl rfl rfl (by decide) rfl rfl (show dd - 1 + 1 ≤ dd by omega) (Nat.zero_le _) (Nat.zero_le _) (Nat.le_of_ble_eq_true rfl) (hrx) (fun r K1 hr => ?_)
    obtain ⟨rfl, rfl⟩ := hr
    refine zs_K (K' := [(mo, .inr (11, fMo e g w)), ((e 14), .inl (0, 800, .inl nw)), ((e 85), .inl (0, 240, .inl nt))]) [0, 1, 2] rfl (by decide) ?_
    refine zs_if_ne (tgt := 78) dX13_isSo_71 (by decide) (fun c_1 => ?_) (fun c_1 => ?_)
    · have hb1 := bI_t c_1
      refine zs_iconst (v := nI 0) dX13_isSo_78 (by decide) ?_
      exact zs_zret dX13_isSo_79 rfl (Or.inl rfl) ⟨congrArg (fun v => some (Value.int v)) (by rw [e2, hb1]; rfl), rfl⟩
    · have hb1 := bI_f c_1
      refine zs_iconst (v := nI 1) dX13_isSo_74 (by decide) ?_
      refine zs_goto (tgt := 79) dX13_isSo_75 (by decide) ?_
      exact zs_zret dX13_isSo_79 rfl (Or.inr rfl) ⟨congrArg (fun v => some (Value.int v)) (by rw [e2, hb1]; rfl), rfl⟩
  by_cases h34_2 : 1 = 2
  · exact absurd h34_2 (by omega)
  by_cases h34_3 : 1 = 3
  · exact absurd h34_3 (by omega)
  by_cases h34_4 : 1 = 4
  · exact absurd h34_4 (by omega)
  exact absurd rfl h34_1
set_option maxRecDepth 100000 in
theorem s_mIs2 (l : Launch) (dd : Nat) (mo : Nat) (e : Nat → Nat) (g : Nat → Int32) (w : Int64) (nw nt o1 o2 o3 o4 : Nat → Int32) (S : zSe) (mi k x y q : Nat) (hd : 1 ≤ dd) (hmi : mi < 60) (hk : k < 40) (ho : nt (4 * mi) = o1 mi ∧ nt (4 * mi + 1) = o2 mi ∧ nt (4 * mi + 2) = o3 mi ∧ nt (4 * mi + 3) = o4 mi) (hq0 : nw (550 + 4 * k) = nI 2) (h1 : nw (550 + 4 * k + 1) = nI x) (h2 : nw (550 + 4 * k + 2) = nI y) (hx : x < 40) (hy : y < 40) (hrx : zSp l mX13_isSo (dd - 1) 0 0 [.ref mo, .int (nI x), .int (nI mi)] [(mo, .inr (11, fMo e g w)), ((e 14), .inl (0, 800, .inl nw)), ((e 85), .inl (0, 240, .inl nt))] (fun r K' => r = some (.int (bI (sEv (sSo o1 o2 o3 o4 mi S) (fun j => nw (550 + j)) q x))) ∧ K' = [(mo, .inr (11, fMo e g w)), ((e 14), .inl (0, 800, .inl nw)), ((e 85), .inl (0, 240, .inl nt))])) (hry : zSp l mX13_isSo (dd - 1) 0 0 [.ref mo, .int (nI y), .int (nI mi)] [(mo, .inr (11, fMo e g w)), ((e 14), .inl (0, 800, .inl nw)), ((e 85), .inl (0, 240, .inl nt))] (fun r K' => r = some (.int (bI (sEv (sSo o1 o2 o3 o4 mi S) (fun j => nw (550 + j)) q y))) ∧ K' = [(mo, .inr (11, fMo e g w)), ((e 14), .inl (0, 800, .inl nw)), ((e 85), .inl (0, 240, .inl nt))])) : zSp l mX13_isSo dd 0 0 [.ref mo, .int (nI k), .int (nI mi)] [(mo, .inr (11, fMo e g w)), ((e 14), .inl (0, 800, .inl nw)), ((e 85), .inl (0, 240, .inl nt))] (fun r K' => r = some (.int (bI (sEv (sSo o1 o2 o3 o4 mi S) (fun j => nw (550 + j)) (q + 1) k))) ∧ K' = [(mo, .inr (11, fMo e g w)), ((e 14), .inl (0, 800, .inl nw)), ((e 85), .inl (0, 240, .inl nt))]) := by
  refine zSp.of (by decide) (Nat.le_of_ble_eq_true rfl) (fun h0 => ?_)
  show zS _ 0 0 0 [(0, .ref mo), (1, .int (nI k)), (2, .int (nI mi))] [] [(mo, .inr (11, fMo e g w)), ((e 14), .inl (0, 800, .inl nw)), ((e 85), .inl (0, 240, .inl nt))]
  have e2 : (sEv (sSo o1 o2 o3 o4 mi S) (fun j => nw (550 + j)) (q + 1) k) = ((sEv (sSo o1 o2 o3 o4 mi S) (fun j => nw (550 + j)) q x) && (sEv (sSo o1 o2 o3 o4 mi S) (fun j => nw (550 + j)) q y)) := by rw [sEv, hq0, if_neg (by decide), if_pos rfl, show nw (550 + (4 * k + 1)) = nI x from h1, show nw (550 + (4 * k + 2)) = nI y from h2, nI_c (by omega), nI_c (by omega)]
  refine zs_sipush (v := nI 550) dX13_isSo_0 (by decide) ?_
  refine zs_iconst (v := nI 4) dX13_isSo_3 (by decide) ?_
  refine zs_iload_n dX13_isSo_4 rfl ?_
  refine zs_imul dX13_isSo_5 ?_
  refine zs_as (y := nI (4 * k)) (nI_mul _ _) ?_
  refine zs_iadd dX13_isSo_6 ?_
  refine zs_as (y := nI (550 + (4 * k))) (nI_add _ _) ?_
  refine zs_istore_n (lv' := [(3, .int (nI (550 + (4 * k)))), (0, .ref mo), (1, .int (nI k)), (2, .int (nI mi))]) dX13_isSo_7 (Nat.le_of_ble_eq_true rfl) rfl ?_
  refine zs_aload_n dX13_isSo_8 rfl rfl ?_
  refine zs_get 0 dX13_isSo_9 zf_RX13_13 rfl (v := .ref (e 14)) rfl ?_
  refine zs_iload_n dX13_isSo_12 rfl ?_
  refine zs_iconst (v := nI 1) dX13_isSo_13 (by decide) ?_
  refine zs_iadd dX13_isSo_14 ?_
  refine zs_as (y := nI ((550 + (4 * k)) + 1)) (nI_add _ _) ?_
  refine zs_iald 1 dX13_isSo_15 rfl (vp_in_nI (by omega) (by omega)) ?_
  refine zs_as (y := nI x) (by rw [nI_c (n := 550 + 4 * k + 1) (by omega)]; exact h1) ?_
  refine zs_istore (lv' := [(4, .int (nI x)), (3, .int (nI (550 + (4 * k)))), (0, .ref mo), (1, .int (nI k)), (2, .int (nI mi))]) dX13_isSo_16 (Nat.le_of_ble_eq_true rfl) rfl ?_
  refine zs_aload_n dX13_isSo_18 rfl rfl ?_
  refine zs_get 0 dX13_isSo_19 zf_RX13_13 rfl (v := .ref (e 14)) rfl ?_
  refine zs_iload_n dX13_isSo_22 rfl ?_
  refine zs_iconst (v := nI 2) dX13_isSo_23 (by decide) ?_
  refine zs_iadd dX13_isSo_24 ?_
  refine zs_as (y := nI ((550 + (4 * k)) + 2)) (nI_add _ _) ?_
  refine zs_iald 1 dX13_isSo_25 rfl (vp_in_nI (by omega) (by omega)) ?_
  refine zs_as (y := nI y) (by rw [nI_c (n := 550 + 4 * k + 2) (by omega)]; exact h2) ?_
  refine zs_istore (lv' := [(5, .int (nI y)), (4, .int (nI x)), (3, .int (nI (550 + (4 * k)))), (0, .ref mo), (1, .int (nI k)), (2, .int (nI mi))]) dX13_isSo_26 (Nat.le_of_ble_eq_true rfl) rfl ?_
  refine zs_aload_n dX13_isSo_28 rfl rfl ?_
  refine zs_get 0 dX13_isSo_29 zf_RX13_13 rfl (v := .ref (e 14)) rfl ?_
  refine zs_iload_n dX13_isSo_32 rfl ?_
  refine zs_iald 1 dX13_isSo_33 rfl (vp_in_nI (by omega) (by omega)) ?_
  refine zs_as (y := nI 2) (by rw [nI_c (n := 550 + 4 * k) (by omega)]; exact hq0) ?_
  by_cases h34_1 : 2 = 1
  · exact absurd h34_1 (by omega)
  by_cases h34_2 : 2 = 2
  · refine zs_as (y := nI 2) (congrArg nI h34_2) ?_
    refine zs_tableIn (off := 46) (tgt := 80) dX13_isSo_34 (by decide) (by decide) rfl (by decide) ?_
    refine zs_aload_n dX13_isSo_80 rfl rfl ?_
    refine zs_iload dX13_isSo_81 rfl ?_
    refine zs_iload_n dX13_isSo_83 rfl ?_
    refine zs_callV (M := mX13_isSo) (As := [.int (nI x), .int (nI mi)]) (st := []) (Kc := [(mo, .inr (11, fMo e g w)), ((e 14), .inl (0, 800, .inl nw)), ((e 85), .inl (0, 240, .inl nt))]) (Kr := []) [0, 1, 2] [] 0 dX13_isSo_84 zl_RX13_537 kX13_isSo rfl rfl rfl rfl rfl (by decide) rfl rfl (show dd - 1 + 1 ≤ dd by omega) (Nat.zero_le _) (Nat.zero_le _) (Nat.le_of_ble_eq_true rfl) (hrx) (fun r K1 hr => ?_)
    obtain ⟨rfl, rfl⟩ := hr
    refine zs_K (K' := [(mo, .inr (11, fMo e g w)), ((e 14), .inl (0, 800, .inl nw)), ((e 85), .inl (0, 240, .inl nt))]) [0, 1, 2] rfl (by decide) ?_
    refine zs_if_eq (tgt := 104) dX13_isSo_87 (by decide) (fun c_1 => ?_) (fun c_1 => ?_)
    · have hb1 := bI_f c_1
      refine zs_iconst (v := nI 0) dX13_isSo_104 (by decide) ?_
      exact zs_zret dX13_isSo_105 rfl (Or.inl rfl) ⟨congrArg (fun v => some (Value.int v)) (by rw [e2, hb1]; rfl), rfl⟩
    · have hb1 := bI_t c_1
      refine zs_aload_n dX13_isSo_90 rfl rfl ?_
      refine zs_iload dX13_isSo_91 rfl ?_
      refine zs_iload_n dX13_isSo_93 rfl ?_
      refine zs_callV (M := mX13_isSo) (As := [.int (nI y), .int (nI mi)]) (st := []) (Kc := [(mo, .inr (11, fMo e g w)), ((e 14), .inl (0, 800, .inl nw)), ((e 85), .inl (0, 240, .inl nt))]) (Kr := []) [0, 1, 2] [] 0 dX13_isSo_94 zl_RX13_537 kX13_isSo rfl rfl rfl rfl rfl (by decide) rfl rfl (show dd - 1 + 1 ≤ dd by omega) (Nat.zero_le _) (Nat.zero_le _) (Nat.le_of_ble_eq_true rfl) (hry) (fun r K1 hr => ?_)
      obtain ⟨rfl, rfl⟩ := hr
      refine zs_K (K' := [(mo, .inr (11, fMo e g w)), ((e 14), .inl (0, 800, .inl nw)), ((e 85), .inl (0, 240, .inl nt))]) [0, 1, 2] rfl (by decide) ?_
      refine zs_if_eq (tgt := 104) dX13_isSo_97 (by decide) (fun c_2 => ?_) (fun c_2 => ?_)
      · have hb2 := bI_f c_2
        refine zs_iconst (v := nI 0) dX13_isSo_104 (by decide) ?_
        exact zs_zret dX13_isSo_105 rfl (Or.inl rfl) ⟨congrArg (fun v => some (Value.int v)) (by rw [e2, hb1, hb2]; rfl), rfl⟩
      · have hb2 := bI_t c_2
        refine zs_iconst (v := nI 1) dX13_isSo_100 (by decide) ?_
        refine zs_goto (tgt := 105) dX13_isSo_101 (by decide) ?_
        exact zs_zret dX13_isSo_105 rfl (Or.inr rfl) ⟨congrArg (fun v => some (Value.int v)) (by rw [e2, hb1, hb2]; rfl), rfl⟩
  by_cases h34_3 : 2 = 3
  · exact absurd h34_3 (by omega)
  by_cases h34_4 : 2 = 4
  · exact absurd h34_4 (by omega)
  exact absurd rfl h34_2
set_option maxRecDepth 100000 in
theorem s_mIs3 (l : Launch) (dd : Nat) (mo : Nat) (e : Nat → Nat) (g : Nat → Int32) (w : Int64) (nw nt o1 o2 o3 o4 : Nat → Int32) (S : zSe) (mi k x y q : Nat) (hd : 1 ≤ dd) (hmi : mi < 60) (hk : k < 40) (ho : nt (4 * mi) = o1 mi ∧ nt (4 * mi + 1) = o2 mi ∧ nt (4 * mi + 2) = o3 mi ∧ nt (4 * mi + 3) = o4 mi) (hq0 : nw (550 + 4 * k) = nI 3) (h1 : nw (550 + 4 * k + 1) = nI x) (h2 : nw (550 + 4 * k + 2) = nI y) (hx : x < 40) (hy : y < 40) (hrx : zSp l mX13_isSo (dd - 1) 0 0 [.ref mo, .int (nI x), .int (nI mi)] [(mo, .inr (11, fMo e g w)), ((e 14), .inl (0, 800, .inl nw)), ((e 85), .inl (0, 240, .inl nt))] (fun r K' => r = some (.int (bI (sEv (sSo o1 o2 o3 o4 mi S) (fun j => nw (550 + j)) q x))) ∧ K' = [(mo, .inr (11, fMo e g w)), ((e 14), .inl (0, 800, .inl nw)), ((e 85), .inl (0, 240, .inl nt))])) (hry : zSp l mX13_isSo (dd - 1) 0 0 [.ref mo, .int (nI y), .int (nI mi)] [(mo, .inr (11, fMo e g w)), ((e 14), .inl (0, 800, .inl nw)), ((e 85), .inl (0, 240, .inl nt))] (fun r K' => r = some (.int (bI (sEv (sSo o1 o2 o3 o4 mi S) (fun j => nw (550 + j)) q y))) ∧ K' = [(mo, .inr (11, fMo e g w)), ((e 14), .inl (0, 800, .inl nw)), ((e 85), .inl (0, 240, .inl nt))])) : zSp l mX13_isSo dd 0 0 [.ref mo, .int (nI k), .int (nI mi)] [(mo, .inr (11, fMo e g w)), ((e 14), .inl (0, 800, .inl nw)), ((e 85), .inl (0, 240, .inl nt))] (fun r K' => r = some (.int (bI (sEv (sSo o1 o2 o3 o4 mi S) (fun j => nw (550 + j)) (q + 1) k))) ∧ K' = [(mo, .inr (11, fMo e g w)), ((e 14), .inl (0, 800, .inl nw)), ((e 85), .inl (0, 240, .inl nt))]) := by
  refine zSp.of (by decide) (Nat.le_of_ble_eq_true rfl) (fun h0 => ?_)
  show zS _ 0 0 0 [(0, .ref mo), (1, .int (nI k)), (2, .int (nI mi))] [] [(mo, .inr (11, fMo e g w)), ((e 14), .inl (0, 800, .inl nw)), ((e 85), .inl (0, 240, .inl nt))]
  have e2 : (sEv (sSo o1 o2 o3 o4 mi S) (fun j => nw (550 + j)) (q + 1) k) = ((sEv (sSo o1 o2 o3 o4 mi S) (fun j => nw (550 + j)) q x) || (sEv (sSo o1 o2 o3 o4 mi S) (fun j => nw (550 + j)) q y)) := by rw [sEv, hq0, if_neg (by decide), if_neg (by decide), if_pos rfl, show nw (550 + (4 * k + 1)) = nI x from h1, show nw (550 + (4 * k + 2)) = nI y from h2, nI_c (by omega), nI_c (by omega)]
  refine zs_sipush (v := nI 550) dX13_isSo_0 (by decide) ?_
  refine zs_iconst (v := nI 4) dX13_isSo_3 (by decide) ?_
  refine zs_iload_n dX13_isSo_4 rfl ?_
  refine zs_imul dX13_isSo_5 ?_
  refine zs_as (y := nI (4 * k)) (nI_mul _ _) ?_
  refine zs_iadd dX13_isSo_6 ?_
  refine zs_as (y := nI (550 + (4 * k))) (nI_add _ _) ?_
  refine zs_istore_n (lv' := [(3, .int (nI (550 + (4 * k)))), (0, .ref mo), (1, .int (nI k)), (2, .int (nI mi))]) dX13_isSo_7 (Nat.le_of_ble_eq_true rfl) rfl ?_
  refine zs_aload_n dX13_isSo_8 rfl rfl ?_
  refine zs_get 0 dX13_isSo_9 zf_RX13_13 rfl (v := .ref (e 14)) rfl ?_
  refine zs_iload_n dX13_isSo_12 rfl ?_
  refine zs_iconst (v := nI 1) dX13_isSo_13 (by decide) ?_
  refine zs_iadd dX13_isSo_14 ?_
  refine zs_as (y := nI ((550 + (4 * k)) + 1)) (nI_add _ _) ?_
  refine zs_iald 1 dX13_isSo_15 rfl (vp_in_nI (by omega) (by omega)) ?_
  refine zs_as (y := nI x) (by rw [nI_c (n := 550 + 4 * k + 1) (by omega)]; exact h1) ?_
  refine zs_istore (lv' := [(4, .int (nI x)), (3, .int (nI (550 + (4 * k)))), (0, .ref mo), (1, .int (nI k)), (2, .int (nI mi))]) dX13_isSo_16 (Nat.le_of_ble_eq_true rfl) rfl ?_
  refine zs_aload_n dX13_isSo_18 rfl rfl ?_
  refine zs_get 0 dX13_isSo_19 zf_RX13_13 rfl (v := .ref (e 14)) rfl ?_
  refine zs_iload_n dX13_isSo_22 rfl ?_
  refine zs_iconst (v := nI 2) dX13_isSo_23 (by decide) ?_
  refine zs_iadd dX13_isSo_24 ?_
  refine zs_as (y := nI ((550 + (4 * k)) + 2)) (nI_add _ _) ?_
  refine zs_iald 1 dX13_isSo_25 rfl (vp_in_nI (by omega) (by omega)) ?_
  refine zs_as (y := nI y) (by rw [nI_c (n := 550 + 4 * k + 2) (by omega)]; exact h2) ?_
  refine zs_istore (lv' := [(5, .int (nI y)), (4, .int (nI x)), (3, .int (nI (550 + (4 * k)))), (0, .ref mo), (1, .int (nI k)), (2, .int (nI mi))]) dX13_isSo_26 (Nat.le_of_ble_eq_true rfl) rfl ?_
  refine zs_aload_n dX13_isSo_28 rfl rfl ?_
  refine zs_get 0 dX13_isSo_29 zf_RX13_13 rfl (v := .ref (e 14)) rfl ?_
  refine zs_iload_n dX13_isSo_32 rfl ?_
  refine zs_iald 1 dX13_isSo_33 rfl (vp_in_nI (by omega) (by omega)) ?_
  refine zs_as (y := nI 3) (by rw [nI_c (n := 550 + 4 * k) (by omega)]; exact hq0) ?_
  by_cases h34_1 : 3 = 1
  · exact absurd h34_1 (by omega)
  by_cases h34_2 : 3 = 2
  · exact absurd h34_2 (by omega)
  by_cases h34_3 : 3 = 3
  · refine zs_as (y := nI 3) (congrArg nI h34_3) ?_
    refine zs_tableIn (off := 72) (tgt := 106) dX13_isSo_34 (by decide) (by decide) rfl (by decide) ?_
    refine zs_aload_n dX13_isSo_106 rfl rfl ?_
    refine zs_iload dX13_isSo_107 rfl ?_
    refine zs_iload_n dX13_isSo_109 rfl ?_
    refine zs_callV (M := mX13_isSo) (As := [.int (nI x), .int (nI mi)]) (st := []) (Kc := [(mo, .inr (11, fMo e g w)), ((e 14), .inl (0, 800, .inl nw)), ((e 85), .inl (0, 240, .inl nt))]) (Kr := []) [0, 1, 2] [] 0 dX13_isSo_110 zl_RX13_537 kX13_isSo rfl rfl rfl rfl rfl (by decide) rfl rfl (show dd - 1 + 1 ≤ dd by omega) (Nat.zero_le _) (Nat.zero_le _) (Nat.le_of_ble_eq_true rfl) (hrx) (fun r K1 hr => ?_)
    obtain ⟨rfl, rfl⟩ := hr
    refine zs_K (K' := [(mo, .inr (11, fMo e g w)), ((e 14), .inl (0, 800, .inl nw)), ((e 85), .inl (0, 240, .inl nt))]) [0, 1, 2] rfl (by decide) ?_
    refine zs_if_ne (tgt := 126) dX13_isSo_113 (by decide) (fun c_1 => ?_) (fun c_1 => ?_)
    · have hb1 := bI_t c_1
      refine zs_iconst (v := nI 1) dX13_isSo_126 (by decide) ?_
      refine zs_goto (tgt := 131) dX13_isSo_127 (by decide) ?_
      exact zs_zret dX13_isSo_131 rfl (Or.inr rfl) ⟨congrArg (fun v => some (Value.int v)) (by rw [e2, hb1]; rfl), rfl⟩
    · have hb1 := bI_f c_1
      refine zs_aload_n dX13_isSo_116 rfl rfl ?_
      refine zs_iload dX13_isSo_117 rfl ?_
      refine zs_iload_n dX13_isSo_119 rfl ?_
      refine zs_callV (M := mX13_isSo) (As := [.int (nI y), .int (nI mi)]) (st := []) (Kc := [(mo, .inr (11, fMo e g w)), ((e 14), .inl (0, 800, .inl nw)), ((e 85), .inl (0, 240, .inl nt))]) (Kr := []) [0, 1, 2] [] 0 dX13_isSo_120 zl_RX13_537 kX13_isSo rfl rfl rfl rfl rfl (by decide) rfl rfl (show dd - 1 + 1 ≤ dd by omega) (Nat.zero_le _) (Nat.zero_le _) (Nat.le_of_ble_eq_true rfl) (hry) (fun r K1 hr => ?_)
      obtain ⟨rfl, rfl⟩ := hr
      refine zs_K (K' := [(mo, .inr (11, fMo e g w)), ((e 14), .inl (0, 800, .inl nw)), ((e 85), .inl (0, 240, .inl nt))]) [0, 1, 2] rfl (by decide) ?_
      refine zs_if_eq (tgt := 130) dX13_isSo_123 (by decide) (fun c_2 => ?_) (fun c_2 => ?_)
      · have hb2 := bI_f c_2
        refine zs_iconst (v := nI 0) dX13_isSo_130 (by decide) ?_
        exact zs_zret dX13_isSo_131 rfl (Or.inl rfl) ⟨congrArg (fun v => some (Value.int v)) (by rw [e2, hb1, hb2]; rfl), rfl⟩
      · have hb2 := bI_t c_2
        refine zs_iconst (v := nI 1) dX13_isSo_126 (by decide) ?_
        refine zs_goto (tgt := 131) dX13_isSo_127 (by decide) ?_
        exact zs_zret dX13_isSo_131 rfl (Or.inr rfl) ⟨congrArg (fun v => some (Value.int v)) (by rw [e2, hb1, hb2]; rfl), rfl⟩
  by_cases h34_4 : 3 = 4
  · exact absurd h34_4 (by omega)
  exact absurd rfl h34_3
set_option maxRecDepth 100000 in
theorem s_mIs4 (l : Launch) (dd : Nat) (mo : Nat) (e : Nat → Nat) (g : Nat → Int32) (w : Int64) (nw nt o1 o2 o3 o4 : Nat → Int32) (S : zSe) (mi k x y q : Nat) (hd : 1 ≤ dd) (hmi : mi < 60) (hk : k < 40) (ho : nt (4 * mi) = o1 mi ∧ nt (4 * mi + 1) = o2 mi ∧ nt (4 * mi + 2) = o3 mi ∧ nt (4 * mi + 3) = o4 mi) (hq0 : nw (550 + 4 * k) = nI 4) (hst : S.2.2.1 k = 0) : zSp l mX13_isSo dd 0 0 [.ref mo, .int (nI k), .int (nI mi)] [(mo, .inr (11, fMo e g w)), ((e 14), .inl (0, 800, .inl nw)), ((e 85), .inl (0, 240, .inl nt))] (fun r K' => r = some (.int (bI (sEv (sSo o1 o2 o3 o4 mi S) (fun j => nw (550 + j)) (q + 1) k))) ∧ K' = [(mo, .inr (11, fMo e g w)), ((e 14), .inl (0, 800, .inl nw)), ((e 85), .inl (0, 240, .inl nt))]) := by
  refine zSp.of (by decide) (Nat.le_of_ble_eq_true rfl) (fun h0 => ?_)
  show zS _ 0 0 0 [(0, .ref mo), (1, .int (nI k)), (2, .int (nI mi))] [] [(mo, .inr (11, fMo e g w)), ((e 14), .inl (0, 800, .inl nw)), ((e 85), .inl (0, 240, .inl nt))]
  have e2 : (sEv (sSo o1 o2 o3 o4 mi S) (fun j => nw (550 + j)) (q + 1) k) = (sSo o1 o2 o3 o4 mi S) k := by rw [sEv, hq0, if_neg (by decide), if_neg (by decide), if_neg (by decide)]
  refine zs_sipush (v := nI 550) dX13_isSo_0 (by decide) ?_
  refine zs_iconst (v := nI 4) dX13_isSo_3 (by decide) ?_
  refine zs_iload_n dX13_isSo_4 rfl ?_
  refine zs_imul dX13_isSo_5 ?_
  refine zs_as (y := nI (4 * k)) (nI_mul _ _) ?_
  refine zs_iadd dX13_isSo_6 ?_
  refine zs_as (y := nI (550 + (4 * k))) (nI_add _ _) ?_
  refine zs_istore_n (lv' := [(3, .int (nI (550 + (4 * k)))), (0, .ref mo), (1, .int (nI k)), (2, .int (nI mi))]) dX13_isSo_7 (Nat.le_of_ble_eq_true rfl) rfl ?_
  refine zs_aload_n dX13_isSo_8 rfl rfl ?_
  refine zs_get 0 dX13_isSo_9 zf_RX13_13 rfl (v := .ref (e 14)) rfl ?_
  refine zs_iload_n dX13_isSo_12 rfl ?_
  refine zs_iconst (v := nI 1) dX13_isSo_13 (by decide) ?_
  refine zs_iadd dX13_isSo_14 ?_
  refine zs_as (y := nI ((550 + (4 * k)) + 1)) (nI_add _ _) ?_
  refine zs_iald 1 dX13_isSo_15 rfl (vp_in_nI (by omega) (by omega)) ?_
  refine zs_as (y := nw ((550 + (4 * k)) + 1)) (by rw [nI_c (n := (550 + (4 * k)) + 1) (by omega)]) ?_
  refine zs_istore (lv' := [(4, .int (nw ((550 + (4 * k)) + 1))), (3, .int (nI (550 + (4 * k)))), (0, .ref mo), (1, .int (nI k)), (2, .int (nI mi))]) dX13_isSo_16 (Nat.le_of_ble_eq_true rfl) rfl ?_
  refine zs_aload_n dX13_isSo_18 rfl rfl ?_
  refine zs_get 0 dX13_isSo_19 zf_RX13_13 rfl (v := .ref (e 14)) rfl ?_
  refine zs_iload_n dX13_isSo_22 rfl ?_
  refine zs_iconst (v := nI 2) dX13_isSo_23 (by decide) ?_
  refine zs_iadd dX13_isSo_24 ?_
  refine zs_as (y := nI ((550 + (4 * k)) + 2)) (nI_add _ _) ?_
  refine zs_iald 1 dX13_isSo_25 rfl (vp_in_nI (by omega) (by omega)) ?_
  refine zs_as (y := nw ((550 + (4 * k)) + 2)) (by rw [nI_c (n := (550 + (4 * k)) + 2) (by omega)]) ?_
  refine zs_istore (lv' := [(5, .int (nw ((550 + (4 * k)) + 2))), (4, .int (nw ((550 + (4 * k)) + 1))), (3, .int (nI (550 + (4 * k)))), (0, .ref mo), (1, .int (nI k)), (2, .int (nI mi))]) dX13_isSo_26 (Nat.le_of_ble_eq_true rfl) rfl ?_
  refine zs_aload_n dX13_isSo_28 rfl rfl ?_
  refine zs_get 0 dX13_isSo_29 zf_RX13_13 rfl (v := .ref (e 14)) rfl ?_
  refine zs_iload_n dX13_isSo_32 rfl ?_
  refine zs_iald 1 dX13_isSo_33 rfl (vp_in_nI (by omega) (by omega)) ?_
  refine zs_as (y := nI 4) (by rw [nI_c (n := 550 + 4 * k) (by omega)]; exact hq0) ?_
  by_cases h34_1 : 4 = 1
  · exact absurd h34_1 (by omega)
  by_cases h34_2 : 4 = 2
  · exact absurd h34_2 (by omega)
  by_cases h34_3 : 4 = 3
  · exact absurd h34_3 (by omega)
  by_cases h34_4 : 4 = 4
  · refine zs_as (y := nI 4) (congrArg nI h34_4) ?_
    refine zs_tableIn (off := 98) (tgt := 132) dX13_isSo_34 (by decide) (by decide) rfl (by decide) ?_
    refine zs_aload_n dX13_isSo_132 rfl rfl ?_
    refine zs_get 0 dX13_isSo_133 zf_RX13_142 rfl (v := .ref (e 85)) rfl ?_
    refine zs_iconst (v := nI 4) dX13_isSo_136 (by decide) ?_
    refine zs_iload_n dX13_isSo_137 rfl ?_
    refine zs_imul dX13_isSo_138 ?_
    refine zs_as (y := nI (4 * mi)) (nI_mul _ _) ?_
    refine zs_iconst (v := nI 2) dX13_isSo_139 (by decide) ?_
    refine zs_iadd dX13_isSo_140 ?_
    refine zs_as (y := nI ((4 * mi) + 2)) (nI_add _ _) ?_
    refine zs_iald 2 dX13_isSo_141 rfl (vp_in_nI (by omega) (by omega)) ?_
    refine zs_as (y := nt ((4 * mi) + 2)) (by rw [nI_c (n := (4 * mi) + 2) (by omega)]) ?_
    refine zs_if_ne (tgt := 149) dX13_isSo_142 (by decide) (fun c_1 => ?_) (fun c_1 => ?_)
    · have hz := c_1
      refine zs_iconst (v := nI 0) dX13_isSo_149 (by decide) ?_
      exact zs_zret dX13_isSo_150 rfl (Or.inl rfl) ⟨congrArg (fun v => some (Value.int v)) (by rw [e2, sSo, if_pos hst, decide_eq_false (fun q => hz (ho.2.2.1.trans q))]; rfl), rfl⟩
    · have hz := c_1
      refine zs_iconst (v := nI 1) dX13_isSo_145 (by decide) ?_
      refine zs_goto (tgt := 150) dX13_isSo_146 (by decide) ?_
      exact zs_zret dX13_isSo_150 rfl (Or.inr rfl) ⟨congrArg (fun v => some (Value.int v)) (by rw [e2, sSo, if_pos hst, decide_eq_true (ho.2.2.1.symm.trans hz)]; rfl), rfl⟩
  exact absurd rfl h34_4
set_option maxRecDepth 100000 in
theorem s_mIs5 (l : Launch) (dd : Nat) (mo : Nat) (e : Nat → Nat) (g : Nat → Int32) (w : Int64) (nw nt o1 o2 o3 o4 : Nat → Int32) (S : zSe) (mi k x y q : Nat) (hd : 1 ≤ dd) (hmi : mi < 60) (hk : k < 40) (ho : nt (4 * mi) = o1 mi ∧ nt (4 * mi + 1) = o2 mi ∧ nt (4 * mi + 2) = o3 mi ∧ nt (4 * mi + 3) = o4 mi) (hq0 : nw (550 + 4 * k) = nI 5) (hs1 : 1 ≤ S.2.2.1 k) (hs5 : S.2.2.1 k ≤ 5) (h1 : nw (550 + 4 * k + 1) = nI (S.2.2.1 k - 1)) (h2 : nw (550 + 4 * k + 2) = nI (S.2.2.2.2 k)) (h3 : nw (550 + 4 * k + 3) = nI (S.2.2.2.1 k)) (hv : S.2.2.2.2 k ≤ 99999999) (hc : S.2.2.2.1 k = 60 ∨ S.2.2.2.1 k = 61 ∨ S.2.2.2.1 k = 62) : zSp l mX13_isSo dd 0 0 [.ref mo, .int (nI k), .int (nI mi)] [(mo, .inr (11, fMo e g w)), ((e 14), .inl (0, 800, .inl nw)), ((e 85), .inl (0, 240, .inl nt))] (fun r K' => r = some (.int (bI (sEv (sSo o1 o2 o3 o4 mi S) (fun j => nw (550 + j)) (q + 1) k))) ∧ K' = [(mo, .inr (11, fMo e g w)), ((e 14), .inl (0, 800, .inl nw)), ((e 85), .inl (0, 240, .inl nt))]) := by
  refine zSp.of (by decide) (Nat.le_of_ble_eq_true rfl) (fun h0 => ?_)
  show zS _ 0 0 0 [(0, .ref mo), (1, .int (nI k)), (2, .int (nI mi))] [] [(mo, .inr (11, fMo e g w)), ((e 14), .inl (0, 800, .inl nw)), ((e 85), .inl (0, 240, .inl nt))]
  have e2 : (sEv (sSo o1 o2 o3 o4 mi S) (fun j => nw (550 + j)) (q + 1) k) = (sSo o1 o2 o3 o4 mi S) k := by rw [sEv, hq0, if_neg (by decide), if_neg (by decide), if_neg (by decide)]
  have hc63 : S.2.2.2.1 k ≤ 62 := by omega
  refine zs_sipush (v := nI 550) dX13_isSo_0 (by decide) ?_
  refine zs_iconst (v := nI 4) dX13_isSo_3 (by decide) ?_
  refine zs_iload_n dX13_isSo_4 rfl ?_
  refine zs_imul dX13_isSo_5 ?_
  refine zs_as (y := nI (4 * k)) (nI_mul _ _) ?_
  refine zs_iadd dX13_isSo_6 ?_
  refine zs_as (y := nI (550 + (4 * k))) (nI_add _ _) ?_
  refine zs_istore_n (lv' := [(3, .int (nI (550 + (4 * k)))), (0, .ref mo), (1, .int (nI k)), (2, .int (nI mi))]) dX13_isSo_7 (Nat.le_of_ble_eq_true rfl) rfl ?_
  refine zs_aload_n dX13_isSo_8 rfl rfl ?_
  refine zs_get 0 dX13_isSo_9 zf_RX13_13 rfl (v := .ref (e 14)) rfl ?_
  refine zs_iload_n dX13_isSo_12 rfl ?_
  refine zs_iconst (v := nI 1) dX13_isSo_13 (by decide) ?_
  refine zs_iadd dX13_isSo_14 ?_
  refine zs_as (y := nI ((550 + (4 * k)) + 1)) (nI_add _ _) ?_
  refine zs_iald 1 dX13_isSo_15 rfl (vp_in_nI (by omega) (by omega)) ?_
  refine zs_as (y := nI (S.2.2.1 k - 1)) (by rw [nI_c (n := 550 + 4 * k + 1) (by omega)]; exact h1) ?_
  refine zs_istore (lv' := [(4, .int (nI (S.2.2.1 k - 1))), (3, .int (nI (550 + (4 * k)))), (0, .ref mo), (1, .int (nI k)), (2, .int (nI mi))]) dX13_isSo_16 (Nat.le_of_ble_eq_true rfl) rfl ?_
  refine zs_aload_n dX13_isSo_18 rfl rfl ?_
  refine zs_get 0 dX13_isSo_19 zf_RX13_13 rfl (v := .ref (e 14)) rfl ?_
  refine zs_iload_n dX13_isSo_22 rfl ?_
  refine zs_iconst (v := nI 2) dX13_isSo_23 (by decide) ?_
  refine zs_iadd dX13_isSo_24 ?_
  refine zs_as (y := nI ((550 + (4 * k)) + 2)) (nI_add _ _) ?_
  refine zs_iald 1 dX13_isSo_25 rfl (vp_in_nI (by omega) (by omega)) ?_
  refine zs_as (y := nI (S.2.2.2.2 k)) (by rw [nI_c (n := 550 + 4 * k + 2) (by omega)]; exact h2) ?_
  refine zs_istore (lv' := [(5, .int (nI (S.2.2.2.2 k))), (4, .int (nI (S.2.2.1 k - 1))), (3, .int (nI (550 + (4 * k)))), (0, .ref mo), (1, .int (nI k)), (2, .int (nI mi))]) dX13_isSo_26 (Nat.le_of_ble_eq_true rfl) rfl ?_
  refine zs_aload_n dX13_isSo_28 rfl rfl ?_
  refine zs_get 0 dX13_isSo_29 zf_RX13_13 rfl (v := .ref (e 14)) rfl ?_
  refine zs_iload_n dX13_isSo_32 rfl ?_
  refine zs_iald 1 dX13_isSo_33 rfl (vp_in_nI (by omega) (by omega)) ?_
  refine zs_as (y := nI 5) (by rw [nI_c (n := 550 + 4 * k) (by omega)]; exact hq0) ?_
  by_cases h34_1 : 5 = 1
  · exact absurd h34_1 (by omega)
  by_cases h34_2 : 5 = 2
  · exact absurd h34_2 (by omega)
  by_cases h34_3 : 5 = 3
  · exact absurd h34_3 (by omega)
  by_cases h34_4 : 5 = 4
  · exact absurd h34_4 (by omega)
  refine zs_tableOut (tgt := 151) dX13_isSo_34 (by rw [nI_t (by omega)]; omega) (by decide) ?_
  refine zs_iload dX13_isSo_151 rfl ?_
  refine zs_if_ne (tgt := 160) dX13_isSo_153 (by decide) (fun c_1 => ?_) (fun c_1 => ?_)
  · have c_1 : ¬ ((S.2.2.1 k - 1) = 0) := by have hc := c_1; rw [show (0 : Int32) = nI 0 from rfl] at hc; rw [nI_eq' (by omega) (by omega)] at hc; exact hc
    have hx0 := c_1
    refine zs_aload_n dX13_isSo_160 rfl rfl ?_
    refine zs_get 0 dX13_isSo_161 zf_RX13_142 rfl (v := .ref (e 85)) rfl ?_
    refine zs_iconst (v := nI 4) dX13_isSo_164 (by decide) ?_
    refine zs_iload_n dX13_isSo_165 rfl ?_
    refine zs_imul dX13_isSo_166 ?_
    refine zs_as (y := nI (4 * mi)) (nI_mul _ _) ?_
    refine zs_iload dX13_isSo_167 rfl ?_
    refine zs_iadd dX13_isSo_169 ?_
    refine zs_as (y := nI ((4 * mi) + (S.2.2.1 k - 1))) (nI_add _ _) ?_
    refine zs_iconst (v := nI 1) dX13_isSo_170 (by decide) ?_
    refine zs_isub dX13_isSo_171 ?_
    refine zs_as (y := nI (((4 * mi) + (S.2.2.1 k - 1)) - 1)) (nI_sub (by omega)) ?_
    refine zs_iald 2 dX13_isSo_172 rfl (vp_in_nI (by omega) (by omega)) ?_
    refine zs_as (y := (sMe o1 o2 o3 o4 mi (S.2.2.1 k))) (by rw [nI_c (n := 4 * mi + (S.2.2.1 k - 1) - 1) (by omega)]; exact sMe_k ho (by omega) hs5) ?_
    refine zs_istore (lv' := [(6, .int (sMe o1 o2 o3 o4 mi (S.2.2.1 k))), (5, .int (nI (S.2.2.2.2 k))), (4, .int (nI (S.2.2.1 k - 1))), (3, .int (nI (550 + (4 * k)))), (0, .ref mo), (1, .int (nI k)), (2, .int (nI mi))]) dX13_isSo_173 (Nat.le_of_ble_eq_true rfl) rfl ?_
    refine zs_aload_n dX13_isSo_175 rfl rfl ?_
    refine zs_get 0 dX13_isSo_176 zf_RX13_13 rfl (v := .ref (e 14)) rfl ?_
    refine zs_iload_n dX13_isSo_179 rfl ?_
    refine zs_iconst (v := nI 3) dX13_isSo_180 (by decide) ?_
    refine zs_iadd dX13_isSo_181 ?_
    refine zs_as (y := nI ((550 + (4 * k)) + 3)) (nI_add _ _) ?_
    refine zs_iald 1 dX13_isSo_182 rfl (vp_in_nI (by omega) (by omega)) ?_
    refine zs_as (y := nI (S.2.2.2.1 k)) (by rw [nI_c (n := 550 + 4 * k + 3) (by omega)]; exact h3) ?_
    refine zs_bipush (v := nI 60) dX13_isSo_183 (by decide) ?_
    refine zs_icmp_ne (tgt := 203) dX13_isSo_185 (by decide) (fun c_2 => ?_) (fun c_2 => ?_)
    · have c_2 : ¬ ((S.2.2.2.1 k) = 60) := by have hc := c_2; rw [nI_eq' (by omega) (by omega)] at hc; exact hc
      have hc60 := c_2
      refine zs_aload_n dX13_isSo_203 rfl rfl ?_
      refine zs_get 0 dX13_isSo_204 zf_RX13_13 rfl (v := .ref (e 14)) rfl ?_
      refine zs_iload_n dX13_isSo_207 rfl ?_
      refine zs_iconst (v := nI 3) dX13_isSo_208 (by decide) ?_
      refine zs_iadd dX13_isSo_209 ?_
      refine zs_as (y := nI ((550 + (4 * k)) + 3)) (nI_add _ _) ?_
      refine zs_iald 1 dX13_isSo_210 rfl (vp_in_nI (by omega) (by omega)) ?_
      refine zs_as (y := nI (S.2.2.2.1 k)) (by rw [nI_c (n := 550 + 4 * k + 3) (by omega)]; exact h3) ?_
      refine zs_bipush (v := nI 61) dX13_isSo_211 (by decide) ?_
      refine zs_icmp_ne (tgt := 231) dX13_isSo_213 (by decide) (fun c_3 => ?_) (fun c_3 => ?_)
      · have c_3 : ¬ ((S.2.2.2.1 k) = 61) := by have hc := c_3; rw [nI_eq' (by omega) (by omega)] at hc; exact hc
        have hc61 := c_3
        refine zs_iload dX13_isSo_231 rfl ?_
        refine zs_iload dX13_isSo_233 rfl ?_
        refine zs_icmp_le (tgt := 242) dX13_isSo_235 (by decide) (fun c_4 => ?_) (fun c_4 => ?_)
        · have hr := c_4
          refine zs_iconst (v := nI 0) dX13_isSo_242 (by decide) ?_
          exact zs_zret dX13_isSo_243 rfl (Or.inl rfl) ⟨congrArg (fun v => some (Value.int v)) (by rw [e2, sSo, if_neg (by omega), if_neg hc60, if_pos (show S.2.2.2.1 k = 62 by omega), decide_eq_false (Int32.not_lt.mpr hr)]; rfl), rfl⟩
        · have hr := c_4
          refine zs_iconst (v := nI 1) dX13_isSo_238 (by decide) ?_
          refine zs_goto (tgt := 243) dX13_isSo_239 (by decide) ?_
          exact zs_zret dX13_isSo_243 rfl (Or.inr rfl) ⟨congrArg (fun v => some (Value.int v)) (by rw [e2, sSo, if_neg (by omega), if_neg hc60, if_pos (show S.2.2.2.1 k = 62 by omega), decide_eq_true (Int32.not_le.mp hr)]; rfl), rfl⟩
      · have c_3 : (S.2.2.2.1 k) = 61 := by have hc := c_3; rw [nI_eq' (by omega) (by omega)] at hc; exact hc
        have hc61 := c_3
        refine zs_iload dX13_isSo_216 rfl ?_
        refine zs_iload dX13_isSo_218 rfl ?_
        refine zs_icmp_ne (tgt := 227) dX13_isSo_220 (by decide) (fun c_5 => ?_) (fun c_5 => ?_)
        · have hr := c_5
          refine zs_iconst (v := nI 0) dX13_isSo_227 (by decide) ?_
          refine zs_goto (tgt := 243) dX13_isSo_228 (by decide) ?_
          exact zs_zret dX13_isSo_243 rfl (Or.inl rfl) ⟨congrArg (fun v => some (Value.int v)) (by rw [e2, sSo, if_neg (by omega), if_neg hc60, if_neg (show ¬ S.2.2.2.1 k = 62 by omega), decide_eq_false hr]; rfl), rfl⟩
        · have hr := c_5
          refine zs_iconst (v := nI 1) dX13_isSo_223 (by decide) ?_
          refine zs_goto (tgt := 243) dX13_isSo_224 (by decide) ?_
          exact zs_zret dX13_isSo_243 rfl (Or.inr rfl) ⟨congrArg (fun v => some (Value.int v)) (by rw [e2, sSo, if_neg (by omega), if_neg hc60, if_neg (show ¬ S.2.2.2.1 k = 62 by omega), decide_eq_true hr]; rfl), rfl⟩
    · have c_2 : (S.2.2.2.1 k) = 60 := by have hc := c_2; rw [nI_eq' (by omega) (by omega)] at hc; exact hc
      have hc60 := c_2
      refine zs_iload dX13_isSo_188 rfl ?_
      refine zs_iload dX13_isSo_190 rfl ?_
      refine zs_icmp_ge (tgt := 199) dX13_isSo_192 (by decide) (fun c_6 => ?_) (fun c_6 => ?_)
      · have hr := c_6
        refine zs_iconst (v := nI 0) dX13_isSo_199 (by decide) ?_
        refine zs_goto (tgt := 243) dX13_isSo_200 (by decide) ?_
        exact zs_zret dX13_isSo_243 rfl (Or.inl rfl) ⟨congrArg (fun v => some (Value.int v)) (by rw [e2, sSo, if_neg (by omega), if_pos hc60, decide_eq_false (Int32.not_lt.mpr hr)]; rfl), rfl⟩
      · have hr := c_6
        refine zs_iconst (v := nI 1) dX13_isSo_195 (by decide) ?_
        refine zs_goto (tgt := 243) dX13_isSo_196 (by decide) ?_
        exact zs_zret dX13_isSo_243 rfl (Or.inr rfl) ⟨congrArg (fun v => some (Value.int v)) (by rw [e2, sSo, if_neg (by omega), if_pos hc60, decide_eq_true (Int32.not_le.mp hr)]; rfl), rfl⟩
  · have c_1 : (S.2.2.1 k - 1) = 0 := by have hc := c_1; rw [show (0 : Int32) = nI 0 from rfl] at hc; rw [nI_eq' (by omega) (by omega)] at hc; exact hc
    have hx0 := c_1
    refine zs_iload_n dX13_isSo_156 rfl ?_
    refine zs_goto (tgt := 173) dX13_isSo_157 (by decide) ?_
    refine zs_as (y := (sMe o1 o2 o3 o4 mi (S.2.2.1 k))) (sMe_1 (by omega)) ?_
    refine zs_istore (lv' := [(6, .int (sMe o1 o2 o3 o4 mi (S.2.2.1 k))), (5, .int (nI (S.2.2.2.2 k))), (4, .int (nI (S.2.2.1 k - 1))), (3, .int (nI (550 + (4 * k)))), (0, .ref mo), (1, .int (nI k)), (2, .int (nI mi))]) dX13_isSo_173 (Nat.le_of_ble_eq_true rfl) rfl ?_
    refine zs_aload_n dX13_isSo_175 rfl rfl ?_
    refine zs_get 0 dX13_isSo_176 zf_RX13_13 rfl (v := .ref (e 14)) rfl ?_
    refine zs_iload_n dX13_isSo_179 rfl ?_
    refine zs_iconst (v := nI 3) dX13_isSo_180 (by decide) ?_
    refine zs_iadd dX13_isSo_181 ?_
    refine zs_as (y := nI ((550 + (4 * k)) + 3)) (nI_add _ _) ?_
    refine zs_iald 1 dX13_isSo_182 rfl (vp_in_nI (by omega) (by omega)) ?_
    refine zs_as (y := nI (S.2.2.2.1 k)) (by rw [nI_c (n := 550 + 4 * k + 3) (by omega)]; exact h3) ?_
    refine zs_bipush (v := nI 60) dX13_isSo_183 (by decide) ?_
    refine zs_icmp_ne (tgt := 203) dX13_isSo_185 (by decide) (fun c_7 => ?_) (fun c_7 => ?_)
    · have c_7 : ¬ ((S.2.2.2.1 k) = 60) := by have hc := c_7; rw [nI_eq' (by omega) (by omega)] at hc; exact hc
      have hc60 := c_7
      refine zs_aload_n dX13_isSo_203 rfl rfl ?_
      refine zs_get 0 dX13_isSo_204 zf_RX13_13 rfl (v := .ref (e 14)) rfl ?_
      refine zs_iload_n dX13_isSo_207 rfl ?_
      refine zs_iconst (v := nI 3) dX13_isSo_208 (by decide) ?_
      refine zs_iadd dX13_isSo_209 ?_
      refine zs_as (y := nI ((550 + (4 * k)) + 3)) (nI_add _ _) ?_
      refine zs_iald 1 dX13_isSo_210 rfl (vp_in_nI (by omega) (by omega)) ?_
      refine zs_as (y := nI (S.2.2.2.1 k)) (by rw [nI_c (n := 550 + 4 * k + 3) (by omega)]; exact h3) ?_
      refine zs_bipush (v := nI 61) dX13_isSo_211 (by decide) ?_
      refine zs_icmp_ne (tgt := 231) dX13_isSo_213 (by decide) (fun c_8 => ?_) (fun c_8 => ?_)
      · have c_8 : ¬ ((S.2.2.2.1 k) = 61) := by have hc := c_8; rw [nI_eq' (by omega) (by omega)] at hc; exact hc
        have hc61 := c_8
        refine zs_iload dX13_isSo_231 rfl ?_
        refine zs_iload dX13_isSo_233 rfl ?_
        refine zs_icmp_le (tgt := 242) dX13_isSo_235 (by decide) (fun c_9 => ?_) (fun c_9 => ?_)
        · have hr := c_9
          refine zs_iconst (v := nI 0) dX13_isSo_242 (by decide) ?_
          exact zs_zret dX13_isSo_243 rfl (Or.inl rfl) ⟨congrArg (fun v => some (Value.int v)) (by rw [e2, sSo, if_neg (by omega), if_neg hc60, if_pos (show S.2.2.2.1 k = 62 by omega), decide_eq_false (Int32.not_lt.mpr hr)]; rfl), rfl⟩
        · have hr := c_9
          refine zs_iconst (v := nI 1) dX13_isSo_238 (by decide) ?_
          refine zs_goto (tgt := 243) dX13_isSo_239 (by decide) ?_
          exact zs_zret dX13_isSo_243 rfl (Or.inr rfl) ⟨congrArg (fun v => some (Value.int v)) (by rw [e2, sSo, if_neg (by omega), if_neg hc60, if_pos (show S.2.2.2.1 k = 62 by omega), decide_eq_true (Int32.not_le.mp hr)]; rfl), rfl⟩
      · have c_8 : (S.2.2.2.1 k) = 61 := by have hc := c_8; rw [nI_eq' (by omega) (by omega)] at hc; exact hc
        have hc61 := c_8
        refine zs_iload dX13_isSo_216 rfl ?_
        refine zs_iload dX13_isSo_218 rfl ?_
        refine zs_icmp_ne (tgt := 227) dX13_isSo_220 (by decide) (fun c_10 => ?_) (fun c_10 => ?_)
        · have hr := c_10
          refine zs_iconst (v := nI 0) dX13_isSo_227 (by decide) ?_
          refine zs_goto (tgt := 243) dX13_isSo_228 (by decide) ?_
          exact zs_zret dX13_isSo_243 rfl (Or.inl rfl) ⟨congrArg (fun v => some (Value.int v)) (by rw [e2, sSo, if_neg (by omega), if_neg hc60, if_neg (show ¬ S.2.2.2.1 k = 62 by omega), decide_eq_false hr]; rfl), rfl⟩
        · have hr := c_10
          refine zs_iconst (v := nI 1) dX13_isSo_223 (by decide) ?_
          refine zs_goto (tgt := 243) dX13_isSo_224 (by decide) ?_
          exact zs_zret dX13_isSo_243 rfl (Or.inr rfl) ⟨congrArg (fun v => some (Value.int v)) (by rw [e2, sSo, if_neg (by omega), if_neg hc60, if_neg (show ¬ S.2.2.2.1 k = 62 by omega), decide_eq_true hr]; rfl), rfl⟩
    · have c_7 : (S.2.2.2.1 k) = 60 := by have hc := c_7; rw [nI_eq' (by omega) (by omega)] at hc; exact hc
      have hc60 := c_7
      refine zs_iload dX13_isSo_188 rfl ?_
      refine zs_iload dX13_isSo_190 rfl ?_
      refine zs_icmp_ge (tgt := 199) dX13_isSo_192 (by decide) (fun c_11 => ?_) (fun c_11 => ?_)
      · have hr := c_11
        refine zs_iconst (v := nI 0) dX13_isSo_199 (by decide) ?_
        refine zs_goto (tgt := 243) dX13_isSo_200 (by decide) ?_
        exact zs_zret dX13_isSo_243 rfl (Or.inl rfl) ⟨congrArg (fun v => some (Value.int v)) (by rw [e2, sSo, if_neg (by omega), if_pos hc60, decide_eq_false (Int32.not_lt.mpr hr)]; rfl), rfl⟩
      · have hr := c_11
        refine zs_iconst (v := nI 1) dX13_isSo_195 (by decide) ?_
        refine zs_goto (tgt := 243) dX13_isSo_196 (by decide) ?_
        exact zs_zret dX13_isSo_243 rfl (Or.inr rfl) ⟨congrArg (fun v => some (Value.int v)) (by rw [e2, sSo, if_neg (by omega), if_pos hc60, decide_eq_true (Int32.not_le.mp hr)]; rfl), rfl⟩
theorem s_mIsSo (l : Launch) (mo : Nat) (e : Nat → Nat) (g : Nat → Int32) (w : Int64) (nw nt o1 o2 o3 o4 : Nat → Int32) (S : zSe) (mi : Nat) (hmi : mi < 60) (ho : nt (4 * mi) = o1 mi ∧ nt (4 * mi + 1) = o2 mi ∧ nt (4 * mi + 2) = o3 mi ∧ nt (4 * mi + 3) = o4 mi) : ∀ (q dd k a : Nat), q + 1 ≤ dd → k < 40 → sTr (fun j => nw (550 + j)) S q k a → zSp l mX13_isSo dd 0 0 [.ref mo, .int (nI k), .int (nI mi)] [(mo, .inr (11, fMo e g w)), ((e 14), .inl (0, 800, .inl nw)), ((e 85), .inl (0, 240, .inl nt))] (fun r K' => r = some (.int (bI (sEv (sSo o1 o2 o3 o4 mi S) (fun j => nw (550 + j)) q k))) ∧ K' = [(mo, .inr (11, fMo e g w)), ((e 14), .inl (0, 800, .inl nw)), ((e 85), .inl (0, 240, .inl nt))]) := by
  intro q
  induction q with
  | zero => intro dd k a hd hk h; exact h.elim
  | succ q ih =>
    intro dd k a hd hk h
    rcases h with ⟨e0, h4, hs⟩ | ⟨e0, h5, hs1, hs5, h1, h2, h3, hv, hc⟩ | ⟨x, e0, h1, hx, hs, ht⟩ | ⟨x, y, e0, ha, hxy, hw, hx, hy, ht1, ht2⟩
    · exact s_mIs4 l dd mo e g w nw nt o1 o2 o3 o4 S mi k 0 0 q (by omega) hmi hk ho h4 hs
    · exact s_mIs5 l dd mo e g w nw nt o1 o2 o3 o4 S mi k 0 0 q (by omega) hmi hk ho h5 hs1 hs5 h1 h2 h3 hv hc
    · exact s_mIs1 l dd mo e g w nw nt o1 o2 o3 o4 S mi k x 0 q (by omega) hmi hk ho h1 hx (by omega) (ih (dd - 1) x a (by omega) (by omega) ht)
    · rcases hw with ⟨s7, n2⟩ | ⟨s8, n3⟩
      · exact s_mIs2 l dd mo e g w nw nt o1 o2 o3 o4 S mi k x y q (by omega) hmi hk ho n2 hx hy (by omega) (by omega) (ih (dd - 1) x a (by omega) (by omega) ht1) (ih (dd - 1) y (x + 1) (by omega) (by omega) ht2)
      · exact s_mIs3 l dd mo e g w nw nt o1 o2 o3 o4 S mi k x y q (by omega) hmi hk ho n3 hx hy (by omega) (by omega) (ih (dd - 1) x a (by omega) (by omega) ht1) (ih (dd - 1) y (x + 1) (by omega) (by omega) ht2)
