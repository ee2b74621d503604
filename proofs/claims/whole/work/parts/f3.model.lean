/-! ===== the reference: spend, the things told for a minute ===== -/
theorem dX13_spend_0 : decode cX13_spend 0 = .ok (.aload_n 0, 1) := by decide +kernel
theorem dX13_spend_1 : decode cX13_spend 1 = .ok (.invokevirtual 232, 3) := by decide +kernel
theorem dX13_spend_4 : decode cX13_spend 4 = .ok (.aload_n 0, 1) := by decide +kernel
theorem dX13_spend_5 : decode cX13_spend 5 = .ok (.invokevirtual 451, 3) := by decide +kernel
theorem dX13_spend_8 : decode cX13_spend 8 = .ok (.aload_n 0, 1) := by decide +kernel
theorem dX13_spend_9 : decode cX13_spend 9 = .ok (.aload_n 0, 1) := by decide +kernel
theorem dX13_spend_10 : decode cX13_spend 10 = .ok (.getfield 13, 3) := by decide +kernel
theorem dX13_spend_13 : decode cX13_spend 13 = .ok (.iconst 5, 1) := by decide +kernel
theorem dX13_spend_14 : decode cX13_spend 14 = .ok (.iaload, 1) := by decide +kernel
theorem dX13_spend_15 : decode cX13_spend 15 = .ok (.putfield 334, 3) := by decide +kernel
theorem dX13_spend_18 : decode cX13_spend 18 = .ok (.aload_n 0, 1) := by decide +kernel
theorem dX13_spend_19 : decode cX13_spend 19 = .ok (.iconst 0, 1) := by decide +kernel
theorem dX13_spend_20 : decode cX13_spend 20 = .ok (.iconst 0, 1) := by decide +kernel
theorem dX13_spend_21 : decode cX13_spend 21 = .ok (.invokevirtual 366, 3) := by decide +kernel
theorem dX13_spend_24 : decode cX13_spend 24 = .ok (.iconst 1, 1) := by decide +kernel
theorem dX13_spend_25 : decode cX13_spend 25 = .ok (.istore_n 1, 1) := by decide +kernel
theorem dX13_spend_26 : decode cX13_spend 26 = .ok (.iconst 0, 1) := by decide +kernel
theorem dX13_spend_27 : decode cX13_spend 27 = .ok (.istore_n 2, 1) := by decide +kernel
theorem dX13_spend_28 : decode cX13_spend 28 = .ok (.iconst 0, 1) := by decide +kernel
theorem dX13_spend_29 : decode cX13_spend 29 = .ok (.istore_n 3, 1) := by decide +kernel
theorem dX13_spend_30 : decode cX13_spend 30 = .ok (.iload_n 3, 1) := by decide +kernel
theorem dX13_spend_31 : decode cX13_spend 31 = .ok (.bipush 60, 2) := by decide +kernel
theorem dX13_spend_33 : decode cX13_spend 33 = .ok (.if_icmp .ge 296, 3) := by decide +kernel
theorem dX13_spend_36 : decode cX13_spend 36 = .ok (.iload_n 2, 1) := by decide +kernel
theorem dX13_spend_37 : decode cX13_spend 37 = .ok (.aload_n 0, 1) := by decide +kernel
theorem dX13_spend_38 : decode cX13_spend 38 = .ok (.getfield 13, 3) := by decide +kernel
theorem dX13_spend_41 : decode cX13_spend 41 = .ok (.sipush 200, 3) := by decide +kernel
theorem dX13_spend_44 : decode cX13_spend 44 = .ok (.iaload, 1) := by decide +kernel
theorem dX13_spend_45 : decode cX13_spend 45 = .ok (.if_icmp .ge 166, 3) := by decide +kernel
theorem dX13_spend_48 : decode cX13_spend 48 = .ok (.aload_n 0, 1) := by decide +kernel
theorem dX13_spend_49 : decode cX13_spend 49 = .ok (.getfield 13, 3) := by decide +kernel
theorem dX13_spend_52 : decode cX13_spend 52 = .ok (.sipush 210, 3) := by decide +kernel
theorem dX13_spend_55 : decode cX13_spend 55 = .ok (.bipush 16, 2) := by decide +kernel
theorem dX13_spend_57 : decode cX13_spend 57 = .ok (.iload_n 2, 1) := by decide +kernel
theorem dX13_spend_58 : decode cX13_spend 58 = .ok (.imul, 1) := by decide +kernel
theorem dX13_spend_59 : decode cX13_spend 59 = .ok (.iadd, 1) := by decide +kernel
theorem dX13_spend_60 : decode cX13_spend 60 = .ok (.iaload, 1) := by decide +kernel
theorem dX13_spend_61 : decode cX13_spend 61 = .ok (.iload_n 3, 1) := by decide +kernel
theorem dX13_spend_62 : decode cX13_spend 62 = .ok (.if_icmp .ne 149, 3) := by decide +kernel
theorem dX13_spend_65 : decode cX13_spend 65 = .ok (.sipush 210, 3) := by decide +kernel
theorem dX13_spend_68 : decode cX13_spend 68 = .ok (.bipush 16, 2) := by decide +kernel
theorem dX13_spend_70 : decode cX13_spend 70 = .ok (.iload_n 2, 1) := by decide +kernel
theorem dX13_spend_71 : decode cX13_spend 71 = .ok (.imul, 1) := by decide +kernel
theorem dX13_spend_72 : decode cX13_spend 72 = .ok (.iadd, 1) := by decide +kernel
theorem dX13_spend_73 : decode cX13_spend 73 = .ok (.istore 4, 2) := by decide +kernel
theorem dX13_spend_75 : decode cX13_spend 75 = .ok (.aload_n 0, 1) := by decide +kernel
theorem dX13_spend_76 : decode cX13_spend 76 = .ok (.getfield 13, 3) := by decide +kernel
theorem dX13_spend_79 : decode cX13_spend 79 = .ok (.iload 4, 2) := by decide +kernel
theorem dX13_spend_81 : decode cX13_spend 81 = .ok (.iconst 1, 1) := by decide +kernel
theorem dX13_spend_82 : decode cX13_spend 82 = .ok (.iadd, 1) := by decide +kernel
theorem dX13_spend_83 : decode cX13_spend 83 = .ok (.iaload, 1) := by decide +kernel
theorem dX13_spend_84 : decode cX13_spend 84 = .ok (.istore 5, 2) := by decide +kernel
theorem dX13_spend_86 : decode cX13_spend 86 = .ok (.iload 5, 2) := by decide +kernel
theorem dX13_spend_88 : decode cX13_spend 88 = .ok (.iconst 2, 1) := by decide +kernel
theorem dX13_spend_89 : decode cX13_spend 89 = .ok (.if_icmp .ge 68, 3) := by decide +kernel
theorem dX13_spend_92 : decode cX13_spend 92 = .ok (.iconst 0, 1) := by decide +kernel
theorem dX13_spend_93 : decode cX13_spend 93 = .ok (.istore 6, 2) := by decide +kernel
theorem dX13_spend_95 : decode cX13_spend 95 = .ok (.iload 6, 2) := by decide +kernel
theorem dX13_spend_97 : decode cX13_spend 97 = .ok (.aload_n 0, 1) := by decide +kernel
theorem dX13_spend_98 : decode cX13_spend 98 = .ok (.getfield 13, 3) := by decide +kernel
theorem dX13_spend_101 : decode cX13_spend 101 = .ok (.iload 4, 2) := by decide +kernel
theorem dX13_spend_103 : decode cX13_spend 103 = .ok (.iconst 2, 1) := by decide +kernel
theorem dX13_spend_104 : decode cX13_spend 104 = .ok (.iadd, 1) := by decide +kernel
theorem dX13_spend_105 : decode cX13_spend 105 = .ok (.iaload, 1) := by decide +kernel
theorem dX13_spend_106 : decode cX13_spend 106 = .ok (.if_icmp .ge 28, 3) := by decide +kernel
theorem dX13_spend_109 : decode cX13_spend 109 = .ok (.aload_n 0, 1) := by decide +kernel
theorem dX13_spend_110 : decode cX13_spend 110 = .ok (.getfield 39, 3) := by decide +kernel
theorem dX13_spend_113 : decode cX13_spend 113 = .ok (.iload 6, 2) := by decide +kernel
theorem dX13_spend_115 : decode cX13_spend 115 = .ok (.aload_n 0, 1) := by decide +kernel
theorem dX13_spend_116 : decode cX13_spend 116 = .ok (.getfield 13, 3) := by decide +kernel
theorem dX13_spend_119 : decode cX13_spend 119 = .ok (.iload 4, 2) := by decide +kernel
theorem dX13_spend_121 : decode cX13_spend 121 = .ok (.iconst 3, 1) := by decide +kernel
theorem dX13_spend_122 : decode cX13_spend 122 = .ok (.iadd, 1) := by decide +kernel
theorem dX13_spend_123 : decode cX13_spend 123 = .ok (.iload 6, 2) := by decide +kernel
theorem dX13_spend_125 : decode cX13_spend 125 = .ok (.iadd, 1) := by decide +kernel
theorem dX13_spend_126 : decode cX13_spend 126 = .ok (.iaload, 1) := by decide +kernel
theorem dX13_spend_127 : decode cX13_spend 127 = .ok (.iastore, 1) := by decide +kernel
theorem dX13_spend_128 : decode cX13_spend 128 = .ok (.iinc 6 1, 3) := by decide +kernel
theorem dX13_spend_131 : decode cX13_spend 131 = .ok (.goto (-36), 3) := by decide +kernel
theorem dX13_spend_134 : decode cX13_spend 134 = .ok (.aload_n 0, 1) := by decide +kernel
theorem dX13_spend_135 : decode cX13_spend 135 = .ok (.iload 5, 2) := by decide +kernel
theorem dX13_spend_137 : decode cX13_spend 137 = .ok (.ifCond .ne 7, 3) := by decide +kernel
theorem dX13_spend_140 : decode cX13_spend 140 = .ok (.iconst 1, 1) := by decide +kernel
theorem dX13_spend_141 : decode cX13_spend 141 = .ok (.goto 4, 3) := by decide +kernel
theorem dX13_spend_144 : decode cX13_spend 144 = .ok (.iconst 2, 1) := by decide +kernel
theorem dX13_spend_145 : decode cX13_spend 145 = .ok (.aload_n 0, 1) := by decide +kernel
theorem dX13_spend_146 : decode cX13_spend 146 = .ok (.getfield 13, 3) := by decide +kernel
theorem dX13_spend_149 : decode cX13_spend 149 = .ok (.iload 4, 2) := by decide +kernel
theorem dX13_spend_151 : decode cX13_spend 151 = .ok (.iconst 2, 1) := by decide +kernel
theorem dX13_spend_152 : decode cX13_spend 152 = .ok (.iadd, 1) := by decide +kernel
theorem dX13_spend_153 : decode cX13_spend 153 = .ok (.iaload, 1) := by decide +kernel
theorem dX13_spend_154 : decode cX13_spend 154 = .ok (.invokevirtual 366, 3) := by decide +kernel
theorem dX13_spend_157 : decode cX13_spend 157 = .ok (.iload 5, 2) := by decide +kernel
theorem dX13_spend_159 : decode cX13_spend 159 = .ok (.iconst 2, 1) := by decide +kernel
theorem dX13_spend_160 : decode cX13_spend 160 = .ok (.if_icmp .ne 9, 3) := by decide +kernel
theorem dX13_spend_163 : decode cX13_spend 163 = .ok (.aload_n 0, 1) := by decide +kernel
theorem dX13_spend_164 : decode cX13_spend 164 = .ok (.iconst 0, 1) := by decide +kernel
theorem dX13_spend_165 : decode cX13_spend 165 = .ok (.iconst 0, 1) := by decide +kernel
theorem dX13_spend_166 : decode cX13_spend 166 = .ok (.invokevirtual 366, 3) := by decide +kernel
theorem dX13_spend_169 : decode cX13_spend 169 = .ok (.iload 5, 2) := by decide +kernel
theorem dX13_spend_171 : decode cX13_spend 171 = .ok (.iconst 3, 1) := by decide +kernel
theorem dX13_spend_172 : decode cX13_spend 172 = .ok (.if_icmp .ne 13, 3) := by decide +kernel
theorem dX13_spend_175 : decode cX13_spend 175 = .ok (.aload_n 0, 1) := by decide +kernel
theorem dX13_spend_176 : decode cX13_spend 176 = .ok (.getfield 13, 3) := by decide +kernel
theorem dX13_spend_179 : decode cX13_spend 179 = .ok (.iload 4, 2) := by decide +kernel
theorem dX13_spend_181 : decode cX13_spend 181 = .ok (.iconst 2, 1) := by decide +kernel
theorem dX13_spend_182 : decode cX13_spend 182 = .ok (.iadd, 1) := by decide +kernel
theorem dX13_spend_183 : decode cX13_spend 183 = .ok (.iaload, 1) := by decide +kernel
theorem dX13_spend_184 : decode cX13_spend 184 = .ok (.istore_n 1, 1) := by decide +kernel
theorem dX13_spend_185 : decode cX13_spend 185 = .ok (.iload 5, 2) := by decide +kernel
theorem dX13_spend_187 : decode cX13_spend 187 = .ok (.iconst 4, 1) := by decide +kernel
theorem dX13_spend_188 : decode cX13_spend 188 = .ok (.if_icmp .ne 17, 3) := by decide +kernel
theorem dX13_spend_191 : decode cX13_spend 191 = .ok (.aload_n 0, 1) := by decide +kernel
theorem dX13_spend_192 : decode cX13_spend 192 = .ok (.aload_n 0, 1) := by decide +kernel
theorem dX13_spend_193 : decode cX13_spend 193 = .ok (.getfield 13, 3) := by decide +kernel
theorem dX13_spend_196 : decode cX13_spend 196 = .ok (.iload 4, 2) := by decide +kernel
theorem dX13_spend_198 : decode cX13_spend 198 = .ok (.iconst 2, 1) := by decide +kernel
theorem dX13_spend_199 : decode cX13_spend 199 = .ok (.iadd, 1) := by decide +kernel
theorem dX13_spend_200 : decode cX13_spend 200 = .ok (.iaload, 1) := by decide +kernel
theorem dX13_spend_201 : decode cX13_spend 201 = .ok (.invokevirtual 485, 3) := by decide +kernel
theorem dX13_spend_204 : decode cX13_spend 204 = .ok (.pop, 1) := by decide +kernel
theorem dX13_spend_205 : decode cX13_spend 205 = .ok (.iinc 2 1, 3) := by decide +kernel
theorem dX13_spend_208 : decode cX13_spend 208 = .ok (.goto (-172), 3) := by decide +kernel
theorem dX13_spend_211 : decode cX13_spend 211 = .ok (.aload_n 0, 1) := by decide +kernel
theorem dX13_spend_212 : decode cX13_spend 212 = .ok (.getfield 316, 3) := by decide +kernel
theorem dX13_spend_215 : decode cX13_spend 215 = .ok (.istore 4, 2) := by decide +kernel
theorem dX13_spend_217 : decode cX13_spend 217 = .ok (.aload_n 0, 1) := by decide +kernel
theorem dX13_spend_218 : decode cX13_spend 218 = .ok (.iload_n 1, 1) := by decide +kernel
theorem dX13_spend_219 : decode cX13_spend 219 = .ok (.aload_n 0, 1) := by decide +kernel
theorem dX13_spend_220 : decode cX13_spend 220 = .ok (.getfield 105, 3) := by decide +kernel
theorem dX13_spend_223 : decode cX13_spend 223 = .ok (.aload_n 0, 1) := by decide +kernel
theorem dX13_spend_224 : decode cX13_spend 224 = .ok (.getfield 108, 3) := by decide +kernel
theorem dX13_spend_227 : decode cX13_spend 227 = .ok (.iconst 0, 1) := by decide +kernel
theorem dX13_spend_228 : decode cX13_spend 228 = .ok (.invokevirtual 442, 3) := by decide +kernel
theorem dX13_spend_231 : decode cX13_spend 231 = .ok (.istore 5, 2) := by decide +kernel
theorem dX13_spend_233 : decode cX13_spend 233 = .ok (.iconst 0, 1) := by decide +kernel
theorem dX13_spend_234 : decode cX13_spend 234 = .ok (.istore 6, 2) := by decide +kernel
theorem dX13_spend_236 : decode cX13_spend 236 = .ok (.iload 6, 2) := by decide +kernel
theorem dX13_spend_238 : decode cX13_spend 238 = .ok (.bipush 60, 2) := by decide +kernel
theorem dX13_spend_240 : decode cX13_spend 240 = .ok (.if_icmp .ge 13, 3) := by decide +kernel
theorem dX13_spend_243 : decode cX13_spend 243 = .ok (.aload_n 0, 1) := by decide +kernel
theorem dX13_spend_244 : decode cX13_spend 244 = .ok (.invokevirtual 369, 3) := by decide +kernel
theorem dX13_spend_247 : decode cX13_spend 247 = .ok (.iinc 6 1, 3) := by decide +kernel
theorem dX13_spend_250 : decode cX13_spend 250 = .ok (.goto (-14), 3) := by decide +kernel
theorem dX13_spend_253 : decode cX13_spend 253 = .ok (.aload_n 0, 1) := by decide +kernel
theorem dX13_spend_254 : decode cX13_spend 254 = .ok (.iload 5, 2) := by decide +kernel
theorem dX13_spend_256 : decode cX13_spend 256 = .ok (.aload_n 0, 1) := by decide +kernel
theorem dX13_spend_257 : decode cX13_spend 257 = .ok (.getfield 316, 3) := by decide +kernel
theorem dX13_spend_260 : decode cX13_spend 260 = .ok (.iload 4, 2) := by decide +kernel
theorem dX13_spend_262 : decode cX13_spend 262 = .ok (.isub, 1) := by decide +kernel
theorem dX13_spend_263 : decode cX13_spend 263 = .ok (.invokevirtual 445, 3) := by decide +kernel
theorem dX13_spend_266 : decode cX13_spend 266 = .ok (.aload_n 0, 1) := by decide +kernel
theorem dX13_spend_267 : decode cX13_spend 267 = .ok (.getfield 142, 3) := by decide +kernel
theorem dX13_spend_270 : decode cX13_spend 270 = .ok (.iconst 4, 1) := by decide +kernel
theorem dX13_spend_271 : decode cX13_spend 271 = .ok (.iload_n 3, 1) := by decide +kernel
theorem dX13_spend_272 : decode cX13_spend 272 = .ok (.imul, 1) := by decide +kernel
theorem dX13_spend_273 : decode cX13_spend 273 = .ok (.aload_n 0, 1) := by decide +kernel
theorem dX13_spend_274 : decode cX13_spend 274 = .ok (.getfield 316, 3) := by decide +kernel
theorem dX13_spend_277 : decode cX13_spend 277 = .ok (.iload 4, 2) := by decide +kernel
theorem dX13_spend_279 : decode cX13_spend 279 = .ok (.isub, 1) := by decide +kernel
theorem dX13_spend_280 : decode cX13_spend 280 = .ok (.iastore, 1) := by decide +kernel
theorem dX13_spend_281 : decode cX13_spend 281 = .ok (.aload_n 0, 1) := by decide +kernel
theorem dX13_spend_282 : decode cX13_spend 282 = .ok (.getfield 142, 3) := by decide +kernel
theorem dX13_spend_285 : decode cX13_spend 285 = .ok (.iconst 4, 1) := by decide +kernel
theorem dX13_spend_286 : decode cX13_spend 286 = .ok (.iload_n 3, 1) := by decide +kernel
theorem dX13_spend_287 : decode cX13_spend 287 = .ok (.imul, 1) := by decide +kernel
theorem dX13_spend_288 : decode cX13_spend 288 = .ok (.iconst 1, 1) := by decide +kernel
theorem dX13_spend_289 : decode cX13_spend 289 = .ok (.iadd, 1) := by decide +kernel
theorem dX13_spend_290 : decode cX13_spend 290 = .ok (.aload_n 0, 1) := by decide +kernel
theorem dX13_spend_291 : decode cX13_spend 291 = .ok (.getfield 423, 3) := by decide +kernel
theorem dX13_spend_294 : decode cX13_spend 294 = .ok (.iastore, 1) := by decide +kernel
theorem dX13_spend_295 : decode cX13_spend 295 = .ok (.aload_n 0, 1) := by decide +kernel
theorem dX13_spend_296 : decode cX13_spend 296 = .ok (.getfield 142, 3) := by decide +kernel
theorem dX13_spend_299 : decode cX13_spend 299 = .ok (.iconst 4, 1) := by decide +kernel
theorem dX13_spend_300 : decode cX13_spend 300 = .ok (.iload_n 3, 1) := by decide +kernel
theorem dX13_spend_301 : decode cX13_spend 301 = .ok (.imul, 1) := by decide +kernel
theorem dX13_spend_302 : decode cX13_spend 302 = .ok (.iconst 2, 1) := by decide +kernel
theorem dX13_spend_303 : decode cX13_spend 303 = .ok (.iadd, 1) := by decide +kernel
theorem dX13_spend_304 : decode cX13_spend 304 = .ok (.aload_n 0, 1) := by decide +kernel
theorem dX13_spend_305 : decode cX13_spend 305 = .ok (.invokevirtual 436, 3) := by decide +kernel
theorem dX13_spend_308 : decode cX13_spend 308 = .ok (.iastore, 1) := by decide +kernel
theorem dX13_spend_309 : decode cX13_spend 309 = .ok (.aload_n 0, 1) := by decide +kernel
theorem dX13_spend_310 : decode cX13_spend 310 = .ok (.getfield 142, 3) := by decide +kernel
theorem dX13_spend_313 : decode cX13_spend 313 = .ok (.iconst 4, 1) := by decide +kernel
theorem dX13_spend_314 : decode cX13_spend 314 = .ok (.iload_n 3, 1) := by decide +kernel
theorem dX13_spend_315 : decode cX13_spend 315 = .ok (.imul, 1) := by decide +kernel
theorem dX13_spend_316 : decode cX13_spend 316 = .ok (.iconst 3, 1) := by decide +kernel
theorem dX13_spend_317 : decode cX13_spend 317 = .ok (.iadd, 1) := by decide +kernel
theorem dX13_spend_318 : decode cX13_spend 318 = .ok (.aload_n 0, 1) := by decide +kernel
theorem dX13_spend_319 : decode cX13_spend 319 = .ok (.getfield 334, 3) := by decide +kernel
theorem dX13_spend_322 : decode cX13_spend 322 = .ok (.iastore, 1) := by decide +kernel
theorem dX13_spend_323 : decode cX13_spend 323 = .ok (.iinc 3 1, 3) := by decide +kernel
theorem dX13_spend_326 : decode cX13_spend 326 = .ok (.goto (-296), 3) := by decide +kernel
theorem dX13_spend_329 : decode cX13_spend 329 = .ok (.return_, 1) := by decide +kernel
theorem yI_t {D : zYd} (h : yI D) : yI (yT D (fun _ => 12)) := yT_I h (fun _ => Nat.le_refl _)
/-- a minute's things, so far: the night's state, the team, what the object tells, the fire -/
def sE (D : zYd) (P : zPl) (m V k : Nat) (N : zNi) (M : zRs) (g : Nat → Int32) (S : zFs) : Prop := sQ (yT D (fun _ => 12)) (60 * m) N M ∧ g 34 = nI N.1 ∧ g 70 = N.2.2.2.2.2.2.1 ∧ aO (D.1 14) (D.1 15) (nI N.2.1) ∧ zAgF (D.1 14 * D.1 15) S N.2.2.2.2.2.1 ∧ fK (D.1 14 * D.1 15) V S ∧ ∀ j, k ≤ j → j < P.1 → m ≤ P.2.1 j
section
variable {D : zYd} {P : zPl} {m V k : Nat} {N : zNi} {M : zRs} {g : Nat → Int32} {S : zFs}
theorem sE_a (h : ∀ j, k ≤ j → j < P.1 → m ≤ P.2.1 j) : ∀ j, k + 1 ≤ j → j < P.1 → m ≤ P.2.1 j := fun j h1 h2 => h j (by omega) h2
theorem sE_0 (hD : yI D) (hF : pFit D P) (hk : k < P.1) (e : P.2.2.1 k = 0) (h : sE D P m V k N M g S) : sE D P m V (k + 1) (nEnt D.1 D.2.2.2.1 D.2.2.2.2.1 (D.1 14) (D.1 15) P.2.2.1 P.2.2.2.1 P.2.2.2.2 k N) (tmSt D 1 (P.2.2.2.1 k) (M.1, uu M.2 24 (nCl (fun i => P.2.2.2.2 (k * 12 + i)) (M.2 24) (P.2.2.2.1 k)))) (upd g 34 (nI 1)) S := by
  obtain ⟨⟨⟨q1, q2, q3⟩, q4, q5, q6, q7⟩, h1, h2, h3, h4, h5, h6⟩ := h
  obtain ⟨-, -, -, p1, p2, p3, p4⟩ := hF.1.2 k hk
  have pn := p1 e
  have pm := p3 (by omega)
  have hm : D.1 0 ≤ 12 := hD.1
  have hne : nEnt D.1 D.2.2.2.1 D.2.2.2.2.1 (D.1 14) (D.1 15) P.2.2.1 P.2.2.2.1 P.2.2.2.2 k N = (1, N.2.1, N.2.2.1, cBeg D.1 D.2.2.2.1 P.2.2.2.2 (k * 12) (P.2.2.2.1 k) N.2.2.1 N.2.2.2.1, N.2.2.2.2.1, N.2.2.2.2.2) := if_pos e
  rw [hne]
  have hJ := cBeg_J (Y := D.1) (hdd := D.2.2.2.1) (ff := P.2.2.2.2) (first := k * 12) (n := P.2.2.2.1 k) (w := N.2.2.1) (s := N.2.2.2.1) q4 pn (fun i hi => by have := pm i hi; omega) hD.2.2.2.2.2.2.2.2.2.1.2 hD.2.2.2.2.2.2.2.2.2.2.2.2.1.2 hD.2.2.2.2.2.2.2.2.2.2.2.2.2.2.2.2.1.2 (fun i hi => ⟨(hD.2.2.2.2.2.2.2.2.1 _ (pm i hi)).1, (hD.2.2.2.2.2.2.2.1 _).1⟩) q3
  have hT := tR_beg (D := yT D (fun _ => 12)) (ff := P.2.2.2.2) (first := k * 12) (n := P.2.2.2.1 k) (w := N.2.2.1) (ro := N.2.2.2.1) (M := (M.1, uu M.2 24 (nCl (fun i => P.2.2.2.2 (k * 12 + i)) (M.2 24) (P.2.2.2.1 k)))) (yI_t hD) pn (fun p hp => ⟨(show nCl (fun i => P.2.2.2.2 (k * 12 + i)) (M.2 24) (P.2.2.2.1 k) p = P.2.2.2.2 (k * 12 + p) from nCl_s hp), pm p hp⟩) q1 yT_0
  exact ⟨⟨⟨q1, by show (1 : Nat) ≤ 2; omega, q3⟩, hJ.1.w, q5, fun _ => ⟨hT, ⟨0, Nat.zero_le _, hJ⟩, q3⟩, fun q => absurd (show (1 : Nat) = 2 from q) (by decide)⟩, rfl, h2, h3, h4, h5, sE_a h6⟩
theorem sE_1 (hD : yI D) (hF : pFit D P) (hk : k < P.1) (e : P.2.2.1 k = 1) (h : sE D P m V k N M g S) : sE D P m V (k + 1) (nEnt D.1 D.2.2.2.1 D.2.2.2.2.1 (D.1 14) (D.1 15) P.2.2.1 P.2.2.2.1 P.2.2.2.2 k N) (tmSt D 2 (P.2.2.2.1 k) (M.1, uu M.2 24 (nCl (fun i => P.2.2.2.2 (k * 12 + i)) (M.2 24) (P.2.2.2.1 k)))) (upd g 34 (nI 2)) S := by
  obtain ⟨⟨⟨q1, q2, q3⟩, q4, q5, q6, q7⟩, h1, h2, h3, h4, h5, h6⟩ := h
  obtain ⟨-, -, -, p1, p2, p3, p4⟩ := hF.1.2 k hk
  have pn := p2 e
  have pm := p3 (by omega)
  have hne : nEnt D.1 D.2.2.2.1 D.2.2.2.2.1 (D.1 14) (D.1 15) P.2.2.1 P.2.2.2.1 P.2.2.2.2 k N = (2, N.2.1, N.2.2.1, N.2.2.2.1, rBeg D.1 D.2.2.2.2.1 P.2.2.2.2 (k * 12) (P.2.2.2.1 k) N.2.2.1 N.2.2.2.2.1, N.2.2.2.2.2) := (if_neg (by omega)).trans (if_pos e)
  rw [hne]
  have hT := uR_beg (D := yT D (fun _ => 12)) (ff := P.2.2.2.2) (first := k * 12) (n := P.2.2.2.1 k) (w := N.2.2.1) (ru := N.2.2.2.2.1) (M := (M.1, uu M.2 24 (nCl (fun i => P.2.2.2.2 (k * 12 + i)) (M.2 24) (P.2.2.2.1 k)))) (yI_t hD) pn (fun p hp => ⟨(show nCl (fun i => P.2.2.2.2 (k * 12 + i)) (M.2 24) (P.2.2.2.1 k) p = P.2.2.2.2 (k * 12 + p) from nCl_s hp), pm p hp⟩) q1 q3 q5 yT_0
  exact ⟨⟨⟨q1, by show (2 : Nat) ≤ 2; omega, q3⟩, q4, rBeg_I q5 pn q3 hD.2.2.2.2.2.2.2.2.2.1.2, fun q => absurd (show (2 : Nat) = 1 from q) (by decide), fun _ => hT⟩, rfl, h2, h3, h4, h5, sE_a h6⟩
theorem sE_2 (e : P.2.2.1 k = 2) (h : sE D P m V k N M g S) : sE D P m V (k + 1) (nEnt D.1 D.2.2.2.1 D.2.2.2.2.1 (D.1 14) (D.1 15) P.2.2.1 P.2.2.2.1 P.2.2.2.2 k N) (tmSt D 0 0 M) (upd g 34 (nI 0)) S := by
  obtain ⟨⟨⟨q1, q2, q3⟩, q4, q5, q6, q7⟩, h1, h2, h3, h4, h5, h6⟩ := h
  have hne : nEnt D.1 D.2.2.2.1 D.2.2.2.2.1 (D.1 14) (D.1 15) P.2.2.1 P.2.2.2.1 P.2.2.2.2 k N = (0, N.2) := (if_neg (by omega)).trans ((if_neg (by omega)).trans (if_pos e))
  rw [hne]
  exact ⟨⟨⟨q1, by show (0 : Nat) ≤ 2; omega, q3⟩, q4, q5, fun q => absurd (show (0 : Nat) = 1 from q) (by decide), fun q => absurd (show (0 : Nat) = 2 from q) (by decide)⟩, rfl, h2, h3, h4, h5, sE_a h6⟩
theorem sE_3 (hA : pAi D P) (hC : D.1 14 ≤ 8) (hRo : D.1 15 ≤ 8) (hk : k < P.1) (e : P.2.2.1 k = 3) (h : sE D P m V k N M g S) : sE D P m V (k + 1) (nEnt D.1 D.2.2.2.1 D.2.2.2.2.1 (D.1 14) (D.1 15) P.2.2.1 P.2.2.2.1 P.2.2.2.2 k N) M g S := by
  obtain ⟨⟨⟨q1, q2, q3⟩, q4, q5, q6, q7⟩, h1, h2, h3, h4, h5, h6⟩ := h
  have hne : nEnt D.1 D.2.2.2.1 D.2.2.2.2.1 (D.1 14) (D.1 15) P.2.2.1 P.2.2.2.1 P.2.2.2.2 k N = (N.1, P.2.2.2.1 k, N.2.2) := (if_neg (by omega)).trans ((if_neg (by omega)).trans ((if_neg (by omega)).trans (if_pos e)))
  rw [hne]
  exact ⟨⟨⟨q1, q2, q3⟩, q4, q5, q6, q7⟩, h1, h2, aO_T hC hRo (hA k hk e), h4, h5, sE_a h6⟩
theorem sE_4 (e : P.2.2.1 k = 4) (h : sE D P m V k N M g S) : sE D P m V (k + 1) (nEnt D.1 D.2.2.2.1 D.2.2.2.2.1 (D.1 14) (D.1 15) P.2.2.1 P.2.2.2.1 P.2.2.2.2 k N) M g (gF (D.1 14) (P.2.2.2.1 k) S.1 (D.1 15), S.2.1, gF (D.1 14) (P.2.2.2.1 k) S.2.2 (D.1 15)) := by
  obtain ⟨⟨⟨q1, q2, q3⟩, q4, q5, q6, q7⟩, h1, h2, h3, h4, h5, h6⟩ := h
  have hne : nEnt D.1 D.2.2.2.1 D.2.2.2.2.1 (D.1 14) (D.1 15) P.2.2.1 P.2.2.2.1 P.2.2.2.2 k N = (N.1, N.2.1, N.2.2.1, N.2.2.2.1, N.2.2.2.2.1, ((gF (D.1 14) (P.2.2.2.1 k) N.2.2.2.2.2.1.1 (D.1 15), N.2.2.2.2.2.1.2.1, gF (D.1 14) (P.2.2.2.1 k) N.2.2.2.2.2.1.2.2 (D.1 15)), N.2.2.2.2.2.2.1, gN (D.1 14) (P.2.2.2.1 k) N.2.2.2.2.2.1.2.2 N.2.2.2.2.2.2.2 (D.1 15))) := (if_neg (by omega)).trans ((if_neg (by omega)).trans ((if_neg (by omega)).trans ((if_neg (by omega)).trans (if_pos e))))
  rw [hne]
  exact ⟨⟨⟨q1, q2, q3⟩, q4, q5, q6, q7⟩, h1, h2, h3, ⟨gF_agm h4.1 (D.1 15), h4.2.1, gF_agm h4.2.2 (D.1 15)⟩, gF_K h5 (D.1 15), sE_a h6⟩
theorem ne_am (h : ¬ P.2.2.1 k = 3) : N.2.1 = (nEnt D.1 D.2.2.2.1 D.2.2.2.2.1 (D.1 14) (D.1 15) P.2.2.1 P.2.2.2.1 P.2.2.2.2 k N).2.1 := by
  unfold nEnt
  rw [if_neg h]
  split
  · rfl
  · split
    · rfl
    · split
      · rfl
      · split <;> rfl
theorem ne_a3 (h : P.2.2.1 k = 3) : P.2.2.2.1 k = (nEnt D.1 D.2.2.2.1 D.2.2.2.2.1 (D.1 14) (D.1 15) P.2.2.1 P.2.2.2.1 P.2.2.2.2 k N).2.1 := by
  unfold nEnt
  rw [if_neg (by omega), if_neg (by omega), if_neg (by omega), if_pos h]
end
set_option maxRecDepth 100000 in
theorem lp_mteam0 {l : Launch} {dd : Nat} {Po : zPo} {K0 : zK} {h0 : List va_E} {Xo : zK → Prop} {Gc : zG → Prop} (mo : Nat) (e : Nat → Nat) (g : Nat → Int32) (w : Int64) (nw : Nat → Int32) (D : zYd) (P : zPl) (M : zRs) (S : zFs) (he nt : Nat → Int32) (am k mi : Nat) (hd : 3 ≤ dd) (hR : yR D nw) (hC : D.1 14 ≤ 8) (hRo : D.1 15 ≤ 8) (hD : yI D) (hP : mPl P nw) (hF : pFit D P) (hk : k < P.1) (hpk : P.2.2.1 k = 0)
    (hk2 : zS (l, mX13_spend, dd, Po, K0, h0, Xo, Gc) 0 0 134 [(0, .ref mo), (1, .int (nI am)), (2, .int (nI k)), (3, .int (nI mi)), (4, .int (nI (210 + 16 * k))), (5, .int (nI 0))] [] [(mo, .inr (11, fMo e (mg g M.1) w)), ((e 14), .inl (0, 800, .inl nw)), ((e 24), .inl (0, 12, .inl (nF (nCl (fun i => P.2.2.2.2 (k * 12 + i)) (M.2 24) (P.2.2.2.1 k))))), ((e 25), .inl (0, 12, .inl (nF (M.2 25)))), ((e 26), .inl (0, 12, .inl (nF (M.2 26)))), ((e 27), .inl (0, 12, .inl (nF (M.2 27)))), ((e 28), .inl (0, 360, .inl (nF (M.2 28)))), ((e 29), .inl (0, 12, .inl (nF (M.2 29)))), ((e 30), .inl (0, 12, .inl (nF (M.2 30)))), ((e 31), .inl (0, 30, .inl (nF (M.2 31)))), ((e 32), .inl (0, 12, .inl (nF (M.2 32)))), ((e 64), .inl (0, 64, .inl (S.1))), ((e 65), .inl (0, 64, .inl (S.2.2))), ((e 66), .inl (0, 64, .inl (S.2.1))), ((e 67), .inl (0, 64, .inl he)), ((e 85), .inl (0, 240, .inl nt))]) :
    ∀ (m i : Nat) , i + m = (P.2.2.2.1 k) → zS (l, mX13_spend, dd, Po, K0, h0, Xo, Gc) 0 0 95 [(0, .ref mo), (1, .int (nI am)), (2, .int (nI k)), (3, .int (nI mi)), (4, .int (nI (210 + 16 * k))), (5, .int (nI 0)), (6, .int (nI i))] [] [(mo, .inr (11, fMo e (mg g M.1) w)), ((e 14), .inl (0, 800, .inl nw)), ((e 24), .inl (0, 12, .inl (nF (nCl (fun i => P.2.2.2.2 (k * 12 + i)) (M.2 24) i)))), ((e 25), .inl (0, 12, .inl (nF (M.2 25)))), ((e 26), .inl (0, 12, .inl (nF (M.2 26)))), ((e 27), .inl (0, 12, .inl (nF (M.2 27)))), ((e 28), .inl (0, 360, .inl (nF (M.2 28)))), ((e 29), .inl (0, 12, .inl (nF (M.2 29)))), ((e 30), .inl (0, 12, .inl (nF (M.2 30)))), ((e 31), .inl (0, 30, .inl (nF (M.2 31)))), ((e 32), .inl (0, 12, .inl (nF (M.2 32)))), ((e 64), .inl (0, 64, .inl (S.1))), ((e 65), .inl (0, 64, .inl (S.2.2))), ((e 66), .inl (0, 64, .inl (S.2.1))), ((e 67), .inl (0, 64, .inl he)), ((e 85), .inl (0, 240, .inl nt))] := by
  intro m
  induction m with
  | zero =>
    intro i hi
    have hth : P.1 ≤ 20 := hF.1.1
    have hq := hF.1.2 k hk
    have hn12 : (P.2.2.2.1 k) ≤ 12 := by have h0 := hq.2.2.2.1; have h1 := hq.2.2.2.2.1; omega
    refine zs_iload dX13_spend_95 rfl ?_
    refine zs_aload_n dX13_spend_97 rfl rfl ?_
    refine zs_get 0 dX13_spend_98 zf_RX13_13 rfl (v := .ref (e 14)) rfl ?_
    refine zs_iload dX13_spend_101 rfl ?_
    refine zs_iconst (v := nI 2) dX13_spend_103 (by decide) ?_
    refine zs_iadd dX13_spend_104 ?_
    refine zs_as (y := nI ((210 + 16 * k) + 2)) (nI_add _ _) ?_
    refine zs_iald 1 dX13_spend_105 rfl (vp_in_nI (by omega) (by omega)) ?_
    refine zs_as (y := nI (P.2.2.2.1 k)) (by rw [nI_c (n := (210 + 16 * k) + 2) (by omega)]; exact (hP.2 k hk).2.2.1 (by omega)) ?_
    refine zs_icmp_ge (tgt := 134) dX13_spend_106 (by decide) (fun c_1 => ?_) (fun c_1 => (c_1 (by rw [show i = (P.2.2.2.1 k) by omega]; exact Int32.le_refl _) : False).elim)
    rw [show i = (P.2.2.2.1 k) by omega]
    refine zs_lv [0, 1, 2, 3, 4, 5] rfl ?_
    exact hk2
  | succ m ih =>
    intro i hi
    have hth : P.1 ≤ 20 := hF.1.1
    have hq := hF.1.2 k hk
    have hn12 : (P.2.2.2.1 k) ≤ 12 := by have h0 := hq.2.2.2.1; have h1 := hq.2.2.2.2.1; omega
    refine zs_iload dX13_spend_95 rfl ?_
    refine zs_aload_n dX13_spend_97 rfl rfl ?_
    refine zs_get 0 dX13_spend_98 zf_RX13_13 rfl (v := .ref (e 14)) rfl ?_
    refine zs_iload dX13_spend_101 rfl ?_
    refine zs_iconst (v := nI 2) dX13_spend_103 (by decide) ?_
    refine zs_iadd dX13_spend_104 ?_
    refine zs_as (y := nI ((210 + 16 * k) + 2)) (nI_add _ _) ?_
    refine zs_iald 1 dX13_spend_105 rfl (vp_in_nI (by omega) (by omega)) ?_
    refine zs_as (y := nI (P.2.2.2.1 k)) (by rw [nI_c (n := (210 + 16 * k) + 2) (by omega)]; exact (hP.2 k hk).2.2.1 (by omega)) ?_
    refine zs_icmp_ge (tgt := 134) dX13_spend_106 (by decide) (fun c_1 => (nI_ge (show i < (P.2.2.2.1 k) by omega) (by omega) c_1 : False).elim) (fun c_1 => ?_)
    refine zs_aload_n dX13_spend_109 rfl rfl ?_
    refine zs_get 0 dX13_spend_110 zf_RX13_39 rfl (v := .ref (e 24)) rfl ?_
    refine zs_iload dX13_spend_113 rfl ?_
    refine zs_aload_n dX13_spend_115 rfl rfl ?_
    refine zs_get 0 dX13_spend_116 zf_RX13_13 rfl (v := .ref (e 14)) rfl ?_
    refine zs_iload dX13_spend_119 rfl ?_
    refine zs_iconst (v := nI 3) dX13_spend_121 (by decide) ?_
    refine zs_iadd dX13_spend_122 ?_
    refine zs_as (y := nI ((210 + 16 * k) + 3)) (nI_add _ _) ?_
    refine zs_iload dX13_spend_123 rfl ?_
    refine zs_iadd dX13_spend_125 ?_
    refine zs_as (y := nI (((210 + 16 * k) + 3) + i)) (nI_add _ _) ?_
    refine zs_iald 1 dX13_spend_126 rfl (vp_in_nI (by omega) (by omega)) ?_
    refine zs_as (y := nI (P.2.2.2.2 (k * 12 + i))) (by rw [nI_c (n := (210 + 16 * k) + 3 + i) (by omega), show (210 + 16 * k) + 3 + i = 210 + (16 * k + 3 + i) by omega]; exact (hP.2 k hk).2.2.2 (by omega) i (by omega)) ?_
    refine zs_iast 2 dX13_spend_127 rfl (vp_in_nI (by omega) (by omega)) ?_
    rw [nI_c (n := i) (by omega), nF_u]
    show zS _ _ _ _ _ _ [(mo, .inr (11, fMo e (mg g M.1) w)), ((e 14), .inl (0, 800, .inl nw)), ((e 24), .inl (0, 12, .inl (nF (un (nCl (fun i => P.2.2.2.2 (k * 12 + i)) (M.2 24) i) i (P.2.2.2.2 (k * 12 + i)))))), ((e 25), .inl (0, 12, .inl (nF (M.2 25)))), ((e 26), .inl (0, 12, .inl (nF (M.2 26)))), ((e 27), .inl (0, 12, .inl (nF (M.2 27)))), ((e 28), .inl (0, 360, .inl (nF (M.2 28)))), ((e 29), .inl (0, 12, .inl (nF (M.2 29)))), ((e 30), .inl (0, 12, .inl (nF (M.2 30)))), ((e 31), .inl (0, 30, .inl (nF (M.2 31)))), ((e 32), .inl (0, 12, .inl (nF (M.2 32)))), ((e 64), .inl (0, 64, .inl (S.1))), ((e 65), .inl (0, 64, .inl (S.2.2))), ((e 66), .inl (0, 64, .inl (S.2.1))), ((e 67), .inl (0, 64, .inl he)), ((e 85), .inl (0, 240, .inl nt))]
    refine zs_iinc (v := (nI (i + 1))) (lv' := [(6, .int (nI (i + 1))), (0, .ref mo), (1, .int (nI am)), (2, .int (nI k)), (3, .int (nI mi)), (4, .int (nI (210 + 16 * k))), (5, .int (nI 0))]) dX13_spend_128 rfl (nI_add _ 1) (Nat.le_of_ble_eq_true rfl) rfl ?_
    refine zs_goto (tgt := 95) dX13_spend_131 (by decide) ?_
    refine zs_lv [1, 2, 3, 4, 5, 6, 0] rfl ?_
    rw [nCl_u (new := (fun i => P.2.2.2.2 (k * 12 + i))) (old := M.2 24) (k := i) rfl]
    exact ih (i + 1) (by omega)
set_option maxRecDepth 100000 in
theorem lp_mteam1 {l : Launch} {dd : Nat} {Po : zPo} {K0 : zK} {h0 : List va_E} {Xo : zK → Prop} {Gc : zG → Prop} (mo : Nat) (e : Nat → Nat) (g : Nat → Int32) (w : Int64) (nw : Nat → Int32) (D : zYd) (P : zPl) (M : zRs) (S : zFs) (he nt : Nat → Int32) (am k mi : Nat) (hd : 3 ≤ dd) (hR : yR D nw) (hC : D.1 14 ≤ 8) (hRo : D.1 15 ≤ 8) (hD : yI D) (hP : mPl P nw) (hF : pFit D P) (hk : k < P.1) (hpk : P.2.2.1 k = 1)
    (hk2 : zS (l, mX13_spend, dd, Po, K0, h0, Xo, Gc) 0 0 134 [(0, .ref mo), (1, .int (nI am)), (2, .int (nI k)), (3, .int (nI mi)), (4, .int (nI (210 + 16 * k))), (5, .int (nI 1))] [] [(mo, .inr (11, fMo e (mg g M.1) w)), ((e 14), .inl (0, 800, .inl nw)), ((e 24), .inl (0, 12, .inl (nF (nCl (fun i => P.2.2.2.2 (k * 12 + i)) (M.2 24) (P.2.2.2.1 k))))), ((e 25), .inl (0, 12, .inl (nF (M.2 25)))), ((e 26), .inl (0, 12, .inl (nF (M.2 26)))), ((e 27), .inl (0, 12, .inl (nF (M.2 27)))), ((e 28), .inl (0, 360, .inl (nF (M.2 28)))), ((e 29), .inl (0, 12, .inl (nF (M.2 29)))), ((e 30), .inl (0, 12, .inl (nF (M.2 30)))), ((e 31), .inl (0, 30, .inl (nF (M.2 31)))), ((e 32), .inl (0, 12, .inl (nF (M.2 32)))), ((e 64), .inl (0, 64, .inl (S.1))), ((e 65), .inl (0, 64, .inl (S.2.2))), ((e 66), .inl (0, 64, .inl (S.2.1))), ((e 67), .inl (0, 64, .inl he)), ((e 85), .inl (0, 240, .inl nt))]) :
    ∀ (m i : Nat) , i + m = (P.2.2.2.1 k) → zS (l, mX13_spend, dd, Po, K0, h0, Xo, Gc) 0 0 95 [(0, .ref mo), (1, .int (nI am)), (2, .int (nI k)), (3, .int (nI mi)), (4, .int (nI (210 + 16 * k))), (5, .int (nI 1)), (6, .int (nI i))] [] [(mo, .inr (11, fMo e (mg g M.1) w)), ((e 14), .inl (0, 800, .inl nw)), ((e 24), .inl (0, 12, .inl (nF (nCl (fun i => P.2.2.2.2 (k * 12 + i)) (M.2 24) i)))), ((e 25), .inl (0, 12, .inl (nF (M.2 25)))), ((e 26), .inl (0, 12, .inl (nF (M.2 26)))), ((e 27), .inl (0, 12, .inl (nF (M.2 27)))), ((e 28), .inl (0, 360, .inl (nF (M.2 28)))), ((e 29), .inl (0, 12, .inl (nF (M.2 29)))), ((e 30), .inl (0, 12, .inl (nF (M.2 30)))), ((e 31), .inl (0, 30, .inl (nF (M.2 31)))), ((e 32), .inl (0, 12, .inl (nF (M.2 32)))), ((e 64), .inl (0, 64, .inl (S.1))), ((e 65), .inl (0, 64, .inl (S.2.2))), ((e 66), .inl (0, 64, .inl (S.2.1))), ((e 67), .inl (0, 64, .inl he)), ((e 85), .inl (0, 240, .inl nt))] := by
  intro m
  induction m with
  | zero =>
    intro i hi
    have hth : P.1 ≤ 20 := hF.1.1
    have hq := hF.1.2 k hk
    have hn12 : (P.2.2.2.1 k) ≤ 12 := by have h0 := hq.2.2.2.1; have h1 := hq.2.2.2.2.1; omega
    refine zs_iload dX13_spend_95 rfl ?_
    refine zs_aload_n dX13_spend_97 rfl rfl ?_
    refine zs_get 0 dX13_spend_98 zf_RX13_13 rfl (v := .ref (e 14)) rfl ?_
    refine zs_iload dX13_spend_101 rfl ?_
    refine zs_iconst (v := nI 2) dX13_spend_103 (by decide) ?_
    refine zs_iadd dX13_spend_104 ?_
    refine zs_as (y := nI ((210 + 16 * k) + 2)) (nI_add _ _) ?_
    refine zs_iald 1 dX13_spend_105 rfl (vp_in_nI (by omega) (by omega)) ?_
    refine zs_as (y := nI (P.2.2.2.1 k)) (by rw [nI_c (n := (210 + 16 * k) + 2) (by omega)]; exact (hP.2 k hk).2.2.1 (by omega)) ?_
    refine zs_icmp_ge (tgt := 134) dX13_spend_106 (by decide) (fun c_1 => ?_) (fun c_1 => (c_1 (by rw [show i = (P.2.2.2.1 k) by omega]; exact Int32.le_refl _) : False).elim)
    rw [show i = (P.2.2.2.1 k) by omega]
    refine zs_lv [0, 1, 2, 3, 4, 5] rfl ?_
    exact hk2
  | succ m ih =>
    intro i hi
    have hth : P.1 ≤ 20 := hF.1.1
    have hq := hF.1.2 k hk
    have hn12 : (P.2.2.2.1 k) ≤ 12 := by have h0 := hq.2.2.2.1; have h1 := hq.2.2.2.2.1; omega
    refine zs_iload dX13_spend_95 rfl ?_
    refine zs_aload_n dX13_spend_97 rfl rfl ?_
    refine zs_get 0 dX13_spend_98 zf_RX13_13 rfl (v := .ref (e 14)) rfl ?_
    refine zs_iload dX13_spend_101 rfl ?_
    refine zs_iconst (v := nI 2) dX13_spend_103 (by decide) ?_
    refine zs_iadd dX13_spend_104 ?_
    refine zs_as (y := nI ((210 + 16 * k) + 2)) (nI_add _ _) ?_
    refine zs_iald 1 dX13_spend_105 rfl (vp_in_nI (by omega) (by omega)) ?_
    refine zs_as (y := nI (P.2.2.2.1 k)) (by rw [nI_c (n := (210 + 16 * k) + 2) (by omega)]; exact (hP.2 k hk).2.2.1 (by omega)) ?_
    refine zs_icmp_ge (tgt := 134) dX13_spend_106 (by decide) (fun c_1 => (nI_ge (show i < (P.2.2.2.1 k) by omega) (by omega) c_1 : False).elim) (fun c_1 => ?_)
    refine zs_aload_n dX13_spend_109 rfl rfl ?_
    refine zs_get 0 dX13_spend_110 zf_RX13_39 rfl (v := .ref (e 24)) rfl ?_
    refine zs_iload dX13_spend_113 rfl ?_
    refine zs_aload_n dX13_spend_115 rfl rfl ?_
    refine zs_get 0 dX13_spend_116 zf_RX13_13 rfl (v := .ref (e 14)) rfl ?_
    refine zs_iload dX13_spend_119 rfl ?_
    refine zs_iconst (v := nI 3) dX13_spend_121 (by decide) ?_
    refine zs_iadd dX13_spend_122 ?_
    refine zs_as (y := nI ((210 + 16 * k) + 3)) (nI_add _ _) ?_
    refine zs_iload dX13_spend_123 rfl ?_
    refine zs_iadd dX13_spend_125 ?_
    refine zs_as (y := nI (((210 + 16 * k) + 3) + i)) (nI_add _ _) ?_
    refine zs_iald 1 dX13_spend_126 rfl (vp_in_nI (by omega) (by omega)) ?_
    refine zs_as (y := nI (P.2.2.2.2 (k * 12 + i))) (by rw [nI_c (n := (210 + 16 * k) + 3 + i) (by omega), show (210 + 16 * k) + 3 + i = 210 + (16 * k + 3 + i) by omega]; exact (hP.2 k hk).2.2.2 (by omega) i (by omega)) ?_
    refine zs_iast 2 dX13_spend_127 rfl (vp_in_nI (by omega) (by omega)) ?_
    rw [nI_c (n := i) (by omega), nF_u]
    show zS _ _ _ _ _ _ [(mo, .inr (11, fMo e (mg g M.1) w)), ((e 14), .inl (0, 800, .inl nw)), ((e 24), .inl (0, 12, .inl (nF (un (nCl (fun i => P.2.2.2.2 (k * 12 + i)) (M.2 24) i) i (P.2.2.2.2 (k * 12 + i)))))), ((e 25), .inl (0, 12, .inl (nF (M.2 25)))), ((e 26), .inl (0, 12, .inl (nF (M.2 26)))), ((e 27), .inl (0, 12, .inl (nF (M.2 27)))), ((e 28), .inl (0, 360, .inl (nF (M.2 28)))), ((e 29), .inl (0, 12, .inl (nF (M.2 29)))), ((e 30), .inl (0, 12, .inl (nF (M.2 30)))), ((e 31), .inl (0, 30, .inl (nF (M.2 31)))), ((e 32), .inl (0, 12, .inl (nF (M.2 32)))), ((e 64), .inl (0, 64, .inl (S.1))), ((e 65), .inl (0, 64, .inl (S.2.2))), ((e 66), .inl (0, 64, .inl (S.2.1))), ((e 67), .inl (0, 64, .inl he)), ((e 85), .inl (0, 240, .inl nt))]
    refine zs_iinc (v := (nI (i + 1))) (lv' := [(6, .int (nI (i + 1))), (0, .ref mo), (1, .int (nI am)), (2, .int (nI k)), (3, .int (nI mi)), (4, .int (nI (210 + 16 * k))), (5, .int (nI 1))]) dX13_spend_128 rfl (nI_add _ 1) (Nat.le_of_ble_eq_true rfl) rfl ?_
    refine zs_goto (tgt := 95) dX13_spend_131 (by decide) ?_
    refine zs_lv [1, 2, 3, 4, 5, 6, 0] rfl ?_
    rw [nCl_u (new := (fun i => P.2.2.2.2 (k * 12 + i))) (old := M.2 24) (k := i) rfl]
    exact ih (i + 1) (by omega)
set_option maxRecDepth 100000 in
theorem ment_0 {l : Launch} {dd : Nat} {Po : zPo} {K0 : zK} {h0 : List va_E} {Xo : zK → Prop} {Gc : zG → Prop} (mo : Nat) (e : Nat → Nat) (g : Nat → Int32) (w : Int64) (nw : Nat → Int32) (D : zYd) (P : zPl) (M : zRs) (S : zFs) (he nt : Nat → Int32) (am k mi : Nat) (hd : 3 ≤ dd) (hR : yR D nw) (hC : D.1 14 ≤ 8) (hRo : D.1 15 ≤ 8) (hD : yI D) (hP : mPl P nw) (hF : pFit D P) (hk : k < P.1) (hpk : P.2.2.1 k = 0) (hk2 : zS (l, mX13_spend, dd, Po, K0, h0, Xo, Gc) 0 0 205 [(0, .ref mo), (1, .int (nI am)), (2, .int (nI k)), (3, .int (nI mi))] [] [(mo, .inr (11, fMo e (mg (upd g 34 (nI 1)) ((tmSt D 1 (P.2.2.2.1 k) (M.1, uu M.2 24 (nCl (fun i => P.2.2.2.2 (k * 12 + i)) (M.2 24) (P.2.2.2.1 k)))).1)) w)), ((e 14), .inl (0, 800, .inl nw)), ((e 24), .inl (0, 12, .inl (nF ((tmSt D 1 (P.2.2.2.1 k) (M.1, uu M.2 24 (nCl (fun i => P.2.2.2.2 (k * 12 + i)) (M.2 24) (P.2.2.2.1 k)))).2 24)))), ((e 25), .inl (0, 12, .inl (nF ((tmSt D 1 (P.2.2.2.1 k) (M.1, uu M.2 24 (nCl (fun i => P.2.2.2.2 (k * 12 + i)) (M.2 24) (P.2.2.2.1 k)))).2 25)))), ((e 26), .inl (0, 12, .inl (nF ((tmSt D 1 (P.2.2.2.1 k) (M.1, uu M.2 24 (nCl (fun i => P.2.2.2.2 (k * 12 + i)) (M.2 24) (P.2.2.2.1 k)))).2 26)))), ((e 27), .inl (0, 12, .inl (nF ((tmSt D 1 (P.2.2.2.1 k) (M.1, uu M.2 24 (nCl (fun i => P.2.2.2.2 (k * 12 + i)) (M.2 24) (P.2.2.2.1 k)))).2 27)))), ((e 28), .inl (0, 360, .inl (nF ((tmSt D 1 (P.2.2.2.1 k) (M.1, uu M.2 24 (nCl (fun i => P.2.2.2.2 (k * 12 + i)) (M.2 24) (P.2.2.2.1 k)))).2 28)))), ((e 29), .inl (0, 12, .inl (nF ((tmSt D 1 (P.2.2.2.1 k) (M.1, uu M.2 24 (nCl (fun i => P.2.2.2.2 (k * 12 + i)) (M.2 24) (P.2.2.2.1 k)))).2 29)))), ((e 30), .inl (0, 12, .inl (nF ((tmSt D 1 (P.2.2.2.1 k) (M.1, uu M.2 24 (nCl (fun i => P.2.2.2.2 (k * 12 + i)) (M.2 24) (P.2.2.2.1 k)))).2 30)))), ((e 31), .inl (0, 30, .inl (nF ((tmSt D 1 (P.2.2.2.1 k) (M.1, uu M.2 24 (nCl (fun i => P.2.2.2.2 (k * 12 + i)) (M.2 24) (P.2.2.2.1 k)))).2 31)))), ((e 32), .inl (0, 12, .inl (nF ((tmSt D 1 (P.2.2.2.1 k) (M.1, uu M.2 24 (nCl (fun i => P.2.2.2.2 (k * 12 + i)) (M.2 24) (P.2.2.2.1 k)))).2 32)))), ((e 64), .inl (0, 64, .inl (S.1))), ((e 65), .inl (0, 64, .inl (S.2.2))), ((e 66), .inl (0, 64, .inl (S.2.1))), ((e 67), .inl (0, 64, .inl he)), ((e 85), .inl (0, 240, .inl nt))]) : zS (l, mX13_spend, dd, Po, K0, h0, Xo, Gc) 0 0 75 [(0, .ref mo), (1, .int (nI am)), (2, .int (nI k)), (3, .int (nI mi)), (4, .int (nI (210 + 16 * k)))] [] [(mo, .inr (11, fMo e (mg g M.1) w)), ((e 14), .inl (0, 800, .inl nw)), ((e 24), .inl (0, 12, .inl (nF (M.2 24)))), ((e 25), .inl (0, 12, .inl (nF (M.2 25)))), ((e 26), .inl (0, 12, .inl (nF (M.2 26)))), ((e 27), .inl (0, 12, .inl (nF (M.2 27)))), ((e 28), .inl (0, 360, .inl (nF (M.2 28)))), ((e 29), .inl (0, 12, .inl (nF (M.2 29)))), ((e 30), .inl (0, 12, .inl (nF (M.2 30)))), ((e 31), .inl (0, 30, .inl (nF (M.2 31)))), ((e 32), .inl (0, 12, .inl (nF (M.2 32)))), ((e 64), .inl (0, 64, .inl (S.1))), ((e 65), .inl (0, 64, .inl (S.2.2))), ((e 66), .inl (0, 64, .inl (S.2.1))), ((e 67), .inl (0, 64, .inl he)), ((e 85), .inl (0, 240, .inl nt))] := by
  have hth : P.1 ≤ 20 := hF.1.1
  have hq := hF.1.2 k hk
  have hn12 : P.2.2.2.1 k ≤ 12 := by have h0 := hq.2.2.2.1; have h1 := hq.2.2.2.2.1; omega
  refine zs_aload_n dX13_spend_75 rfl rfl ?_
  refine zs_get 0 dX13_spend_76 zf_RX13_13 rfl (v := .ref (e 14)) rfl ?_
  refine zs_iload dX13_spend_79 rfl ?_
  refine zs_iconst (v := nI 1) dX13_spend_81 (by decide) ?_
  refine zs_iadd dX13_spend_82 ?_
  refine zs_as (y := nI ((210 + 16 * k) + 1)) (nI_add _ _) ?_
  refine zs_iald 1 dX13_spend_83 rfl (vp_in_nI (by omega) (by omega)) ?_
  refine zs_as (y := nI 0) (by rw [nI_c (n := (210 + 16 * k) + 1) (by omega)]; exact (hP.2 k hk).2.1.trans (congrArg nI hpk)) ?_
  refine zs_istore (lv' := [(5, .int (nI 0)), (0, .ref mo), (1, .int (nI am)), (2, .int (nI k)), (3, .int (nI mi)), (4, .int (nI (210 + 16 * k)))]) dX13_spend_84 (Nat.le_of_ble_eq_true rfl) rfl ?_
  refine zs_iload dX13_spend_86 rfl ?_
  refine zs_iconst (v := nI 2) dX13_spend_88 (by decide) ?_
  refine zs_icmp_ge (tgt := 157) dX13_spend_89 (by decide) (fun c_1 => (by first | exact absurd c_1 (by decide) | exact absurd (by decide) c_1 : False).elim) (fun c_1 => ?_)
  refine zs_iconst (v := nI 0) dX13_spend_92 (by decide) ?_
  refine zs_istore (lv' := [(6, .int (nI 0)), (5, .int (nI 0)), (0, .ref mo), (1, .int (nI am)), (2, .int (nI k)), (3, .int (nI mi)), (4, .int (nI (210 + 16 * k)))]) dX13_spend_93 (Nat.le_of_ble_eq_true rfl) rfl ?_
  refine zs_eq (K' := [(mo, .inr (11, fMo e (mg g M.1) w)), ((e 14), .inl (0, 800, .inl nw)), ((e 24), .inl (0, 12, .inl (nF (nCl (fun i => P.2.2.2.2 (k * 12 + i)) (M.2 24) 0)))), ((e 25), .inl (0, 12, .inl (nF (M.2 25)))), ((e 26), .inl (0, 12, .inl (nF (M.2 26)))), ((e 27), .inl (0, 12, .inl (nF (M.2 27)))), ((e 28), .inl (0, 360, .inl (nF (M.2 28)))), ((e 29), .inl (0, 12, .inl (nF (M.2 29)))), ((e 30), .inl (0, 12, .inl (nF (M.2 30)))), ((e 31), .inl (0, 30, .inl (nF (M.2 31)))), ((e 32), .inl (0, 12, .inl (nF (M.2 32)))), ((e 64), .inl (0, 64, .inl (S.1))), ((e 65), .inl (0, 64, .inl (S.2.2))), ((e 66), .inl (0, 64, .inl (S.2.1))), ((e 67), .inl (0, 64, .inl he)), ((e 85), .inl (0, 240, .inl nt))]) (by rw [nCl_0]) ?_
  refine zs_lv [2, 3, 4, 5, 6, 1, 0] rfl ?_
  refine lp_mteam0 mo e g w nw D P M S he nt am k mi hd hR hC hRo hD hP hF hk hpk ?_ (P.2.2.2.1 k) 0 (Nat.zero_add _)
  refine zs_aload_n dX13_spend_134 rfl rfl ?_
  refine zs_iload dX13_spend_135 rfl ?_
  refine zs_if_ne (tgt := 144) dX13_spend_137 (by decide) (fun c_2 => (by first | exact absurd c_2 (by decide) | exact absurd (by decide) c_2 : False).elim) (fun c_2 => ?_)
  refine zs_iconst (v := nI 1) dX13_spend_140 (by decide) ?_
  refine zs_goto (tgt := 145) dX13_spend_141 (by decide) ?_
  refine zs_aload_n dX13_spend_145 rfl rfl ?_
  refine zs_get 0 dX13_spend_146 zf_RX13_13 rfl (v := .ref (e 14)) rfl ?_
  refine zs_iload dX13_spend_149 rfl ?_
  refine zs_iconst (v := nI 2) dX13_spend_151 (by decide) ?_
  refine zs_iadd dX13_spend_152 ?_
  refine zs_as (y := nI ((210 + 16 * k) + 2)) (nI_add _ _) ?_
  refine zs_iald 1 dX13_spend_153 rfl (vp_in_nI (by omega) (by omega)) ?_
  refine zs_as (y := nI (P.2.2.2.1 k)) (by rw [nI_c (n := (210 + 16 * k) + 2) (by omega)]; exact (hP.2 k hk).2.2.1 (by omega)) ?_
  refine zs_callV (M := mX13_start) (As := [.int (nI 1), .int (nI (P.2.2.2.1 k))]) (st := []) (Kc := [(mo, .inr (11, fMo e (mg g ((M.1, uu M.2 24 (nCl (fun i => P.2.2.2.2 (k * 12 + i)) (M.2 24) (P.2.2.2.1 k))).1)) w)), ((e 14), .inl (0, 800, .inl nw)), ((e 24), .inl (0, 12, .inl (nF ((M.1, uu M.2 24 (nCl (fun i => P.2.2.2.2 (k * 12 + i)) (M.2 24) (P.2.2.2.1 k))).2 24)))), ((e 25), .inl (0, 12, .inl (nF ((M.1, uu M.2 24 (nCl (fun i => P.2.2.2.2 (k * 12 + i)) (M.2 24) (P.2.2.2.1 k))).2 25)))), ((e 26), .inl (0, 12, .inl (nF ((M.1, uu M.2 24 (nCl (fun i => P.2.2.2.2 (k * 12 + i)) (M.2 24) (P.2.2.2.1 k))).2 26)))), ((e 27), .inl (0, 12, .inl (nF ((M.1, uu M.2 24 (nCl (fun i => P.2.2.2.2 (k * 12 + i)) (M.2 24) (P.2.2.2.1 k))).2 27)))), ((e 28), .inl (0, 360, .inl (nF ((M.1, uu M.2 24 (nCl (fun i => P.2.2.2.2 (k * 12 + i)) (M.2 24) (P.2.2.2.1 k))).2 28)))), ((e 29), .inl (0, 12, .inl (nF ((M.1, uu M.2 24 (nCl (fun i => P.2.2.2.2 (k * 12 + i)) (M.2 24) (P.2.2.2.1 k))).2 29)))), ((e 30), .inl (0, 12, .inl (nF ((M.1, uu M.2 24 (nCl (fun i => P.2.2.2.2 (k * 12 + i)) (M.2 24) (P.2.2.2.1 k))).2 30)))), ((e 31), .inl (0, 30, .inl (nF ((M.1, uu M.2 24 (nCl (fun i => P.2.2.2.2 (k * 12 + i)) (M.2 24) (P.2.2.2.1 k))).2 31)))), ((e 32), .inl (0, 12, .inl (nF ((M.1, uu M.2 24 (nCl (fun i => P.2.2.2.2 (k * 12 + i)) (M.2 24) (P.2.2.2.1 k))).2 32))))]) (Kr := [((e 64), .inl (0, 64, .inl (S.1))), ((e 65), .inl (0, 64, .inl (S.2.2))), ((e 66), .inl (0, 64, .inl (S.2.1))), ((e 67), .inl (0, 64, .inl he)), ((e 85), .inl (0, 240, .inl nt))]) [0, 1, 2, 3, 4, 5, 6, 7, 8, 9, 10] [11, 12, 13, 14, 15] 0 dX13_spend_154 zl_RX13_366 kX13_start rfl rfl rfl rfl rfl (by decide) rfl rfl (show dd - 1 + 1 ≤ dd by omega) (Nat.zero_le _) (Nat.zero_le _) (Nat.le_of_ble_eq_true rfl) (s_tStart l (dd - 1) mo e g w nw D (M.1, uu M.2 24 (nCl (fun i => P.2.2.2.2 (k * 12 + i)) (M.2 24) (P.2.2.2.1 k))) 1 (P.2.2.2.1 k) hR hD (by omega) (by omega)) (fun r K1 hr => ?_)
  obtain ⟨rfl, rfl⟩ := hr
  refine zs_K (K' := [(mo, .inr (11, fMo e (mg (upd g 34 (nI 1)) ((tmSt D 1 (P.2.2.2.1 k) (M.1, uu M.2 24 (nCl (fun i => P.2.2.2.2 (k * 12 + i)) (M.2 24) (P.2.2.2.1 k)))).1)) w)), ((e 14), .inl (0, 800, .inl nw)), ((e 24), .inl (0, 12, .inl (nF ((tmSt D 1 (P.2.2.2.1 k) (M.1, uu M.2 24 (nCl (fun i => P.2.2.2.2 (k * 12 + i)) (M.2 24) (P.2.2.2.1 k)))).2 24)))), ((e 25), .inl (0, 12, .inl (nF ((tmSt D 1 (P.2.2.2.1 k) (M.1, uu M.2 24 (nCl (fun i => P.2.2.2.2 (k * 12 + i)) (M.2 24) (P.2.2.2.1 k)))).2 25)))), ((e 26), .inl (0, 12, .inl (nF ((tmSt D 1 (P.2.2.2.1 k) (M.1, uu M.2 24 (nCl (fun i => P.2.2.2.2 (k * 12 + i)) (M.2 24) (P.2.2.2.1 k)))).2 26)))), ((e 27), .inl (0, 12, .inl (nF ((tmSt D 1 (P.2.2.2.1 k) (M.1, uu M.2 24 (nCl (fun i => P.2.2.2.2 (k * 12 + i)) (M.2 24) (P.2.2.2.1 k)))).2 27)))), ((e 28), .inl (0, 360, .inl (nF ((tmSt D 1 (P.2.2.2.1 k) (M.1, uu M.2 24 (nCl (fun i => P.2.2.2.2 (k * 12 + i)) (M.2 24) (P.2.2.2.1 k)))).2 28)))), ((e 29), .inl (0, 12, .inl (nF ((tmSt D 1 (P.2.2.2.1 k) (M.1, uu M.2 24 (nCl (fun i => P.2.2.2.2 (k * 12 + i)) (M.2 24) (P.2.2.2.1 k)))).2 29)))), ((e 30), .inl (0, 12, .inl (nF ((tmSt D 1 (P.2.2.2.1 k) (M.1, uu M.2 24 (nCl (fun i => P.2.2.2.2 (k * 12 + i)) (M.2 24) (P.2.2.2.1 k)))).2 30)))), ((e 31), .inl (0, 30, .inl (nF ((tmSt D 1 (P.2.2.2.1 k) (M.1, uu M.2 24 (nCl (fun i => P.2.2.2.2 (k * 12 + i)) (M.2 24) (P.2.2.2.1 k)))).2 31)))), ((e 32), .inl (0, 12, .inl (nF ((tmSt D 1 (P.2.2.2.1 k) (M.1, uu M.2 24 (nCl (fun i => P.2.2.2.2 (k * 12 + i)) (M.2 24) (P.2.2.2.1 k)))).2 32)))), ((e 64), .inl (0, 64, .inl (S.1))), ((e 65), .inl (0, 64, .inl (S.2.2))), ((e 66), .inl (0, 64, .inl (S.2.1))), ((e 67), .inl (0, 64, .inl he)), ((e 85), .inl (0, 240, .inl nt))]) [5, 6, 7, 8, 9, 10, 11, 12, 13, 14, 15, 0, 1, 2, 3, 4] rfl (by decide) ?_
  refine zs_iload dX13_spend_157 rfl ?_
  refine zs_iconst (v := nI 2) dX13_spend_159 (by decide) ?_
  refine zs_icmp_ne (tgt := 169) dX13_spend_160 (by decide) (fun c_3 => ?_) (fun c_3 => (by first | exact absurd c_3 (by decide) | exact absurd (by decide) c_3 : False).elim)
  refine zs_iload dX13_spend_169 rfl ?_
  refine zs_iconst (v := nI 3) dX13_spend_171 (by decide) ?_
  refine zs_icmp_ne (tgt := 185) dX13_spend_172 (by decide) (fun c_4 => ?_) (fun c_4 => (by first | exact absurd c_4 (by decide) | exact absurd (by decide) c_4 : False).elim)
  refine zs_iload dX13_spend_185 rfl ?_
  refine zs_iconst (v := nI 4) dX13_spend_187 (by decide) ?_
  refine zs_icmp_ne (tgt := 205) dX13_spend_188 (by decide) (fun c_5 => ?_) (fun c_5 => (by first | exact absurd c_5 (by decide) | exact absurd (by decide) c_5 : False).elim)
  refine zs_lv [0, 1, 2, 3] rfl ?_
  exact hk2
set_option maxRecDepth 100000 in
theorem ment_1 {l : Launch} {dd : Nat} {Po : zPo} {K0 : zK} {h0 : List va_E} {Xo : zK → Prop} {Gc : zG → Prop} (mo : Nat) (e : Nat → Nat) (g : Nat → Int32) (w : Int64) (nw : Nat → Int32) (D : zYd) (P : zPl) (M : zRs) (S : zFs) (he nt : Nat → Int32) (am k mi : Nat) (hd : 3 ≤ dd) (hR : yR D nw) (hC : D.1 14 ≤ 8) (hRo : D.1 15 ≤ 8) (hD : yI D) (hP : mPl P nw) (hF : pFit D P) (hk : k < P.1) (hpk : P.2.2.1 k = 1) (hk2 : zS (l, mX13_spend, dd, Po, K0, h0, Xo, Gc) 0 0 205 [(0, .ref mo), (1, .int (nI am)), (2, .int (nI k)), (3, .int (nI mi))] [] [(mo, .inr (11, fMo e (mg (upd g 34 (nI 2)) ((tmSt D 2 (P.2.2.2.1 k) (M.1, uu M.2 24 (nCl (fun i => P.2.2.2.2 (k * 12 + i)) (M.2 24) (P.2.2.2.1 k)))).1)) w)), ((e 14), .inl (0, 800, .inl nw)), ((e 24), .inl (0, 12, .inl (nF ((tmSt D 2 (P.2.2.2.1 k) (M.1, uu M.2 24 (nCl (fun i => P.2.2.2.2 (k * 12 + i)) (M.2 24) (P.2.2.2.1 k)))).2 24)))), ((e 25), .inl (0, 12, .inl (nF ((tmSt D 2 (P.2.2.2.1 k) (M.1, uu M.2 24 (nCl (fun i => P.2.2.2.2 (k * 12 + i)) (M.2 24) (P.2.2.2.1 k)))).2 25)))), ((e 26), .inl (0, 12, .inl (nF ((tmSt D 2 (P.2.2.2.1 k) (M.1, uu M.2 24 (nCl (fun i => P.2.2.2.2 (k * 12 + i)) (M.2 24) (P.2.2.2.1 k)))).2 26)))), ((e 27), .inl (0, 12, .inl (nF ((tmSt D 2 (P.2.2.2.1 k) (M.1, uu M.2 24 (nCl (fun i => P.2.2.2.2 (k * 12 + i)) (M.2 24) (P.2.2.2.1 k)))).2 27)))), ((e 28), .inl (0, 360, .inl (nF ((tmSt D 2 (P.2.2.2.1 k) (M.1, uu M.2 24 (nCl (fun i => P.2.2.2.2 (k * 12 + i)) (M.2 24) (P.2.2.2.1 k)))).2 28)))), ((e 29), .inl (0, 12, .inl (nF ((tmSt D 2 (P.2.2.2.1 k) (M.1, uu M.2 24 (nCl (fun i => P.2.2.2.2 (k * 12 + i)) (M.2 24) (P.2.2.2.1 k)))).2 29)))), ((e 30), .inl (0, 12, .inl (nF ((tmSt D 2 (P.2.2.2.1 k) (M.1, uu M.2 24 (nCl (fun i => P.2.2.2.2 (k * 12 + i)) (M.2 24) (P.2.2.2.1 k)))).2 30)))), ((e 31), .inl (0, 30, .inl (nF ((tmSt D 2 (P.2.2.2.1 k) (M.1, uu M.2 24 (nCl (fun i => P.2.2.2.2 (k * 12 + i)) (M.2 24) (P.2.2.2.1 k)))).2 31)))), ((e 32), .inl (0, 12, .inl (nF ((tmSt D 2 (P.2.2.2.1 k) (M.1, uu M.2 24 (nCl (fun i => P.2.2.2.2 (k * 12 + i)) (M.2 24) (P.2.2.2.1 k)))).2 32)))), ((e 64), .inl (0, 64, .inl (S.1))), ((e 65), .inl (0, 64, .inl (S.2.2))), ((e 66), .inl (0, 64, .inl (S.2.1))), ((e 67), .inl (0, 64, .inl he)), ((e 85), .inl (0, 240, .inl nt))]) : zS (l, mX13_spend, dd, Po, K0, h0, Xo, Gc) 0 0 75 [(0, .ref mo), (1, .int (nI am)), (2, .int (nI k)), (3, .int (nI mi)), (4, .int (nI (210 + 16 * k)))] [] [(mo, .inr (11, fMo e (mg g M.1) w)), ((e 14), .inl (0, 800, .inl nw)), ((e 24), .inl (0, 12, .inl (nF (M.2 24)))), ((e 25), .inl (0, 12, .inl (nF (M.2 25)))), ((e 26), .inl (0, 12, .inl (nF (M.2 26)))), ((e 27), .inl (0, 12, .inl (nF (M.2 27)))), ((e 28), .inl (0, 360, .inl (nF (M.2 28)))), ((e 29), .inl (0, 12, .inl (nF (M.2 29)))), ((e 30), .inl (0, 12, .inl (nF (M.2 30)))), ((e 31), .inl (0, 30, .inl (nF (M.2 31)))), ((e 32), .inl (0, 12, .inl (nF (M.2 32)))), ((e 64), .inl (0, 64, .inl (S.1))), ((e 65), .inl (0, 64, .inl (S.2.2))), ((e 66), .inl (0, 64, .inl (S.2.1))), ((e 67), .inl (0, 64, .inl he)), ((e 85), .inl (0, 240, .inl nt))] := by
  have hth : P.1 ≤ 20 := hF.1.1
  have hq := hF.1.2 k hk
  have hn12 : P.2.2.2.1 k ≤ 12 := by have h0 := hq.2.2.2.1; have h1 := hq.2.2.2.2.1; omega
  refine zs_aload_n dX13_spend_75 rfl rfl ?_
  refine zs_get 0 dX13_spend_76 zf_RX13_13 rfl (v := .ref (e 14)) rfl ?_
  refine zs_iload dX13_spend_79 rfl ?_
  refine zs_iconst (v := nI 1) dX13_spend_81 (by decide) ?_
  refine zs_iadd dX13_spend_82 ?_
  refine zs_as (y := nI ((210 + 16 * k) + 1)) (nI_add _ _) ?_
  refine zs_iald 1 dX13_spend_83 rfl (vp_in_nI (by omega) (by omega)) ?_
  refine zs_as (y := nI 1) (by rw [nI_c (n := (210 + 16 * k) + 1) (by omega)]; exact (hP.2 k hk).2.1.trans (congrArg nI hpk)) ?_
  refine zs_istore (lv' := [(5, .int (nI 1)), (0, .ref mo), (1, .int (nI am)), (2, .int (nI k)), (3, .int (nI mi)), (4, .int (nI (210 + 16 * k)))]) dX13_spend_84 (Nat.le_of_ble_eq_true rfl) rfl ?_
  refine zs_iload dX13_spend_86 rfl ?_
  refine zs_iconst (v := nI 2) dX13_spend_88 (by decide) ?_
  refine zs_icmp_ge (tgt := 157) dX13_spend_89 (by decide) (fun c_1 => (by first | exact absurd c_1 (by decide) | exact absurd (by decide) c_1 : False).elim) (fun c_1 => ?_)
  refine zs_iconst (v := nI 0) dX13_spend_92 (by decide) ?_
  refine zs_istore (lv' := [(6, .int (nI 0)), (5, .int (nI 1)), (0, .ref mo), (1, .int (nI am)), (2, .int (nI k)), (3, .int (nI mi)), (4, .int (nI (210 + 16 * k)))]) dX13_spend_93 (Nat.le_of_ble_eq_true rfl) rfl ?_
  refine zs_eq (K' := [(mo, .inr (11, fMo e (mg g M.1) w)), ((e 14), .inl (0, 800, .inl nw)), ((e 24), .inl (0, 12, .inl (nF (nCl (fun i => P.2.2.2.2 (k * 12 + i)) (M.2 24) 0)))), ((e 25), .inl (0, 12, .inl (nF (M.2 25)))), ((e 26), .inl (0, 12, .inl (nF (M.2 26)))), ((e 27), .inl (0, 12, .inl (nF (M.2 27)))), ((e 28), .inl (0, 360, .inl (nF (M.2 28)))), ((e 29), .inl (0, 12, .inl (nF (M.2 29)))), ((e 30), .inl (0, 12, .inl (nF (M.2 30)))), ((e 31), .inl (0, 30, .inl (nF (M.2 31)))), ((e 32), .inl (0, 12, .inl (nF (M.2 32)))), ((e 64), .inl (0, 64, .inl (S.1))), ((e 65), .inl (0, 64, .inl (S.2.2))), ((e 66), .inl (0, 64, .inl (S.2.1))), ((e 67), .inl (0, 64, .inl he)), ((e 85), .inl (0, 240, .inl nt))]) (by rw [nCl_0]) ?_
  refine zs_lv [2, 3, 4, 5, 6, 1, 0] rfl ?_
  refine lp_mteam1 mo e g w nw D P M S he nt am k mi hd hR hC hRo hD hP hF hk hpk ?_ (P.2.2.2.1 k) 0 (Nat.zero_add _)
  refine zs_aload_n dX13_spend_134 rfl rfl ?_
  refine zs_iload dX13_spend_135 rfl ?_
  refine zs_if_ne (tgt := 144) dX13_spend_137 (by decide) (fun c_2 => ?_) (fun c_2 => (by first | exact absurd c_2 (by decide) | exact absurd (by decide) c_2 : False).elim)
  refine zs_iconst (v := nI 2) dX13_spend_144 (by decide) ?_
  refine zs_aload_n dX13_spend_145 rfl rfl ?_
  refine zs_get 0 dX13_spend_146 zf_RX13_13 rfl (v := .ref (e 14)) rfl ?_
  refine zs_iload dX13_spend_149 rfl ?_
  refine zs_iconst (v := nI 2) dX13_spend_151 (by decide) ?_
  refine zs_iadd dX13_spend_152 ?_
  refine zs_as (y := nI ((210 + 16 * k) + 2)) (nI_add _ _) ?_
  refine zs_iald 1 dX13_spend_153 rfl (vp_in_nI (by omega) (by omega)) ?_
  refine zs_as (y := nI (P.2.2.2.1 k)) (by rw [nI_c (n := (210 + 16 * k) + 2) (by omega)]; exact (hP.2 k hk).2.2.1 (by omega)) ?_
  refine zs_callV (M := mX13_start) (As := [.int (nI 2), .int (nI (P.2.2.2.1 k))]) (st := []) (Kc := [(mo, .inr (11, fMo e (mg g ((M.1, uu M.2 24 (nCl (fun i => P.2.2.2.2 (k * 12 + i)) (M.2 24) (P.2.2.2.1 k))).1)) w)), ((e 14), .inl (0, 800, .inl nw)), ((e 24), .inl (0, 12, .inl (nF ((M.1, uu M.2 24 (nCl (fun i => P.2.2.2.2 (k * 12 + i)) (M.2 24) (P.2.2.2.1 k))).2 24)))), ((e 25), .inl (0, 12, .inl (nF ((M.1, uu M.2 24 (nCl (fun i => P.2.2.2.2 (k * 12 + i)) (M.2 24) (P.2.2.2.1 k))).2 25)))), ((e 26), .inl (0, 12, .inl (nF ((M.1, uu M.2 24 (nCl (fun i => P.2.2.2.2 (k * 12 + i)) (M.2 24) (P.2.2.2.1 k))).2 26)))), ((e 27), .inl (0, 12, .inl (nF ((M.1, uu M.2 24 (nCl (fun i => P.2.2.2.2 (k * 12 + i)) (M.2 24) (P.2.2.2.1 k))).2 27)))), ((e 28), .inl (0, 360, .inl (nF ((M.1, uu M.2 24 (nCl (fun i => P.2.2.2.2 (k * 12 + i)) (M.2 24) (P.2.2.2.1 k))).2 28)))), ((e 29), .inl (0, 12, .inl (nF ((M.1, uu M.2 24 (nCl (fun i => P.2.2.2.2 (k * 12 + i)) (M.2 24) (P.2.2.2.1 k))).2 29)))), ((e 30), .inl (0, 12, .inl (nF ((M.1, uu M.2 24 (nCl (fun i => P.2.2.2.2 (k * 12 + i)) (M.2 24) (P.2.2.2.1 k))).2 30)))), ((e 31), .inl (0, 30, .inl (nF ((M.1, uu M.2 24 (nCl (fun i => P.2.2.2.2 (k * 12 + i)) (M.2 24) (P.2.2.2.1 k))).2 31)))), ((e 32), .inl (0, 12, .inl (nF ((M.1, uu M.2 24 (nCl (fun i => P.2.2.2.2 (k * 12 + i)) (M.2 24) (P.2.2.2.1 k))).2 32))))]) (Kr := [((e 64), .inl (0, 64, .inl (S.1))), ((e 65), .inl (0, 64, .inl (S.2.2))), ((e 66), .inl (0, 64, .inl (S.2.1))), ((e 67), .inl (0, 64, .inl he)), ((e 85), .inl (0, 240, .inl nt))]) [0, 1, 2, 3, 4, 5, 6, 7, 8, 9, 10] [11, 12, 13, 14, 15] 0 dX13_spend_154 zl_RX13_366 kX13_start rfl rfl rfl rfl rfl (by decide) rfl rfl (show dd - 1 + 1 ≤ dd by omega) (Nat.zero_le _) (Nat.zero_le _) (Nat.le_of_ble_eq_true rfl) (s_tStart l (dd - 1) mo e g w nw D (M.1, uu M.2 24 (nCl (fun i => P.2.2.2.2 (k * 12 + i)) (M.2 24) (P.2.2.2.1 k))) 2 (P.2.2.2.1 k) hR hD (by omega) (by omega)) (fun r K1 hr => ?_)
  obtain ⟨rfl, rfl⟩ := hr
  refine zs_K (K' := [(mo, .inr (11, fMo e (mg (upd g 34 (nI 2)) ((tmSt D 2 (P.2.2.2.1 k) (M.1, uu M.2 24 (nCl (fun i => P.2.2.2.2 (k * 12 + i)) (M.2 24) (P.2.2.2.1 k)))).1)) w)), ((e 14), .inl (0, 800, .inl nw)), ((e 24), .inl (0, 12, .inl (nF ((tmSt D 2 (P.2.2.2.1 k) (M.1, uu M.2 24 (nCl (fun i => P.2.2.2.2 (k * 12 + i)) (M.2 24) (P.2.2.2.1 k)))).2 24)))), ((e 25), .inl (0, 12, .inl (nF ((tmSt D 2 (P.2.2.2.1 k) (M.1, uu M.2 24 (nCl (fun i => P.2.2.2.2 (k * 12 + i)) (M.2 24) (P.2.2.2.1 k)))).2 25)))), ((e 26), .inl (0, 12, .inl (nF ((tmSt D 2 (P.2.2.2.1 k) (M.1, uu M.2 24 (nCl (fun i => P.2.2.2.2 (k * 12 + i)) (M.2 24) (P.2.2.2.1 k)))).2 26)))), ((e 27), .inl (0, 12, .inl (nF ((tmSt D 2 (P.2.2.2.1 k) (M.1, uu M.2 24 (nCl (fun i => P.2.2.2.2 (k * 12 + i)) (M.2 24) (P.2.2.2.1 k)))).2 27)))), ((e 28), .inl (0, 360, .inl (nF ((tmSt D 2 (P.2.2.2.1 k) (M.1, uu M.2 24 (nCl (fun i => P.2.2.2.2 (k * 12 + i)) (M.2 24) (P.2.2.2.1 k)))).2 28)))), ((e 29), .inl (0, 12, .inl (nF ((tmSt D 2 (P.2.2.2.1 k) (M.1, uu M.2 24 (nCl (fun i => P.2.2.2.2 (k * 12 + i)) (M.2 24) (P.2.2.2.1 k)))).2 29)))), ((e 30), .inl (0, 12, .inl (nF ((tmSt D 2 (P.2.2.2.1 k) (M.1, uu M.2 24 (nCl (fun i => P.2.2.2.2 (k * 12 + i)) (M.2 24) (P.2.2.2.1 k)))).2 30)))), ((e 31), .inl (0, 30, .inl (nF ((tmSt D 2 (P.2.2.2.1 k) (M.1, uu M.2 24 (nCl (fun i => P.2.2.2.2 (k * 12 + i)) (M.2 24) (P.2.2.2.1 k)))).2 31)))), ((e 32), .inl (0, 12, .inl (nF ((tmSt D 2 (P.2.2.2.1 k) (M.1, uu M.2 24 (nCl (fun i => P.2.2.2.2 (k * 12 + i)) (M.2 24) (P.2.2.2.1 k)))).2 32)))), ((e 64), .inl (0, 64, .inl (S.1))), ((e 65), .inl (0, 64, .inl (S.2.2))), ((e 66), .inl (0, 64, .inl (S.2.1))), ((e 67), .inl (0, 64, .inl he)), ((e 85), .inl (0, 240, .inl nt))]) [5, 6, 7, 8, 9, 10, 11, 12, 13, 14, 15, 0, 1, 2, 3, 4] rfl (by decide) ?_
  refine zs_iload dX13_spend_157 rfl ?_
  refine zs_iconst (v := nI 2) dX13_spend_159 (by decide) ?_
  refine zs_icmp_ne (tgt := 169) dX13_spend_160 (by decide) (fun c_3 => ?_) (fun c_3 => (by first | exact absurd c_3 (by decide) | exact absurd (by decide) c_3 : False).elim)
  refine zs_iload dX13_spend_169 rfl ?_
  refine zs_iconst (v := nI 3) dX13_spend_171 (by decide) ?_
  refine zs_icmp_ne (tgt := 185) dX13_spend_172 (by decide) (fun c_4 => ?_) (fun c_4 => (by first | exact absurd c_4 (by decide) | exact absurd (by decide) c_4 : False).elim)
  refine zs_iload dX13_spend_185 rfl ?_
  refine zs_iconst (v := nI 4) dX13_spend_187 (by decide) ?_
  refine zs_icmp_ne (tgt := 205) dX13_spend_188 (by decide) (fun c_5 => ?_) (fun c_5 => (by first | exact absurd c_5 (by decide) | exact absurd (by decide) c_5 : False).elim)
  refine zs_lv [0, 1, 2, 3] rfl ?_
  exact hk2
set_option maxRecDepth 100000 in
theorem ment_2 {l : Launch} {dd : Nat} {Po : zPo} {K0 : zK} {h0 : List va_E} {Xo : zK → Prop} {Gc : zG → Prop} (mo : Nat) (e : Nat → Nat) (g : Nat → Int32) (w : Int64) (nw : Nat → Int32) (D : zYd) (P : zPl) (M : zRs) (S : zFs) (he nt : Nat → Int32) (am k mi : Nat) (hd : 3 ≤ dd) (hR : yR D nw) (hC : D.1 14 ≤ 8) (hRo : D.1 15 ≤ 8) (hD : yI D) (hP : mPl P nw) (hF : pFit D P) (hk : k < P.1) (hpk : P.2.2.1 k = 2) (hk2 : zS (l, mX13_spend, dd, Po, K0, h0, Xo, Gc) 0 0 205 [(0, .ref mo), (1, .int (nI am)), (2, .int (nI k)), (3, .int (nI mi))] [] [(mo, .inr (11, fMo e (mg (upd g 34 (nI 0)) ((tmSt D 0 0 M).1)) w)), ((e 14), .inl (0, 800, .inl nw)), ((e 24), .inl (0, 12, .inl (nF ((tmSt D 0 0 M).2 24)))), ((e 25), .inl (0, 12, .inl (nF ((tmSt D 0 0 M).2 25)))), ((e 26), .inl (0, 12, .inl (nF ((tmSt D 0 0 M).2 26)))), ((e 27), .inl (0, 12, .inl (nF ((tmSt D 0 0 M).2 27)))), ((e 28), .inl (0, 360, .inl (nF ((tmSt D 0 0 M).2 28)))), ((e 29), .inl (0, 12, .inl (nF ((tmSt D 0 0 M).2 29)))), ((e 30), .inl (0, 12, .inl (nF ((tmSt D 0 0 M).2 30)))), ((e 31), .inl (0, 30, .inl (nF ((tmSt D 0 0 M).2 31)))), ((e 32), .inl (0, 12, .inl (nF ((tmSt D 0 0 M).2 32)))), ((e 64), .inl (0, 64, .inl (S.1))), ((e 65), .inl (0, 64, .inl (S.2.2))), ((e 66), .inl (0, 64, .inl (S.2.1))), ((e 67), .inl (0, 64, .inl he)), ((e 85), .inl (0, 240, .inl nt))]) : zS (l, mX13_spend, dd, Po, K0, h0, Xo, Gc) 0 0 75 [(0, .ref mo), (1, .int (nI am)), (2, .int (nI k)), (3, .int (nI mi)), (4, .int (nI (210 + 16 * k)))] [] [(mo, .inr (11, fMo e (mg g M.1) w)), ((e 14), .inl (0, 800, .inl nw)), ((e 24), .inl (0, 12, .inl (nF (M.2 24)))), ((e 25), .inl (0, 12, .inl (nF (M.2 25)))), ((e 26), .inl (0, 12, .inl (nF (M.2 26)))), ((e 27), .inl (0, 12, .inl (nF (M.2 27)))), ((e 28), .inl (0, 360, .inl (nF (M.2 28)))), ((e 29), .inl (0, 12, .inl (nF (M.2 29)))), ((e 30), .inl (0, 12, .inl (nF (M.2 30)))), ((e 31), .inl (0, 30, .inl (nF (M.2 31)))), ((e 32), .inl (0, 12, .inl (nF (M.2 32)))), ((e 64), .inl (0, 64, .inl (S.1))), ((e 65), .inl (0, 64, .inl (S.2.2))), ((e 66), .inl (0, 64, .inl (S.2.1))), ((e 67), .inl (0, 64, .inl he)), ((e 85), .inl (0, 240, .inl nt))] := by
  have hth : P.1 ≤ 20 := hF.1.1
  have hq := hF.1.2 k hk
  refine zs_aload_n dX13_spend_75 rfl rfl ?_
  refine zs_get 0 dX13_spend_76 zf_RX13_13 rfl (v := .ref (e 14)) rfl ?_
  refine zs_iload dX13_spend_79 rfl ?_
  refine zs_iconst (v := nI 1) dX13_spend_81 (by decide) ?_
  refine zs_iadd dX13_spend_82 ?_
  refine zs_as (y := nI ((210 + 16 * k) + 1)) (nI_add _ _) ?_
  refine zs_iald 1 dX13_spend_83 rfl (vp_in_nI (by omega) (by omega)) ?_
  refine zs_as (y := nI 2) (by rw [nI_c (n := (210 + 16 * k) + 1) (by omega)]; exact (hP.2 k hk).2.1.trans (congrArg nI hpk)) ?_
  refine zs_istore (lv' := [(5, .int (nI 2)), (0, .ref mo), (1, .int (nI am)), (2, .int (nI k)), (3, .int (nI mi)), (4, .int (nI (210 + 16 * k)))]) dX13_spend_84 (Nat.le_of_ble_eq_true rfl) rfl ?_
  refine zs_iload dX13_spend_86 rfl ?_
  refine zs_iconst (v := nI 2) dX13_spend_88 (by decide) ?_
  refine zs_icmp_ge (tgt := 157) dX13_spend_89 (by decide) (fun c_1 => ?_) (fun c_1 => (by first | exact absurd c_1 (by decide) | exact absurd (by decide) c_1 : False).elim)
  refine zs_iload dX13_spend_157 rfl ?_
  refine zs_iconst (v := nI 2) dX13_spend_159 (by decide) ?_
  refine zs_icmp_ne (tgt := 169) dX13_spend_160 (by decide) (fun c_2 => (by first | exact absurd c_2 (by decide) | exact absurd (by decide) c_2 : False).elim) (fun c_2 => ?_)
  refine zs_aload_n dX13_spend_163 rfl rfl ?_
  refine zs_iconst (v := nI 0) dX13_spend_164 (by decide) ?_
  refine zs_iconst (v := nI 0) dX13_spend_165 (by decide) ?_
  refine zs_callV (M := mX13_start) (As := [.int (nI 0), .int (nI 0)]) (st := []) (Kc := [(mo, .inr (11, fMo e (mg g M.1) w)), ((e 14), .inl (0, 800, .inl nw)), ((e 24), .inl (0, 12, .inl (nF (M.2 24)))), ((e 25), .inl (0, 12, .inl (nF (M.2 25)))), ((e 26), .inl (0, 12, .inl (nF (M.2 26)))), ((e 27), .inl (0, 12, .inl (nF (M.2 27)))), ((e 28), .inl (0, 360, .inl (nF (M.2 28)))), ((e 29), .inl (0, 12, .inl (nF (M.2 29)))), ((e 30), .inl (0, 12, .inl (nF (M.2 30)))), ((e 31), .inl (0, 30, .inl (nF (M.2 31)))), ((e 32), .inl (0, 12, .inl (nF (M.2 32))))]) (Kr := [((e 64), .inl (0, 64, .inl (S.1))), ((e 65), .inl (0, 64, .inl (S.2.2))), ((e 66), .inl (0, 64, .inl (S.2.1))), ((e 67), .inl (0, 64, .inl he)), ((e 85), .inl (0, 240, .inl nt))]) [0, 1, 2, 3, 4, 5, 6, 7, 8, 9, 10] [11, 12, 13, 14, 15] 0 dX13_spend_166 zl_RX13_366 kX13_start rfl rfl rfl rfl rfl (by decide) rfl rfl (show dd - 1 + 1 ≤ dd by omega) (Nat.zero_le _) (Nat.zero_le _) (Nat.le_of_ble_eq_true rfl) (s_tStart l (dd - 1) mo e g w nw D M 0 0 hR hD (by omega) (by omega)) (fun r K1 hr => ?_)
  obtain ⟨rfl, rfl⟩ := hr
  refine zs_K (K' := [(mo, .inr (11, fMo e (mg (upd g 34 (nI 0)) ((tmSt D 0 0 M).1)) w)), ((e 14), .inl (0, 800, .inl nw)), ((e 24), .inl (0, 12, .inl (nF ((tmSt D 0 0 M).2 24)))), ((e 25), .inl (0, 12, .inl (nF ((tmSt D 0 0 M).2 25)))), ((e 26), .inl (0, 12, .inl (nF ((tmSt D 0 0 M).2 26)))), ((e 27), .inl (0, 12, .inl (nF ((tmSt D 0 0 M).2 27)))), ((e 28), .inl (0, 360, .inl (nF ((tmSt D 0 0 M).2 28)))), ((e 29), .inl (0, 12, .inl (nF ((tmSt D 0 0 M).2 29)))), ((e 30), .inl (0, 12, .inl (nF ((tmSt D 0 0 M).2 30)))), ((e 31), .inl (0, 30, .inl (nF ((tmSt D 0 0 M).2 31)))), ((e 32), .inl (0, 12, .inl (nF ((tmSt D 0 0 M).2 32)))), ((e 64), .inl (0, 64, .inl (S.1))), ((e 65), .inl (0, 64, .inl (S.2.2))), ((e 66), .inl (0, 64, .inl (S.2.1))), ((e 67), .inl (0, 64, .inl he)), ((e 85), .inl (0, 240, .inl nt))]) [5, 6, 7, 8, 9, 10, 11, 12, 13, 14, 15, 0, 1, 2, 3, 4] rfl (by decide) ?_
  refine zs_iload dX13_spend_169 rfl ?_
  refine zs_iconst (v := nI 3) dX13_spend_171 (by decide) ?_
  refine zs_icmp_ne (tgt := 185) dX13_spend_172 (by decide) (fun c_3 => ?_) (fun c_3 => (by first | exact absurd c_3 (by decide) | exact absurd (by decide) c_3 : False).elim)
  refine zs_iload dX13_spend_185 rfl ?_
  refine zs_iconst (v := nI 4) dX13_spend_187 (by decide) ?_
  refine zs_icmp_ne (tgt := 205) dX13_spend_188 (by decide) (fun c_4 => ?_) (fun c_4 => (by first | exact absurd c_4 (by decide) | exact absurd (by decide) c_4 : False).elim)
  refine zs_lv [1, 2, 3, 4] rfl ?_
  exact hk2
set_option maxRecDepth 100000 in
theorem ment_3 {l : Launch} {dd : Nat} {Po : zPo} {K0 : zK} {h0 : List va_E} {Xo : zK → Prop} {Gc : zG → Prop} (mo : Nat) (e : Nat → Nat) (g : Nat → Int32) (w : Int64) (nw : Nat → Int32) (D : zYd) (P : zPl) (M : zRs) (S : zFs) (he nt : Nat → Int32) (am k mi : Nat) (hd : 3 ≤ dd) (hR : yR D nw) (hC : D.1 14 ≤ 8) (hRo : D.1 15 ≤ 8) (hD : yI D) (hP : mPl P nw) (hF : pFit D P) (hk : k < P.1) (hpk : P.2.2.1 k = 3) (hk2 : zS (l, mX13_spend, dd, Po, K0, h0, Xo, Gc) 0 0 205 [(0, .ref mo), (1, .int (nI (P.2.2.2.1 k))), (2, .int (nI k)), (3, .int (nI mi))] [] [(mo, .inr (11, fMo e (mg g M.1) w)), ((e 14), .inl (0, 800, .inl nw)), ((e 24), .inl (0, 12, .inl (nF (M.2 24)))), ((e 25), .inl (0, 12, .inl (nF (M.2 25)))), ((e 26), .inl (0, 12, .inl (nF (M.2 26)))), ((e 27), .inl (0, 12, .inl (nF (M.2 27)))), ((e 28), .inl (0, 360, .inl (nF (M.2 28)))), ((e 29), .inl (0, 12, .inl (nF (M.2 29)))), ((e 30), .inl (0, 12, .inl (nF (M.2 30)))), ((e 31), .inl (0, 30, .inl (nF (M.2 31)))), ((e 32), .inl (0, 12, .inl (nF (M.2 32)))), ((e 64), .inl (0, 64, .inl (S.1))), ((e 65), .inl (0, 64, .inl (S.2.2))), ((e 66), .inl (0, 64, .inl (S.2.1))), ((e 67), .inl (0, 64, .inl he)), ((e 85), .inl (0, 240, .inl nt))]) : zS (l, mX13_spend, dd, Po, K0, h0, Xo, Gc) 0 0 75 [(0, .ref mo), (1, .int (nI am)), (2, .int (nI k)), (3, .int (nI mi)), (4, .int (nI (210 + 16 * k)))] [] [(mo, .inr (11, fMo e (mg g M.1) w)), ((e 14), .inl (0, 800, .inl nw)), ((e 24), .inl (0, 12, .inl (nF (M.2 24)))), ((e 25), .inl (0, 12, .inl (nF (M.2 25)))), ((e 26), .inl (0, 12, .inl (nF (M.2 26)))), ((e 27), .inl (0, 12, .inl (nF (M.2 27)))), ((e 28), .inl (0, 360, .inl (nF (M.2 28)))), ((e 29), .inl (0, 12, .inl (nF (M.2 29)))), ((e 30), .inl (0, 12, .inl (nF (M.2 30)))), ((e 31), .inl (0, 30, .inl (nF (M.2 31)))), ((e 32), .inl (0, 12, .inl (nF (M.2 32)))), ((e 64), .inl (0, 64, .inl (S.1))), ((e 65), .inl (0, 64, .inl (S.2.2))), ((e 66), .inl (0, 64, .inl (S.2.1))), ((e 67), .inl (0, 64, .inl he)), ((e 85), .inl (0, 240, .inl nt))] := by
  have hth : P.1 ≤ 20 := hF.1.1
  have hq := hF.1.2 k hk
  refine zs_aload_n dX13_spend_75 rfl rfl ?_
  refine zs_get 0 dX13_spend_76 zf_RX13_13 rfl (v := .ref (e 14)) rfl ?_
  refine zs_iload dX13_spend_79 rfl ?_
  refine zs_iconst (v := nI 1) dX13_spend_81 (by decide) ?_
  refine zs_iadd dX13_spend_82 ?_
  refine zs_as (y := nI ((210 + 16 * k) + 1)) (nI_add _ _) ?_
  refine zs_iald 1 dX13_spend_83 rfl (vp_in_nI (by omega) (by omega)) ?_
  refine zs_as (y := nI 3) (by rw [nI_c (n := (210 + 16 * k) + 1) (by omega)]; exact (hP.2 k hk).2.1.trans (congrArg nI hpk)) ?_
  refine zs_istore (lv' := [(5, .int (nI 3)), (0, .ref mo), (1, .int (nI am)), (2, .int (nI k)), (3, .int (nI mi)), (4, .int (nI (210 + 16 * k)))]) dX13_spend_84 (Nat.le_of_ble_eq_true rfl) rfl ?_
  refine zs_iload dX13_spend_86 rfl ?_
  refine zs_iconst (v := nI 2) dX13_spend_88 (by decide) ?_
  refine zs_icmp_ge (tgt := 157) dX13_spend_89 (by decide) (fun c_1 => ?_) (fun c_1 => (by first | exact absurd c_1 (by decide) | exact absurd (by decide) c_1 : False).elim)
  refine zs_iload dX13_spend_157 rfl ?_
  refine zs_iconst (v := nI 2) dX13_spend_159 (by decide) ?_
  refine zs_icmp_ne (tgt := 169) dX13_spend_160 (by decide) (fun c_2 => ?_) (fun c_2 => (by first | exact absurd c_2 (by decide) | exact absurd (by decide) c_2 : False).elim)
  refine zs_iload dX13_spend_169 rfl ?_
  refine zs_iconst (v := nI 3) dX13_spend_171 (by decide) ?_
  refine zs_icmp_ne (tgt := 185) dX13_spend_172 (by decide) (fun c_3 => (by first | exact absurd c_3 (by decide) | exact absurd (by decide) c_3 : False).elim) (fun c_3 => ?_)
  refine zs_aload_n dX13_spend_175 rfl rfl ?_
  refine zs_get 0 dX13_spend_176 zf_RX13_13 rfl (v := .ref (e 14)) rfl ?_
  refine zs_iload dX13_spend_179 rfl ?_
  refine zs_iconst (v := nI 2) dX13_spend_181 (by decide) ?_
  refine zs_iadd dX13_spend_182 ?_
  refine zs_as (y := nI ((210 + 16 * k) + 2)) (nI_add _ _) ?_
  refine zs_iald 1 dX13_spend_183 rfl (vp_in_nI (by omega) (by omega)) ?_
  refine zs_as (y := nI (P.2.2.2.1 k)) (by rw [nI_c (n := (210 + 16 * k) + 2) (by omega)]; exact (hP.2 k hk).2.2.1 (by omega)) ?_
  refine zs_istore_n (lv' := [(1, .int (nI (P.2.2.2.1 k))), (5, .int (nI 3)), (0, .ref mo), (2, .int (nI k)), (3, .int (nI mi)), (4, .int (nI (210 + 16 * k)))]) dX13_spend_184 (Nat.le_of_ble_eq_true rfl) rfl ?_
  refine zs_iload dX13_spend_185 rfl ?_
  refine zs_iconst (v := nI 4) dX13_spend_187 (by decide) ?_
  refine zs_icmp_ne (tgt := 205) dX13_spend_188 (by decide) (fun c_4 => ?_) (fun c_4 => (by first | exact absurd c_4 (by decide) | exact absurd (by decide) c_4 : False).elim)
  refine zs_lv [2, 0, 3, 4] rfl ?_
  exact hk2
set_option maxRecDepth 100000 in
theorem ment_4 {l : Launch} {dd : Nat} {Po : zPo} {K0 : zK} {h0 : List va_E} {Xo : zK → Prop} {Gc : zG → Prop} (mo : Nat) (e : Nat → Nat) (g : Nat → Int32) (w : Int64) (nw : Nat → Int32) (D : zYd) (P : zPl) (M : zRs) (S : zFs) (he nt : Nat → Int32) (am k mi : Nat) (hd : 3 ≤ dd) (hR : yR D nw) (hC : D.1 14 ≤ 8) (hRo : D.1 15 ≤ 8) (hD : yI D) (hP : mPl P nw) (hF : pFit D P) (hk : k < P.1) (hpk : P.2.2.1 k = 4) (hk2 : zS (l, mX13_spend, dd, Po, K0, h0, Xo, Gc) 0 0 205 [(0, .ref mo), (1, .int (nI am)), (2, .int (nI k)), (3, .int (nI mi))] [] [(mo, .inr (11, fMo e (mg g M.1) w)), ((e 14), .inl (0, 800, .inl nw)), ((e 24), .inl (0, 12, .inl (nF (M.2 24)))), ((e 25), .inl (0, 12, .inl (nF (M.2 25)))), ((e 26), .inl (0, 12, .inl (nF (M.2 26)))), ((e 27), .inl (0, 12, .inl (nF (M.2 27)))), ((e 28), .inl (0, 360, .inl (nF (M.2 28)))), ((e 29), .inl (0, 12, .inl (nF (M.2 29)))), ((e 30), .inl (0, 12, .inl (nF (M.2 30)))), ((e 31), .inl (0, 30, .inl (nF (M.2 31)))), ((e 32), .inl (0, 12, .inl (nF (M.2 32)))), ((e 64), .inl (0, 64, .inl ((gF (D.1 14) (P.2.2.2.1 k) S.1 (D.1 15), S.2.1, gF (D.1 14) (P.2.2.2.1 k) S.2.2 (D.1 15)).1))), ((e 65), .inl (0, 64, .inl ((gF (D.1 14) (P.2.2.2.1 k) S.1 (D.1 15), S.2.1, gF (D.1 14) (P.2.2.2.1 k) S.2.2 (D.1 15)).2.2))), ((e 66), .inl (0, 64, .inl ((gF (D.1 14) (P.2.2.2.1 k) S.1 (D.1 15), S.2.1, gF (D.1 14) (P.2.2.2.1 k) S.2.2 (D.1 15)).2.1))), ((e 67), .inl (0, 64, .inl he)), ((e 85), .inl (0, 240, .inl nt))]) : zS (l, mX13_spend, dd, Po, K0, h0, Xo, Gc) 0 0 75 [(0, .ref mo), (1, .int (nI am)), (2, .int (nI k)), (3, .int (nI mi)), (4, .int (nI (210 + 16 * k)))] [] [(mo, .inr (11, fMo e (mg g M.1) w)), ((e 14), .inl (0, 800, .inl nw)), ((e 24), .inl (0, 12, .inl (nF (M.2 24)))), ((e 25), .inl (0, 12, .inl (nF (M.2 25)))), ((e 26), .inl (0, 12, .inl (nF (M.2 26)))), ((e 27), .inl (0, 12, .inl (nF (M.2 27)))), ((e 28), .inl (0, 360, .inl (nF (M.2 28)))), ((e 29), .inl (0, 12, .inl (nF (M.2 29)))), ((e 30), .inl (0, 12, .inl (nF (M.2 30)))), ((e 31), .inl (0, 30, .inl (nF (M.2 31)))), ((e 32), .inl (0, 12, .inl (nF (M.2 32)))), ((e 64), .inl (0, 64, .inl (S.1))), ((e 65), .inl (0, 64, .inl (S.2.2))), ((e 66), .inl (0, 64, .inl (S.2.1))), ((e 67), .inl (0, 64, .inl he)), ((e 85), .inl (0, 240, .inl nt))] := by
  have hth : P.1 ≤ 20 := hF.1.1
  have hq := hF.1.2 k hk
  refine zs_aload_n dX13_spend_75 rfl rfl ?_
  refine zs_get 0 dX13_spend_76 zf_RX13_13 rfl (v := .ref (e 14)) rfl ?_
  refine zs_iload dX13_spend_79 rfl ?_
  refine zs_iconst (v := nI 1) dX13_spend_81 (by decide) ?_
  refine zs_iadd dX13_spend_82 ?_
  refine zs_as (y := nI ((210 + 16 * k) + 1)) (nI_add _ _) ?_
  refine zs_iald 1 dX13_spend_83 rfl (vp_in_nI (by omega) (by omega)) ?_
  refine zs_as (y := nI 4) (by rw [nI_c (n := (210 + 16 * k) + 1) (by omega)]; exact (hP.2 k hk).2.1.trans (congrArg nI hpk)) ?_
  refine zs_istore (lv' := [(5, .int (nI 4)), (0, .ref mo), (1, .int (nI am)), (2, .int (nI k)), (3, .int (nI mi)), (4, .int (nI (210 + 16 * k)))]) dX13_spend_84 (Nat.le_of_ble_eq_true rfl) rfl ?_
  refine zs_iload dX13_spend_86 rfl ?_
  refine zs_iconst (v := nI 2) dX13_spend_88 (by decide) ?_
  refine zs_icmp_ge (tgt := 157) dX13_spend_89 (by decide) (fun c_1 => ?_) (fun c_1 => (by first | exact absurd c_1 (by decide) | exact absurd (by decide) c_1 : False).elim)
  refine zs_iload dX13_spend_157 rfl ?_
  refine zs_iconst (v := nI 2) dX13_spend_159 (by decide) ?_
  refine zs_icmp_ne (tgt := 169) dX13_spend_160 (by decide) (fun c_2 => ?_) (fun c_2 => (by first | exact absurd c_2 (by decide) | exact absurd (by decide) c_2 : False).elim)
  refine zs_iload dX13_spend_169 rfl ?_
  refine zs_iconst (v := nI 3) dX13_spend_171 (by decide) ?_
  refine zs_icmp_ne (tgt := 185) dX13_spend_172 (by decide) (fun c_3 => ?_) (fun c_3 => (by first | exact absurd c_3 (by decide) | exact absurd (by decide) c_3 : False).elim)
  refine zs_iload dX13_spend_185 rfl ?_
  refine zs_iconst (v := nI 4) dX13_spend_187 (by decide) ?_
  refine zs_icmp_ne (tgt := 205) dX13_spend_188 (by decide) (fun c_4 => (by first | exact absurd c_4 (by decide) | exact absurd (by decide) c_4 : False).elim) (fun c_4 => ?_)
  refine zs_aload_n dX13_spend_191 rfl rfl ?_
  refine zs_aload_n dX13_spend_192 rfl rfl ?_
  refine zs_get 0 dX13_spend_193 zf_RX13_13 rfl (v := .ref (e 14)) rfl ?_
  refine zs_iload dX13_spend_196 rfl ?_
  refine zs_iconst (v := nI 2) dX13_spend_198 (by decide) ?_
  refine zs_iadd dX13_spend_199 ?_
  refine zs_as (y := nI ((210 + 16 * k) + 2)) (nI_add _ _) ?_
  refine zs_iald 1 dX13_spend_200 rfl (vp_in_nI (by omega) (by omega)) ?_
  refine zs_as (y := nI (P.2.2.2.1 k)) (by rw [nI_c (n := (210 + 16 * k) + 2) (by omega)]; exact (hP.2 k hk).2.2.1 (by omega)) ?_
  refine zs_callV (M := mX13_givesUp) (As := [.int (nI (P.2.2.2.1 k))]) (st := []) (Kc := [(mo, .inr (11, fMo e (mg g M.1) w)), ((e 14), .inl (0, 800, .inl nw)), ((e 64), .inl (0, 64, .inl (S.1))), ((e 65), .inl (0, 64, .inl (S.2.2)))]) (Kr := [((e 24), .inl (0, 12, .inl (nF (M.2 24)))), ((e 25), .inl (0, 12, .inl (nF (M.2 25)))), ((e 26), .inl (0, 12, .inl (nF (M.2 26)))), ((e 27), .inl (0, 12, .inl (nF (M.2 27)))), ((e 28), .inl (0, 360, .inl (nF (M.2 28)))), ((e 29), .inl (0, 12, .inl (nF (M.2 29)))), ((e 30), .inl (0, 12, .inl (nF (M.2 30)))), ((e 31), .inl (0, 30, .inl (nF (M.2 31)))), ((e 32), .inl (0, 12, .inl (nF (M.2 32)))), ((e 66), .inl (0, 64, .inl (S.2.1))), ((e 67), .inl (0, 64, .inl he)), ((e 85), .inl (0, 240, .inl nt))]) [0, 1, 11, 12] [2, 3, 4, 5, 6, 7, 8, 9, 10, 13, 14, 15] 0 dX13_spend_201 zl_RX13_485 kX13_givesUp rfl rfl rfl rfl rfl (by decide) rfl rfl (show dd - 1 + 1 ≤ dd by omega) (Nat.zero_le _) (Nat.zero_le _) (Nat.le_of_ble_eq_true rfl) (s_mGivesUp l (dd - 1) mo e (mg g M.1) w nw D (S.1) (S.2.2) (P.2.2.2.1 k) (by omega) hR hC hRo (hq.2.2.2.2.2.2 hpk)) (fun r K1 hr => ?_)
  obtain ⟨rfl, rfl⟩ := hr
  refine zs_K (K' := [(mo, .inr (11, fMo e (mg g M.1) w)), ((e 14), .inl (0, 800, .inl nw)), ((e 24), .inl (0, 12, .inl (nF (M.2 24)))), ((e 25), .inl (0, 12, .inl (nF (M.2 25)))), ((e 26), .inl (0, 12, .inl (nF (M.2 26)))), ((e 27), .inl (0, 12, .inl (nF (M.2 27)))), ((e 28), .inl (0, 360, .inl (nF (M.2 28)))), ((e 29), .inl (0, 12, .inl (nF (M.2 29)))), ((e 30), .inl (0, 12, .inl (nF (M.2 30)))), ((e 31), .inl (0, 30, .inl (nF (M.2 31)))), ((e 32), .inl (0, 12, .inl (nF (M.2 32)))), ((e 64), .inl (0, 64, .inl ((gF (D.1 14) (P.2.2.2.1 k) S.1 (D.1 15), S.2.1, gF (D.1 14) (P.2.2.2.1 k) S.2.2 (D.1 15)).1))), ((e 65), .inl (0, 64, .inl ((gF (D.1 14) (P.2.2.2.1 k) S.1 (D.1 15), S.2.1, gF (D.1 14) (P.2.2.2.1 k) S.2.2 (D.1 15)).2.2))), ((e 66), .inl (0, 64, .inl (S.2.1))), ((e 67), .inl (0, 64, .inl he)), ((e 85), .inl (0, 240, .inl nt))]) [12, 13, 0, 1, 2, 3, 4, 5, 6, 7, 8, 14, 15, 9, 10, 11] rfl (by decide) ?_
  refine zs_pop dX13_spend_204 rfl ?_
  refine zs_lv [1, 2, 3, 4] rfl ?_
  exact hk2
