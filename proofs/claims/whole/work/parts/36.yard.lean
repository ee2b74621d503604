/-! ===== a yard's text: a line, the whole; a yard cleared, made, copied ===== -/
theorem pBd_y {R : zPy} {f : zTk → Nat → zYd → zPy} (h : R.1 = 0) : pBd R f = f R.2.1 R.2.2.1 R.2.2.2 := if_pos h
theorem pBd_n {R : zPy} {f : zTk → Nat → zYd → zPy} (h : ¬ R.1 = 0) : pBd R f = R := if_neg h
theorem pLine_n {b : Nat → Nat} {n L : Nat} {τ : zTk} {tk : Nat} {D : zYd} (h : τ.2.2.2.2 = none) : pLine b n L τ tk D = (1, τ, tk, D) := by
  unfold pLine
  rw [h]
theorem pLine_s {b : Nat → Nat} {n L : Nat} {τ : zTk} {tk : Nat} {D : zYd} {i : Nat} (h : τ.2.2.2.2 = some i) : pLine b n L τ tk D =
    if zSwN.getD i 0 = 1 then pMan b n L τ tk D else if zSwN.getD i 0 = 2 then pCells b n L τ tk D else if zSwN.getD i 0 = 3 then pBurn b n L τ tk D else
    if zSwN.getD i 0 = 4 then pBd (pOnce b n L 1 τ tk D) (pWi b n L) else
    if zSwN.getD i 0 = 5 then pBd (pOnce b n L 2 τ tk D) (pPails b n L) else
    if zSwN.getD i 0 = 6 then pBd (pOnce b n L 4 τ tk D) (pWell b n L) else
    if zSwN.getD i 0 = 7 then pOne b n L 8 10 99 5 τ tk D else if zSwN.getD i 0 = 8 then pOne b n L 16 0 99 10 τ tk D else
    if zSwN.getD i 0 = 9 then pOne b n L 32 1 99 11 τ tk D else if zSwN.getD i 0 = 10 then pOne b n L 64 1 9 12 τ tk D else (1, τ, tk, D) := by
  unfold pLine
  rw [h]
theorem dX11_readLine_0 : decode cX11_readLine 0 = .ok (.aload_n 1, 1) := by decide +kernel
theorem dX11_readLine_1 : decode cX11_readLine 1 = .ok (.getfield 97, 3) := by decide +kernel
theorem dX11_readLine_4 : decode cX11_readLine 4 = .ok (.astore_n 2, 1) := by decide +kernel
theorem dX11_readLine_5 : decode cX11_readLine 5 = .ok (.aload_n 2, 1) := by decide +kernel
theorem dX11_readLine_6 : decode cX11_readLine 6 = .ok (.ifnonnull 9, 3) := by decide +kernel
theorem dX11_readLine_9 : decode cX11_readLine 9 = .ok (.aload_n 1, 1) := by decide +kernel
theorem dX11_readLine_10 : decode cX11_readLine 10 = .ok (.iconst 1, 1) := by decide +kernel
theorem dX11_readLine_11 : decode cX11_readLine 11 = .ok (.invokevirtual 101, 3) := by decide +kernel
theorem dX11_readLine_14 : decode cX11_readLine 14 = .ok (.ireturn, 1) := by decide +kernel
theorem dX11_readLine_15 : decode cX11_readLine 15 = .ok (.getstatic 104, 3) := by decide +kernel
theorem dX11_readLine_18 : decode cX11_readLine 18 = .ok (.aload_n 2, 1) := by decide +kernel
theorem dX11_readLine_19 : decode cX11_readLine 19 = .ok (.invokevirtual 109, 3) := by decide +kernel
theorem dX11_readLine_22 : decode cX11_readLine 22 = .ok (.iaload, 1) := by decide +kernel
theorem dX11_readLine_23 : decode cX11_readLine 23 = .ok (.tableswitch 269 1 10 #[53, 59, 65, 71, 94, 117, 140, 173, 205, 237], 53) := by decide +kernel
theorem dX11_readLine_76 : decode cX11_readLine 76 = .ok (.aload_n 0, 1) := by decide +kernel
theorem dX11_readLine_77 : decode cX11_readLine 77 = .ok (.aload_n 1, 1) := by decide +kernel
theorem dX11_readLine_78 : decode cX11_readLine 78 = .ok (.invokevirtual 115, 3) := by decide +kernel
theorem dX11_readLine_81 : decode cX11_readLine 81 = .ok (.ireturn, 1) := by decide +kernel
theorem dX11_readLine_82 : decode cX11_readLine 82 = .ok (.aload_n 0, 1) := by decide +kernel
theorem dX11_readLine_83 : decode cX11_readLine 83 = .ok (.aload_n 1, 1) := by decide +kernel
theorem dX11_readLine_84 : decode cX11_readLine 84 = .ok (.invokevirtual 118, 3) := by decide +kernel
theorem dX11_readLine_87 : decode cX11_readLine 87 = .ok (.ireturn, 1) := by decide +kernel
theorem dX11_readLine_88 : decode cX11_readLine 88 = .ok (.aload_n 0, 1) := by decide +kernel
theorem dX11_readLine_89 : decode cX11_readLine 89 = .ok (.aload_n 1, 1) := by decide +kernel
theorem dX11_readLine_90 : decode cX11_readLine 90 = .ok (.invokevirtual 121, 3) := by decide +kernel
theorem dX11_readLine_93 : decode cX11_readLine 93 = .ok (.ireturn, 1) := by decide +kernel
theorem dX11_readLine_94 : decode cX11_readLine 94 = .ok (.aload_n 0, 1) := by decide +kernel
theorem dX11_readLine_95 : decode cX11_readLine 95 = .ok (.aload_n 1, 1) := by decide +kernel
theorem dX11_readLine_96 : decode cX11_readLine 96 = .ok (.iconst 1, 1) := by decide +kernel
theorem dX11_readLine_97 : decode cX11_readLine 97 = .ok (.invokevirtual 124, 3) := by decide +kernel
theorem dX11_readLine_100 : decode cX11_readLine 100 = .ok (.ifCond .eq 15, 3) := by decide +kernel
theorem dX11_readLine_103 : decode cX11_readLine 103 = .ok (.aload_n 0, 1) := by decide +kernel
theorem dX11_readLine_104 : decode cX11_readLine 104 = .ok (.aload_n 1, 1) := by decide +kernel
theorem dX11_readLine_105 : decode cX11_readLine 105 = .ok (.invokevirtual 128, 3) := by decide +kernel
theorem dX11_readLine_108 : decode cX11_readLine 108 = .ok (.ifCond .eq 7, 3) := by decide +kernel
theorem dX11_readLine_111 : decode cX11_readLine 111 = .ok (.iconst 1, 1) := by decide +kernel
theorem dX11_readLine_112 : decode cX11_readLine 112 = .ok (.goto 4, 3) := by decide +kernel
theorem dX11_readLine_115 : decode cX11_readLine 115 = .ok (.iconst 0, 1) := by decide +kernel
theorem dX11_readLine_116 : decode cX11_readLine 116 = .ok (.ireturn, 1) := by decide +kernel
theorem dX11_readLine_117 : decode cX11_readLine 117 = .ok (.aload_n 0, 1) := by decide +kernel
theorem dX11_readLine_118 : decode cX11_readLine 118 = .ok (.aload_n 1, 1) := by decide +kernel
theorem dX11_readLine_119 : decode cX11_readLine 119 = .ok (.iconst 2, 1) := by decide +kernel
theorem dX11_readLine_120 : decode cX11_readLine 120 = .ok (.invokevirtual 124, 3) := by decide +kernel
theorem dX11_readLine_123 : decode cX11_readLine 123 = .ok (.ifCond .eq 15, 3) := by decide +kernel
theorem dX11_readLine_126 : decode cX11_readLine 126 = .ok (.aload_n 0, 1) := by decide +kernel
theorem dX11_readLine_127 : decode cX11_readLine 127 = .ok (.aload_n 1, 1) := by decide +kernel
theorem dX11_readLine_128 : decode cX11_readLine 128 = .ok (.invokevirtual 131, 3) := by decide +kernel
theorem dX11_readLine_131 : decode cX11_readLine 131 = .ok (.ifCond .eq 7, 3) := by decide +kernel
theorem dX11_readLine_134 : decode cX11_readLine 134 = .ok (.iconst 1, 1) := by decide +kernel
theorem dX11_readLine_135 : decode cX11_readLine 135 = .ok (.goto 4, 3) := by decide +kernel
theorem dX11_readLine_138 : decode cX11_readLine 138 = .ok (.iconst 0, 1) := by decide +kernel
theorem dX11_readLine_139 : decode cX11_readLine 139 = .ok (.ireturn, 1) := by decide +kernel
theorem dX11_readLine_140 : decode cX11_readLine 140 = .ok (.aload_n 0, 1) := by decide +kernel
theorem dX11_readLine_141 : decode cX11_readLine 141 = .ok (.aload_n 1, 1) := by decide +kernel
theorem dX11_readLine_142 : decode cX11_readLine 142 = .ok (.iconst 4, 1) := by decide +kernel
theorem dX11_readLine_143 : decode cX11_readLine 143 = .ok (.invokevirtual 124, 3) := by decide +kernel
theorem dX11_readLine_146 : decode cX11_readLine 146 = .ok (.ifCond .eq 15, 3) := by decide +kernel
theorem dX11_readLine_149 : decode cX11_readLine 149 = .ok (.aload_n 0, 1) := by decide +kernel
theorem dX11_readLine_150 : decode cX11_readLine 150 = .ok (.aload_n 1, 1) := by decide +kernel
theorem dX11_readLine_151 : decode cX11_readLine 151 = .ok (.invokevirtual 134, 3) := by decide +kernel
theorem dX11_readLine_154 : decode cX11_readLine 154 = .ok (.ifCond .eq 7, 3) := by decide +kernel
theorem dX11_readLine_157 : decode cX11_readLine 157 = .ok (.iconst 1, 1) := by decide +kernel
theorem dX11_readLine_158 : decode cX11_readLine 158 = .ok (.goto 4, 3) := by decide +kernel
theorem dX11_readLine_161 : decode cX11_readLine 161 = .ok (.iconst 0, 1) := by decide +kernel
theorem dX11_readLine_162 : decode cX11_readLine 162 = .ok (.ireturn, 1) := by decide +kernel
theorem dX11_readLine_163 : decode cX11_readLine 163 = .ok (.aload_n 0, 1) := by decide +kernel
theorem dX11_readLine_164 : decode cX11_readLine 164 = .ok (.aload_n 1, 1) := by decide +kernel
theorem dX11_readLine_165 : decode cX11_readLine 165 = .ok (.bipush 8, 2) := by decide +kernel
theorem dX11_readLine_167 : decode cX11_readLine 167 = .ok (.invokevirtual 124, 3) := by decide +kernel
theorem dX11_readLine_170 : decode cX11_readLine 170 = .ok (.ifCond .eq 14, 3) := by decide +kernel
theorem dX11_readLine_173 : decode cX11_readLine 173 = .ok (.aload_n 1, 1) := by decide +kernel
theorem dX11_readLine_174 : decode cX11_readLine 174 = .ok (.bipush 10, 2) := by decide +kernel
theorem dX11_readLine_176 : decode cX11_readLine 176 = .ok (.bipush 99, 2) := by decide +kernel
theorem dX11_readLine_178 : decode cX11_readLine 178 = .ok (.invokevirtual 137, 3) := by decide +kernel
theorem dX11_readLine_181 : decode cX11_readLine 181 = .ok (.ifCond .ne 5, 3) := by decide +kernel
theorem dX11_readLine_184 : decode cX11_readLine 184 = .ok (.iconst 0, 1) := by decide +kernel
theorem dX11_readLine_185 : decode cX11_readLine 185 = .ok (.ireturn, 1) := by decide +kernel
theorem dX11_readLine_186 : decode cX11_readLine 186 = .ok (.aload_n 0, 1) := by decide +kernel
theorem dX11_readLine_187 : decode cX11_readLine 187 = .ok (.aload_n 1, 1) := by decide +kernel
theorem dX11_readLine_188 : decode cX11_readLine 188 = .ok (.getfield 141, 3) := by decide +kernel
theorem dX11_readLine_191 : decode cX11_readLine 191 = .ok (.putfield 38, 3) := by decide +kernel
theorem dX11_readLine_194 : decode cX11_readLine 194 = .ok (.iconst 1, 1) := by decide +kernel
theorem dX11_readLine_195 : decode cX11_readLine 195 = .ok (.ireturn, 1) := by decide +kernel
theorem dX11_readLine_196 : decode cX11_readLine 196 = .ok (.aload_n 0, 1) := by decide +kernel
theorem dX11_readLine_197 : decode cX11_readLine 197 = .ok (.aload_n 1, 1) := by decide +kernel
theorem dX11_readLine_198 : decode cX11_readLine 198 = .ok (.bipush 16, 2) := by decide +kernel
theorem dX11_readLine_200 : decode cX11_readLine 200 = .ok (.invokevirtual 124, 3) := by decide +kernel
theorem dX11_readLine_203 : decode cX11_readLine 203 = .ok (.ifCond .eq 13, 3) := by decide +kernel
theorem dX11_readLine_206 : decode cX11_readLine 206 = .ok (.aload_n 1, 1) := by decide +kernel
theorem dX11_readLine_207 : decode cX11_readLine 207 = .ok (.iconst 0, 1) := by decide +kernel
theorem dX11_readLine_208 : decode cX11_readLine 208 = .ok (.bipush 99, 2) := by decide +kernel
theorem dX11_readLine_210 : decode cX11_readLine 210 = .ok (.invokevirtual 137, 3) := by decide +kernel
theorem dX11_readLine_213 : decode cX11_readLine 213 = .ok (.ifCond .ne 5, 3) := by decide +kernel
theorem dX11_readLine_216 : decode cX11_readLine 216 = .ok (.iconst 0, 1) := by decide +kernel
theorem dX11_readLine_217 : decode cX11_readLine 217 = .ok (.ireturn, 1) := by decide +kernel
theorem dX11_readLine_218 : decode cX11_readLine 218 = .ok (.aload_n 0, 1) := by decide +kernel
theorem dX11_readLine_219 : decode cX11_readLine 219 = .ok (.aload_n 1, 1) := by decide +kernel
theorem dX11_readLine_220 : decode cX11_readLine 220 = .ok (.getfield 141, 3) := by decide +kernel
theorem dX11_readLine_223 : decode cX11_readLine 223 = .ok (.putfield 53, 3) := by decide +kernel
theorem dX11_readLine_226 : decode cX11_readLine 226 = .ok (.iconst 1, 1) := by decide +kernel
theorem dX11_readLine_227 : decode cX11_readLine 227 = .ok (.ireturn, 1) := by decide +kernel
theorem dX11_readLine_228 : decode cX11_readLine 228 = .ok (.aload_n 0, 1) := by decide +kernel
theorem dX11_readLine_229 : decode cX11_readLine 229 = .ok (.aload_n 1, 1) := by decide +kernel
theorem dX11_readLine_230 : decode cX11_readLine 230 = .ok (.bipush 32, 2) := by decide +kernel
theorem dX11_readLine_232 : decode cX11_readLine 232 = .ok (.invokevirtual 124, 3) := by decide +kernel
theorem dX11_readLine_235 : decode cX11_readLine 235 = .ok (.ifCond .eq 13, 3) := by decide +kernel
theorem dX11_readLine_238 : decode cX11_readLine 238 = .ok (.aload_n 1, 1) := by decide +kernel
theorem dX11_readLine_239 : decode cX11_readLine 239 = .ok (.iconst 1, 1) := by decide +kernel
theorem dX11_readLine_240 : decode cX11_readLine 240 = .ok (.bipush 99, 2) := by decide +kernel
theorem dX11_readLine_242 : decode cX11_readLine 242 = .ok (.invokevirtual 137, 3) := by decide +kernel
theorem dX11_readLine_245 : decode cX11_readLine 245 = .ok (.ifCond .ne 5, 3) := by decide +kernel
theorem dX11_readLine_248 : decode cX11_readLine 248 = .ok (.iconst 0, 1) := by decide +kernel
theorem dX11_readLine_249 : decode cX11_readLine 249 = .ok (.ireturn, 1) := by decide +kernel
theorem dX11_readLine_250 : decode cX11_readLine 250 = .ok (.aload_n 0, 1) := by decide +kernel
theorem dX11_readLine_251 : decode cX11_readLine 251 = .ok (.aload_n 1, 1) := by decide +kernel
theorem dX11_readLine_252 : decode cX11_readLine 252 = .ok (.getfield 141, 3) := by decide +kernel
theorem dX11_readLine_255 : decode cX11_readLine 255 = .ok (.putfield 56, 3) := by decide +kernel
theorem dX11_readLine_258 : decode cX11_readLine 258 = .ok (.iconst 1, 1) := by decide +kernel
theorem dX11_readLine_259 : decode cX11_readLine 259 = .ok (.ireturn, 1) := by decide +kernel
theorem dX11_readLine_260 : decode cX11_readLine 260 = .ok (.aload_n 0, 1) := by decide +kernel
theorem dX11_readLine_261 : decode cX11_readLine 261 = .ok (.aload_n 1, 1) := by decide +kernel
theorem dX11_readLine_262 : decode cX11_readLine 262 = .ok (.bipush 64, 2) := by decide +kernel
theorem dX11_readLine_264 : decode cX11_readLine 264 = .ok (.invokevirtual 124, 3) := by decide +kernel
theorem dX11_readLine_267 : decode cX11_readLine 267 = .ok (.ifCond .eq 13, 3) := by decide +kernel
theorem dX11_readLine_270 : decode cX11_readLine 270 = .ok (.aload_n 1, 1) := by decide +kernel
theorem dX11_readLine_271 : decode cX11_readLine 271 = .ok (.iconst 1, 1) := by decide +kernel
theorem dX11_readLine_272 : decode cX11_readLine 272 = .ok (.bipush 9, 2) := by decide +kernel
theorem dX11_readLine_274 : decode cX11_readLine 274 = .ok (.invokevirtual 137, 3) := by decide +kernel
theorem dX11_readLine_277 : decode cX11_readLine 277 = .ok (.ifCond .ne 5, 3) := by decide +kernel
theorem dX11_readLine_280 : decode cX11_readLine 280 = .ok (.iconst 0, 1) := by decide +kernel
theorem dX11_readLine_281 : decode cX11_readLine 281 = .ok (.ireturn, 1) := by decide +kernel
theorem dX11_readLine_282 : decode cX11_readLine 282 = .ok (.aload_n 0, 1) := by decide +kernel
theorem dX11_readLine_283 : decode cX11_readLine 283 = .ok (.aload_n 1, 1) := by decide +kernel
theorem dX11_readLine_284 : decode cX11_readLine 284 = .ok (.getfield 141, 3) := by decide +kernel
theorem dX11_readLine_287 : decode cX11_readLine 287 = .ok (.putfield 59, 3) := by decide +kernel
theorem dX11_readLine_290 : decode cX11_readLine 290 = .ok (.iconst 1, 1) := by decide +kernel
theorem dX11_readLine_291 : decode cX11_readLine 291 = .ok (.ireturn, 1) := by decide +kernel
theorem dX11_readLine_292 : decode cX11_readLine 292 = .ok (.aload_n 1, 1) := by decide +kernel
theorem dX11_readLine_293 : decode cX11_readLine 293 = .ok (.iconst 1, 1) := by decide +kernel
theorem dX11_readLine_294 : decode cX11_readLine 294 = .ok (.invokevirtual 101, 3) := by decide +kernel
theorem dX11_readLine_297 : decode cX11_readLine 297 = .ok (.ireturn, 1) := by decide +kernel
set_option maxRecDepth 100000 in
theorem s_rdLine (l : Launch) (dd : Nat) (x b n L y : Nat) (ay : Nat → Nat) (bt : Nat → Nat) (τ : zTk) (pl tk : Nat) (D : zYd) (hd : 6 ≤ dd) (hn : n ≤ 740) (hL : L ≤ 740) (hbt : ∀ j, bt j < 256) (hτ : tOK τ) (hD : yI D) : zSp l mX11_readLine dd 0 0 [.ref y, .ref x] [(x, .inr (8, fTx b n L τ 0 pl (nI tk))), (b, .inl (0, 740, .inl (nF bt))), (y, .inr (9, fYard ay (ysN D.1 D.2.1))), (ay 1, .inl (0, 12, .inl (nF D.2.2.1))), (ay 2, .inl (0, 12, .inl (nF D.2.2.2.1))), (ay 3, .inl (0, 12, .inl (nF D.2.2.2.2.1))), (ay 4, .inl (0, 12, .inl (nF D.2.2.2.2.2.1))), (ay 5, .inl (0, 64, .inl (nF D.2.2.2.2.2.2.1))), (ay 6, .inl (1, 64, .inl (nF D.2.2.2.2.2.2.2)))] (fun r K' => ((pLine bt n L τ tk D).1 = 0 ∧ r = some (.int 1) ∧ K' = kTx x b n L bt (pLine bt n L τ tk D).2.1 0 pl (pLine bt n L τ tk D).2.2.1 ++ kYd y ay (pLine bt n L τ tk D).2.2.2) ∨ (¬ (pLine bt n L τ tk D).1 = 0 ∧ r = some (.int 0) ∧ K' = kTx x b n L bt (pLine bt n L τ tk D).2.1 (pLine bt n L τ tk D).1 (pLine bt n L τ tk D).2.1.2.1 (pLine bt n L τ tk D).2.2.1 ++ kYd y ay (pLine bt n L τ tk D).2.2.2)) := by
  refine zSp.of (by decide) (Nat.le_of_ble_eq_true rfl) (fun h0 => ?_)
  show zS _ 0 0 0 [(0, .ref y), (1, .ref x)] [] [(x, .inr (8, fTx b n L τ 0 pl (nI tk))), (b, .inl (0, 740, .inl (nF bt))), (y, .inr (9, fYard ay (ysN D.1 D.2.1))), (ay 1, .inl (0, 12, .inl (nF D.2.2.1))), (ay 2, .inl (0, 12, .inl (nF D.2.2.2.1))), (ay 3, .inl (0, 12, .inl (nF D.2.2.2.2.1))), (ay 4, .inl (0, 12, .inl (nF D.2.2.2.2.2.1))), (ay 5, .inl (0, 64, .inl (nF D.2.2.2.2.2.2.1))), (ay 6, .inl (1, 64, .inl (nF D.2.2.2.2.2.2.2)))]
  refine zs_aload_n dX11_readLine_0 rfl rfl ?_
  refine zs_get 0 dX11_readLine_1 zf_RX11_97 rfl (v := (wV τ.2.2.2.2)) rfl ?_
  refine zs_astore_n (lv' := [(2, (wV τ.2.2.2.2)), (0, .ref y), (1, .ref x)]) dX11_readLine_4 (Nat.le_of_ble_eq_true rfl) (wV_r _) rfl ?_
  refine zs_aload_n dX11_readLine_5 rfl (wV_r _) ?_
  refine zs_ifnonnull (tgt := 15) dX11_readLine_6 (by decide) (wV_r _) (fun c_1 => ?_) (fun c_1 => ?_)
  · obtain ⟨i, hw⟩ : ∃ i, τ.2.2.2.2 = some i := by
      cases hq : τ.2.2.2.2 with
      | none => exact absurd (wV_n.mpr hq) c_1
      | some i => exact ⟨i, rfl⟩
    have hi := hτ.2.2.2.2.2.2.2.1 i hw
    have hsw := (zSw_n i hi).2
    rw [hw]
    show zS _ 0 0 15 [(2, .float (UInt32.ofNat i)), (0, .ref y), (1, .ref x)] [] [(x, .inr (8, fTx b n L τ 0 pl (nI tk))), (b, .inl (0, 740, .inl (nF bt))), (y, .inr (9, fYard ay (ysN D.1 D.2.1))), (ay 1, .inl (0, 12, .inl (nF D.2.2.1))), (ay 2, .inl (0, 12, .inl (nF D.2.2.2.1))), (ay 3, .inl (0, 12, .inl (nF D.2.2.2.2.1))), (ay 4, .inl (0, 12, .inl (nF D.2.2.2.2.2.1))), (ay 5, .inl (0, 64, .inl (nF D.2.2.2.2.2.2.1))), (ay 6, .inl (1, 64, .inl (nF D.2.2.2.2.2.2.2)))]
    refine zs_getsSw dX11_readLine_15 zg_RX11_104 ?_
    refine zs_aload_n dX11_readLine_18 rfl rfl ?_
    refine zs_ordinal (u := UInt32.ofNat i) (by rw [zU_n hi]; exact hi) rfl dX11_readLine_19 (show 1 ≤ dd by omega) (Nat.le_of_ble_eq_true rfl) ?_
    refine zs_as (y := nI i) (by rw [zU_n hi]) ?_
    refine zs_swAt dX11_readLine_22 (vp_in_nI (by omega) (by omega)) ?_
    refine zs_as (y := nI (zSwN.getD i 0)) (by rw [nI_c (n := i) (by omega)]; exact (zSw_n i hi).1) ?_
    by_cases h23_1 : (zSwN.getD i 0) = 1
    · refine zs_as (y := nI 1) (congrArg nI h23_1) ?_
      refine zs_tableIn (off := 53) (tgt := 76) dX11_readLine_23 (by decide) (by decide) rfl (by decide) ?_
      refine zs_aload_n dX11_readLine_76 rfl rfl ?_
      refine zs_aload_n dX11_readLine_77 rfl rfl ?_
      refine zs_callV (M := mX11_readMan) (As := [.ref x]) (st := []) (Kc := [(x, .inr (8, fTx b n L τ 0 pl (nI tk))), (b, .inl (0, 740, .inl (nF bt))), (y, .inr (9, fYard ay (ysN D.1 D.2.1))), (ay 1, .inl (0, 12, .inl (nF D.2.2.1))), (ay 2, .inl (0, 12, .inl (nF D.2.2.2.1))), (ay 3, .inl (0, 12, .inl (nF D.2.2.2.2.1))), (ay 4, .inl (0, 12, .inl (nF D.2.2.2.2.2.1))), (ay 5, .inl (0, 64, .inl (nF D.2.2.2.2.2.2.1))), (ay 6, .inl (1, 64, .inl (nF D.2.2.2.2.2.2.2)))]) (Kr := []) [0, 1, 2, 3, 4, 5, 6, 7, 8] [] 2 dX11_readLine_78 zl_RX11_115 kX11_readMan rfl rfl rfl rfl rfl (by decide) rfl rfl (show dd - 1 + 1 ≤ dd by omega) (Nat.zero_le _) (Nat.zero_le _) (Nat.le_of_ble_eq_true rfl) (s_rdMan l (dd - 1) x b n L y ay bt τ pl tk D (by omega) hn hL hbt hτ hD) (fun r K1 hr => ?_)
      rcases hr with ⟨hq78, rfl, rfl⟩ | ⟨hq78, rfl, rfl⟩
      · refine zs_K (K' := [(x, .inr (8, fTx b n L ((pMan bt n L τ tk D).2.1) 0 pl (nI (pMan bt n L τ tk D).2.2.1))), (b, .inl (0, 740, .inl (nF bt))), (y, .inr (9, fYard ay (ysN ((pMan bt n L τ tk D).2.2.2.1) ((pMan bt n L τ tk D).2.2.2.2.1)))), (ay 1, .inl (0, 12, .inl (nF ((pMan bt n L τ tk D).2.2.2.2.2.1)))), (ay 2, .inl (0, 12, .inl (nF ((pMan bt n L τ tk D).2.2.2.2.2.2.1)))), (ay 3, .inl (0, 12, .inl (nF ((pMan bt n L τ tk D).2.2.2.2.2.2.2.1)))), (ay 4, .inl (0, 12, .inl (nF ((pMan bt n L τ tk D).2.2.2.2.2.2.2.2.1)))), (ay 5, .inl (0, 64, .inl (nF ((pMan bt n L τ tk D).2.2.2.2.2.2.2.2.2.1)))), (ay 6, .inl (1, 64, .inl (nF ((pMan bt n L τ tk D).2.2.2.2.2.2.2.2.2.2))))]) [0, 1, 2, 3, 4, 5, 6, 7, 8] rfl (by decide) ?_
        have e : pLine bt n L τ tk D = (pMan bt n L τ tk D) := by rw [pLine_s hw, if_pos h23_1]
        exact zs_zret dX11_readLine_81 rfl (Or.inr rfl) (Or.inl ⟨by rw [e]; exact hq78, rfl, by rw [e]; rfl⟩)
      · refine zs_K (K' := [(x, .inr (8, fTx b n L ((pMan bt n L τ tk D).2.1) ((pMan bt n L τ tk D).1) ((pMan bt n L τ tk D).2.1.2.1) (nI (pMan bt n L τ tk D).2.2.1))), (b, .inl (0, 740, .inl (nF bt))), (y, .inr (9, fYard ay (ysN ((pMan bt n L τ tk D).2.2.2.1) ((pMan bt n L τ tk D).2.2.2.2.1)))), (ay 1, .inl (0, 12, .inl (nF ((pMan bt n L τ tk D).2.2.2.2.2.1)))), (ay 2, .inl (0, 12, .inl (nF ((pMan bt n L τ tk D).2.2.2.2.2.2.1)))), (ay 3, .inl (0, 12, .inl (nF ((pMan bt n L τ tk D).2.2.2.2.2.2.2.1)))), (ay 4, .inl (0, 12, .inl (nF ((pMan bt n L τ tk D).2.2.2.2.2.2.2.2.1)))), (ay 5, .inl (0, 64, .inl (nF ((pMan bt n L τ tk D).2.2.2.2.2.2.2.2.2.1)))), (ay 6, .inl (1, 64, .inl (nF ((pMan bt n L τ tk D).2.2.2.2.2.2.2.2.2.2))))]) [0, 1, 2, 3, 4, 5, 6, 7, 8] rfl (by decide) ?_
        have e : pLine bt n L τ tk D = (pMan bt n L τ tk D) := by rw [pLine_s hw, if_pos h23_1]
        exact zs_zret dX11_readLine_81 rfl (Or.inl rfl) (Or.inr ⟨by rw [e]; exact hq78, rfl, by rw [e]; rfl⟩)
    by_cases h23_2 : (zSwN.getD i 0) = 2
    · refine zs_as (y := nI 2) (congrArg nI h23_2) ?_
      refine zs_tableIn (off := 59) (tgt := 82) dX11_readLine_23 (by decide) (by decide) rfl (by decide) ?_
      refine zs_aload_n dX11_readLine_82 rfl rfl ?_
      refine zs_aload_n dX11_readLine_83 rfl rfl ?_
      refine zs_callV (M := mX11_readCells) (As := [.ref x]) (st := []) (Kc := [(x, .inr (8, fTx b n L τ 0 pl (nI tk))), (b, .inl (0, 740, .inl (nF bt))), (y, .inr (9, fYard ay (ysN D.1 D.2.1))), (ay 1, .inl (0, 12, .inl (nF D.2.2.1))), (ay 2, .inl (0, 12, .inl (nF D.2.2.2.1))), (ay 3, .inl (0, 12, .inl (nF D.2.2.2.2.1))), (ay 4, .inl (0, 12, .inl (nF D.2.2.2.2.2.1))), (ay 5, .inl (0, 64, .inl (nF D.2.2.2.2.2.2.1))), (ay 6, .inl (1, 64, .inl (nF D.2.2.2.2.2.2.2)))]) (Kr := []) [0, 1, 2, 3, 4, 5, 6, 7, 8] [] 2 dX11_readLine_84 zl_RX11_118 kX11_readCells rfl rfl rfl rfl rfl (by decide) rfl rfl (show dd - 1 + 1 ≤ dd by omega) (Nat.zero_le _) (Nat.zero_le _) (Nat.le_of_ble_eq_true rfl) (s_rdCells l (dd - 1) x b n L y ay bt τ pl tk D (by omega) hn hL hbt hτ hD) (fun r K1 hr => ?_)
      rcases hr with ⟨hq84, rfl, rfl⟩ | ⟨hq84, rfl, rfl⟩
      · refine zs_K (K' := [(x, .inr (8, fTx b n L ((pCells bt n L τ tk D).2.1) 0 pl (nI (pCells bt n L τ tk D).2.2.1))), (b, .inl (0, 740, .inl (nF bt))), (y, .inr (9, fYard ay (ysN ((pCells bt n L τ tk D).2.2.2.1) ((pCells bt n L τ tk D).2.2.2.2.1)))), (ay 1, .inl (0, 12, .inl (nF ((pCells bt n L τ tk D).2.2.2.2.2.1)))), (ay 2, .inl (0, 12, .inl (nF ((pCells bt n L τ tk D).2.2.2.2.2.2.1)))), (ay 3, .inl (0, 12, .inl (nF ((pCells bt n L τ tk D).2.2.2.2.2.2.2.1)))), (ay 4, .inl (0, 12, .inl (nF ((pCells bt n L τ tk D).2.2.2.2.2.2.2.2.1)))), (ay 5, .inl (0, 64, .inl (nF ((pCells bt n L τ tk D).2.2.2.2.2.2.2.2.2.1)))), (ay 6, .inl (1, 64, .inl (nF ((pCells bt n L τ tk D).2.2.2.2.2.2.2.2.2.2))))]) [0, 1, 2, 3, 4, 5, 6, 7, 8] rfl (by decide) ?_
        have e : pLine bt n L τ tk D = (pCells bt n L τ tk D) := by rw [pLine_s hw, if_neg h23_1, if_pos h23_2]
        exact zs_zret dX11_readLine_87 rfl (Or.inr rfl) (Or.inl ⟨by rw [e]; exact hq84, rfl, by rw [e]; rfl⟩)
      · refine zs_K (K' := [(x, .inr (8, fTx b n L ((pCells bt n L τ tk D).2.1) ((pCells bt n L τ tk D).1) ((pCells bt n L τ tk D).2.1.2.1) (nI (pCells bt n L τ tk D).2.2.1))), (b, .inl (0, 740, .inl (nF bt))), (y, .inr (9, fYard ay (ysN ((pCells bt n L τ tk D).2.2.2.1) ((pCells bt n L τ tk D).2.2.2.2.1)))), (ay 1, .inl (0, 12, .inl (nF ((pCells bt n L τ tk D).2.2.2.2.2.1)))), (ay 2, .inl (0, 12, .inl (nF ((pCells bt n L τ tk D).2.2.2.2.2.2.1)))), (ay 3, .inl (0, 12, .inl (nF ((pCells bt n L τ tk D).2.2.2.2.2.2.2.1)))), (ay 4, .inl (0, 12, .inl (nF ((pCells bt n L τ tk D).2.2.2.2.2.2.2.2.1)))), (ay 5, .inl (0, 64, .inl (nF ((pCells bt n L τ tk D).2.2.2.2.2.2.2.2.2.1)))), (ay 6, .inl (1, 64, .inl (nF ((pCells bt n L τ tk D).2.2.2.2.2.2.2.2.2.2))))]) [0, 1, 2, 3, 4, 5, 6, 7, 8] rfl (by decide) ?_
        have e : pLine bt n L τ tk D = (pCells bt n L τ tk D) := by rw [pLine_s hw, if_neg h23_1, if_pos h23_2]
        exact zs_zret dX11_readLine_87 rfl (Or.inl rfl) (Or.inr ⟨by rw [e]; exact hq84, rfl, by rw [e]; rfl⟩)
    by_cases h23_3 : (zSwN.getD i 0) = 3
    · refine zs_as (y := nI 3) (congrArg nI h23_3) ?_
      refine zs_tableIn (off := 65) (tgt := 88) dX11_readLine_23 (by decide) (by decide) rfl (by decide) ?_
      refine zs_aload_n dX11_readLine_88 rfl rfl ?_
      refine zs_aload_n dX11_readLine_89 rfl rfl ?_
      refine zs_callV (M := mX11_readBurn) (As := [.ref x]) (st := []) (Kc := [(x, .inr (8, fTx b n L τ 0 pl (nI tk))), (b, .inl (0, 740, .inl (nF bt))), (y, .inr (9, fYard ay (ysN D.1 D.2.1))), (ay 1, .inl (0, 12, .inl (nF D.2.2.1))), (ay 2, .inl (0, 12, .inl (nF D.2.2.2.1))), (ay 3, .inl (0, 12, .inl (nF D.2.2.2.2.1))), (ay 4, .inl (0, 12, .inl (nF D.2.2.2.2.2.1))), (ay 5, .inl (0, 64, .inl (nF D.2.2.2.2.2.2.1))), (ay 6, .inl (1, 64, .inl (nF D.2.2.2.2.2.2.2)))]) (Kr := []) [0, 1, 2, 3, 4, 5, 6, 7, 8] [] 2 dX11_readLine_90 zl_RX11_121 kX11_readBurn rfl rfl rfl rfl rfl (by decide) rfl rfl (show dd - 1 + 1 ≤ dd by omega) (Nat.zero_le _) (Nat.zero_le _) (Nat.le_of_ble_eq_true rfl) (s_rdBurn l (dd - 1) x b n L y ay bt τ pl tk D (by omega) hn hL hbt hτ hD) (fun r K1 hr => ?_)
      rcases hr with ⟨hq90, rfl, rfl⟩ | ⟨hq90, rfl, rfl⟩
      · refine zs_K (K' := [(x, .inr (8, fTx b n L ((pBurn bt n L τ tk D).2.1) 0 pl (nI (pBurn bt n L τ tk D).2.2.1))), (b, .inl (0, 740, .inl (nF bt))), (y, .inr (9, fYard ay (ysN ((pBurn bt n L τ tk D).2.2.2.1) ((pBurn bt n L τ tk D).2.2.2.2.1)))), (ay 1, .inl (0, 12, .inl (nF ((pBurn bt n L τ tk D).2.2.2.2.2.1)))), (ay 2, .inl (0, 12, .inl (nF ((pBurn bt n L τ tk D).2.2.2.2.2.2.1)))), (ay 3, .inl (0, 12, .inl (nF ((pBurn bt n L τ tk D).2.2.2.2.2.2.2.1)))), (ay 4, .inl (0, 12, .inl (nF ((pBurn bt n L τ tk D).2.2.2.2.2.2.2.2.1)))), (ay 5, .inl (0, 64, .inl (nF ((pBurn bt n L τ tk D).2.2.2.2.2.2.2.2.2.1)))), (ay 6, .inl (1, 64, .inl (nF ((pBurn bt n L τ tk D).2.2.2.2.2.2.2.2.2.2))))]) [0, 1, 2, 3, 4, 5, 6, 7, 8] rfl (by decide) ?_
        have e : pLine bt n L τ tk D = (pBurn bt n L τ tk D) := by rw [pLine_s hw, if_neg h23_1, if_neg h23_2, if_pos h23_3]
        exact zs_zret dX11_readLine_93 rfl (Or.inr rfl) (Or.inl ⟨by rw [e]; exact hq90, rfl, by rw [e]; rfl⟩)
      · refine zs_K (K' := [(x, .inr (8, fTx b n L ((pBurn bt n L τ tk D).2.1) ((pBurn bt n L τ tk D).1) ((pBurn bt n L τ tk D).2.1.2.1) (nI (pBurn bt n L τ tk D).2.2.1))), (b, .inl (0, 740, .inl (nF bt))), (y, .inr (9, fYard ay (ysN ((pBurn bt n L τ tk D).2.2.2.1) ((pBurn bt n L τ tk D).2.2.2.2.1)))), (ay 1, .inl (0, 12, .inl (nF ((pBurn bt n L τ tk D).2.2.2.2.2.1)))), (ay 2, .inl (0, 12, .inl (nF ((pBurn bt n L τ tk D).2.2.2.2.2.2.1)))), (ay 3, .inl (0, 12, .inl (nF ((pBurn bt n L τ tk D).2.2.2.2.2.2.2.1)))), (ay 4, .inl (0, 12, .inl (nF ((pBurn bt n L τ tk D).2.2.2.2.2.2.2.2.1)))), (ay 5, .inl (0, 64, .inl (nF ((pBurn bt n L τ tk D).2.2.2.2.2.2.2.2.2.1)))), (ay 6, .inl (1, 64, .inl (nF ((pBurn bt n L τ tk D).2.2.2.2.2.2.2.2.2.2))))]) [0, 1, 2, 3, 4, 5, 6, 7, 8] rfl (by decide) ?_
        have e : pLine bt n L τ tk D = (pBurn bt n L τ tk D) := by rw [pLine_s hw, if_neg h23_1, if_neg h23_2, if_pos h23_3]
        exact zs_zret dX11_readLine_93 rfl (Or.inl rfl) (Or.inr ⟨by rw [e]; exact hq90, rfl, by rw [e]; rfl⟩)
    by_cases h23_4 : (zSwN.getD i 0) = 4
    · refine zs_as (y := nI 4) (congrArg nI h23_4) ?_
      refine zs_tableIn (off := 71) (tgt := 94) dX11_readLine_23 (by decide) (by decide) rfl (by decide) ?_
      refine zs_aload_n dX11_readLine_94 rfl rfl ?_
      refine zs_aload_n dX11_readLine_95 rfl rfl ?_
      refine zs_iconst (v := nI 1) dX11_readLine_96 (by decide) ?_
      refine zs_callV (M := mX11_once) (As := [.ref x, .int (nI 1)]) (st := []) (Kc := [(x, .inr (8, fTx b n L τ 0 pl (nI tk))), (b, .inl (0, 740, .inl (nF bt))), (y, .inr (9, fYard ay (ysN D.1 D.2.1))), (ay 1, .inl (0, 12, .inl (nF D.2.2.1))), (ay 2, .inl (0, 12, .inl (nF D.2.2.2.1))), (ay 3, .inl (0, 12, .inl (nF D.2.2.2.2.1))), (ay 4, .inl (0, 12, .inl (nF D.2.2.2.2.2.1))), (ay 5, .inl (0, 64, .inl (nF D.2.2.2.2.2.2.1))), (ay 6, .inl (1, 64, .inl (nF D.2.2.2.2.2.2.2)))]) (Kr := []) [0, 1, 2, 3, 4, 5, 6, 7, 8] [] 2 dX11_readLine_97 zl_RX11_124 kX11_once rfl rfl rfl rfl rfl (by decide) rfl rfl (show dd - 1 + 1 ≤ dd by omega) (Nat.zero_le _) (Nat.zero_le _) (Nat.le_of_ble_eq_true rfl) (s_rdOnce l (dd - 1) x b n L y ay bt τ pl tk D 0 (by decide) (by omega) hn hL hbt hτ hD) (fun r K1 hr => ?_)
      rcases hr with ⟨hq97, rfl, rfl⟩ | ⟨hq97, rfl, rfl⟩
      · have hT1 : tOK (pOnce bt n L 1 τ tk D).2.1 := pOnce_T hτ hbt hn
        have hD1 : yI (pOnce bt n L 1 τ tk D).2.2.2 := pOnce_I (k := 0) hD (by decide)
        refine zs_K (K' := [(x, .inr (8, fTx b n L ((pOnce bt n L 1 τ tk D).2.1) 0 pl (nI (pOnce bt n L 1 τ tk D).2.2.1))), (b, .inl (0, 740, .inl (nF bt))), (y, .inr (9, fYard ay (ysN ((pOnce bt n L 1 τ tk D).2.2.2.1) ((pOnce bt n L 1 τ tk D).2.2.2.2.1)))), (ay 1, .inl (0, 12, .inl (nF ((pOnce bt n L 1 τ tk D).2.2.2.2.2.1)))), (ay 2, .inl (0, 12, .inl (nF ((pOnce bt n L 1 τ tk D).2.2.2.2.2.2.1)))), (ay 3, .inl (0, 12, .inl (nF ((pOnce bt n L 1 τ tk D).2.2.2.2.2.2.2.1)))), (ay 4, .inl (0, 12, .inl (nF ((pOnce bt n L 1 τ tk D).2.2.2.2.2.2.2.2.1)))), (ay 5, .inl (0, 64, .inl (nF ((pOnce bt n L 1 τ tk D).2.2.2.2.2.2.2.2.2.1)))), (ay 6, .inl (1, 64, .inl (nF ((pOnce bt n L 1 τ tk D).2.2.2.2.2.2.2.2.2.2))))]) [0, 1, 2, 3, 4, 5, 6, 7, 8] rfl (by decide) ?_
        refine zs_if_eq (tgt := 115) dX11_readLine_100 (by decide) (fun c_2 => (by first | exact absurd c_2 (by decide) | exact absurd (by decide) c_2 : False).elim) (fun c_2 => ?_)
        refine zs_aload_n dX11_readLine_103 rfl rfl ?_
        refine zs_aload_n dX11_readLine_104 rfl rfl ?_
        refine zs_callV (M := mX11_readWind) (As := [.ref x]) (st := []) (Kc := [(x, .inr (8, fTx b n L ((pOnce bt n L 1 τ tk D).2.1) 0 pl (nI (pOnce bt n L 1 τ tk D).2.2.1))), (b, .inl (0, 740, .inl (nF bt))), (y, .inr (9, fYard ay (ysN ((pOnce bt n L 1 τ tk D).2.2.2.1) ((pOnce bt n L 1 τ tk D).2.2.2.2.1)))), (ay 1, .inl (0, 12, .inl (nF ((pOnce bt n L 1 τ tk D).2.2.2.2.2.1)))), (ay 2, .inl (0, 12, .inl (nF ((pOnce bt n L 1 τ tk D).2.2.2.2.2.2.1)))), (ay 3, .inl (0, 12, .inl (nF ((pOnce bt n L 1 τ tk D).2.2.2.2.2.2.2.1)))), (ay 4, .inl (0, 12, .inl (nF ((pOnce bt n L 1 τ tk D).2.2.2.2.2.2.2.2.1)))), (ay 5, .inl (0, 64, .inl (nF ((pOnce bt n L 1 τ tk D).2.2.2.2.2.2.2.2.2.1)))), (ay 6, .inl (1, 64, .inl (nF ((pOnce bt n L 1 τ tk D).2.2.2.2.2.2.2.2.2.2))))]) (Kr := []) [0, 1, 2, 3, 4, 5, 6, 7, 8] [] 2 dX11_readLine_105 zl_RX11_128 kX11_readWind rfl rfl rfl rfl rfl (by decide) rfl rfl (show dd - 1 + 1 ≤ dd by omega) (Nat.zero_le _) (Nat.zero_le _) (Nat.le_of_ble_eq_true rfl) (s_rdWind l (dd - 1) x b n L y ay bt (pOnce bt n L 1 τ tk D).2.1 pl (pOnce bt n L 1 τ tk D).2.2.1 (pOnce bt n L 1 τ tk D).2.2.2 (by omega) hn hL hbt hT1 hD1) (fun r K1 hr => ?_)
        rcases hr with ⟨hq105, rfl, rfl⟩ | ⟨hq105, rfl, rfl⟩
        · refine zs_K (K' := [(x, .inr (8, fTx b n L ((pWi bt n L (pOnce bt n L 1 τ tk D).2.1 (pOnce bt n L 1 τ tk D).2.2.1 (pOnce bt n L 1 τ tk D).2.2.2).2.1) 0 pl (nI (pWi bt n L (pOnce bt n L 1 τ tk D).2.1 (pOnce bt n L 1 τ tk D).2.2.1 (pOnce bt n L 1 τ tk D).2.2.2).2.2.1))), (b, .inl (0, 740, .inl (nF bt))), (y, .inr (9, fYard ay (ysN ((pWi bt n L (pOnce bt n L 1 τ tk D).2.1 (pOnce bt n L 1 τ tk D).2.2.1 (pOnce bt n L 1 τ tk D).2.2.2).2.2.2.1) ((pWi bt n L (pOnce bt n L 1 τ tk D).2.1 (pOnce bt n L 1 τ tk D).2.2.1 (pOnce bt n L 1 τ tk D).2.2.2).2.2.2.2.1)))), (ay 1, .inl (0, 12, .inl (nF ((pWi bt n L (pOnce bt n L 1 τ tk D).2.1 (pOnce bt n L 1 τ tk D).2.2.1 (pOnce bt n L 1 τ tk D).2.2.2).2.2.2.2.2.1)))), (ay 2, .inl (0, 12, .inl (nF ((pWi bt n L (pOnce bt n L 1 τ tk D).2.1 (pOnce bt n L 1 τ tk D).2.2.1 (pOnce bt n L 1 τ tk D).2.2.2).2.2.2.2.2.2.1)))), (ay 3, .inl (0, 12, .inl (nF ((pWi bt n L (pOnce bt n L 1 τ tk D).2.1 (pOnce bt n L 1 τ tk D).2.2.1 (pOnce bt n L 1 τ tk D).2.2.2).2.2.2.2.2.2.2.1)))), (ay 4, .inl (0, 12, .inl (nF ((pWi bt n L (pOnce bt n L 1 τ tk D).2.1 (pOnce bt n L 1 τ tk D).2.2.1 (pOnce bt n L 1 τ tk D).2.2.2).2.2.2.2.2.2.2.2.1)))), (ay 5, .inl (0, 64, .inl (nF ((pWi bt n L (pOnce bt n L 1 τ tk D).2.1 (pOnce bt n L 1 τ tk D).2.2.1 (pOnce bt n L 1 τ tk D).2.2.2).2.2.2.2.2.2.2.2.2.1)))), (ay 6, .inl (1, 64, .inl (nF ((pWi bt n L (pOnce bt n L 1 τ tk D).2.1 (pOnce bt n L 1 τ tk D).2.2.1 (pOnce bt n L 1 τ tk D).2.2.2).2.2.2.2.2.2.2.2.2.2))))]) [0, 1, 2, 3, 4, 5, 6, 7, 8] rfl (by decide) ?_
          refine zs_if_eq (tgt := 115) dX11_readLine_108 (by decide) (fun c_3 => (by first | exact absurd c_3 (by decide) | exact absurd (by decide) c_3 : False).elim) (fun c_3 => ?_)
          refine zs_iconst (v := nI 1) dX11_readLine_111 (by decide) ?_
          refine zs_goto (tgt := 116) dX11_readLine_112 (by decide) ?_
          have e : pLine bt n L τ tk D = (pWi bt n L (pOnce bt n L 1 τ tk D).2.1 (pOnce bt n L 1 τ tk D).2.2.1 (pOnce bt n L 1 τ tk D).2.2.2) := by rw [pLine_s hw, if_neg h23_1, if_neg h23_2, if_neg h23_3, if_pos h23_4, pBd_y hq97]
          exact zs_zret dX11_readLine_116 rfl (Or.inr rfl) (Or.inl ⟨by rw [e]; exact hq105, rfl, by rw [e]; rfl⟩)
        · refine zs_K (K' := [(x, .inr (8, fTx b n L ((pWi bt n L (pOnce bt n L 1 τ tk D).2.1 (pOnce bt n L 1 τ tk D).2.2.1 (pOnce bt n L 1 τ tk D).2.2.2).2.1) ((pWi bt n L (pOnce bt n L 1 τ tk D).2.1 (pOnce bt n L 1 τ tk D).2.2.1 (pOnce bt n L 1 τ tk D).2.2.2).1) ((pWi bt n L (pOnce bt n L 1 τ tk D).2.1 (pOnce bt n L 1 τ tk D).2.2.1 (pOnce bt n L 1 τ tk D).2.2.2).2.1.2.1) (nI (pWi bt n L (pOnce bt n L 1 τ tk D).2.1 (pOnce bt n L 1 τ tk D).2.2.1 (pOnce bt n L 1 τ tk D).2.2.2).2.2.1))), (b, .inl (0, 740, .inl (nF bt))), (y, .inr (9, fYard ay (ysN ((pWi bt n L (pOnce bt n L 1 τ tk D).2.1 (pOnce bt n L 1 τ tk D).2.2.1 (pOnce bt n L 1 τ tk D).2.2.2).2.2.2.1) ((pWi bt n L (pOnce bt n L 1 τ tk D).2.1 (pOnce bt n L 1 τ tk D).2.2.1 (pOnce bt n L 1 τ tk D).2.2.2).2.2.2.2.1)))), (ay 1, .inl (0, 12, .inl (nF ((pWi bt n L (pOnce bt n L 1 τ tk D).2.1 (pOnce bt n L 1 τ tk D).2.2.1 (pOnce bt n L 1 τ tk D).2.2.2).2.2.2.2.2.1)))), (ay 2, .inl (0, 12, .inl (nF ((pWi bt n L (pOnce bt n L 1 τ tk D).2.1 (pOnce bt n L 1 τ tk D).2.2.1 (pOnce bt n L 1 τ tk D).2.2.2).2.2.2.2.2.2.1)))), (ay 3, .inl (0, 12, .inl (nF ((pWi bt n L (pOnce bt n L 1 τ tk D).2.1 (pOnce bt n L 1 τ tk D).2.2.1 (pOnce bt n L 1 τ tk D).2.2.2).2.2.2.2.2.2.2.1)))), (ay 4, .inl (0, 12, .inl (nF ((pWi bt n L (pOnce bt n L 1 τ tk D).2.1 (pOnce bt n L 1 τ tk D).2.2.1 (pOnce bt n L 1 τ tk D).2.2.2).2.2.2.2.2.2.2.2.1)))), (ay 5, .inl (0, 64, .inl (nF ((pWi bt n L (pOnce bt n L 1 τ tk D).2.1 (pOnce bt n L 1 τ tk D).2.2.1 (pOnce bt n L 1 τ tk D).2.2.2).2.2.2.2.2.2.2.2.2.1)))), (ay 6, .inl (1, 64, .inl (nF ((pWi bt n L (pOnce bt n L 1 τ tk D).2.1 (pOnce bt n L 1 τ tk D).2.2.1 (pOnce bt n L 1 τ tk D).2.2.2).2.2.2.2.2.2.2.2.2.2))))]) [0, 1, 2, 3, 4, 5, 6, 7, 8] rfl (by decide) ?_
          refine zs_if_eq (tgt := 115) dX11_readLine_108 (by decide) (fun c_4 => ?_) (fun c_4 => (by first | exact absurd c_4 (by decide) | exact absurd (by decide) c_4 : False).elim)
          refine zs_iconst (v := nI 0) dX11_readLine_115 (by decide) ?_
          have e : pLine bt n L τ tk D = (pWi bt n L (pOnce bt n L 1 τ tk D).2.1 (pOnce bt n L 1 τ tk D).2.2.1 (pOnce bt n L 1 τ tk D).2.2.2) := by rw [pLine_s hw, if_neg h23_1, if_neg h23_2, if_neg h23_3, if_pos h23_4, pBd_y hq97]
          exact zs_zret dX11_readLine_116 rfl (Or.inl rfl) (Or.inr ⟨by rw [e]; exact hq105, rfl, by rw [e]; rfl⟩)
      · refine zs_K (K' := [(x, .inr (8, fTx b n L ((pOnce bt n L 1 τ tk D).2.1) ((pOnce bt n L 1 τ tk D).1) ((pOnce bt n L 1 τ tk D).2.1.2.1) (nI (pOnce bt n L 1 τ tk D).2.2.1))), (b, .inl (0, 740, .inl (nF bt))), (y, .inr (9, fYard ay (ysN ((pOnce bt n L 1 τ tk D).2.2.2.1) ((pOnce bt n L 1 τ tk D).2.2.2.2.1)))), (ay 1, .inl (0, 12, .inl (nF ((pOnce bt n L 1 τ tk D).2.2.2.2.2.1)))), (ay 2, .inl (0, 12, .inl (nF ((pOnce bt n L 1 τ tk D).2.2.2.2.2.2.1)))), (ay 3, .inl (0, 12, .inl (nF ((pOnce bt n L 1 τ tk D).2.2.2.2.2.2.2.1)))), (ay 4, .inl (0, 12, .inl (nF ((pOnce bt n L 1 τ tk D).2.2.2.2.2.2.2.2.1)))), (ay 5, .inl (0, 64, .inl (nF ((pOnce bt n L 1 τ tk D).2.2.2.2.2.2.2.2.2.1)))), (ay 6, .inl (1, 64, .inl (nF ((pOnce bt n L 1 τ tk D).2.2.2.2.2.2.2.2.2.2))))]) [0, 1, 2, 3, 4, 5, 6, 7, 8] rfl (by decide) ?_
        refine zs_if_eq (tgt := 115) dX11_readLine_100 (by decide) (fun c_5 => ?_) (fun c_5 => (by first | exact absurd c_5 (by decide) | exact absurd (by decide) c_5 : False).elim)
        refine zs_iconst (v := nI 0) dX11_readLine_115 (by decide) ?_
        have e : pLine bt n L τ tk D = (pOnce bt n L 1 τ tk D) := by rw [pLine_s hw, if_neg h23_1, if_neg h23_2, if_neg h23_3, if_pos h23_4, pBd_n hq97]
        exact zs_zret dX11_readLine_116 rfl (Or.inl rfl) (Or.inr ⟨by rw [e]; exact hq97, rfl, by rw [e]; rfl⟩)
    by_cases h23_5 : (zSwN.getD i 0) = 5
    · refine zs_as (y := nI 5) (congrArg nI h23_5) ?_
      refine zs_tableIn (off := 94) (tgt := 117) dX11_readLine_23 (by decide) (by decide) rfl (by decide) ?_
      refine zs_aload_n dX11_readLine_117 rfl rfl ?_
      refine zs_aload_n dX11_readLine_118 rfl rfl ?_
      refine zs_iconst (v := nI 2) dX11_readLine_119 (by decide) ?_
      refine zs_callV (M := mX11_once) (As := [.ref x, .int (nI 2)]) (st := []) (Kc := [(x, .inr (8, fTx b n L τ 0 pl (nI tk))), (b, .inl (0, 740, .inl (nF bt))), (y, .inr (9, fYard ay (ysN D.1 D.2.1))), (ay 1, .inl (0, 12, .inl (nF D.2.2.1))), (ay 2, .inl (0, 12, .inl (nF D.2.2.2.1))), (ay 3, .inl (0, 12, .inl (nF D.2.2.2.2.1))), (ay 4, .inl (0, 12, .inl (nF D.2.2.2.2.2.1))), (ay 5, .inl (0, 64, .inl (nF D.2.2.2.2.2.2.1))), (ay 6, .inl (1, 64, .inl (nF D.2.2.2.2.2.2.2)))]) (Kr := []) [0, 1, 2, 3, 4, 5, 6, 7, 8] [] 2 dX11_readLine_120 zl_RX11_124 kX11_once rfl rfl rfl rfl rfl (by decide) rfl rfl (show dd - 1 + 1 ≤ dd by omega) (Nat.zero_le _) (Nat.zero_le _) (Nat.le_of_ble_eq_true rfl) (s_rdOnce l (dd - 1) x b n L y ay bt τ pl tk D 1 (by decide) (by omega) hn hL hbt hτ hD) (fun r K1 hr => ?_)
      rcases hr with ⟨hq120, rfl, rfl⟩ | ⟨hq120, rfl, rfl⟩
      · have hT1 : tOK (pOnce bt n L 2 τ tk D).2.1 := pOnce_T hτ hbt hn
        have hD1 : yI (pOnce bt n L 2 τ tk D).2.2.2 := pOnce_I (k := 1) hD (by decide)
        refine zs_K (K' := [(x, .inr (8, fTx b n L ((pOnce bt n L 2 τ tk D).2.1) 0 pl (nI (pOnce bt n L 2 τ tk D).2.2.1))), (b, .inl (0, 740, .inl (nF bt))), (y, .inr (9, fYard ay (ysN ((pOnce bt n L 2 τ tk D).2.2.2.1) ((pOnce bt n L 2 τ tk D).2.2.2.2.1)))), (ay 1, .inl (0, 12, .inl (nF ((pOnce bt n L 2 τ tk D).2.2.2.2.2.1)))), (ay 2, .inl (0, 12, .inl (nF ((pOnce bt n L 2 τ tk D).2.2.2.2.2.2.1)))), (ay 3, .inl (0, 12, .inl (nF ((pOnce bt n L 2 τ tk D).2.2.2.2.2.2.2.1)))), (ay 4, .inl (0, 12, .inl (nF ((pOnce bt n L 2 τ tk D).2.2.2.2.2.2.2.2.1)))), (ay 5, .inl (0, 64, .inl (nF ((pOnce bt n L 2 τ tk D).2.2.2.2.2.2.2.2.2.1)))), (ay 6, .inl (1, 64, .inl (nF ((pOnce bt n L 2 τ tk D).2.2.2.2.2.2.2.2.2.2))))]) [0, 1, 2, 3, 4, 5, 6, 7, 8] rfl (by decide) ?_
        refine zs_if_eq (tgt := 138) dX11_readLine_123 (by decide) (fun c_6 => (by first | exact absurd c_6 (by decide) | exact absurd (by decide) c_6 : False).elim) (fun c_6 => ?_)
        refine zs_aload_n dX11_readLine_126 rfl rfl ?_
        refine zs_aload_n dX11_readLine_127 rfl rfl ?_
        refine zs_callV (M := mX11_readPails) (As := [.ref x]) (st := []) (Kc := [(x, .inr (8, fTx b n L ((pOnce bt n L 2 τ tk D).2.1) 0 pl (nI (pOnce bt n L 2 τ tk D).2.2.1))), (b, .inl (0, 740, .inl (nF bt))), (y, .inr (9, fYard ay (ysN ((pOnce bt n L 2 τ tk D).2.2.2.1) ((pOnce bt n L 2 τ tk D).2.2.2.2.1)))), (ay 1, .inl (0, 12, .inl (nF ((pOnce bt n L 2 τ tk D).2.2.2.2.2.1)))), (ay 2, .inl (0, 12, .inl (nF ((pOnce bt n L 2 τ tk D).2.2.2.2.2.2.1)))), (ay 3, .inl (0, 12, .inl (nF ((pOnce bt n L 2 τ tk D).2.2.2.2.2.2.2.1)))), (ay 4, .inl (0, 12, .inl (nF ((pOnce bt n L 2 τ tk D).2.2.2.2.2.2.2.2.1)))), (ay 5, .inl (0, 64, .inl (nF ((pOnce bt n L 2 τ tk D).2.2.2.2.2.2.2.2.2.1)))), (ay 6, .inl (1, 64, .inl (nF ((pOnce bt n L 2 τ tk D).2.2.2.2.2.2.2.2.2.2))))]) (Kr := []) [0, 1, 2, 3, 4, 5, 6, 7, 8] [] 2 dX11_readLine_128 zl_RX11_131 kX11_readPails rfl rfl rfl rfl rfl (by decide) rfl rfl (show dd - 1 + 1 ≤ dd by omega) (Nat.zero_le _) (Nat.zero_le _) (Nat.le_of_ble_eq_true rfl) (s_rdPails l (dd - 1) x b n L y ay bt (pOnce bt n L 2 τ tk D).2.1 pl (pOnce bt n L 2 τ tk D).2.2.1 (pOnce bt n L 2 τ tk D).2.2.2 (by omega) hn hL hbt hT1 hD1) (fun r K1 hr => ?_)
        rcases hr with ⟨hq128, rfl, rfl⟩ | ⟨hq128, rfl, rfl⟩
        · refine zs_K (K' := [(x, .inr (8, fTx b n L ((pPails bt n L (pOnce bt n L 2 τ tk D).2.1 (pOnce bt n L 2 τ tk D).2.2.1 (pOnce bt n L 2 τ tk D).2.2.2).2.1) 0 pl (nI (pPails bt n L (pOnce bt n L 2 τ tk D).2.1 (pOnce bt n L 2 τ tk D).2.2.1 (pOnce bt n L 2 τ tk D).2.2.2).2.2.1))), (b, .inl (0, 740, .inl (nF bt))), (y, .inr (9, fYard ay (ysN ((pPails bt n L (pOnce bt n L 2 τ tk D).2.1 (pOnce bt n L 2 τ tk D).2.2.1 (pOnce bt n L 2 τ tk D).2.2.2).2.2.2.1) ((pPails bt n L (pOnce bt n L 2 τ tk D).2.1 (pOnce bt n L 2 τ tk D).2.2.1 (pOnce bt n L 2 τ tk D).2.2.2).2.2.2.2.1)))), (ay 1, .inl (0, 12, .inl (nF ((pPails bt n L (pOnce bt n L 2 τ tk D).2.1 (pOnce bt n L 2 τ tk D).2.2.1 (pOnce bt n L 2 τ tk D).2.2.2).2.2.2.2.2.1)))), (ay 2, .inl (0, 12, .inl (nF ((pPails bt n L (pOnce bt n L 2 τ tk D).2.1 (pOnce bt n L 2 τ tk D).2.2.1 (pOnce bt n L 2 τ tk D).2.2.2).2.2.2.2.2.2.1)))), (ay 3, .inl (0, 12, .inl (nF ((pPails bt n L (pOnce bt n L 2 τ tk D).2.1 (pOnce bt n L 2 τ tk D).2.2.1 (pOnce bt n L 2 τ tk D).2.2.2).2.2.2.2.2.2.2.1)))), (ay 4, .inl (0, 12, .inl (nF ((pPails bt n L (pOnce bt n L 2 τ tk D).2.1 (pOnce bt n L 2 τ tk D).2.2.1 (pOnce bt n L 2 τ tk D).2.2.2).2.2.2.2.2.2.2.2.1)))), (ay 5, .inl (0, 64, .inl (nF ((pPails bt n L (pOnce bt n L 2 τ tk D).2.1 (pOnce bt n L 2 τ tk D).2.2.1 (pOnce bt n L 2 τ tk D).2.2.2).2.2.2.2.2.2.2.2.2.1)))), (ay 6, .inl (1, 64, .inl (nF ((pPails bt n L (pOnce bt n L 2 τ tk D).2.1 (pOnce bt n L 2 τ tk D).2.2.1 (pOnce bt n L 2 τ tk D).2.2.2).2.2.2.2.2.2.2.2.2.2))))]) [0, 1, 2, 3, 4, 5, 6, 7, 8] rfl (by decide) ?_
          refine zs_if_eq (tgt := 138) dX11_readLine_131 (by decide) (fun c_7 => (by first | exact absurd c_7 (by decide) | exact absurd (by decide) c_7 : False).elim) (fun c_7 => ?_)
          refine zs_iconst (v := nI 1) dX11_readLine_134 (by decide) ?_
          refine zs_goto (tgt := 139) dX11_readLine_135 (by decide) ?_
          have e : pLine bt n L τ tk D = (pPails bt n L (pOnce bt n L 2 τ tk D).2.1 (pOnce bt n L 2 τ tk D).2.2.1 (pOnce bt n L 2 τ tk D).2.2.2) := by rw [pLine_s hw, if_neg h23_1, if_neg h23_2, if_neg h23_3, if_neg h23_4, if_pos h23_5, pBd_y hq120]
          exact zs_zret dX11_readLine_139 rfl (Or.inr rfl) (Or.inl ⟨by rw [e]; exact hq128, rfl, by rw [e]; rfl⟩)
        · refine zs_K (K' := [(x, .inr (8, fTx b n L ((pPails bt n L (pOnce bt n L 2 τ tk D).2.1 (pOnce bt n L 2 τ tk D).2.2.1 (pOnce bt n L 2 τ tk D).2.2.2).2.1) ((pPails bt n L (pOnce bt n L 2 τ tk D).2.1 (pOnce bt n L 2 τ tk D).2.2.1 (pOnce bt n L 2 τ tk D).2.2.2).1) ((pPails bt n L (pOnce bt n L 2 τ tk D).2.1 (pOnce bt n L 2 τ tk D).2.2.1 (pOnce bt n L 2 τ tk D).2.2.2).2.1.2.1) (nI (pPails bt n L (pOnce bt n L 2 τ tk D).2.1 (pOnce bt n L 2 τ tk D).2.2.1 (pOnce bt n L 2 τ tk D).2.2.2).2.2.1))), (b, .inl (0, 740, .inl (nF bt))), (y, .inr (9, fYard ay (ysN ((pPails bt n L (pOnce bt n L 2 τ tk D).2.1 (pOnce bt n L 2 τ tk D).2.2.1 (pOnce bt n L 2 τ tk D).2.2.2).2.2.2.1) ((pPails bt n L (pOnce bt n L 2 τ tk D).2.1 (pOnce bt n L 2 τ tk D).2.2.1 (pOnce bt n L 2 τ tk D).2.2.2).2.2.2.2.1)))), (ay 1, .inl (0, 12, .inl (nF ((pPails bt n L (pOnce bt n L 2 τ tk D).2.1 (pOnce bt n L 2 τ tk D).2.2.1 (pOnce bt n L 2 τ tk D).2.2.2).2.2.2.2.2.1)))), (ay 2, .inl (0, 12, .inl (nF ((pPails bt n L (pOnce bt n L 2 τ tk D).2.1 (pOnce bt n L 2 τ tk D).2.2.1 (pOnce bt n L 2 τ tk D).2.2.2).2.2.2.2.2.2.1)))), (ay 3, .inl (0, 12, .inl (nF ((pPails bt n L (pOnce bt n L 2 τ tk D).2.1 (pOnce bt n L 2 τ tk D).2.2.1 (pOnce bt n L 2 τ tk D).2.2.2).2.2.2.2.2.2.2.1)))), (ay 4, .inl (0, 12, .inl (nF ((pPails bt n L (pOnce bt n L 2 τ tk D).2.1 (pOnce bt n L 2 τ tk D).2.2.1 (pOnce bt n L 2 τ tk D).2.2.2).2.2.2.2.2.2.2.2.1)))), (ay 5, .inl (0, 64, .inl (nF ((pPails bt n L (pOnce bt n L 2 τ tk D).2.1 (pOnce bt n L 2 τ tk D).2.2.1 (pOnce bt n L 2 τ tk D).2.2.2).2.2.2.2.2.2.2.2.2.1)))), (ay 6, .inl (1, 64, .inl (nF ((pPails bt n L (pOnce bt n L 2 τ tk D).2.1 (pOnce bt n L 2 τ tk D).2.2.1 (pOnce bt n L 2 τ tk D).2.2.2).2.2.2.2.2.2.2.2.2.2))))]) [0, 1, 2, 3, 4, 5, 6, 7, 8] rfl (by decide) ?_
          refine zs_if_eq (tgt := 138) dX11_readLine_131 (by decide) (fun c_8 => ?_) (fun c_8 => (by first | exact absurd c_8 (by decide) | exact absurd (by decide) c_8 : False).elim)
          refine zs_iconst (v := nI 0) dX11_readLine_138 (by decide) ?_
          have e : pLine bt n L τ tk D = (pPails bt n L (pOnce bt n L 2 τ tk D).2.1 (pOnce bt n L 2 τ tk D).2.2.1 (pOnce bt n L 2 τ tk D).2.2.2) := by rw [pLine_s hw, if_neg h23_1, if_neg h23_2, if_neg h23_3, if_neg h23_4, if_pos h23_5, pBd_y hq120]
          exact zs_zret dX11_readLine_139 rfl (Or.inl rfl) (Or.inr ⟨by rw [e]; exact hq128, rfl, by rw [e]; rfl⟩)
      · refine zs_K (K' := [(x, .inr (8, fTx b n L ((pOnce bt n L 2 τ tk D).2.1) ((pOnce bt n L 2 τ tk D).1) ((pOnce bt n L 2 τ tk D).2.1.2.1) (nI (pOnce bt n L 2 τ tk D).2.2.1))), (b, .inl (0, 740, .inl (nF bt))), (y, .inr (9, fYard ay (ysN ((pOnce bt n L 2 τ tk D).2.2.2.1) ((pOnce bt n L 2 τ tk D).2.2.2.2.1)))), (ay 1, .inl (0, 12, .inl (nF ((pOnce bt n L 2 τ tk D).2.2.2.2.2.1)))), (ay 2, .inl (0, 12, .inl (nF ((pOnce bt n L 2 τ tk D).2.2.2.2.2.2.1)))), (ay 3, .inl (0, 12, .inl (nF ((pOnce bt n L 2 τ tk D).2.2.2.2.2.2.2.1)))), (ay 4, .inl (0, 12, .inl (nF ((pOnce bt n L 2 τ tk D).2.2.2.2.2.2.2.2.1)))), (ay 5, .inl (0, 64, .inl (nF ((pOnce bt n L 2 τ tk D).2.2.2.2.2.2.2.2.2.1)))), (ay 6, .inl (1, 64, .inl (nF ((pOnce bt n L 2 τ tk D).2.2.2.2.2.2.2.2.2.2))))]) [0, 1, 2, 3, 4, 5, 6, 7, 8] rfl (by decide) ?_
        refine zs_if_eq (tgt := 138) dX11_readLine_123 (by decide) (fun c_9 => ?_) (fun c_9 => (by first | exact absurd c_9 (by decide) | exact absurd (by decide) c_9 : False).elim)
        refine zs_iconst (v := nI 0) dX11_readLine_138 (by decide) ?_
        have e : pLine bt n L τ tk D = (pOnce bt n L 2 τ tk D) := by rw [pLine_s hw, if_neg h23_1, if_neg h23_2, if_neg h23_3, if_neg h23_4, if_pos h23_5, pBd_n hq120]
        exact zs_zret dX11_readLine_139 rfl (Or.inl rfl) (Or.inr ⟨by rw [e]; exact hq120, rfl, by rw [e]; rfl⟩)
    by_cases h23_6 : (zSwN.getD i 0) = 6
    · refine zs_as (y := nI 6) (congrArg nI h23_6) ?_
      refine zs_tableIn (off := 117) (tgt := 140) dX11_readLine_23 (by decide) (by decide) rfl (by decide) ?_
      refine zs_aload_n dX11_readLine_140 rfl rfl ?_
      refine zs_aload_n dX11_readLine_141 rfl rfl ?_
      refine zs_iconst (v := nI 4) dX11_readLine_142 (by decide) ?_
      refine zs_callV (M := mX11_once) (As := [.ref x, .int (nI 4)]) (st := []) (Kc := [(x, .inr (8, fTx b n L τ 0 pl (nI tk))), (b, .inl (0, 740, .inl (nF bt))), (y, .inr (9, fYard ay (ysN D.1 D.2.1))), (ay 1, .inl (0, 12, .inl (nF D.2.2.1))), (ay 2, .inl (0, 12, .inl (nF D.2.2.2.1))), (ay 3, .inl (0, 12, .inl (nF D.2.2.2.2.1))), (ay 4, .inl (0, 12, .inl (nF D.2.2.2.2.2.1))), (ay 5, .inl (0, 64, .inl (nF D.2.2.2.2.2.2.1))), (ay 6, .inl (1, 64, .inl (nF D.2.2.2.2.2.2.2)))]) (Kr := []) [0, 1, 2, 3, 4, 5, 6, 7, 8] [] 2 dX11_readLine_143 zl_RX11_124 kX11_once rfl rfl rfl rfl rfl (by decide) rfl rfl (show dd - 1 + 1 ≤ dd by omega) (Nat.zero_le _) (Nat.zero_le _) (Nat.le_of_ble_eq_true rfl) (s_rdOnce l (dd - 1) x b n L y ay bt τ pl tk D 2 (by decide) (by omega) hn hL hbt hτ hD) (fun r K1 hr => ?_)
      rcases hr with ⟨hq143, rfl, rfl⟩ | ⟨hq143, rfl, rfl⟩
      · have hT1 : tOK (pOnce bt n L 4 τ tk D).2.1 := pOnce_T hτ hbt hn
        have hD1 : yI (pOnce bt n L 4 τ tk D).2.2.2 := pOnce_I (k := 2) hD (by decide)
        refine zs_K (K' := [(x, .inr (8, fTx b n L ((pOnce bt n L 4 τ tk D).2.1) 0 pl (nI (pOnce bt n L 4 τ tk D).2.2.1))), (b, .inl (0, 740, .inl (nF bt))), (y, .inr (9, fYard ay (ysN ((pOnce bt n L 4 τ tk D).2.2.2.1) ((pOnce bt n L 4 τ tk D).2.2.2.2.1)))), (ay 1, .inl (0, 12, .inl (nF ((pOnce bt n L 4 τ tk D).2.2.2.2.2.1)))), (ay 2, .inl (0, 12, .inl (nF ((pOnce bt n L 4 τ tk D).2.2.2.2.2.2.1)))), (ay 3, .inl (0, 12, .inl (nF ((pOnce bt n L 4 τ tk D).2.2.2.2.2.2.2.1)))), (ay 4, .inl (0, 12, .inl (nF ((pOnce bt n L 4 τ tk D).2.2.2.2.2.2.2.2.1)))), (ay 5, .inl (0, 64, .inl (nF ((pOnce bt n L 4 τ tk D).2.2.2.2.2.2.2.2.2.1)))), (ay 6, .inl (1, 64, .inl (nF ((pOnce bt n L 4 τ tk D).2.2.2.2.2.2.2.2.2.2))))]) [0, 1, 2, 3, 4, 5, 6, 7, 8] rfl (by decide) ?_
        refine zs_if_eq (tgt := 161) dX11_readLine_146 (by decide) (fun c_10 => (by first | exact absurd c_10 (by decide) | exact absurd (by decide) c_10 : False).elim) (fun c_10 => ?_)
        refine zs_aload_n dX11_readLine_149 rfl rfl ?_
        refine zs_aload_n dX11_readLine_150 rfl rfl ?_
        refine zs_callV (M := mX11_readWell) (As := [.ref x]) (st := []) (Kc := [(x, .inr (8, fTx b n L ((pOnce bt n L 4 τ tk D).2.1) 0 pl (nI (pOnce bt n L 4 τ tk D).2.2.1))), (b, .inl (0, 740, .inl (nF bt))), (y, .inr (9, fYard ay (ysN ((pOnce bt n L 4 τ tk D).2.2.2.1) ((pOnce bt n L 4 τ tk D).2.2.2.2.1)))), (ay 1, .inl (0, 12, .inl (nF ((pOnce bt n L 4 τ tk D).2.2.2.2.2.1)))), (ay 2, .inl (0, 12, .inl (nF ((pOnce bt n L 4 τ tk D).2.2.2.2.2.2.1)))), (ay 3, .inl (0, 12, .inl (nF ((pOnce bt n L 4 τ tk D).2.2.2.2.2.2.2.1)))), (ay 4, .inl (0, 12, .inl (nF ((pOnce bt n L 4 τ tk D).2.2.2.2.2.2.2.2.1)))), (ay 5, .inl (0, 64, .inl (nF ((pOnce bt n L 4 τ tk D).2.2.2.2.2.2.2.2.2.1)))), (ay 6, .inl (1, 64, .inl (nF ((pOnce bt n L 4 τ tk D).2.2.2.2.2.2.2.2.2.2))))]) (Kr := []) [0, 1, 2, 3, 4, 5, 6, 7, 8] [] 2 dX11_readLine_151 zl_RX11_134 kX11_readWell rfl rfl rfl rfl rfl (by decide) rfl rfl (show dd - 1 + 1 ≤ dd by omega) (Nat.zero_le _) (Nat.zero_le _) (Nat.le_of_ble_eq_true rfl) (s_rdWell l (dd - 1) x b n L y ay bt (pOnce bt n L 4 τ tk D).2.1 pl (pOnce bt n L 4 τ tk D).2.2.1 (pOnce bt n L 4 τ tk D).2.2.2 (by omega) hn hL hbt hT1 hD1) (fun r K1 hr => ?_)
        rcases hr with ⟨hq151, rfl, rfl⟩ | ⟨hq151, rfl, rfl⟩
        · refine zs_K (K' := [(x, .inr (8, fTx b n L ((pWell bt n L (pOnce bt n L 4 τ tk D).2.1 (pOnce bt n L 4 τ tk D).2.2.1 (pOnce bt n L 4 τ tk D).2.2.2).2.1) 0 pl (nI (pWell bt n L (pOnce bt n L 4 τ tk D).2.1 (pOnce bt n L 4 τ tk D).2.2.1 (pOnce bt n L 4 τ tk D).2.2.2).2.2.1))), (b, .inl (0, 740, .inl (nF bt))), (y, .inr (9, fYard ay (ysN ((pWell bt n L (pOnce bt n L 4 τ tk D).2.1 (pOnce bt n L 4 τ tk D).2.2.1 (pOnce bt n L 4 τ tk D).2.2.2).2.2.2.1) ((pWell bt n L (pOnce bt n L 4 τ tk D).2.1 (pOnce bt n L 4 τ tk D).2.2.1 (pOnce bt n L 4 τ tk D).2.2.2).2.2.2.2.1)))), (ay 1, .inl (0, 12, .inl (nF ((pWell bt n L (pOnce bt n L 4 τ tk D).2.1 (pOnce bt n L 4 τ tk D).2.2.1 (pOnce bt n L 4 τ tk D).2.2.2).2.2.2.2.2.1)))), (ay 2, .inl (0, 12, .inl (nF ((pWell bt n L (pOnce bt n L 4 τ tk D).2.1 (pOnce bt n L 4 τ tk D).2.2.1 (pOnce bt n L 4 τ tk D).2.2.2).2.2.2.2.2.2.1)))), (ay 3, .inl (0, 12, .inl (nF ((pWell bt n L (pOnce bt n L 4 τ tk D).2.1 (pOnce bt n L 4 τ tk D).2.2.1 (pOnce bt n L 4 τ tk D).2.2.2).2.2.2.2.2.2.2.1)))), (ay 4, .inl (0, 12, .inl (nF ((pWell bt n L (pOnce bt n L 4 τ tk D).2.1 (pOnce bt n L 4 τ tk D).2.2.1 (pOnce bt n L 4 τ tk D).2.2.2).2.2.2.2.2.2.2.2.1)))), (ay 5, .inl (0, 64, .inl (nF ((pWell bt n L (pOnce bt n L 4 τ tk D).2.1 (pOnce bt n L 4 τ tk D).2.2.1 (pOnce bt n L 4 τ tk D).2.2.2).2.2.2.2.2.2.2.2.2.1)))), (ay 6, .inl (1, 64, .inl (nF ((pWell bt n L (pOnce bt n L 4 τ tk D).2.1 (pOnce bt n L 4 τ tk D).2.2.1 (pOnce bt n L 4 τ tk D).2.2.2).2.2.2.2.2.2.2.2.2.2))))]) [0, 1, 2, 3, 4, 5, 6, 7, 8] rfl (by decide) ?_
          refine zs_if_eq (tgt := 161) dX11_readLine_154 (by decide) (fun c_11 => (by first | exact absurd c_11 (by decide) | exact absurd (by decide) c_11 : False).elim) (fun c_11 => ?_)
          refine zs_iconst (v := nI 1) dX11_readLine_157 (by decide) ?_
          refine zs_goto (tgt := 162) dX11_readLine_158 (by decide) ?_
          have e : pLine bt n L τ tk D = (pWell bt n L (pOnce bt n L 4 τ tk D).2.1 (pOnce bt n L 4 τ tk D).2.2.1 (pOnce bt n L 4 τ tk D).2.2.2) := by rw [pLine_s hw, if_neg h23_1, if_neg h23_2, if_neg h23_3, if_neg h23_4, if_neg h23_5, if_pos h23_6, pBd_y hq143]
          exact zs_zret dX11_readLine_162 rfl (Or.inr rfl) (Or.inl ⟨by rw [e]; exact hq151, rfl, by rw [e]; rfl⟩)
        · refine zs_K (K' := [(x, .inr (8, fTx b n L ((pWell bt n L (pOnce bt n L 4 τ tk D).2.1 (pOnce bt n L 4 τ tk D).2.2.1 (pOnce bt n L 4 τ tk D).2.2.2).2.1) ((pWell bt n L (pOnce bt n L 4 τ tk D).2.1 (pOnce bt n L 4 τ tk D).2.2.1 (pOnce bt n L 4 τ tk D).2.2.2).1) ((pWell bt n L (pOnce bt n L 4 τ tk D).2.1 (pOnce bt n L 4 τ tk D).2.2.1 (pOnce bt n L 4 τ tk D).2.2.2).2.1.2.1) (nI (pWell bt n L (pOnce bt n L 4 τ tk D).2.1 (pOnce bt n L 4 τ tk D).2.2.1 (pOnce bt n L 4 τ tk D).2.2.2).2.2.1))), (b, .inl (0, 740, .inl (nF bt))), (y, .inr (9, fYard ay (ysN ((pWell bt n L (pOnce bt n L 4 τ tk D).2.1 (pOnce bt n L 4 τ tk D).2.2.1 (pOnce bt n L 4 τ tk D).2.2.2).2.2.2.1) ((pWell bt n L (pOnce bt n L 4 τ tk D).2.1 (pOnce bt n L 4 τ tk D).2.2.1 (pOnce bt n L 4 τ tk D).2.2.2).2.2.2.2.1)))), (ay 1, .inl (0, 12, .inl (nF ((pWell bt n L (pOnce bt n L 4 τ tk D).2.1 (pOnce bt n L 4 τ tk D).2.2.1 (pOnce bt n L 4 τ tk D).2.2.2).2.2.2.2.2.1)))), (ay 2, .inl (0, 12, .inl (nF ((pWell bt n L (pOnce bt n L 4 τ tk D).2.1 (pOnce bt n L 4 τ tk D).2.2.1 (pOnce bt n L 4 τ tk D).2.2.2).2.2.2.2.2.2.1)))), (ay 3, .inl (0, 12, .inl (nF ((pWell bt n L (pOnce bt n L 4 τ tk D).2.1 (pOnce bt n L 4 τ tk D).2.2.1 (pOnce bt n L 4 τ tk D).2.2.2).2.2.2.2.2.2.2.1)))), (ay 4, .inl (0, 12, .inl (nF ((pWell bt n L (pOnce bt n L 4 τ tk D).2.1 (pOnce bt n L 4 τ tk D).2.2.1 (pOnce bt n L 4 τ tk D).2.2.2).2.2.2.2.2.2.2.2.1)))), (ay 5, .inl (0, 64, .inl (nF ((pWell bt n L (pOnce bt n L 4 τ tk D).2.1 (pOnce bt n L 4 τ tk D).2.2.1 (pOnce bt n L 4 τ tk D).2.2.2).2.2.2.2.2.2.2.2.2.1)))), (ay 6, .inl (1, 64, .inl (nF ((pWell bt n L (pOnce bt n L 4 τ tk D).2.1 (pOnce bt n L 4 τ tk D).2.2.1 (pOnce bt n L 4 τ tk D).2.2.2).2.2.2.2.2.2.2.2.2.2))))]) [0, 1, 2, 3, 4, 5, 6, 7, 8] rfl (by decide) ?_
          refine zs_if_eq (tgt := 161) dX11_readLine_154 (by decide) (fun c_12 => ?_) (fun c_12 => (by first | exact absurd c_12 (by decide) | exact absurd (by decide) c_12 : False).elim)
          refine zs_iconst (v := nI 0) dX11_readLine_161 (by decide) ?_
          have e : pLine bt n L τ tk D = (pWell bt n L (pOnce bt n L 4 τ tk D).2.1 (pOnce bt n L 4 τ tk D).2.2.1 (pOnce bt n L 4 τ tk D).2.2.2) := by rw [pLine_s hw, if_neg h23_1, if_neg h23_2, if_neg h23_3, if_neg h23_4, if_neg h23_5, if_pos h23_6, pBd_y hq143]
          exact zs_zret dX11_readLine_162 rfl (Or.inl rfl) (Or.inr ⟨by rw [e]; exact hq151, rfl, by rw [e]; rfl⟩)
      · refine zs_K (K' := [(x, .inr (8, fTx b n L ((pOnce bt n L 4 τ tk D).2.1) ((pOnce bt n L 4 τ tk D).1) ((pOnce bt n L 4 τ tk D).2.1.2.1) (nI (pOnce bt n L 4 τ tk D).2.2.1))), (b, .inl (0, 740, .inl (nF bt))), (y, .inr (9, fYard ay (ysN ((pOnce bt n L 4 τ tk D).2.2.2.1) ((pOnce bt n L 4 τ tk D).2.2.2.2.1)))), (ay 1, .inl (0, 12, .inl (nF ((pOnce bt n L 4 τ tk D).2.2.2.2.2.1)))), (ay 2, .inl (0, 12, .inl (nF ((pOnce bt n L 4 τ tk D).2.2.2.2.2.2.1)))), (ay 3, .inl (0, 12, .inl (nF ((pOnce bt n L 4 τ tk D).2.2.2.2.2.2.2.1)))), (ay 4, .inl (0, 12, .inl (nF ((pOnce bt n L 4 τ tk D).2.2.2.2.2.2.2.2.1)))), (ay 5, .inl (0, 64, .inl (nF ((pOnce bt n L 4 τ tk D).2.2.2.2.2.2.2.2.2.1)))), (ay 6, .inl (1, 64, .inl (nF ((pOnce bt n L 4 τ tk D).2.2.2.2.2.2.2.2.2.2))))]) [0, 1, 2, 3, 4, 5, 6, 7, 8] rfl (by decide) ?_
        refine zs_if_eq (tgt := 161) dX11_readLine_146 (by decide) (fun c_13 => ?_) (fun c_13 => (by first | exact absurd c_13 (by decide) | exact absurd (by decide) c_13 : False).elim)
        refine zs_iconst (v := nI 0) dX11_readLine_161 (by decide) ?_
        have e : pLine bt n L τ tk D = (pOnce bt n L 4 τ tk D) := by rw [pLine_s hw, if_neg h23_1, if_neg h23_2, if_neg h23_3, if_neg h23_4, if_neg h23_5, if_pos h23_6, pBd_n hq143]
        exact zs_zret dX11_readLine_162 rfl (Or.inl rfl) (Or.inr ⟨by rw [e]; exact hq143, rfl, by rw [e]; rfl⟩)
    by_cases h23_7 : (zSwN.getD i 0) = 7
    · refine zs_as (y := nI 7) (congrArg nI h23_7) ?_
      refine zs_tableIn (off := 140) (tgt := 163) dX11_readLine_23 (by decide) (by decide) rfl (by decide) ?_
      refine zs_aload_n dX11_readLine_163 rfl rfl ?_
      refine zs_aload_n dX11_readLine_164 rfl rfl ?_
      refine zs_bipush (v := nI 8) dX11_readLine_165 (by decide) ?_
      refine zs_callV (M := mX11_once) (As := [.ref x, .int (nI 8)]) (st := []) (Kc := [(x, .inr (8, fTx b n L τ 0 pl (nI tk))), (b, .inl (0, 740, .inl (nF bt))), (y, .inr (9, fYard ay (ysN D.1 D.2.1))), (ay 1, .inl (0, 12, .inl (nF D.2.2.1))), (ay 2, .inl (0, 12, .inl (nF D.2.2.2.1))), (ay 3, .inl (0, 12, .inl (nF D.2.2.2.2.1))), (ay 4, .inl (0, 12, .inl (nF D.2.2.2.2.2.1))), (ay 5, .inl (0, 64, .inl (nF D.2.2.2.2.2.2.1))), (ay 6, .inl (1, 64, .inl (nF D.2.2.2.2.2.2.2)))]) (Kr := []) [0, 1, 2, 3, 4, 5, 6, 7, 8] [] 2 dX11_readLine_167 zl_RX11_124 kX11_once rfl rfl rfl rfl rfl (by decide) rfl rfl (show dd - 1 + 1 ≤ dd by omega) (Nat.zero_le _) (Nat.zero_le _) (Nat.le_of_ble_eq_true rfl) (s_rdOnce l (dd - 1) x b n L y ay bt τ pl tk D 3 (by decide) (by omega) hn hL hbt hτ hD) (fun r K1 hr => ?_)
      rcases hr with ⟨hq167, rfl, rfl⟩ | ⟨hq167, rfl, rfl⟩
      · have hT1 : tOK (pOnce bt n L 8 τ tk D).2.1 := pOnce_T hτ hbt hn
        have hD1 : yI (pOnce bt n L 8 τ tk D).2.2.2 := pOnce_I (k := 3) hD (by decide)
        refine zs_K (K' := [(x, .inr (8, fTx b n L ((pOnce bt n L 8 τ tk D).2.1) 0 pl (nI (pOnce bt n L 8 τ tk D).2.2.1))), (b, .inl (0, 740, .inl (nF bt))), (y, .inr (9, fYard ay (ysN ((pOnce bt n L 8 τ tk D).2.2.2.1) ((pOnce bt n L 8 τ tk D).2.2.2.2.1)))), (ay 1, .inl (0, 12, .inl (nF ((pOnce bt n L 8 τ tk D).2.2.2.2.2.1)))), (ay 2, .inl (0, 12, .inl (nF ((pOnce bt n L 8 τ tk D).2.2.2.2.2.2.1)))), (ay 3, .inl (0, 12, .inl (nF ((pOnce bt n L 8 τ tk D).2.2.2.2.2.2.2.1)))), (ay 4, .inl (0, 12, .inl (nF ((pOnce bt n L 8 τ tk D).2.2.2.2.2.2.2.2.1)))), (ay 5, .inl (0, 64, .inl (nF ((pOnce bt n L 8 τ tk D).2.2.2.2.2.2.2.2.2.1)))), (ay 6, .inl (1, 64, .inl (nF ((pOnce bt n L 8 τ tk D).2.2.2.2.2.2.2.2.2.2))))]) [0, 1, 2, 3, 4, 5, 6, 7, 8] rfl (by decide) ?_
        refine zs_if_eq (tgt := 184) dX11_readLine_170 (by decide) (fun c_14 => (by first | exact absurd c_14 (by decide) | exact absurd (by decide) c_14 : False).elim) (fun c_14 => ?_)
        refine zs_aload_n dX11_readLine_173 rfl rfl ?_
        refine zs_bipush (v := nI 10) dX11_readLine_174 (by decide) ?_
        refine zs_bipush (v := nI 99) dX11_readLine_176 (by decide) ?_
        refine zs_callV (M := mX9_takeNumber) (As := [.int (nI 10), .int (nI 99)]) (st := []) (Kc := [(x, .inr (8, fTx b n L ((pOnce bt n L 8 τ tk D).2.1) 0 pl (nI (pOnce bt n L 8 τ tk D).2.2.1))), (b, .inl (0, 740, .inl (nF bt)))]) (Kr := [(y, .inr (9, fYard ay (ysN ((pOnce bt n L 8 τ tk D).2.2.2.1) ((pOnce bt n L 8 τ tk D).2.2.2.2.1)))), (ay 1, .inl (0, 12, .inl (nF ((pOnce bt n L 8 τ tk D).2.2.2.2.2.1)))), (ay 2, .inl (0, 12, .inl (nF ((pOnce bt n L 8 τ tk D).2.2.2.2.2.2.1)))), (ay 3, .inl (0, 12, .inl (nF ((pOnce bt n L 8 τ tk D).2.2.2.2.2.2.2.1)))), (ay 4, .inl (0, 12, .inl (nF ((pOnce bt n L 8 τ tk D).2.2.2.2.2.2.2.2.1)))), (ay 5, .inl (0, 64, .inl (nF ((pOnce bt n L 8 τ tk D).2.2.2.2.2.2.2.2.2.1)))), (ay 6, .inl (1, 64, .inl (nF ((pOnce bt n L 8 τ tk D).2.2.2.2.2.2.2.2.2.2))))]) [0, 1] [2, 3, 4, 5, 6, 7, 8] 0 dX11_readLine_178 zl_RX11_137 kX9_takeNumber rfl rfl rfl rfl rfl (by decide) rfl rfl (show dd - 1 + 1 ≤ dd by omega) (Nat.zero_le _) (Nat.zero_le _) (Nat.le_of_ble_eq_true rfl) (s_takeNumber l (dd - 1) x b n L bt ((pOnce bt n L 8 τ tk D).2.1) pl (nI (pOnce bt n L 8 τ tk D).2.2.1) 10 99 (by omega) hn hL hbt hT1 (by omega) (by omega)) (fun r K1 hr => ?_)
        rcases hr with ⟨hq178, rfl, rfl⟩ | ⟨hq178, rfl, rfl⟩
        · have hr178 := tNu_r hq178
          refine zs_K (K' := [(x, .inr (8, fTx b n L (nxt bt n L ((pOnce bt n L 8 τ tk D).2.1)) 0 pl (nI ((pOnce bt n L 8 τ tk D).2.1).2.2.2.1))), (b, .inl (0, 740, .inl (nF bt))), (y, .inr (9, fYard ay (ysN ((pOnce bt n L 8 τ tk D).2.2.2.1) ((pOnce bt n L 8 τ tk D).2.2.2.2.1)))), (ay 1, .inl (0, 12, .inl (nF ((pOnce bt n L 8 τ tk D).2.2.2.2.2.1)))), (ay 2, .inl (0, 12, .inl (nF ((pOnce bt n L 8 τ tk D).2.2.2.2.2.2.1)))), (ay 3, .inl (0, 12, .inl (nF ((pOnce bt n L 8 τ tk D).2.2.2.2.2.2.2.1)))), (ay 4, .inl (0, 12, .inl (nF ((pOnce bt n L 8 τ tk D).2.2.2.2.2.2.2.2.1)))), (ay 5, .inl (0, 64, .inl (nF ((pOnce bt n L 8 τ tk D).2.2.2.2.2.2.2.2.2.1)))), (ay 6, .inl (1, 64, .inl (nF ((pOnce bt n L 8 τ tk D).2.2.2.2.2.2.2.2.2.2))))]) [7, 8, 0, 1, 2, 3, 4, 5, 6] rfl (by decide) ?_
          refine zs_if_ne (tgt := 186) dX11_readLine_181 (by decide) (fun c_15 => ?_) (fun c_15 => (by first | exact absurd c_15 (by decide) | exact absurd (by decide) c_15 : False).elim)
          refine zs_aload_n dX11_readLine_186 rfl rfl ?_
          refine zs_aload_n dX11_readLine_187 rfl rfl ?_
          refine zs_get 0 dX11_readLine_188 zf_RX11_141 rfl (v := .int (nI ((pOnce bt n L 8 τ tk D).2.1).2.2.2.1)) rfl ?_
          refine zs_put 2 dX11_readLine_191 zf_RX11_38 rfl (Nat.le_of_ble_eq_true rfl) (zPv_i _) ?_
          show zS _ _ _ _ _ _ [(x, .inr (8, fTx b n L (nxt bt n L ((pOnce bt n L 8 τ tk D).2.1)) 0 pl (nI ((pOnce bt n L 8 τ tk D).2.1).2.2.2.1))), (b, .inl (0, 740, .inl (nF bt))), (y, .inr (9, fYard ay (ysN (un ((pOnce bt n L 8 τ tk D).2.2.2.1) 5 (((pOnce bt n L 8 τ tk D).2.1).2.2.2.1)) ((pOnce bt n L 8 τ tk D).2.2.2.2.1)))), (ay 1, .inl (0, 12, .inl (nF ((pOnce bt n L 8 τ tk D).2.2.2.2.2.1)))), (ay 2, .inl (0, 12, .inl (nF ((pOnce bt n L 8 τ tk D).2.2.2.2.2.2.1)))), (ay 3, .inl (0, 12, .inl (nF ((pOnce bt n L 8 τ tk D).2.2.2.2.2.2.2.1)))), (ay 4, .inl (0, 12, .inl (nF ((pOnce bt n L 8 τ tk D).2.2.2.2.2.2.2.2.1)))), (ay 5, .inl (0, 64, .inl (nF ((pOnce bt n L 8 τ tk D).2.2.2.2.2.2.2.2.2.1)))), (ay 6, .inl (1, 64, .inl (nF ((pOnce bt n L 8 τ tk D).2.2.2.2.2.2.2.2.2.2))))]
          refine zs_iconst (v := nI 1) dX11_readLine_194 (by decide) ?_
          have e : pLine bt n L τ tk D = (0, (nxt bt n L ((pOnce bt n L 8 τ tk D).2.1)), (((pOnce bt n L 8 τ tk D).2.1).2.2.2.1), (un ((pOnce bt n L 8 τ tk D).2.2.2.1) 5 (((pOnce bt n L 8 τ tk D).2.1).2.2.2.1), (pOnce bt n L 8 τ tk D).2.2.2.2.1, (pOnce bt n L 8 τ tk D).2.2.2.2.2.1, (pOnce bt n L 8 τ tk D).2.2.2.2.2.2.1, (pOnce bt n L 8 τ tk D).2.2.2.2.2.2.2.1, (pOnce bt n L 8 τ tk D).2.2.2.2.2.2.2.2.1, (pOnce bt n L 8 τ tk D).2.2.2.2.2.2.2.2.2.1, (pOnce bt n L 8 τ tk D).2.2.2.2.2.2.2.2.2.2)) := by rw [pLine_s hw, if_neg h23_1, if_neg h23_2, if_neg h23_3, if_neg h23_4, if_neg h23_5, if_neg h23_6, if_pos h23_7, pOne, pBd_y hq167, pNu_bo hq178] <;> rfl
          exact zs_zret dX11_readLine_195 rfl (Or.inr rfl) (Or.inl ⟨by rw [e], rfl, by rw [e]; rfl⟩)
        · refine zs_K (K' := [(x, .inr (8, fTx b n L ((pOnce bt n L 8 τ tk D).2.1) (tNu ((pOnce bt n L 8 τ tk D).2.1) 10 99) (((pOnce bt n L 8 τ tk D).2.1).2.1) (nI (pOnce bt n L 8 τ tk D).2.2.1))), (b, .inl (0, 740, .inl (nF bt))), (y, .inr (9, fYard ay (ysN ((pOnce bt n L 8 τ tk D).2.2.2.1) ((pOnce bt n L 8 τ tk D).2.2.2.2.1)))), (ay 1, .inl (0, 12, .inl (nF ((pOnce bt n L 8 τ tk D).2.2.2.2.2.1)))), (ay 2, .inl (0, 12, .inl (nF ((pOnce bt n L 8 τ tk D).2.2.2.2.2.2.1)))), (ay 3, .inl (0, 12, .inl (nF ((pOnce bt n L 8 τ tk D).2.2.2.2.2.2.2.1)))), (ay 4, .inl (0, 12, .inl (nF ((pOnce bt n L 8 τ tk D).2.2.2.2.2.2.2.2.1)))), (ay 5, .inl (0, 64, .inl (nF ((pOnce bt n L 8 τ tk D).2.2.2.2.2.2.2.2.2.1)))), (ay 6, .inl (1, 64, .inl (nF ((pOnce bt n L 8 τ tk D).2.2.2.2.2.2.2.2.2.2))))]) [7, 8, 0, 1, 2, 3, 4, 5, 6] rfl (by decide) ?_
          refine zs_if_ne (tgt := 186) dX11_readLine_181 (by decide) (fun c_16 => (by first | exact absurd c_16 (by decide) | exact absurd (by decide) c_16 : False).elim) (fun c_16 => ?_)
          refine zs_iconst (v := nI 0) dX11_readLine_184 (by decide) ?_
          have e : pLine bt n L τ tk D = ((tNu ((pOnce bt n L 8 τ tk D).2.1) 10 99), ((pOnce bt n L 8 τ tk D).2.1), ((pOnce bt n L 8 τ tk D).2.2.1), ((pOnce bt n L 8 τ tk D).2.2.2.1, (pOnce bt n L 8 τ tk D).2.2.2.2.1, (pOnce bt n L 8 τ tk D).2.2.2.2.2.1, (pOnce bt n L 8 τ tk D).2.2.2.2.2.2.1, (pOnce bt n L 8 τ tk D).2.2.2.2.2.2.2.1, (pOnce bt n L 8 τ tk D).2.2.2.2.2.2.2.2.1, (pOnce bt n L 8 τ tk D).2.2.2.2.2.2.2.2.2.1, (pOnce bt n L 8 τ tk D).2.2.2.2.2.2.2.2.2.2)) := by rw [pLine_s hw, if_neg h23_1, if_neg h23_2, if_neg h23_3, if_neg h23_4, if_neg h23_5, if_neg h23_6, if_pos h23_7, pOne, pBd_y hq167, pNu_bn hq178] <;> rfl
          exact zs_zret dX11_readLine_185 rfl (Or.inl rfl) (Or.inr ⟨by rw [e]; exact hq178, rfl, by rw [e]; rfl⟩)
      · refine zs_K (K' := [(x, .inr (8, fTx b n L ((pOnce bt n L 8 τ tk D).2.1) ((pOnce bt n L 8 τ tk D).1) ((pOnce bt n L 8 τ tk D).2.1.2.1) (nI (pOnce bt n L 8 τ tk D).2.2.1))), (b, .inl (0, 740, .inl (nF bt))), (y, .inr (9, fYard ay (ysN ((pOnce bt n L 8 τ tk D).2.2.2.1) ((pOnce bt n L 8 τ tk D).2.2.2.2.1)))), (ay 1, .inl (0, 12, .inl (nF ((pOnce bt n L 8 τ tk D).2.2.2.2.2.1)))), (ay 2, .inl (0, 12, .inl (nF ((pOnce bt n L 8 τ tk D).2.2.2.2.2.2.1)))), (ay 3, .inl (0, 12, .inl (nF ((pOnce bt n L 8 τ tk D).2.2.2.2.2.2.2.1)))), (ay 4, .inl (0, 12, .inl (nF ((pOnce bt n L 8 τ tk D).2.2.2.2.2.2.2.2.1)))), (ay 5, .inl (0, 64, .inl (nF ((pOnce bt n L 8 τ tk D).2.2.2.2.2.2.2.2.2.1)))), (ay 6, .inl (1, 64, .inl (nF ((pOnce bt n L 8 τ tk D).2.2.2.2.2.2.2.2.2.2))))]) [0, 1, 2, 3, 4, 5, 6, 7, 8] rfl (by decide) ?_
        refine zs_if_eq (tgt := 184) dX11_readLine_170 (by decide) (fun c_17 => ?_) (fun c_17 => (by first | exact absurd c_17 (by decide) | exact absurd (by decide) c_17 : False).elim)
        refine zs_iconst (v := nI 0) dX11_readLine_184 (by decide) ?_
        have e : pLine bt n L τ tk D = (pOnce bt n L 8 τ tk D) := by rw [pLine_s hw, if_neg h23_1, if_neg h23_2, if_neg h23_3, if_neg h23_4, if_neg h23_5, if_neg h23_6, if_pos h23_7, pOne, pBd_n hq167]
        exact zs_zret dX11_readLine_185 rfl (Or.inl rfl) (Or.inr ⟨by rw [e]; exact hq167, rfl, by rw [e]; rfl⟩)
    by_cases h23_8 : (zSwN.getD i 0) = 8
    · refine zs_as (y := nI 8) (congrArg nI h23_8) ?_
      refine zs_tableIn (off := 173) (tgt := 196) dX11_readLine_23 (by decide) (by decide) rfl (by decide) ?_
      refine zs_aload_n dX11_readLine_196 rfl rfl ?_
      refine zs_aload_n dX11_readLine_197 rfl rfl ?_
      refine zs_bipush (v := nI 16) dX11_readLine_198 (by decide) ?_
      refine zs_callV (M := mX11_once) (As := [.ref x, .int (nI 16)]) (st := []) (Kc := [(x, .inr (8, fTx b n L τ 0 pl (nI tk))), (b, .inl (0, 740, .inl (nF bt))), (y, .inr (9, fYard ay (ysN D.1 D.2.1))), (ay 1, .inl (0, 12, .inl (nF D.2.2.1))), (ay 2, .inl (0, 12, .inl (nF D.2.2.2.1))), (ay 3, .inl (0, 12, .inl (nF D.2.2.2.2.1))), (ay 4, .inl (0, 12, .inl (nF D.2.2.2.2.2.1))), (ay 5, .inl (0, 64, .inl (nF D.2.2.2.2.2.2.1))), (ay 6, .inl (1, 64, .inl (nF D.2.2.2.2.2.2.2)))]) (Kr := []) [0, 1, 2, 3, 4, 5, 6, 7, 8] [] 2 dX11_readLine_200 zl_RX11_124 kX11_once rfl rfl rfl rfl rfl (by decide) rfl rfl (show dd - 1 + 1 ≤ dd by omega) (Nat.zero_le _) (Nat.zero_le _) (Nat.le_of_ble_eq_true rfl) (s_rdOnce l (dd - 1) x b n L y ay bt τ pl tk D 4 (by decide) (by omega) hn hL hbt hτ hD) (fun r K1 hr => ?_)
      rcases hr with ⟨hq200, rfl, rfl⟩ | ⟨hq200, rfl, rfl⟩
      · have hT1 : tOK (pOnce bt n L 16 τ tk D).2.1 := pOnce_T hτ hbt hn
        have hD1 : yI (pOnce bt n L 16 τ tk D).2.2.2 := pOnce_I (k := 4) hD (by decide)
        refine zs_K (K' := [(x, .inr (8, fTx b n L ((pOnce bt n L 16 τ tk D).2.1) 0 pl (nI (pOnce bt n L 16 τ tk D).2.2.1))), (b, .inl (0, 740, .inl (nF bt))), (y, .inr (9, fYard ay (ysN ((pOnce bt n L 16 τ tk D).2.2.2.1) ((pOnce bt n L 16 τ tk D).2.2.2.2.1)))), (ay 1, .inl (0, 12, .inl (nF ((pOnce bt n L 16 τ tk D).2.2.2.2.2.1)))), (ay 2, .inl (0, 12, .inl (nF ((pOnce bt n L 16 τ tk D).2.2.2.2.2.2.1)))), (ay 3, .inl (0, 12, .inl (nF ((pOnce bt n L 16 τ tk D).2.2.2.2.2.2.2.1)))), (ay 4, .inl (0, 12, .inl (nF ((pOnce bt n L 16 τ tk D).2.2.2.2.2.2.2.2.1)))), (ay 5, .inl (0, 64, .inl (nF ((pOnce bt n L 16 τ tk D).2.2.2.2.2.2.2.2.2.1)))), (ay 6, .inl (1, 64, .inl (nF ((pOnce bt n L 16 τ tk D).2.2.2.2.2.2.2.2.2.2))))]) [0, 1, 2, 3, 4, 5, 6, 7, 8] rfl (by decide) ?_
        refine zs_if_eq (tgt := 216) dX11_readLine_203 (by decide) (fun c_18 => (by first | exact absurd c_18 (by decide) | exact absurd (by decide) c_18 : False).elim) (fun c_18 => ?_)
        refine zs_aload_n dX11_readLine_206 rfl rfl ?_
        refine zs_iconst (v := nI 0) dX11_readLine_207 (by decide) ?_
        refine zs_bipush (v := nI 99) dX11_readLine_208 (by decide) ?_
        refine zs_callV (M := mX9_takeNumber) (As := [.int (nI 0), .int (nI 99)]) (st := []) (Kc := [(x, .inr (8, fTx b n L ((pOnce bt n L 16 τ tk D).2.1) 0 pl (nI (pOnce bt n L 16 τ tk D).2.2.1))), (b, .inl (0, 740, .inl (nF bt)))]) (Kr := [(y, .inr (9, fYard ay (ysN ((pOnce bt n L 16 τ tk D).2.2.2.1) ((pOnce bt n L 16 τ tk D).2.2.2.2.1)))), (ay 1, .inl (0, 12, .inl (nF ((pOnce bt n L 16 τ tk D).2.2.2.2.2.1)))), (ay 2, .inl (0, 12, .inl (nF ((pOnce bt n L 16 τ tk D).2.2.2.2.2.2.1)))), (ay 3, .inl (0, 12, .inl (nF ((pOnce bt n L 16 τ tk D).2.2.2.2.2.2.2.1)))), (ay 4, .inl (0, 12, .inl (nF ((pOnce bt n L 16 τ tk D).2.2.2.2.2.2.2.2.1)))), (ay 5, .inl (0, 64, .inl (nF ((pOnce bt n L 16 τ tk D).2.2.2.2.2.2.2.2.2.1)))), (ay 6, .inl (1, 64, .inl (nF ((pOnce bt n L 16 τ tk D).2.2.2.2.2.2.2.2.2.2))))]) [0, 1] [2, 3, 4, 5, 6, 7, 8] 0 dX11_readLine_210 zl_RX11_137 kX9_takeNumber rfl rfl rfl rfl rfl (by decide) rfl rfl (show dd - 1 + 1 ≤ dd by omega) (Nat.zero_le _) (Nat.zero_le _) (Nat.le_of_ble_eq_true rfl) (s_takeNumber l (dd - 1) x b n L bt ((pOnce bt n L 16 τ tk D).2.1) pl (nI (pOnce bt n L 16 τ tk D).2.2.1) 0 99 (by omega) hn hL hbt hT1 (by omega) (by omega)) (fun r K1 hr => ?_)
        rcases hr with ⟨hq210, rfl, rfl⟩ | ⟨hq210, rfl, rfl⟩
        · have hr210 := tNu_r hq210
          refine zs_K (K' := [(x, .inr (8, fTx b n L (nxt bt n L ((pOnce bt n L 16 τ tk D).2.1)) 0 pl (nI ((pOnce bt n L 16 τ tk D).2.1).2.2.2.1))), (b, .inl (0, 740, .inl (nF bt))), (y, .inr (9, fYard ay (ysN ((pOnce bt n L 16 τ tk D).2.2.2.1) ((pOnce bt n L 16 τ tk D).2.2.2.2.1)))), (ay 1, .inl (0, 12, .inl (nF ((pOnce bt n L 16 τ tk D).2.2.2.2.2.1)))), (ay 2, .inl (0, 12, .inl (nF ((pOnce bt n L 16 τ tk D).2.2.2.2.2.2.1)))), (ay 3, .inl (0, 12, .inl (nF ((pOnce bt n L 16 τ tk D).2.2.2.2.2.2.2.1)))), (ay 4, .inl (0, 12, .inl (nF ((pOnce bt n L 16 τ tk D).2.2.2.2.2.2.2.2.1)))), (ay 5, .inl (0, 64, .inl (nF ((pOnce bt n L 16 τ tk D).2.2.2.2.2.2.2.2.2.1)))), (ay 6, .inl (1, 64, .inl (nF ((pOnce bt n L 16 τ tk D).2.2.2.2.2.2.2.2.2.2))))]) [7, 8, 0, 1, 2, 3, 4, 5, 6] rfl (by decide) ?_
          refine zs_if_ne (tgt := 218) dX11_readLine_213 (by decide) (fun c_19 => ?_) (fun c_19 => (by first | exact absurd c_19 (by decide) | exact absurd (by decide) c_19 : False).elim)
          refine zs_aload_n dX11_readLine_218 rfl rfl ?_
          refine zs_aload_n dX11_readLine_219 rfl rfl ?_
          refine zs_get 0 dX11_readLine_220 zf_RX11_141 rfl (v := .int (nI ((pOnce bt n L 16 τ tk D).2.1).2.2.2.1)) rfl ?_
          refine zs_put 2 dX11_readLine_223 zf_RX11_53 rfl (Nat.le_of_ble_eq_true rfl) (zPv_i _) ?_
          show zS _ _ _ _ _ _ [(x, .inr (8, fTx b n L (nxt bt n L ((pOnce bt n L 16 τ tk D).2.1)) 0 pl (nI ((pOnce bt n L 16 τ tk D).2.1).2.2.2.1))), (b, .inl (0, 740, .inl (nF bt))), (y, .inr (9, fYard ay (ysN (un ((pOnce bt n L 16 τ tk D).2.2.2.1) 10 (((pOnce bt n L 16 τ tk D).2.1).2.2.2.1)) ((pOnce bt n L 16 τ tk D).2.2.2.2.1)))), (ay 1, .inl (0, 12, .inl (nF ((pOnce bt n L 16 τ tk D).2.2.2.2.2.1)))), (ay 2, .inl (0, 12, .inl (nF ((pOnce bt n L 16 τ tk D).2.2.2.2.2.2.1)))), (ay 3, .inl (0, 12, .inl (nF ((pOnce bt n L 16 τ tk D).2.2.2.2.2.2.2.1)))), (ay 4, .inl (0, 12, .inl (nF ((pOnce bt n L 16 τ tk D).2.2.2.2.2.2.2.2.1)))), (ay 5, .inl (0, 64, .inl (nF ((pOnce bt n L 16 τ tk D).2.2.2.2.2.2.2.2.2.1)))), (ay 6, .inl (1, 64, .inl (nF ((pOnce bt n L 16 τ tk D).2.2.2.2.2.2.2.2.2.2))))]
          refine zs_iconst (v := nI 1) dX11_readLine_226 (by decide) ?_
          have e : pLine bt n L τ tk D = (0, (nxt bt n L ((pOnce bt n L 16 τ tk D).2.1)), (((pOnce bt n L 16 τ tk D).2.1).2.2.2.1), (un ((pOnce bt n L 16 τ tk D).2.2.2.1) 10 (((pOnce bt n L 16 τ tk D).2.1).2.2.2.1), (pOnce bt n L 16 τ tk D).2.2.2.2.1, (pOnce bt n L 16 τ tk D).2.2.2.2.2.1, (pOnce bt n L 16 τ tk D).2.2.2.2.2.2.1, (pOnce bt n L 16 τ tk D).2.2.2.2.2.2.2.1, (pOnce bt n L 16 τ tk D).2.2.2.2.2.2.2.2.1, (pOnce bt n L 16 τ tk D).2.2.2.2.2.2.2.2.2.1, (pOnce bt n L 16 τ tk D).2.2.2.2.2.2.2.2.2.2)) := by rw [pLine_s hw, if_neg h23_1, if_neg h23_2, if_neg h23_3, if_neg h23_4, if_neg h23_5, if_neg h23_6, if_neg h23_7, if_pos h23_8, pOne, pBd_y hq200, pNu_bo hq210] <;> rfl
          exact zs_zret dX11_readLine_227 rfl (Or.inr rfl) (Or.inl ⟨by rw [e], rfl, by rw [e]; rfl⟩)
        · refine zs_K (K' := [(x, .inr (8, fTx b n L ((pOnce bt n L 16 τ tk D).2.1) (tNu ((pOnce bt n L 16 τ tk D).2.1) 0 99) (((pOnce bt n L 16 τ tk D).2.1).2.1) (nI (pOnce bt n L 16 τ tk D).2.2.1))), (b, .inl (0, 740, .inl (nF bt))), (y, .inr (9, fYard ay (ysN ((pOnce bt n L 16 τ tk D).2.2.2.1) ((pOnce bt n L 16 τ tk D).2.2.2.2.1)))), (ay 1, .inl (0, 12, .inl (nF ((pOnce bt n L 16 τ tk D).2.2.2.2.2.1)))), (ay 2, .inl (0, 12, .inl (nF ((pOnce bt n L 16 τ tk D).2.2.2.2.2.2.1)))), (ay 3, .inl (0, 12, .inl (nF ((pOnce bt n L 16 τ tk D).2.2.2.2.2.2.2.1)))), (ay 4, .inl (0, 12, .inl (nF ((pOnce bt n L 16 τ tk D).2.2.2.2.2.2.2.2.1)))), (ay 5, .inl (0, 64, .inl (nF ((pOnce bt n L 16 τ tk D).2.2.2.2.2.2.2.2.2.1)))), (ay 6, .inl (1, 64, .inl (nF ((pOnce bt n L 16 τ tk D).2.2.2.2.2.2.2.2.2.2))))]) [7, 8, 0, 1, 2, 3, 4, 5, 6] rfl (by decide) ?_
          refine zs_if_ne (tgt := 218) dX11_readLine_213 (by decide) (fun c_20 => (by first | exact absurd c_20 (by decide) | exact absurd (by decide) c_20 : False).elim) (fun c_20 => ?_)
          refine zs_iconst (v := nI 0) dX11_readLine_216 (by decide) ?_
          have e : pLine bt n L τ tk D = ((tNu ((pOnce bt n L 16 τ tk D).2.1) 0 99), ((pOnce bt n L 16 τ tk D).2.1), ((pOnce bt n L 16 τ tk D).2.2.1), ((pOnce bt n L 16 τ tk D).2.2.2.1, (pOnce bt n L 16 τ tk D).2.2.2.2.1, (pOnce bt n L 16 τ tk D).2.2.2.2.2.1, (pOnce bt n L 16 τ tk D).2.2.2.2.2.2.1, (pOnce bt n L 16 τ tk D).2.2.2.2.2.2.2.1, (pOnce bt n L 16 τ tk D).2.2.2.2.2.2.2.2.1, (pOnce bt n L 16 τ tk D).2.2.2.2.2.2.2.2.2.1, (pOnce bt n L 16 τ tk D).2.2.2.2.2.2.2.2.2.2)) := by rw [pLine_s hw, if_neg h23_1, if_neg h23_2, if_neg h23_3, if_neg h23_4, if_neg h23_5, if_neg h23_6, if_neg h23_7, if_pos h23_8, pOne, pBd_y hq200, pNu_bn hq210] <;> rfl
          exact zs_zret dX11_readLine_217 rfl (Or.inl rfl) (Or.inr ⟨by rw [e]; exact hq210, rfl, by rw [e]; rfl⟩)
      · refine zs_K (K' := [(x, .inr (8, fTx b n L ((pOnce bt n L 16 τ tk D).2.1) ((pOnce bt n L 16 τ tk D).1) ((pOnce bt n L 16 τ tk D).2.1.2.1) (nI (pOnce bt n L 16 τ tk D).2.2.1))), (b, .inl (0, 740, .inl (nF bt))), (y, .inr (9, fYard ay (ysN ((pOnce bt n L 16 τ tk D).2.2.2.1) ((pOnce bt n L 16 τ tk D).2.2.2.2.1)))), (ay 1, .inl (0, 12, .inl (nF ((pOnce bt n L 16 τ tk D).2.2.2.2.2.1)))), (ay 2, .inl (0, 12, .inl (nF ((pOnce bt n L 16 τ tk D).2.2.2.2.2.2.1)))), (ay 3, .inl (0, 12, .inl (nF ((pOnce bt n L 16 τ tk D).2.2.2.2.2.2.2.1)))), (ay 4, .inl (0, 12, .inl (nF ((pOnce bt n L 16 τ tk D).2.2.2.2.2.2.2.2.1)))), (ay 5, .inl (0, 64, .inl (nF ((pOnce bt n L 16 τ tk D).2.2.2.2.2.2.2.2.2.1)))), (ay 6, .inl (1, 64, .inl (nF ((pOnce bt n L 16 τ tk D).2.2.2.2.2.2.2.2.2.2))))]) [0, 1, 2, 3, 4, 5, 6, 7, 8] rfl (by decide) ?_
        refine zs_if_eq (tgt := 216) dX11_readLine_203 (by decide) (fun c_21 => ?_) (fun c_21 => (by first | exact absurd c_21 (by decide) | exact absurd (by decide) c_21 : False).elim)
        refine zs_iconst (v := nI 0) dX11_readLine_216 (by decide) ?_
        have e : pLine bt n L τ tk D = (pOnce bt n L 16 τ tk D) := by rw [pLine_s hw, if_neg h23_1, if_neg h23_2, if_neg h23_3, if_neg h23_4, if_neg h23_5, if_neg h23_6, if_neg h23_7, if_pos h23_8, pOne, pBd_n hq200]
        exact zs_zret dX11_readLine_217 rfl (Or.inl rfl) (Or.inr ⟨by rw [e]; exact hq200, rfl, by rw [e]; rfl⟩)
    by_cases h23_9 : (zSwN.getD i 0) = 9
    · refine zs_as (y := nI 9) (congrArg nI h23_9) ?_
      refine zs_tableIn (off := 205) (tgt := 228) dX11_readLine_23 (by decide) (by decide) rfl (by decide) ?_
      refine zs_aload_n dX11_readLine_228 rfl rfl ?_
      refine zs_aload_n dX11_readLine_229 rfl rfl ?_
      refine zs_bipush (v := nI 32) dX11_readLine_230 (by decide) ?_
      refine zs_callV (M := mX11_once) (As := [.ref x, .int (nI 32)]) (st := []) (Kc := [(x, .inr (8, fTx b n L τ 0 pl (nI tk))), (b, .inl (0, 740, .inl (nF bt))), (y, .inr (9, fYard ay (ysN D.1 D.2.1))), (ay 1, .inl (0, 12, .inl (nF D.2.2.1))), (ay 2, .inl (0, 12, .inl (nF D.2.2.2.1))), (ay 3, .inl (0, 12, .inl (nF D.2.2.2.2.1))), (ay 4, .inl (0, 12, .inl (nF D.2.2.2.2.2.1))), (ay 5, .inl (0, 64, .inl (nF D.2.2.2.2.2.2.1))), (ay 6, .inl (1, 64, .inl (nF D.2.2.2.2.2.2.2)))]) (Kr := []) [0, 1, 2, 3, 4, 5, 6, 7, 8] [] 2 dX11_readLine_232 zl_RX11_124 kX11_once rfl rfl rfl rfl rfl (by decide) rfl rfl (show dd - 1 + 1 ≤ dd by omega) (Nat.zero_le _) (Nat.zero_le _) (Nat.le_of_ble_eq_true rfl) (s_rdOnce l (dd - 1) x b n L y ay bt τ pl tk D 5 (by decide) (by omega) hn hL hbt hτ hD) (fun r K1 hr => ?_)
      rcases hr with ⟨hq232, rfl, rfl⟩ | ⟨hq232, rfl, rfl⟩
      · have hT1 : tOK (pOnce bt n L 32 τ tk D).2.1 := pOnce_T hτ hbt hn
        have hD1 : yI (pOnce bt n L 32 τ tk D).2.2.2 := pOnce_I (k := 5) hD (by decide)
        refine zs_K (K' := [(x, .inr (8, fTx b n L ((pOnce bt n L 32 τ tk D).2.1) 0 pl (nI (pOnce bt n L 32 τ tk D).2.2.1))), (b, .inl (0, 740, .inl (nF bt))), (y, .inr (9, fYard ay (ysN ((pOnce bt n L 32 τ tk D).2.2.2.1) ((pOnce bt n L 32 τ tk D).2.2.2.2.1)))), (ay 1, .inl (0, 12, .inl (nF ((pOnce bt n L 32 τ tk D).2.2.2.2.2.1)))), (ay 2, .inl (0, 12, .inl (nF ((pOnce bt n L 32 τ tk D).2.2.2.2.2.2.1)))), (ay 3, .inl (0, 12, .inl (nF ((pOnce bt n L 32 τ tk D).2.2.2.2.2.2.2.1)))), (ay 4, .inl (0, 12, .inl (nF ((pOnce bt n L 32 τ tk D).2.2.2.2.2.2.2.2.1)))), (ay 5, .inl (0, 64, .inl (nF ((pOnce bt n L 32 τ tk D).2.2.2.2.2.2.2.2.2.1)))), (ay 6, .inl (1, 64, .inl (nF ((pOnce bt n L 32 τ tk D).2.2.2.2.2.2.2.2.2.2))))]) [0, 1, 2, 3, 4, 5, 6, 7, 8] rfl (by decide) ?_
        refine zs_if_eq (tgt := 248) dX11_readLine_235 (by decide) (fun c_22 => (by first | exact absurd c_22 (by decide) | exact absurd (by decide) c_22 : False).elim) (fun c_22 => ?_)
        refine zs_aload_n dX11_readLine_238 rfl rfl ?_
        refine zs_iconst (v := nI 1) dX11_readLine_239 (by decide) ?_
        refine zs_bipush (v := nI 99) dX11_readLine_240 (by decide) ?_
        refine zs_callV (M := mX9_takeNumber) (As := [.int (nI 1), .int (nI 99)]) (st := []) (Kc := [(x, .inr (8, fTx b n L ((pOnce bt n L 32 τ tk D).2.1) 0 pl (nI (pOnce bt n L 32 τ tk D).2.2.1))), (b, .inl (0, 740, .inl (nF bt)))]) (Kr := [(y, .inr (9, fYard ay (ysN ((pOnce bt n L 32 τ tk D).2.2.2.1) ((pOnce bt n L 32 τ tk D).2.2.2.2.1)))), (ay 1, .inl (0, 12, .inl (nF ((pOnce bt n L 32 τ tk D).2.2.2.2.2.1)))), (ay 2, .inl (0, 12, .inl (nF ((pOnce bt n L 32 τ tk D).2.2.2.2.2.2.1)))), (ay 3, .inl (0, 12, .inl (nF ((pOnce bt n L 32 τ tk D).2.2.2.2.2.2.2.1)))), (ay 4, .inl (0, 12, .inl (nF ((pOnce bt n L 32 τ tk D).2.2.2.2.2.2.2.2.1)))), (ay 5, .inl (0, 64, .inl (nF ((pOnce bt n L 32 τ tk D).2.2.2.2.2.2.2.2.2.1)))), (ay 6, .inl (1, 64, .inl (nF ((pOnce bt n L 32 τ tk D).2.2.2.2.2.2.2.2.2.2))))]) [0, 1] [2, 3, 4, 5, 6, 7, 8] 0 dX11_readLine_242 zl_RX11_137 kX9_takeNumber rfl rfl rfl rfl rfl (by decide) rfl rfl (show dd - 1 + 1 ≤ dd by omega) (Nat.zero_le _) (Nat.zero_le _) (Nat.le_of_ble_eq_true rfl) (s_takeNumber l (dd - 1) x b n L bt ((pOnce bt n L 32 τ tk D).2.1) pl (nI (pOnce bt n L 32 τ tk D).2.2.1) 1 99 (by omega) hn hL hbt hT1 (by omega) (by omega)) (fun r K1 hr => ?_)
        rcases hr with ⟨hq242, rfl, rfl⟩ | ⟨hq242, rfl, rfl⟩
        · have hr242 := tNu_r hq242
          refine zs_K (K' := [(x, .inr (8, fTx b n L (nxt bt n L ((pOnce bt n L 32 τ tk D).2.1)) 0 pl (nI ((pOnce bt n L 32 τ tk D).2.1).2.2.2.1))), (b, .inl (0, 740, .inl (nF bt))), (y, .inr (9, fYard ay (ysN ((pOnce bt n L 32 τ tk D).2.2.2.1) ((pOnce bt n L 32 τ tk D).2.2.2.2.1)))), (ay 1, .inl (0, 12, .inl (nF ((pOnce bt n L 32 τ tk D).2.2.2.2.2.1)))), (ay 2, .inl (0, 12, .inl (nF ((pOnce bt n L 32 τ tk D).2.2.2.2.2.2.1)))), (ay 3, .inl (0, 12, .inl (nF ((pOnce bt n L 32 τ tk D).2.2.2.2.2.2.2.1)))), (ay 4, .inl (0, 12, .inl (nF ((pOnce bt n L 32 τ tk D).2.2.2.2.2.2.2.2.1)))), (ay 5, .inl (0, 64, .inl (nF ((pOnce bt n L 32 τ tk D).2.2.2.2.2.2.2.2.2.1)))), (ay 6, .inl (1, 64, .inl (nF ((pOnce bt n L 32 τ tk D).2.2.2.2.2.2.2.2.2.2))))]) [7, 8, 0, 1, 2, 3, 4, 5, 6] rfl (by decide) ?_
          refine zs_if_ne (tgt := 250) dX11_readLine_245 (by decide) (fun c_23 => ?_) (fun c_23 => (by first | exact absurd c_23 (by decide) | exact absurd (by decide) c_23 : False).elim)
          refine zs_aload_n dX11_readLine_250 rfl rfl ?_
          refine zs_aload_n dX11_readLine_251 rfl rfl ?_
          refine zs_get 0 dX11_readLine_252 zf_RX11_141 rfl (v := .int (nI ((pOnce bt n L 32 τ tk D).2.1).2.2.2.1)) rfl ?_
          refine zs_put 2 dX11_readLine_255 zf_RX11_56 rfl (Nat.le_of_ble_eq_true rfl) (zPv_i _) ?_
          show zS _ _ _ _ _ _ [(x, .inr (8, fTx b n L (nxt bt n L ((pOnce bt n L 32 τ tk D).2.1)) 0 pl (nI ((pOnce bt n L 32 τ tk D).2.1).2.2.2.1))), (b, .inl (0, 740, .inl (nF bt))), (y, .inr (9, fYard ay (ysN (un ((pOnce bt n L 32 τ tk D).2.2.2.1) 11 (((pOnce bt n L 32 τ tk D).2.1).2.2.2.1)) ((pOnce bt n L 32 τ tk D).2.2.2.2.1)))), (ay 1, .inl (0, 12, .inl (nF ((pOnce bt n L 32 τ tk D).2.2.2.2.2.1)))), (ay 2, .inl (0, 12, .inl (nF ((pOnce bt n L 32 τ tk D).2.2.2.2.2.2.1)))), (ay 3, .inl (0, 12, .inl (nF ((pOnce bt n L 32 τ tk D).2.2.2.2.2.2.2.1)))), (ay 4, .inl (0, 12, .inl (nF ((pOnce bt n L 32 τ tk D).2.2.2.2.2.2.2.2.1)))), (ay 5, .inl (0, 64, .inl (nF ((pOnce bt n L 32 τ tk D).2.2.2.2.2.2.2.2.2.1)))), (ay 6, .inl (1, 64, .inl (nF ((pOnce bt n L 32 τ tk D).2.2.2.2.2.2.2.2.2.2))))]
          refine zs_iconst (v := nI 1) dX11_readLine_258 (by decide) ?_
          have e : pLine bt n L τ tk D = (0, (nxt bt n L ((pOnce bt n L 32 τ tk D).2.1)), (((pOnce bt n L 32 τ tk D).2.1).2.2.2.1), (un ((pOnce bt n L 32 τ tk D).2.2.2.1) 11 (((pOnce bt n L 32 τ tk D).2.1).2.2.2.1), (pOnce bt n L 32 τ tk D).2.2.2.2.1, (pOnce bt n L 32 τ tk D).2.2.2.2.2.1, (pOnce bt n L 32 τ tk D).2.2.2.2.2.2.1, (pOnce bt n L 32 τ tk D).2.2.2.2.2.2.2.1, (pOnce bt n L 32 τ tk D).2.2.2.2.2.2.2.2.1, (pOnce bt n L 32 τ tk D).2.2.2.2.2.2.2.2.2.1, (pOnce bt n L 32 τ tk D).2.2.2.2.2.2.2.2.2.2)) := by rw [pLine_s hw, if_neg h23_1, if_neg h23_2, if_neg h23_3, if_neg h23_4, if_neg h23_5, if_neg h23_6, if_neg h23_7, if_neg h23_8, if_pos h23_9, pOne, pBd_y hq232, pNu_bo hq242] <;> rfl
          exact zs_zret dX11_readLine_259 rfl (Or.inr rfl) (Or.inl ⟨by rw [e], rfl, by rw [e]; rfl⟩)
        · refine zs_K (K' := [(x, .inr (8, fTx b n L ((pOnce bt n L 32 τ tk D).2.1) (tNu ((pOnce bt n L 32 τ tk D).2.1) 1 99) (((pOnce bt n L 32 τ tk D).2.1).2.1) (nI (pOnce bt n L 32 τ tk D).2.2.1))), (b, .inl (0, 740, .inl (nF bt))), (y, .inr (9, fYard ay (ysN ((pOnce bt n L 32 τ tk D).2.2.2.1) ((pOnce bt n L 32 τ tk D).2.2.2.2.1)))), (ay 1, .inl (0, 12, .inl (nF ((pOnce bt n L 32 τ tk D).2.2.2.2.2.1)))), (ay 2, .inl (0, 12, .inl (nF ((pOnce bt n L 32 τ tk D).2.2.2.2.2.2.1)))), (ay 3, .inl (0, 12, .inl (nF ((pOnce bt n L 32 τ tk D).2.2.2.2.2.2.2.1)))), (ay 4, .inl (0, 12, .inl (nF ((pOnce bt n L 32 τ tk D).2.2.2.2.2.2.2.2.1)))), (ay 5, .inl (0, 64, .inl (nF ((pOnce bt n L 32 τ tk D).2.2.2.2.2.2.2.2.2.1)))), (ay 6, .inl (1, 64, .inl (nF ((pOnce bt n L 32 τ tk D).2.2.2.2.2.2.2.2.2.2))))]) [7, 8, 0, 1, 2, 3, 4, 5, 6] rfl (by decide) ?_
          refine zs_if_ne (tgt := 250) dX11_readLine_245 (by decide) (fun c_24 => (by first | exact absurd c_24 (by decide) | exact absurd (by decide) c_24 : False).elim) (fun c_24 => ?_)
          refine zs_iconst (v := nI 0) dX11_readLine_248 (by decide) ?_
          have e : pLine bt n L τ tk D = ((tNu ((pOnce bt n L 32 τ tk D).2.1) 1 99), ((pOnce bt n L 32 τ tk D).2.1), ((pOnce bt n L 32 τ tk D).2.2.1), ((pOnce bt n L 32 τ tk D).2.2.2.1, (pOnce bt n L 32 τ tk D).2.2.2.2.1, (pOnce bt n L 32 τ tk D).2.2.2.2.2.1, (pOnce bt n L 32 τ tk D).2.2.2.2.2.2.1, (pOnce bt n L 32 τ tk D).2.2.2.2.2.2.2.1, (pOnce bt n L 32 τ tk D).2.2.2.2.2.2.2.2.1, (pOnce bt n L 32 τ tk D).2.2.2.2.2.2.2.2.2.1, (pOnce bt n L 32 τ tk D).2.2.2.2.2.2.2.2.2.2)) := by rw [pLine_s hw, if_neg h23_1, if_neg h23_2, if_neg h23_3, if_neg h23_4, if_neg h23_5, if_neg h23_6, if_neg h23_7, if_neg h23_8, if_pos h23_9, pOne, pBd_y hq232, pNu_bn hq242] <;> rfl
          exact zs_zret dX11_readLine_249 rfl (Or.inl rfl) (Or.inr ⟨by rw [e]; exact hq242, rfl, by rw [e]; rfl⟩)
      · refine zs_K (K' := [(x, .inr (8, fTx b n L ((pOnce bt n L 32 τ tk D).2.1) ((pOnce bt n L 32 τ tk D).1) ((pOnce bt n L 32 τ tk D).2.1.2.1) (nI (pOnce bt n L 32 τ tk D).2.2.1))), (b, .inl (0, 740, .inl (nF bt))), (y, .inr (9, fYard ay (ysN ((pOnce bt n L 32 τ tk D).2.2.2.1) ((pOnce bt n L 32 τ tk D).2.2.2.2.1)))), (ay 1, .inl (0, 12, .inl (nF ((pOnce bt n L 32 τ tk D).2.2.2.2.2.1)))), (ay 2, .inl (0, 12, .inl (nF ((pOnce bt n L 32 τ tk D).2.2.2.2.2.2.1)))), (ay 3, .inl (0, 12, .inl (nF ((pOnce bt n L 32 τ tk D).2.2.2.2.2.2.2.1)))), (ay 4, .inl (0, 12, .inl (nF ((pOnce bt n L 32 τ tk D).2.2.2.2.2.2.2.2.1)))), (ay 5, .inl (0, 64, .inl (nF ((pOnce bt n L 32 τ tk D).2.2.2.2.2.2.2.2.2.1)))), (ay 6, .inl (1, 64, .inl (nF ((pOnce bt n L 32 τ tk D).2.2.2.2.2.2.2.2.2.2))))]) [0, 1, 2, 3, 4, 5, 6, 7, 8] rfl (by decide) ?_
        refine zs_if_eq (tgt := 248) dX11_readLine_235 (by decide) (fun c_25 => ?_) (fun c_25 => (by first | exact absurd c_25 (by decide) | exact absurd (by decide) c_25 : False).elim)
        refine zs_iconst (v := nI 0) dX11_readLine_248 (by decide) ?_
        have e : pLine bt n L τ tk D = (pOnce bt n L 32 τ tk D) := by rw [pLine_s hw, if_neg h23_1, if_neg h23_2, if_neg h23_3, if_neg h23_4, if_neg h23_5, if_neg h23_6, if_neg h23_7, if_neg h23_8, if_pos h23_9, pOne, pBd_n hq232]
        exact zs_zret dX11_readLine_249 rfl (Or.inl rfl) (Or.inr ⟨by rw [e]; exact hq232, rfl, by rw [e]; rfl⟩)
    by_cases h23_10 : (zSwN.getD i 0) = 10
    · refine zs_as (y := nI 10) (congrArg nI h23_10) ?_
      refine zs_tableIn (off := 237) (tgt := 260) dX11_readLine_23 (by decide) (by decide) rfl (by decide) ?_
      refine zs_aload_n dX11_readLine_260 rfl rfl ?_
      refine zs_aload_n dX11_readLine_261 rfl rfl ?_
      refine zs_bipush (v := nI 64) dX11_readLine_262 (by decide) ?_
      refine zs_callV (M := mX11_once) (As := [.ref x, .int (nI 64)]) (st := []) (Kc := [(x, .inr (8, fTx b n L τ 0 pl (nI tk))), (b, .inl (0, 740, .inl (nF bt))), (y, .inr (9, fYard ay (ysN D.1 D.2.1))), (ay 1, .inl (0, 12, .inl (nF D.2.2.1))), (ay 2, .inl (0, 12, .inl (nF D.2.2.2.1))), (ay 3, .inl (0, 12, .inl (nF D.2.2.2.2.1))), (ay 4, .inl (0, 12, .inl (nF D.2.2.2.2.2.1))), (ay 5, .inl (0, 64, .inl (nF D.2.2.2.2.2.2.1))), (ay 6, .inl (1, 64, .inl (nF D.2.2.2.2.2.2.2)))]) (Kr := []) [0, 1, 2, 3, 4, 5, 6, 7, 8] [] 2 dX11_readLine_264 zl_RX11_124 kX11_once rfl rfl rfl rfl rfl (by decide) rfl rfl (show dd - 1 + 1 ≤ dd by omega) (Nat.zero_le _) (Nat.zero_le _) (Nat.le_of_ble_eq_true rfl) (s_rdOnce l (dd - 1) x b n L y ay bt τ pl tk D 6 (by decide) (by omega) hn hL hbt hτ hD) (fun r K1 hr => ?_)
      rcases hr with ⟨hq264, rfl, rfl⟩ | ⟨hq264, rfl, rfl⟩
      · have hT1 : tOK (pOnce bt n L 64 τ tk D).2.1 := pOnce_T hτ hbt hn
        have hD1 : yI (pOnce bt n L 64 τ tk D).2.2.2 := pOnce_I (k := 6) hD (by decide)
        refine zs_K (K' := [(x, .inr (8, fTx b n L ((pOnce bt n L 64 τ tk D).2.1) 0 pl (nI (pOnce bt n L 64 τ tk D).2.2.1))), (b, .inl (0, 740, .inl (nF bt))), (y, .inr (9, fYard ay (ysN ((pOnce bt n L 64 τ tk D).2.2.2.1) ((pOnce bt n L 64 τ tk D).2.2.2.2.1)))), (ay 1, .inl (0, 12, .inl (nF ((pOnce bt n L 64 τ tk D).2.2.2.2.2.1)))), (ay 2, .inl (0, 12, .inl (nF ((pOnce bt n L 64 τ tk D).2.2.2.2.2.2.1)))), (ay 3, .inl (0, 12, .inl (nF ((pOnce bt n L 64 τ tk D).2.2.2.2.2.2.2.1)))), (ay 4, .inl (0, 12, .inl (nF ((pOnce bt n L 64 τ tk D).2.2.2.2.2.2.2.2.1)))), (ay 5, .inl (0, 64, .inl (nF ((pOnce bt n L 64 τ tk D).2.2.2.2.2.2.2.2.2.1)))), (ay 6, .inl (1, 64, .inl (nF ((pOnce bt n L 64 τ tk D).2.2.2.2.2.2.2.2.2.2))))]) [0, 1, 2, 3, 4, 5, 6, 7, 8] rfl (by decide) ?_
        refine zs_if_eq (tgt := 280) dX11_readLine_267 (by decide) (fun c_26 => (by first | exact absurd c_26 (by decide) | exact absurd (by decide) c_26 : False).elim) (fun c_26 => ?_)
        refine zs_aload_n dX11_readLine_270 rfl rfl ?_
        refine zs_iconst (v := nI 1) dX11_readLine_271 (by decide) ?_
        refine zs_bipush (v := nI 9) dX11_readLine_272 (by decide) ?_
        refine zs_callV (M := mX9_takeNumber) (As := [.int (nI 1), .int (nI 9)]) (st := []) (Kc := [(x, .inr (8, fTx b n L ((pOnce bt n L 64 τ tk D).2.1) 0 pl (nI (pOnce bt n L 64 τ tk D).2.2.1))), (b, .inl (0, 740, .inl (nF bt)))]) (Kr := [(y, .inr (9, fYard ay (ysN ((pOnce bt n L 64 τ tk D).2.2.2.1) ((pOnce bt n L 64 τ tk D).2.2.2.2.1)))), (ay 1, .inl (0, 12, .inl (nF ((pOnce bt n L 64 τ tk D).2.2.2.2.2.1)))), (ay 2, .inl (0, 12, .inl (nF ((pOnce bt n L 64 τ tk D).2.2.2.2.2.2.1)))), (ay 3, .inl (0, 12, .inl (nF ((pOnce bt n L 64 τ tk D).2.2.2.2.2.2.2.1)))), (ay 4, .inl (0, 12, .inl (nF ((pOnce bt n L 64 τ tk D).2.2.2.2.2.2.2.2.1)))), (ay 5, .inl (0, 64, .inl (nF ((pOnce bt n L 64 τ tk D).2.2.2.2.2.2.2.2.2.1)))), (ay 6, .inl (1, 64, .inl (nF ((pOnce bt n L 64 τ tk D).2.2.2.2.2.2.2.2.2.2))))]) [0, 1] [2, 3, 4, 5, 6, 7, 8] 0 dX11_readLine_274 zl_RX11_137 kX9_takeNumber rfl rfl rfl rfl rfl (by decide) rfl rfl (show dd - 1 + 1 ≤ dd by omega) (Nat.zero_le _) (Nat.zero_le _) (Nat.le_of_ble_eq_true rfl) (s_takeNumber l (dd - 1) x b n L bt ((pOnce bt n L 64 τ tk D).2.1) pl (nI (pOnce bt n L 64 τ tk D).2.2.1) 1 9 (by omega) hn hL hbt hT1 (by omega) (by omega)) (fun r K1 hr => ?_)
        rcases hr with ⟨hq274, rfl, rfl⟩ | ⟨hq274, rfl, rfl⟩
        · have hr274 := tNu_r hq274
          refine zs_K (K' := [(x, .inr (8, fTx b n L (nxt bt n L ((pOnce bt n L 64 τ tk D).2.1)) 0 pl (nI ((pOnce bt n L 64 τ tk D).2.1).2.2.2.1))), (b, .inl (0, 740, .inl (nF bt))), (y, .inr (9, fYard ay (ysN ((pOnce bt n L 64 τ tk D).2.2.2.1) ((pOnce bt n L 64 τ tk D).2.2.2.2.1)))), (ay 1, .inl (0, 12, .inl (nF ((pOnce bt n L 64 τ tk D).2.2.2.2.2.1)))), (ay 2, .inl (0, 12, .inl (nF ((pOnce bt n L 64 τ tk D).2.2.2.2.2.2.1)))), (ay 3, .inl (0, 12, .inl (nF ((pOnce bt n L 64 τ tk D).2.2.2.2.2.2.2.1)))), (ay 4, .inl (0, 12, .inl (nF ((pOnce bt n L 64 τ tk D).2.2.2.2.2.2.2.2.1)))), (ay 5, .inl (0, 64, .inl (nF ((pOnce bt n L 64 τ tk D).2.2.2.2.2.2.2.2.2.1)))), (ay 6, .inl (1, 64, .inl (nF ((pOnce bt n L 64 τ tk D).2.2.2.2.2.2.2.2.2.2))))]) [7, 8, 0, 1, 2, 3, 4, 5, 6] rfl (by decide) ?_
          refine zs_if_ne (tgt := 282) dX11_readLine_277 (by decide) (fun c_27 => ?_) (fun c_27 => (by first | exact absurd c_27 (by decide) | exact absurd (by decide) c_27 : False).elim)
          refine zs_aload_n dX11_readLine_282 rfl rfl ?_
          refine zs_aload_n dX11_readLine_283 rfl rfl ?_
          refine zs_get 0 dX11_readLine_284 zf_RX11_141 rfl (v := .int (nI ((pOnce bt n L 64 τ tk D).2.1).2.2.2.1)) rfl ?_
          refine zs_put 2 dX11_readLine_287 zf_RX11_59 rfl (Nat.le_of_ble_eq_true rfl) (zPv_i _) ?_
          show zS _ _ _ _ _ _ [(x, .inr (8, fTx b n L (nxt bt n L ((pOnce bt n L 64 τ tk D).2.1)) 0 pl (nI ((pOnce bt n L 64 τ tk D).2.1).2.2.2.1))), (b, .inl (0, 740, .inl (nF bt))), (y, .inr (9, fYard ay (ysN (un ((pOnce bt n L 64 τ tk D).2.2.2.1) 12 (((pOnce bt n L 64 τ tk D).2.1).2.2.2.1)) ((pOnce bt n L 64 τ tk D).2.2.2.2.1)))), (ay 1, .inl (0, 12, .inl (nF ((pOnce bt n L 64 τ tk D).2.2.2.2.2.1)))), (ay 2, .inl (0, 12, .inl (nF ((pOnce bt n L 64 τ tk D).2.2.2.2.2.2.1)))), (ay 3, .inl (0, 12, .inl (nF ((pOnce bt n L 64 τ tk D).2.2.2.2.2.2.2.1)))), (ay 4, .inl (0, 12, .inl (nF ((pOnce bt n L 64 τ tk D).2.2.2.2.2.2.2.2.1)))), (ay 5, .inl (0, 64, .inl (nF ((pOnce bt n L 64 τ tk D).2.2.2.2.2.2.2.2.2.1)))), (ay 6, .inl (1, 64, .inl (nF ((pOnce bt n L 64 τ tk D).2.2.2.2.2.2.2.2.2.2))))]
          refine zs_iconst (v := nI 1) dX11_readLine_290 (by decide) ?_
          have e : pLine bt n L τ tk D = (0, (nxt bt n L ((pOnce bt n L 64 τ tk D).2.1)), (((pOnce bt n L 64 τ tk D).2.1).2.2.2.1), (un ((pOnce bt n L 64 τ tk D).2.2.2.1) 12 (((pOnce bt n L 64 τ tk D).2.1).2.2.2.1), (pOnce bt n L 64 τ tk D).2.2.2.2.1, (pOnce bt n L 64 τ tk D).2.2.2.2.2.1, (pOnce bt n L 64 τ tk D).2.2.2.2.2.2.1, (pOnce bt n L 64 τ tk D).2.2.2.2.2.2.2.1, (pOnce bt n L 64 τ tk D).2.2.2.2.2.2.2.2.1, (pOnce bt n L 64 τ tk D).2.2.2.2.2.2.2.2.2.1, (pOnce bt n L 64 τ tk D).2.2.2.2.2.2.2.2.2.2)) := by rw [pLine_s hw, if_neg h23_1, if_neg h23_2, if_neg h23_3, if_neg h23_4, if_neg h23_5, if_neg h23_6, if_neg h23_7, if_neg h23_8, if_neg h23_9, if_pos h23_10, pOne, pBd_y hq264, pNu_bo hq274] <;> rfl
          exact zs_zret dX11_readLine_291 rfl (Or.inr rfl) (Or.inl ⟨by rw [e], rfl, by rw [e]; rfl⟩)
        · refine zs_K (K' := [(x, .inr (8, fTx b n L ((pOnce bt n L 64 τ tk D).2.1) (tNu ((pOnce bt n L 64 τ tk D).2.1) 1 9) (((pOnce bt n L 64 τ tk D).2.1).2.1) (nI (pOnce bt n L 64 τ tk D).2.2.1))), (b, .inl (0, 740, .inl (nF bt))), (y, .inr (9, fYard ay (ysN ((pOnce bt n L 64 τ tk D).2.2.2.1) ((pOnce bt n L 64 τ tk D).2.2.2.2.1)))), (ay 1, .inl (0, 12, .inl (nF ((pOnce bt n L 64 τ tk D).2.2.2.2.2.1)))), (ay 2, .inl (0, 12, .inl (nF ((pOnce bt n L 64 τ tk D).2.2.2.2.2.2.1)))), (ay 3, .inl (0, 12, .inl (nF ((pOnce bt n L 64 τ tk D).2.2.2.2.2.2.2.1)))), (ay 4, .inl (0, 12, .inl (nF ((pOnce bt n L 64 τ tk D).2.2.2.2.2.2.2.2.1)))), (ay 5, .inl (0, 64, .inl (nF ((pOnce bt n L 64 τ tk D).2.2.2.2.2.2.2.2.2.1)))), (ay 6, .inl (1, 64, .inl (nF ((pOnce bt n L 64 τ tk D).2.2.2.2.2.2.2.2.2.2))))]) [7, 8, 0, 1, 2, 3, 4, 5, 6] rfl (by decide) ?_
          refine zs_if_ne (tgt := 282) dX11_readLine_277 (by decide) (fun c_28 => (by first | exact absurd c_28 (by decide) | exact absurd (by decide) c_28 : False).elim) (fun c_28 => ?_)
          refine zs_iconst (v := nI 0) dX11_readLine_280 (by decide) ?_
          have e : pLine bt n L τ tk D = ((tNu ((pOnce bt n L 64 τ tk D).2.1) 1 9), ((pOnce bt n L 64 τ tk D).2.1), ((pOnce bt n L 64 τ tk D).2.2.1), ((pOnce bt n L 64 τ tk D).2.2.2.1, (pOnce bt n L 64 τ tk D).2.2.2.2.1, (pOnce bt n L 64 τ tk D).2.2.2.2.2.1, (pOnce bt n L 64 τ tk D).2.2.2.2.2.2.1, (pOnce bt n L 64 τ tk D).2.2.2.2.2.2.2.1, (pOnce bt n L 64 τ tk D).2.2.2.2.2.2.2.2.1, (pOnce bt n L 64 τ tk D).2.2.2.2.2.2.2.2.2.1, (pOnce bt n L 64 τ tk D).2.2.2.2.2.2.2.2.2.2)) := by rw [pLine_s hw, if_neg h23_1, if_neg h23_2, if_neg h23_3, if_neg h23_4, if_neg h23_5, if_neg h23_6, if_neg h23_7, if_neg h23_8, if_neg h23_9, if_pos h23_10, pOne, pBd_y hq264, pNu_bn hq274] <;> rfl
          exact zs_zret dX11_readLine_281 rfl (Or.inl rfl) (Or.inr ⟨by rw [e]; exact hq274, rfl, by rw [e]; rfl⟩)
      · refine zs_K (K' := [(x, .inr (8, fTx b n L ((pOnce bt n L 64 τ tk D).2.1) ((pOnce bt n L 64 τ tk D).1) ((pOnce bt n L 64 τ tk D).2.1.2.1) (nI (pOnce bt n L 64 τ tk D).2.2.1))), (b, .inl (0, 740, .inl (nF bt))), (y, .inr (9, fYard ay (ysN ((pOnce bt n L 64 τ tk D).2.2.2.1) ((pOnce bt n L 64 τ tk D).2.2.2.2.1)))), (ay 1, .inl (0, 12, .inl (nF ((pOnce bt n L 64 τ tk D).2.2.2.2.2.1)))), (ay 2, .inl (0, 12, .inl (nF ((pOnce bt n L 64 τ tk D).2.2.2.2.2.2.1)))), (ay 3, .inl (0, 12, .inl (nF ((pOnce bt n L 64 τ tk D).2.2.2.2.2.2.2.1)))), (ay 4, .inl (0, 12, .inl (nF ((pOnce bt n L 64 τ tk D).2.2.2.2.2.2.2.2.1)))), (ay 5, .inl (0, 64, .inl (nF ((pOnce bt n L 64 τ tk D).2.2.2.2.2.2.2.2.2.1)))), (ay 6, .inl (1, 64, .inl (nF ((pOnce bt n L 64 τ tk D).2.2.2.2.2.2.2.2.2.2))))]) [0, 1, 2, 3, 4, 5, 6, 7, 8] rfl (by decide) ?_
        refine zs_if_eq (tgt := 280) dX11_readLine_267 (by decide) (fun c_29 => ?_) (fun c_29 => (by first | exact absurd c_29 (by decide) | exact absurd (by decide) c_29 : False).elim)
        refine zs_iconst (v := nI 0) dX11_readLine_280 (by decide) ?_
        have e : pLine bt n L τ tk D = (pOnce bt n L 64 τ tk D) := by rw [pLine_s hw, if_neg h23_1, if_neg h23_2, if_neg h23_3, if_neg h23_4, if_neg h23_5, if_neg h23_6, if_neg h23_7, if_neg h23_8, if_neg h23_9, if_pos h23_10, pOne, pBd_n hq264]
        exact zs_zret dX11_readLine_281 rfl (Or.inl rfl) (Or.inr ⟨by rw [e]; exact hq264, rfl, by rw [e]; rfl⟩)
    refine zs_tableOut (tgt := 292) dX11_readLine_23 (by rw [nI_t (by omega)]; omega) (by decide) ?_
    refine zs_aload_n dX11_readLine_292 rfl rfl ?_
    refine zs_iconst (v := nI 1) dX11_readLine_293 (by decide) ?_
    refine zs_callV (M := mX9_refuse) (As := [.int (nI 1)]) (st := []) (Kc := [(x, .inr (8, fTx b n L τ 0 pl (nI tk)))]) (Kr := [(b, .inl (0, 740, .inl (nF bt))), (y, .inr (9, fYard ay (ysN D.1 D.2.1))), (ay 1, .inl (0, 12, .inl (nF D.2.2.1))), (ay 2, .inl (0, 12, .inl (nF D.2.2.2.1))), (ay 3, .inl (0, 12, .inl (nF D.2.2.2.2.1))), (ay 4, .inl (0, 12, .inl (nF D.2.2.2.2.2.1))), (ay 5, .inl (0, 64, .inl (nF D.2.2.2.2.2.2.1))), (ay 6, .inl (1, 64, .inl (nF D.2.2.2.2.2.2.2)))]) [0] [1, 2, 3, 4, 5, 6, 7, 8] 0 dX11_readLine_294 zl_RX11_101 kX9_refuse rfl rfl rfl rfl rfl (by decide) rfl rfl (show dd - 1 + 1 ≤ dd by omega) (Nat.zero_le _) (Nat.zero_le _) (Nat.le_of_ble_eq_true rfl) (s_refuse l (dd - 1) x b n L τ pl 1 (nI tk)) (fun r K1 hr => ?_)
    obtain ⟨rfl, rfl⟩ := hr
    refine zs_K (K' := [(x, .inr (8, fTx b n L τ 1 τ.2.1 (nI tk))), (b, .inl (0, 740, .inl (nF bt))), (y, .inr (9, fYard ay (ysN D.1 D.2.1))), (ay 1, .inl (0, 12, .inl (nF D.2.2.1))), (ay 2, .inl (0, 12, .inl (nF D.2.2.2.1))), (ay 3, .inl (0, 12, .inl (nF D.2.2.2.2.1))), (ay 4, .inl (0, 12, .inl (nF D.2.2.2.2.2.1))), (ay 5, .inl (0, 64, .inl (nF D.2.2.2.2.2.2.1))), (ay 6, .inl (1, 64, .inl (nF D.2.2.2.2.2.2.2)))]) [8, 0, 1, 2, 3, 4, 5, 6, 7] rfl (by decide) ?_
    have e : pLine bt n L τ tk D = (1, τ, tk, (D.1, D.2.1, D.2.2.1, D.2.2.2.1, D.2.2.2.2.1, D.2.2.2.2.2.1, D.2.2.2.2.2.2.1, D.2.2.2.2.2.2.2)) := by rw [pLine_s hw, if_neg h23_1, if_neg h23_2, if_neg h23_3, if_neg h23_4, if_neg h23_5, if_neg h23_6, if_neg h23_7, if_neg h23_8, if_neg h23_9, if_neg h23_10] <;> rfl
    exact zs_zret dX11_readLine_297 rfl (Or.inl rfl) (Or.inr ⟨by rw [e]; exact (show ¬ 1 = 0 by decide), rfl, by rw [e]; rfl⟩)
  · have hw := wV_n.mp c_1
    refine zs_aload_n dX11_readLine_9 rfl rfl ?_
    refine zs_iconst (v := nI 1) dX11_readLine_10 (by decide) ?_
    refine zs_callV (M := mX9_refuse) (As := [.int (nI 1)]) (st := []) (Kc := [(x, .inr (8, fTx b n L τ 0 pl (nI tk)))]) (Kr := [(b, .inl (0, 740, .inl (nF bt))), (y, .inr (9, fYard ay (ysN D.1 D.2.1))), (ay 1, .inl (0, 12, .inl (nF D.2.2.1))), (ay 2, .inl (0, 12, .inl (nF D.2.2.2.1))), (ay 3, .inl (0, 12, .inl (nF D.2.2.2.2.1))), (ay 4, .inl (0, 12, .inl (nF D.2.2.2.2.2.1))), (ay 5, .inl (0, 64, .inl (nF D.2.2.2.2.2.2.1))), (ay 6, .inl (1, 64, .inl (nF D.2.2.2.2.2.2.2)))]) [0] [1, 2, 3, 4, 5, 6, 7, 8] 0 dX11_readLine_11 zl_RX11_101 kX9_refuse rfl rfl rfl rfl rfl (by decide) rfl rfl (show dd - 1 + 1 ≤ dd by omega) (Nat.zero_le _) (Nat.zero_le _) (Nat.le_of_ble_eq_true rfl) (s_refuse l (dd - 1) x b n L τ pl 1 (nI tk)) (fun r K1 hr => ?_)
    obtain ⟨rfl, rfl⟩ := hr
    refine zs_K (K' := [(x, .inr (8, fTx b n L τ 1 τ.2.1 (nI tk))), (b, .inl (0, 740, .inl (nF bt))), (y, .inr (9, fYard ay (ysN D.1 D.2.1))), (ay 1, .inl (0, 12, .inl (nF D.2.2.1))), (ay 2, .inl (0, 12, .inl (nF D.2.2.2.1))), (ay 3, .inl (0, 12, .inl (nF D.2.2.2.2.1))), (ay 4, .inl (0, 12, .inl (nF D.2.2.2.2.2.1))), (ay 5, .inl (0, 64, .inl (nF D.2.2.2.2.2.2.1))), (ay 6, .inl (1, 64, .inl (nF D.2.2.2.2.2.2.2)))]) [8, 0, 1, 2, 3, 4, 5, 6, 7] rfl (by decide) ?_
    have e : pLine bt n L τ tk D = (1, τ, tk, (D.1, D.2.1, D.2.2.1, D.2.2.2.1, D.2.2.2.2.1, D.2.2.2.2.2.1, D.2.2.2.2.2.2.1, D.2.2.2.2.2.2.2)) := by rw [pLine_n hw] <;> rfl
    exact zs_zret dX11_readLine_14 rfl (Or.inl rfl) (Or.inr ⟨by rw [e]; exact (show ¬ 1 = 0 by decide), rfl, by rw [e]; rfl⟩)
def yClr (D : zYd) : zYd := (un (un (un (un (un (un (un (un (un (un (un (un D.1 0 0) 5 30) 6 6) 7 8) 8 5) 9 9999) 10 0) 11 20) 12 2) 14 0) 15 0) 18 0, -1, D.2.2.1, D.2.2.2.1, D.2.2.2.2.1, D.2.2.2.2.2.1, nCl (fun _ => 0) D.2.2.2.2.2.2.1 64, nCl (fun _ => 0) D.2.2.2.2.2.2.2 64)
theorem yClr_I {D : zYd} (h4 : ∀ j, D.2.2.1 j < 400000000) (h5 : ∀ j, D.2.2.2.2.2.2.1 j ≤ 9) (h6 : ∀ j, D.2.2.2.2.2.2.2 j ≤ 1) (h8 : ∀ j, D.2.2.2.1 j ≤ 9 ∧ D.2.2.2.2.1 j ≤ 9 ∧ D.2.2.2.2.2.1 j ≤ 99) : yI (yClr D) := by
  refine ⟨Nat.zero_le _, Nat.zero_le _, Nat.zero_le _, h4, fun j => (show nCl (fun _ => 0) D.2.2.2.2.2.2.1 64 j ≤ 9 from nCl_le (fun _ => Nat.zero_le _) (h5 j)), fun j => (show nCl (fun _ => 0) D.2.2.2.2.2.2.2 64 j ≤ 1 from nCl_le (fun _ => Nat.zero_le _) (h6 j)), ?_, h8, fun j hj => absurd hj (Nat.not_lt_zero j), ?_, ?_, ?_, ?_, ?_, ?_, ?_, ?_, Or.inl rfl, fun _ => rfl, fun h => absurd h (Nat.not_succ_le_zero 0)⟩
  · show (0 : Nat) < 128; decide
  · show (10 : Nat) ≤ 30 ∧ (30 : Nat) ≤ 99; decide
  · show (1 : Nat) ≤ 6 ∧ (6 : Nat) ≤ 30; decide
  · show (1 : Nat) ≤ 8 ∧ (8 : Nat) ≤ 20; decide
  · show (1 : Nat) ≤ 5 ∧ (5 : Nat) ≤ 30; decide
  · show (9999 : Nat) ≤ 9999; decide
  · show (0 : Nat) ≤ 99; decide
  · show (1 : Nat) ≤ 20 ∧ (20 : Nat) ≤ 99; decide
  · show (1 : Nat) ≤ 2 ∧ (2 : Nat) ≤ 9; decide
theorem dX11_clear_0 : decode cX11_clear 0 = .ok (.aload_n 0, 1) := by decide +kernel
theorem dX11_clear_1 : decode cX11_clear 1 = .ok (.iconst 0, 1) := by decide +kernel
theorem dX11_clear_2 : decode cX11_clear 2 = .ok (.putfield 34, 3) := by decide +kernel
theorem dX11_clear_5 : decode cX11_clear 5 = .ok (.aload_n 0, 1) := by decide +kernel
theorem dX11_clear_6 : decode cX11_clear 6 = .ok (.bipush 30, 2) := by decide +kernel
theorem dX11_clear_8 : decode cX11_clear 8 = .ok (.putfield 38, 3) := by decide +kernel
theorem dX11_clear_11 : decode cX11_clear 11 = .ok (.aload_n 0, 1) := by decide +kernel
theorem dX11_clear_12 : decode cX11_clear 12 = .ok (.bipush 6, 2) := by decide +kernel
theorem dX11_clear_14 : decode cX11_clear 14 = .ok (.putfield 41, 3) := by decide +kernel
theorem dX11_clear_17 : decode cX11_clear 17 = .ok (.aload_n 0, 1) := by decide +kernel
theorem dX11_clear_18 : decode cX11_clear 18 = .ok (.bipush 8, 2) := by decide +kernel
theorem dX11_clear_20 : decode cX11_clear 20 = .ok (.putfield 44, 3) := by decide +kernel
theorem dX11_clear_23 : decode cX11_clear 23 = .ok (.aload_n 0, 1) := by decide +kernel
theorem dX11_clear_24 : decode cX11_clear 24 = .ok (.iconst 5, 1) := by decide +kernel
theorem dX11_clear_25 : decode cX11_clear 25 = .ok (.putfield 47, 3) := by decide +kernel
theorem dX11_clear_28 : decode cX11_clear 28 = .ok (.aload_n 0, 1) := by decide +kernel
theorem dX11_clear_29 : decode cX11_clear 29 = .ok (.sipush 9999, 3) := by decide +kernel
theorem dX11_clear_32 : decode cX11_clear 32 = .ok (.putfield 50, 3) := by decide +kernel
theorem dX11_clear_35 : decode cX11_clear 35 = .ok (.aload_n 0, 1) := by decide +kernel
theorem dX11_clear_36 : decode cX11_clear 36 = .ok (.iconst 0, 1) := by decide +kernel
theorem dX11_clear_37 : decode cX11_clear 37 = .ok (.putfield 53, 3) := by decide +kernel
theorem dX11_clear_40 : decode cX11_clear 40 = .ok (.aload_n 0, 1) := by decide +kernel
theorem dX11_clear_41 : decode cX11_clear 41 = .ok (.bipush 20, 2) := by decide +kernel
theorem dX11_clear_43 : decode cX11_clear 43 = .ok (.putfield 56, 3) := by decide +kernel
theorem dX11_clear_46 : decode cX11_clear 46 = .ok (.aload_n 0, 1) := by decide +kernel
theorem dX11_clear_47 : decode cX11_clear 47 = .ok (.iconst 2, 1) := by decide +kernel
theorem dX11_clear_48 : decode cX11_clear 48 = .ok (.putfield 59, 3) := by decide +kernel
theorem dX11_clear_51 : decode cX11_clear 51 = .ok (.aload_n 0, 1) := by decide +kernel
theorem dX11_clear_52 : decode cX11_clear 52 = .ok (.iconst (-1), 1) := by decide +kernel
theorem dX11_clear_53 : decode cX11_clear 53 = .ok (.putfield 62, 3) := by decide +kernel
theorem dX11_clear_56 : decode cX11_clear 56 = .ok (.aload_n 0, 1) := by decide +kernel
theorem dX11_clear_57 : decode cX11_clear 57 = .ok (.iconst 0, 1) := by decide +kernel
theorem dX11_clear_58 : decode cX11_clear 58 = .ok (.putfield 65, 3) := by decide +kernel
theorem dX11_clear_61 : decode cX11_clear 61 = .ok (.aload_n 0, 1) := by decide +kernel
theorem dX11_clear_62 : decode cX11_clear 62 = .ok (.iconst 0, 1) := by decide +kernel
theorem dX11_clear_63 : decode cX11_clear 63 = .ok (.putfield 68, 3) := by decide +kernel
theorem dX11_clear_66 : decode cX11_clear 66 = .ok (.aload_n 0, 1) := by decide +kernel
theorem dX11_clear_67 : decode cX11_clear 67 = .ok (.iconst 0, 1) := by decide +kernel
theorem dX11_clear_68 : decode cX11_clear 68 = .ok (.putfield 71, 3) := by decide +kernel
theorem dX11_clear_71 : decode cX11_clear 71 = .ok (.iconst 0, 1) := by decide +kernel
theorem dX11_clear_72 : decode cX11_clear 72 = .ok (.istore_n 1, 1) := by decide +kernel
theorem dX11_clear_73 : decode cX11_clear 73 = .ok (.iload_n 1, 1) := by decide +kernel
theorem dX11_clear_74 : decode cX11_clear 74 = .ok (.bipush 64, 2) := by decide +kernel
theorem dX11_clear_76 : decode cX11_clear 76 = .ok (.if_icmp .ge 23, 3) := by decide +kernel
theorem dX11_clear_79 : decode cX11_clear 79 = .ok (.aload_n 0, 1) := by decide +kernel
theorem dX11_clear_80 : decode cX11_clear 80 = .ok (.getfield 24, 3) := by decide +kernel
theorem dX11_clear_83 : decode cX11_clear 83 = .ok (.iload_n 1, 1) := by decide +kernel
theorem dX11_clear_84 : decode cX11_clear 84 = .ok (.iconst 0, 1) := by decide +kernel
theorem dX11_clear_85 : decode cX11_clear 85 = .ok (.iastore, 1) := by decide +kernel
theorem dX11_clear_86 : decode cX11_clear 86 = .ok (.aload_n 0, 1) := by decide +kernel
theorem dX11_clear_87 : decode cX11_clear 87 = .ok (.getfield 27, 3) := by decide +kernel
theorem dX11_clear_90 : decode cX11_clear 90 = .ok (.iload_n 1, 1) := by decide +kernel
theorem dX11_clear_91 : decode cX11_clear 91 = .ok (.iconst 0, 1) := by decide +kernel
theorem dX11_clear_92 : decode cX11_clear 92 = .ok (.bastore, 1) := by decide +kernel
theorem dX11_clear_93 : decode cX11_clear 93 = .ok (.iinc 1 1, 3) := by decide +kernel
theorem dX11_clear_96 : decode cX11_clear 96 = .ok (.goto (-23), 3) := by decide +kernel
theorem dX11_clear_99 : decode cX11_clear 99 = .ok (.return_, 1) := by decide +kernel
set_option maxRecDepth 100000 in
theorem lp_clr {l : Launch} {dd : Nat} {Po : zPo} {K0 : zK} {h0 : List va_E} {Xo : zK → Prop} {Gc : zG → Prop} (y : Nat) (ay : Nat → Nat) (D : zYd) 
    (hk : zS (l, mX11_clear, dd, Po, K0, h0, Xo, Gc) 0 0 99 [(0, .ref y), (1, .int (nI 64))] [] [(y, .inr (9, fYard ay (ysN (un (un (un (un (un (un (un (un (un (un (un (un D.1 0 0) 5 30) 6 6) 7 8) 8 5) 9 9999) 10 0) 11 20) 12 2) 14 0) 15 0) 18 0) (-1)))), (ay 1, .inl (0, 12, .inl (nF D.2.2.1))), (ay 2, .inl (0, 12, .inl (nF D.2.2.2.1))), (ay 3, .inl (0, 12, .inl (nF D.2.2.2.2.1))), (ay 4, .inl (0, 12, .inl (nF D.2.2.2.2.2.1))), (ay 5, .inl (0, 64, .inl (nF (nCl (fun _ => 0) D.2.2.2.2.2.2.1 64)))), (ay 6, .inl (1, 64, .inl (nF (nCl (fun _ => 0) D.2.2.2.2.2.2.2 64))))]) :
    ∀ (m i : Nat) , i + m = 64 → zS (l, mX11_clear, dd, Po, K0, h0, Xo, Gc) 0 0 73 [(0, .ref y), (1, .int (nI i))] [] [(y, .inr (9, fYard ay (ysN (un (un (un (un (un (un (un (un (un (un (un (un D.1 0 0) 5 30) 6 6) 7 8) 8 5) 9 9999) 10 0) 11 20) 12 2) 14 0) 15 0) 18 0) (-1)))), (ay 1, .inl (0, 12, .inl (nF D.2.2.1))), (ay 2, .inl (0, 12, .inl (nF D.2.2.2.1))), (ay 3, .inl (0, 12, .inl (nF D.2.2.2.2.1))), (ay 4, .inl (0, 12, .inl (nF D.2.2.2.2.2.1))), (ay 5, .inl (0, 64, .inl (nF (nCl (fun _ => 0) D.2.2.2.2.2.2.1 i)))), (ay 6, .inl (1, 64, .inl (nF (nCl (fun _ => 0) D.2.2.2.2.2.2.2 i))))] := by
  intro m
  induction m with
  | zero =>
    intro i hi
    have hin : i = 64 := by omega
    subst hin
    refine zs_iload_n dX11_clear_73 rfl ?_
    refine zs_bipush (v := nI 64) dX11_clear_74 (by decide) ?_
    refine zs_icmp_ge (tgt := 99) dX11_clear_76 (by decide) (fun c_1 => ?_) (fun c_1 => (c_1 (Int32.le_refl _) : False).elim)
    exact hk
  | succ m ih =>
    intro i hi
    refine zs_iload_n dX11_clear_73 rfl ?_
    refine zs_bipush (v := nI 64) dX11_clear_74 (by decide) ?_
    refine zs_icmp_ge (tgt := 99) dX11_clear_76 (by decide) (fun c_1 => (nI_ge (show i < 64 by omega) (by omega) c_1 : False).elim) (fun c_1 => ?_)
    refine zs_aload_n dX11_clear_79 rfl rfl ?_
    refine zs_get 0 dX11_clear_80 zf_RX11_24 rfl (v := .ref (ay 5)) rfl ?_
    refine zs_iload_n dX11_clear_83 rfl ?_
    refine zs_iconst (v := nI 0) dX11_clear_84 (by decide) ?_
    refine zs_iast 5 dX11_clear_85 rfl (vp_in_nI (by omega) (by omega)) ?_
    rw [nI_c (n := i) (by omega), nF_u]
    rw [nCl_u (new := fun _ => 0) (old := D.2.2.2.2.2.2.1) (k := i) rfl]
    show zS _ _ _ _ _ _ [(y, .inr (9, fYard ay (ysN (un (un (un (un (un (un (un (un (un (un (un (un D.1 0 0) 5 30) 6 6) 7 8) 8 5) 9 9999) 10 0) 11 20) 12 2) 14 0) 15 0) 18 0) (-1)))), (ay 1, .inl (0, 12, .inl (nF D.2.2.1))), (ay 2, .inl (0, 12, .inl (nF D.2.2.2.1))), (ay 3, .inl (0, 12, .inl (nF D.2.2.2.2.1))), (ay 4, .inl (0, 12, .inl (nF D.2.2.2.2.2.1))), (ay 5, .inl (0, 64, .inl (nF (nCl (fun _ => 0) D.2.2.2.2.2.2.1 (i + 1))))), (ay 6, .inl (1, 64, .inl (nF (nCl (fun _ => 0) D.2.2.2.2.2.2.2 i))))]
    refine zs_aload_n dX11_clear_86 rfl rfl ?_
    refine zs_get 0 dX11_clear_87 zf_RX11_27 rfl (v := .ref (ay 6)) rfl ?_
    refine zs_iload_n dX11_clear_90 rfl ?_
    refine zs_iconst (v := nI 0) dX11_clear_91 (by decide) ?_
    refine zs_zast 6 dX11_clear_92 rfl (vp_in_nI (by omega) (by omega)) (by first | exact Or.inl rfl | exact Or.inr rfl | assumption) ?_
    rw [nI_c (n := i) (by omega), nF_u]
    rw [nCl_u (new := fun _ => 0) (old := D.2.2.2.2.2.2.2) (k := i) rfl]
    show zS _ _ _ _ _ _ [(y, .inr (9, fYard ay (ysN (un (un (un (un (un (un (un (un (un (un (un (un D.1 0 0) 5 30) 6 6) 7 8) 8 5) 9 9999) 10 0) 11 20) 12 2) 14 0) 15 0) 18 0) (-1)))), (ay 1, .inl (0, 12, .inl (nF D.2.2.1))), (ay 2, .inl (0, 12, .inl (nF D.2.2.2.1))), (ay 3, .inl (0, 12, .inl (nF D.2.2.2.2.1))), (ay 4, .inl (0, 12, .inl (nF D.2.2.2.2.2.1))), (ay 5, .inl (0, 64, .inl (nF (nCl (fun _ => 0) D.2.2.2.2.2.2.1 (i + 1))))), (ay 6, .inl (1, 64, .inl (nF (nCl (fun _ => 0) D.2.2.2.2.2.2.2 (i + 1)))))]
    refine zs_iinc (v := (nI (i + 1))) (lv' := [(1, .int (nI (i + 1))), (0, .ref y)]) dX11_clear_93 rfl (nI_add _ 1) (Nat.le_of_ble_eq_true rfl) rfl ?_
    refine zs_goto (tgt := 73) dX11_clear_96 (by decide) ?_
    refine zs_lv [1, 0] rfl ?_
    exact ih (i + 1) (by omega)
set_option maxRecDepth 100000 in
theorem s_yClear (l : Launch) (dd : Nat) (y : Nat) (ay : Nat → Nat) (D : zYd)  : zSp l mX11_clear dd 0 0 [.ref y] [(y, .inr (9, fYard ay (ysN D.1 D.2.1))), (ay 1, .inl (0, 12, .inl (nF D.2.2.1))), (ay 2, .inl (0, 12, .inl (nF D.2.2.2.1))), (ay 3, .inl (0, 12, .inl (nF D.2.2.2.2.1))), (ay 4, .inl (0, 12, .inl (nF D.2.2.2.2.2.1))), (ay 5, .inl (0, 64, .inl (nF D.2.2.2.2.2.2.1))), (ay 6, .inl (1, 64, .inl (nF D.2.2.2.2.2.2.2)))] (fun r K' => r = none ∧ K' = kYd y ay (yClr D)) := by
  refine zSp.of (by decide) (Nat.le_of_ble_eq_true rfl) (fun h0 => ?_)
  show zS _ 0 0 0 [(0, .ref y)] [] [(y, .inr (9, fYard ay (ysN D.1 D.2.1))), (ay 1, .inl (0, 12, .inl (nF D.2.2.1))), (ay 2, .inl (0, 12, .inl (nF D.2.2.2.1))), (ay 3, .inl (0, 12, .inl (nF D.2.2.2.2.1))), (ay 4, .inl (0, 12, .inl (nF D.2.2.2.2.2.1))), (ay 5, .inl (0, 64, .inl (nF D.2.2.2.2.2.2.1))), (ay 6, .inl (1, 64, .inl (nF D.2.2.2.2.2.2.2)))]
  refine zs_aload_n dX11_clear_0 rfl rfl ?_
  refine zs_iconst (v := nI 0) dX11_clear_1 (by decide) ?_
  refine zs_put 0 dX11_clear_2 zf_RX11_34 rfl (Nat.le_of_ble_eq_true rfl) (zPv_i _) ?_
  show zS _ _ _ _ _ _ [(y, .inr (9, fYard ay (ysN (un D.1 0 0) D.2.1))), (ay 1, .inl (0, 12, .inl (nF D.2.2.1))), (ay 2, .inl (0, 12, .inl (nF D.2.2.2.1))), (ay 3, .inl (0, 12, .inl (nF D.2.2.2.2.1))), (ay 4, .inl (0, 12, .inl (nF D.2.2.2.2.2.1))), (ay 5, .inl (0, 64, .inl (nF D.2.2.2.2.2.2.1))), (ay 6, .inl (1, 64, .inl (nF D.2.2.2.2.2.2.2)))]
  refine zs_aload_n dX11_clear_5 rfl rfl ?_
  refine zs_bipush (v := nI 30) dX11_clear_6 (by decide) ?_
  refine zs_put 0 dX11_clear_8 zf_RX11_38 rfl (Nat.le_of_ble_eq_true rfl) (zPv_i _) ?_
  show zS _ _ _ _ _ _ [(y, .inr (9, fYard ay (ysN (un (un D.1 0 0) 5 30) D.2.1))), (ay 1, .inl (0, 12, .inl (nF D.2.2.1))), (ay 2, .inl (0, 12, .inl (nF D.2.2.2.1))), (ay 3, .inl (0, 12, .inl (nF D.2.2.2.2.1))), (ay 4, .inl (0, 12, .inl (nF D.2.2.2.2.2.1))), (ay 5, .inl (0, 64, .inl (nF D.2.2.2.2.2.2.1))), (ay 6, .inl (1, 64, .inl (nF D.2.2.2.2.2.2.2)))]
  refine zs_aload_n dX11_clear_11 rfl rfl ?_
  refine zs_bipush (v := nI 6) dX11_clear_12 (by decide) ?_
  refine zs_put 0 dX11_clear_14 zf_RX11_41 rfl (Nat.le_of_ble_eq_true rfl) (zPv_i _) ?_
  show zS _ _ _ _ _ _ [(y, .inr (9, fYard ay (ysN (un (un (un D.1 0 0) 5 30) 6 6) D.2.1))), (ay 1, .inl (0, 12, .inl (nF D.2.2.1))), (ay 2, .inl (0, 12, .inl (nF D.2.2.2.1))), (ay 3, .inl (0, 12, .inl (nF D.2.2.2.2.1))), (ay 4, .inl (0, 12, .inl (nF D.2.2.2.2.2.1))), (ay 5, .inl (0, 64, .inl (nF D.2.2.2.2.2.2.1))), (ay 6, .inl (1, 64, .inl (nF D.2.2.2.2.2.2.2)))]
  refine zs_aload_n dX11_clear_17 rfl rfl ?_
  refine zs_bipush (v := nI 8) dX11_clear_18 (by decide) ?_
  refine zs_put 0 dX11_clear_20 zf_RX11_44 rfl (Nat.le_of_ble_eq_true rfl) (zPv_i _) ?_
  show zS _ _ _ _ _ _ [(y, .inr (9, fYard ay (ysN (un (un (un (un D.1 0 0) 5 30) 6 6) 7 8) D.2.1))), (ay 1, .inl (0, 12, .inl (nF D.2.2.1))), (ay 2, .inl (0, 12, .inl (nF D.2.2.2.1))), (ay 3, .inl (0, 12, .inl (nF D.2.2.2.2.1))), (ay 4, .inl (0, 12, .inl (nF D.2.2.2.2.2.1))), (ay 5, .inl (0, 64, .inl (nF D.2.2.2.2.2.2.1))), (ay 6, .inl (1, 64, .inl (nF D.2.2.2.2.2.2.2)))]
  refine zs_aload_n dX11_clear_23 rfl rfl ?_
  refine zs_iconst (v := nI 5) dX11_clear_24 (by decide) ?_
  refine zs_put 0 dX11_clear_25 zf_RX11_47 rfl (Nat.le_of_ble_eq_true rfl) (zPv_i _) ?_
  show zS _ _ _ _ _ _ [(y, .inr (9, fYard ay (ysN (un (un (un (un (un D.1 0 0) 5 30) 6 6) 7 8) 8 5) D.2.1))), (ay 1, .inl (0, 12, .inl (nF D.2.2.1))), (ay 2, .inl (0, 12, .inl (nF D.2.2.2.1))), (ay 3, .inl (0, 12, .inl (nF D.2.2.2.2.1))), (ay 4, .inl (0, 12, .inl (nF D.2.2.2.2.2.1))), (ay 5, .inl (0, 64, .inl (nF D.2.2.2.2.2.2.1))), (ay 6, .inl (1, 64, .inl (nF D.2.2.2.2.2.2.2)))]
  refine zs_aload_n dX11_clear_28 rfl rfl ?_
  refine zs_sipush (v := nI 9999) dX11_clear_29 (by decide) ?_
  refine zs_put 0 dX11_clear_32 zf_RX11_50 rfl (Nat.le_of_ble_eq_true rfl) (zPv_i _) ?_
  show zS _ _ _ _ _ _ [(y, .inr (9, fYard ay (ysN (un (un (un (un (un (un D.1 0 0) 5 30) 6 6) 7 8) 8 5) 9 9999) D.2.1))), (ay 1, .inl (0, 12, .inl (nF D.2.2.1))), (ay 2, .inl (0, 12, .inl (nF D.2.2.2.1))), (ay 3, .inl (0, 12, .inl (nF D.2.2.2.2.1))), (ay 4, .inl (0, 12, .inl (nF D.2.2.2.2.2.1))), (ay 5, .inl (0, 64, .inl (nF D.2.2.2.2.2.2.1))), (ay 6, .inl (1, 64, .inl (nF D.2.2.2.2.2.2.2)))]
  refine zs_aload_n dX11_clear_35 rfl rfl ?_
  refine zs_iconst (v := nI 0) dX11_clear_36 (by decide) ?_
  refine zs_put 0 dX11_clear_37 zf_RX11_53 rfl (Nat.le_of_ble_eq_true rfl) (zPv_i _) ?_
  show zS _ _ _ _ _ _ [(y, .inr (9, fYard ay (ysN (un (un (un (un (un (un (un D.1 0 0) 5 30) 6 6) 7 8) 8 5) 9 9999) 10 0) D.2.1))), (ay 1, .inl (0, 12, .inl (nF D.2.2.1))), (ay 2, .inl (0, 12, .inl (nF D.2.2.2.1))), (ay 3, .inl (0, 12, .inl (nF D.2.2.2.2.1))), (ay 4, .inl (0, 12, .inl (nF D.2.2.2.2.2.1))), (ay 5, .inl (0, 64, .inl (nF D.2.2.2.2.2.2.1))), (ay 6, .inl (1, 64, .inl (nF D.2.2.2.2.2.2.2)))]
  refine zs_aload_n dX11_clear_40 rfl rfl ?_
  refine zs_bipush (v := nI 20) dX11_clear_41 (by decide) ?_
  refine zs_put 0 dX11_clear_43 zf_RX11_56 rfl (Nat.le_of_ble_eq_true rfl) (zPv_i _) ?_
  show zS _ _ _ _ _ _ [(y, .inr (9, fYard ay (ysN (un (un (un (un (un (un (un (un D.1 0 0) 5 30) 6 6) 7 8) 8 5) 9 9999) 10 0) 11 20) D.2.1))), (ay 1, .inl (0, 12, .inl (nF D.2.2.1))), (ay 2, .inl (0, 12, .inl (nF D.2.2.2.1))), (ay 3, .inl (0, 12, .inl (nF D.2.2.2.2.1))), (ay 4, .inl (0, 12, .inl (nF D.2.2.2.2.2.1))), (ay 5, .inl (0, 64, .inl (nF D.2.2.2.2.2.2.1))), (ay 6, .inl (1, 64, .inl (nF D.2.2.2.2.2.2.2)))]
  refine zs_aload_n dX11_clear_46 rfl rfl ?_
  refine zs_iconst (v := nI 2) dX11_clear_47 (by decide) ?_
  refine zs_put 0 dX11_clear_48 zf_RX11_59 rfl (Nat.le_of_ble_eq_true rfl) (zPv_i _) ?_
  show zS _ _ _ _ _ _ [(y, .inr (9, fYard ay (ysN (un (un (un (un (un (un (un (un (un D.1 0 0) 5 30) 6 6) 7 8) 8 5) 9 9999) 10 0) 11 20) 12 2) D.2.1))), (ay 1, .inl (0, 12, .inl (nF D.2.2.1))), (ay 2, .inl (0, 12, .inl (nF D.2.2.2.1))), (ay 3, .inl (0, 12, .inl (nF D.2.2.2.2.1))), (ay 4, .inl (0, 12, .inl (nF D.2.2.2.2.2.1))), (ay 5, .inl (0, 64, .inl (nF D.2.2.2.2.2.2.1))), (ay 6, .inl (1, 64, .inl (nF D.2.2.2.2.2.2.2)))]
  refine zs_aload_n dX11_clear_51 rfl rfl ?_
  refine zs_iconst (v := (-1)) dX11_clear_52 (by decide) ?_
  refine zs_put 0 dX11_clear_53 zf_RX11_62 rfl (Nat.le_of_ble_eq_true rfl) (zPv_i _) ?_
  show zS _ _ _ _ _ _ [(y, .inr (9, fYard ay (ysN (un (un (un (un (un (un (un (un (un D.1 0 0) 5 30) 6 6) 7 8) 8 5) 9 9999) 10 0) 11 20) 12 2) (-1)))), (ay 1, .inl (0, 12, .inl (nF D.2.2.1))), (ay 2, .inl (0, 12, .inl (nF D.2.2.2.1))), (ay 3, .inl (0, 12, .inl (nF D.2.2.2.2.1))), (ay 4, .inl (0, 12, .inl (nF D.2.2.2.2.2.1))), (ay 5, .inl (0, 64, .inl (nF D.2.2.2.2.2.2.1))), (ay 6, .inl (1, 64, .inl (nF D.2.2.2.2.2.2.2)))]
  refine zs_aload_n dX11_clear_56 rfl rfl ?_
  refine zs_iconst (v := nI 0) dX11_clear_57 (by decide) ?_
  refine zs_put 0 dX11_clear_58 zf_RX11_65 rfl (Nat.le_of_ble_eq_true rfl) (zPv_i _) ?_
  show zS _ _ _ _ _ _ [(y, .inr (9, fYard ay (ysN (un (un (un (un (un (un (un (un (un (un D.1 0 0) 5 30) 6 6) 7 8) 8 5) 9 9999) 10 0) 11 20) 12 2) 14 0) (-1)))), (ay 1, .inl (0, 12, .inl (nF D.2.2.1))), (ay 2, .inl (0, 12, .inl (nF D.2.2.2.1))), (ay 3, .inl (0, 12, .inl (nF D.2.2.2.2.1))), (ay 4, .inl (0, 12, .inl (nF D.2.2.2.2.2.1))), (ay 5, .inl (0, 64, .inl (nF D.2.2.2.2.2.2.1))), (ay 6, .inl (1, 64, .inl (nF D.2.2.2.2.2.2.2)))]
  refine zs_aload_n dX11_clear_61 rfl rfl ?_
  refine zs_iconst (v := nI 0) dX11_clear_62 (by decide) ?_
  refine zs_put 0 dX11_clear_63 zf_RX11_68 rfl (Nat.le_of_ble_eq_true rfl) (zPv_i _) ?_
  show zS _ _ _ _ _ _ [(y, .inr (9, fYard ay (ysN (un (un (un (un (un (un (un (un (un (un (un D.1 0 0) 5 30) 6 6) 7 8) 8 5) 9 9999) 10 0) 11 20) 12 2) 14 0) 15 0) (-1)))), (ay 1, .inl (0, 12, .inl (nF D.2.2.1))), (ay 2, .inl (0, 12, .inl (nF D.2.2.2.1))), (ay 3, .inl (0, 12, .inl (nF D.2.2.2.2.1))), (ay 4, .inl (0, 12, .inl (nF D.2.2.2.2.2.1))), (ay 5, .inl (0, 64, .inl (nF D.2.2.2.2.2.2.1))), (ay 6, .inl (1, 64, .inl (nF D.2.2.2.2.2.2.2)))]
  refine zs_aload_n dX11_clear_66 rfl rfl ?_
  refine zs_iconst (v := nI 0) dX11_clear_67 (by decide) ?_
  refine zs_put 0 dX11_clear_68 zf_RX11_71 rfl (Nat.le_of_ble_eq_true rfl) (zPv_i _) ?_
  show zS _ _ _ _ _ _ [(y, .inr (9, fYard ay (ysN (un (un (un (un (un (un (un (un (un (un (un (un D.1 0 0) 5 30) 6 6) 7 8) 8 5) 9 9999) 10 0) 11 20) 12 2) 14 0) 15 0) 18 0) (-1)))), (ay 1, .inl (0, 12, .inl (nF D.2.2.1))), (ay 2, .inl (0, 12, .inl (nF D.2.2.2.1))), (ay 3, .inl (0, 12, .inl (nF D.2.2.2.2.1))), (ay 4, .inl (0, 12, .inl (nF D.2.2.2.2.2.1))), (ay 5, .inl (0, 64, .inl (nF D.2.2.2.2.2.2.1))), (ay 6, .inl (1, 64, .inl (nF D.2.2.2.2.2.2.2)))]
  refine zs_iconst (v := nI 0) dX11_clear_71 (by decide) ?_
  refine zs_istore_n (lv' := [(1, .int (nI 0)), (0, .ref y)]) dX11_clear_72 (Nat.le_of_ble_eq_true rfl) rfl ?_
  refine zs_lv [1, 0] rfl ?_
  refine zs_eq (K' := [(y, .inr (9, fYard ay (ysN (un (un (un (un (un (un (un (un (un (un (un (un D.1 0 0) 5 30) 6 6) 7 8) 8 5) 9 9999) 10 0) 11 20) 12 2) 14 0) 15 0) 18 0) (-1)))), (ay 1, .inl (0, 12, .inl (nF D.2.2.1))), (ay 2, .inl (0, 12, .inl (nF D.2.2.2.1))), (ay 3, .inl (0, 12, .inl (nF D.2.2.2.2.1))), (ay 4, .inl (0, 12, .inl (nF D.2.2.2.2.2.1))), (ay 5, .inl (0, 64, .inl (nF (nCl (fun _ => 0) D.2.2.2.2.2.2.1 0)))), (ay 6, .inl (1, 64, .inl (nF (nCl (fun _ => 0) D.2.2.2.2.2.2.2 0))))]) (by simp only [nCl_0]; try rfl) ?_
  refine lp_clr y ay D ?_ 64 0 (by omega)
  exact zs_vret dX11_clear_99 rfl ⟨rfl, rfl⟩
theorem dX11_init_0 : decode cX11_init 0 = .ok (.aload_n 0, 1) := by decide +kernel
theorem dX11_init_1 : decode cX11_init 1 = .ok (.invokespecial 3, 3) := by decide +kernel
theorem dX11_init_4 : decode cX11_init 4 = .ok (.aload_n 0, 1) := by decide +kernel
theorem dX11_init_5 : decode cX11_init 5 = .ok (.bipush 12, 2) := by decide +kernel
theorem dX11_init_7 : decode cX11_init 7 = .ok (.newarray .int, 2) := by decide +kernel
theorem dX11_init_9 : decode cX11_init 9 = .ok (.putfield 9, 3) := by decide +kernel
theorem dX11_init_12 : decode cX11_init 12 = .ok (.aload_n 0, 1) := by decide +kernel
theorem dX11_init_13 : decode cX11_init 13 = .ok (.bipush 12, 2) := by decide +kernel
theorem dX11_init_15 : decode cX11_init 15 = .ok (.newarray .int, 2) := by decide +kernel
theorem dX11_init_17 : decode cX11_init 17 = .ok (.putfield 15, 3) := by decide +kernel
theorem dX11_init_20 : decode cX11_init 20 = .ok (.aload_n 0, 1) := by decide +kernel
theorem dX11_init_21 : decode cX11_init 21 = .ok (.bipush 12, 2) := by decide +kernel
theorem dX11_init_23 : decode cX11_init 23 = .ok (.newarray .int, 2) := by decide +kernel
theorem dX11_init_25 : decode cX11_init 25 = .ok (.putfield 18, 3) := by decide +kernel
theorem dX11_init_28 : decode cX11_init 28 = .ok (.aload_n 0, 1) := by decide +kernel
theorem dX11_init_29 : decode cX11_init 29 = .ok (.bipush 12, 2) := by decide +kernel
theorem dX11_init_31 : decode cX11_init 31 = .ok (.newarray .int, 2) := by decide +kernel
theorem dX11_init_33 : decode cX11_init 33 = .ok (.putfield 21, 3) := by decide +kernel
theorem dX11_init_36 : decode cX11_init 36 = .ok (.aload_n 0, 1) := by decide +kernel
theorem dX11_init_37 : decode cX11_init 37 = .ok (.bipush 64, 2) := by decide +kernel
theorem dX11_init_39 : decode cX11_init 39 = .ok (.newarray .int, 2) := by decide +kernel
theorem dX11_init_41 : decode cX11_init 41 = .ok (.putfield 24, 3) := by decide +kernel
theorem dX11_init_44 : decode cX11_init 44 = .ok (.aload_n 0, 1) := by decide +kernel
theorem dX11_init_45 : decode cX11_init 45 = .ok (.bipush 64, 2) := by decide +kernel
theorem dX11_init_47 : decode cX11_init 47 = .ok (.newarray .boolean, 2) := by decide +kernel
theorem dX11_init_49 : decode cX11_init 49 = .ok (.putfield 27, 3) := by decide +kernel
theorem dX11_init_52 : decode cX11_init 52 = .ok (.aload_n 0, 1) := by decide +kernel
theorem dX11_init_53 : decode cX11_init 53 = .ok (.invokevirtual 31, 3) := by decide +kernel
theorem dX11_init_56 : decode cX11_init 56 = .ok (.return_, 1) := by decide +kernel
abbrev zYd0 : zYd := (fun _ => 0, 0, fun _ => 0, fun _ => 0, fun _ => 0, fun _ => 0, fun _ => 0, fun _ => 0)
set_option maxRecDepth 100000 in
theorem s_YardInit (l : Launch) (dd : Nat) (t : Nat) (hd : 2 ≤ dd) : zSp l mX11_init dd 6 176 [.ref t] [(t, .inr (9, [.int 0, .null, .null, .null, .null, .int 0, .int 0, .int 0, .int 0, .int 0, .int 0, .int 0, .int 0, .int 0, .int 0, .int 0, .null, .null, .int 0]))] (fun r K' => r = none ∧ ∃ ay, K' = kYd t ay (yClr zYd0)) := by
  refine zSp.of (by decide) (Nat.le_of_ble_eq_true rfl) (fun h0 => ?_)
  show zS _ 6 176 0 [(0, .ref t)] [] [(t, .inr (9, [.int 0, .null, .null, .null, .null, .int 0, .int 0, .int 0, .int 0, .int 0, .int 0, .int 0, .int 0, .int 0, .int 0, .int 0, .null, .null, .int 0]))]
  refine zs_aload_n dX11_init_0 rfl rfl ?_
  refine zs_objInit dX11_init_1 zo_RX11 (show 1 ≤ dd by omega) (Nat.le_of_ble_eq_true rfl) ?_
  refine zs_aload_n dX11_init_4 rfl rfl ?_
  refine zs_bipush (v := 12) dX11_init_5 (by decide) ?_
  refine zs_newa_int (N := 12) dX11_init_7 (by decide) (by decide) (by decide) (by first | omega | (simp only [List.length_cons, List.length_nil]; omega)) (by first | omega | (simp only [List.length_cons, List.length_nil]; omega)) (fun q_1 => ?_)
  show zS _ _ _ _ _ _ [(t, .inr (9, [.int 0, .null, .null, .null, .null, .int 0, .int 0, .int 0, .int 0, .int 0, .int 0, .int 0, .int 0, .int 0, .int 0, .int 0, .null, .null, .int 0])), (q_1, .inl (0, 12, .inl (fun _ => 0)))]
  refine zs_putF 0 dX11_init_9 zf_RX11_9 rfl (Nat.le_of_ble_eq_true rfl) (zPv_a rfl) rfl (fun C T N hh => by cases hh; rfl) ?_
  show zS _ _ _ _ _ _ [(t, .inr (9, [.int 0, .ref q_1, .null, .null, .null, .int 0, .int 0, .int 0, .int 0, .int 0, .int 0, .int 0, .int 0, .int 0, .int 0, .int 0, .null, .null, .int 0])), (q_1, .inl (0, 12, .inl (fun _ => 0)))]
  refine zs_aload_n dX11_init_12 rfl rfl ?_
  refine zs_bipush (v := 12) dX11_init_13 (by decide) ?_
  refine zs_newa_int (N := 12) dX11_init_15 (by decide) (by decide) (by decide) (by first | omega | (simp only [List.length_cons, List.length_nil]; omega)) (by first | omega | (simp only [List.length_cons, List.length_nil]; omega)) (fun q_2 => ?_)
  show zS _ _ _ _ _ _ [(t, .inr (9, [.int 0, .ref q_1, .null, .null, .null, .int 0, .int 0, .int 0, .int 0, .int 0, .int 0, .int 0, .int 0, .int 0, .int 0, .int 0, .null, .null, .int 0])), (q_1, .inl (0, 12, .inl (fun _ => 0))), (q_2, .inl (0, 12, .inl (fun _ => 0)))]
  refine zs_putF 0 dX11_init_17 zf_RX11_15 rfl (Nat.le_of_ble_eq_true rfl) (zPv_a rfl) rfl (fun C T N hh => by cases hh; rfl) ?_
  show zS _ _ _ _ _ _ [(t, .inr (9, [.int 0, .ref q_1, .ref q_2, .null, .null, .int 0, .int 0, .int 0, .int 0, .int 0, .int 0, .int 0, .int 0, .int 0, .int 0, .int 0, .null, .null, .int 0])), (q_1, .inl (0, 12, .inl (fun _ => 0))), (q_2, .inl (0, 12, .inl (fun _ => 0)))]
  refine zs_aload_n dX11_init_20 rfl rfl ?_
  refine zs_bipush (v := 12) dX11_init_21 (by decide) ?_
  refine zs_newa_int (N := 12) dX11_init_23 (by decide) (by decide) (by decide) (by first | omega | (simp only [List.length_cons, List.length_nil]; omega)) (by first | omega | (simp only [List.length_cons, List.length_nil]; omega)) (fun q_3 => ?_)
  show zS _ _ _ _ _ _ [(t, .inr (9, [.int 0, .ref q_1, .ref q_2, .null, .null, .int 0, .int 0, .int 0, .int 0, .int 0, .int 0, .int 0, .int 0, .int 0, .int 0, .int 0, .null, .null, .int 0])), (q_1, .inl (0, 12, .inl (fun _ => 0))), (q_2, .inl (0, 12, .inl (fun _ => 0))), (q_3, .inl (0, 12, .inl (fun _ => 0)))]
  refine zs_putF 0 dX11_init_25 zf_RX11_18 rfl (Nat.le_of_ble_eq_true rfl) (zPv_a rfl) rfl (fun C T N hh => by cases hh; rfl) ?_
  show zS _ _ _ _ _ _ [(t, .inr (9, [.int 0, .ref q_1, .ref q_2, .ref q_3, .null, .int 0, .int 0, .int 0, .int 0, .int 0, .int 0, .int 0, .int 0, .int 0, .int 0, .int 0, .null, .null, .int 0])), (q_1, .inl (0, 12, .inl (fun _ => 0))), (q_2, .inl (0, 12, .inl (fun _ => 0))), (q_3, .inl (0, 12, .inl (fun _ => 0)))]
  refine zs_aload_n dX11_init_28 rfl rfl ?_
  refine zs_bipush (v := 12) dX11_init_29 (by decide) ?_
  refine zs_newa_int (N := 12) dX11_init_31 (by decide) (by decide) (by decide) (by first | omega | (simp only [List.length_cons, List.length_nil]; omega)) (by first | omega | (simp only [List.length_cons, List.length_nil]; omega)) (fun q_4 => ?_)
  show zS _ _ _ _ _ _ [(t, .inr (9, [.int 0, .ref q_1, .ref q_2, .ref q_3, .null, .int 0, .int 0, .int 0, .int 0, .int 0, .int 0, .int 0, .int 0, .int 0, .int 0, .int 0, .null, .null, .int 0])), (q_1, .inl (0, 12, .inl (fun _ => 0))), (q_2, .inl (0, 12, .inl (fun _ => 0))), (q_3, .inl (0, 12, .inl (fun _ => 0))), (q_4, .inl (0, 12, .inl (fun _ => 0)))]
  refine zs_putF 0 dX11_init_33 zf_RX11_21 rfl (Nat.le_of_ble_eq_true rfl) (zPv_a rfl) rfl (fun C T N hh => by cases hh; rfl) ?_
  show zS _ _ _ _ _ _ [(t, .inr (9, [.int 0, .ref q_1, .ref q_2, .ref q_3, .ref q_4, .int 0, .int 0, .int 0, .int 0, .int 0, .int 0, .int 0, .int 0, .int 0, .int 0, .int 0, .null, .null, .int 0])), (q_1, .inl (0, 12, .inl (fun _ => 0))), (q_2, .inl (0, 12, .inl (fun _ => 0))), (q_3, .inl (0, 12, .inl (fun _ => 0))), (q_4, .inl (0, 12, .inl (fun _ => 0)))]
  refine zs_aload_n dX11_init_36 rfl rfl ?_
  refine zs_bipush (v := 64) dX11_init_37 (by decide) ?_
  refine zs_newa_int (N := 64) dX11_init_39 (by decide) (by decide) (by decide) (by first | omega | (simp only [List.length_cons, List.length_nil]; omega)) (by first | omega | (simp only [List.length_cons, List.length_nil]; omega)) (fun q_5 => ?_)
  show zS _ _ _ _ _ _ [(t, .inr (9, [.int 0, .ref q_1, .ref q_2, .ref q_3, .ref q_4, .int 0, .int 0, .int 0, .int 0, .int 0, .int 0, .int 0, .int 0, .int 0, .int 0, .int 0, .null, .null, .int 0])), (q_1, .inl (0, 12, .inl (fun _ => 0))), (q_2, .inl (0, 12, .inl (fun _ => 0))), (q_3, .inl (0, 12, .inl (fun _ => 0))), (q_4, .inl (0, 12, .inl (fun _ => 0))), (q_5, .inl (0, 64, .inl (fun _ => 0)))]
  refine zs_putF 0 dX11_init_41 zf_RX11_24 rfl (Nat.le_of_ble_eq_true rfl) (zPv_a rfl) rfl (fun C T N hh => by cases hh; rfl) ?_
  show zS _ _ _ _ _ _ [(t, .inr (9, [.int 0, .ref q_1, .ref q_2, .ref q_3, .ref q_4, .int 0, .int 0, .int 0, .int 0, .int 0, .int 0, .int 0, .int 0, .int 0, .int 0, .int 0, .ref q_5, .null, .int 0])), (q_1, .inl (0, 12, .inl (fun _ => 0))), (q_2, .inl (0, 12, .inl (fun _ => 0))), (q_3, .inl (0, 12, .inl (fun _ => 0))), (q_4, .inl (0, 12, .inl (fun _ => 0))), (q_5, .inl (0, 64, .inl (fun _ => 0)))]
  refine zs_aload_n dX11_init_44 rfl rfl ?_
  refine zs_bipush (v := 64) dX11_init_45 (by decide) ?_
  refine zs_newa_boolean (N := 64) dX11_init_47 (by decide) (by decide) (by decide) (by first | omega | (simp only [List.length_cons, List.length_nil]; omega)) (by first | omega | (simp only [List.length_cons, List.length_nil]; omega)) (fun q_6 => ?_)
  show zS _ _ _ _ _ _ [(t, .inr (9, [.int 0, .ref q_1, .ref q_2, .ref q_3, .ref q_4, .int 0, .int 0, .int 0, .int 0, .int 0, .int 0, .int 0, .int 0, .int 0, .int 0, .int 0, .ref q_5, .null, .int 0])), (q_1, .inl (0, 12, .inl (fun _ => 0))), (q_2, .inl (0, 12, .inl (fun _ => 0))), (q_3, .inl (0, 12, .inl (fun _ => 0))), (q_4, .inl (0, 12, .inl (fun _ => 0))), (q_5, .inl (0, 64, .inl (fun _ => 0))), (q_6, .inl (1, 64, .inl (fun _ => 0)))]
  refine zs_putF 0 dX11_init_49 zf_RX11_27 rfl (Nat.le_of_ble_eq_true rfl) (zPv_a rfl) rfl (fun C T N hh => by cases hh; rfl) ?_
  show zS _ _ _ _ _ _ [(t, .inr (9, [.int 0, .ref q_1, .ref q_2, .ref q_3, .ref q_4, .int 0, .int 0, .int 0, .int 0, .int 0, .int 0, .int 0, .int 0, .int 0, .int 0, .int 0, .ref q_5, .ref q_6, .int 0])), (q_1, .inl (0, 12, .inl (fun _ => 0))), (q_2, .inl (0, 12, .inl (fun _ => 0))), (q_3, .inl (0, 12, .inl (fun _ => 0))), (q_4, .inl (0, 12, .inl (fun _ => 0))), (q_5, .inl (0, 64, .inl (fun _ => 0))), (q_6, .inl (1, 64, .inl (fun _ => 0)))]
  refine zs_aload_n dX11_init_52 rfl rfl ?_
  refine zs_callV (M := mX11_clear) (As := []) (st := []) (Kc := [(t, .inr (9, [.int 0, .ref q_1, .ref q_2, .ref q_3, .ref q_4, .int 0, .int 0, .int 0, .int 0, .int 0, .int 0, .int 0, .int 0, .int 0, .int 0, .int 0, .ref q_5, .ref q_6, .int 0])), (q_1, .inl (0, 12, .inl (fun _ => 0))), (q_2, .inl (0, 12, .inl (fun _ => 0))), (q_3, .inl (0, 12, .inl (fun _ => 0))), (q_4, .inl (0, 12, .inl (fun _ => 0))), (q_5, .inl (0, 64, .inl (fun _ => 0))), (q_6, .inl (1, 64, .inl (fun _ => 0)))]) (Kr := []) [0, 1, 2, 3, 4, 5, 6] [] 0 dX11_init_53 zl_RX11_31 kX11_clear rfl rfl rfl rfl rfl (by decide) rfl rfl (show dd - 1 + 1 ≤ dd by omega) (Nat.zero_le _) (Nat.zero_le _) (Nat.le_of_ble_eq_true rfl) (s_yClear l (dd - 1) t (fun j => [0, q_1, q_2, q_3, q_4, q_5, q_6].getD j 0) zYd0) (fun r K1 hr => ?_)
  obtain ⟨rfl, rfl⟩ := hr
  refine zs_K (K' := [(t, .inr (9, fYard (fun j => [0, q_1, q_2, q_3, q_4, q_5, q_6].getD j 0) (ysN ((yClr zYd0).1) ((yClr zYd0).2.1)))), ((fun j => [0, q_1, q_2, q_3, q_4, q_5, q_6].getD j 0) 1, .inl (0, 12, .inl (nF ((yClr zYd0).2.2.1)))), ((fun j => [0, q_1, q_2, q_3, q_4, q_5, q_6].getD j 0) 2, .inl (0, 12, .inl (nF ((yClr zYd0).2.2.2.1)))), ((fun j => [0, q_1, q_2, q_3, q_4, q_5, q_6].getD j 0) 3, .inl (0, 12, .inl (nF ((yClr zYd0).2.2.2.2.1)))), ((fun j => [0, q_1, q_2, q_3, q_4, q_5, q_6].getD j 0) 4, .inl (0, 12, .inl (nF ((yClr zYd0).2.2.2.2.2.1)))), ((fun j => [0, q_1, q_2, q_3, q_4, q_5, q_6].getD j 0) 5, .inl (0, 64, .inl (nF ((yClr zYd0).2.2.2.2.2.2.1)))), ((fun j => [0, q_1, q_2, q_3, q_4, q_5, q_6].getD j 0) 6, .inl (1, 64, .inl (nF ((yClr zYd0).2.2.2.2.2.2.2))))]) [0, 1, 2, 3, 4, 5, 6] rfl (by decide) ?_
  exact zs_vret dX11_init_56 rfl ⟨rfl, (fun j => [0, q_1, q_2, q_3, q_4, q_5, q_6].getD j 0), rfl⟩
theorem dX11_read_0 : decode cX11_read 0 = .ok (.aload_n 0, 1) := by decide +kernel
theorem dX11_read_1 : decode cX11_read 1 = .ok (.invokevirtual 31, 3) := by decide +kernel
theorem dX11_read_4 : decode cX11_read 4 = .ok (.iconst 0, 1) := by decide +kernel
theorem dX11_read_5 : decode cX11_read 5 = .ok (.istore_n 2, 1) := by decide +kernel
theorem dX11_read_6 : decode cX11_read 6 = .ok (.iload_n 2, 1) := by decide +kernel
theorem dX11_read_7 : decode cX11_read 7 = .ok (.sipush 700, 3) := by decide +kernel
theorem dX11_read_10 : decode cX11_read 10 = .ok (.if_icmp .ge 42, 3) := by decide +kernel
theorem dX11_read_13 : decode cX11_read 13 = .ok (.aload_n 1, 1) := by decide +kernel
theorem dX11_read_14 : decode cX11_read 14 = .ok (.getfield 80, 3) := by decide +kernel
theorem dX11_read_17 : decode cX11_read 17 = .ok (.ifCond .ne 10, 3) := by decide +kernel
theorem dX11_read_20 : decode cX11_read 20 = .ok (.aload_n 1, 1) := by decide +kernel
theorem dX11_read_21 : decode cX11_read 21 = .ok (.invokevirtual 85, 3) := by decide +kernel
theorem dX11_read_24 : decode cX11_read 24 = .ok (.pop, 1) := by decide +kernel
theorem dX11_read_25 : decode cX11_read 25 = .ok (.iload_n 2, 1) := by decide +kernel
theorem dX11_read_26 : decode cX11_read 26 = .ok (.ireturn, 1) := by decide +kernel
theorem dX11_read_27 : decode cX11_read 27 = .ok (.aload_n 0, 1) := by decide +kernel
theorem dX11_read_28 : decode cX11_read 28 = .ok (.aload_n 1, 1) := by decide +kernel
theorem dX11_read_29 : decode cX11_read 29 = .ok (.invokevirtual 89, 3) := by decide +kernel
theorem dX11_read_32 : decode cX11_read 32 = .ok (.ifCond .eq 12, 3) := by decide +kernel
theorem dX11_read_35 : decode cX11_read 35 = .ok (.aload_n 1, 1) := by decide +kernel
theorem dX11_read_36 : decode cX11_read 36 = .ok (.bipush 59, 2) := by decide +kernel
theorem dX11_read_38 : decode cX11_read 38 = .ok (.invokevirtual 93, 3) := by decide +kernel
theorem dX11_read_41 : decode cX11_read 41 = .ok (.ifCond .ne 5, 3) := by decide +kernel
theorem dX11_read_44 : decode cX11_read 44 = .ok (.iload_n 2, 1) := by decide +kernel
theorem dX11_read_45 : decode cX11_read 45 = .ok (.ireturn, 1) := by decide +kernel
theorem dX11_read_46 : decode cX11_read 46 = .ok (.iinc 2 1, 3) := by decide +kernel
theorem dX11_read_49 : decode cX11_read 49 = .ok (.goto (-43), 3) := by decide +kernel
theorem dX11_read_52 : decode cX11_read 52 = .ok (.aload_n 1, 1) := by decide +kernel
theorem dX11_read_53 : decode cX11_read 53 = .ok (.invokevirtual 85, 3) := by decide +kernel
theorem dX11_read_56 : decode cX11_read 56 = .ok (.pop, 1) := by decide +kernel
theorem dX11_read_57 : decode cX11_read 57 = .ok (.sipush 700, 3) := by decide +kernel
theorem dX11_read_60 : decode cX11_read 60 = .ok (.ireturn, 1) := by decide +kernel
set_option maxRecDepth 100000 in
theorem lp_read {l : Launch} {dd : Nat} {Po : zPo} {K0 : zK} {h0 : List va_E} {Xo : zK → Prop} {Gc : zG → Prop} (x b n L y : Nat) (ay : Nat → Nat) (bt : Nat → Nat) (pl : Nat) (hd : 7 ≤ dd) (hn : n ≤ 740) (hL : L ≤ 740) (hbt : ∀ j, bt j < 256) (G : zPy × Nat) (hP : ∀ r K', r = some (.int (nI G.2)) ∧ K' = kTx x b n L bt G.1.2.1 G.1.1 (if G.1.1 = 0 then pl else G.1.2.1.2.1) G.1.2.2.1 ++ kYd y ay G.1.2.2.2 → Po r K') : ∀ (q i : Nat) (τ : zTk) (tk : Nat) (D : zYd), i + q = 700 → tOK τ → yI D → pLines bt n L q τ tk D i = G → zS (l, mX11_read, dd, Po, K0, h0, Xo, Gc) 0 0 6 [(0, .ref y), (1, .ref x), (2, .int (nI i))] [] [(x, .inr (8, fTx b n L τ 0 pl (nI tk))), (b, .inl (0, 740, .inl (nF bt))), (y, .inr (9, fYard ay (ysN D.1 D.2.1))), (ay 1, .inl (0, 12, .inl (nF D.2.2.1))), (ay 2, .inl (0, 12, .inl (nF D.2.2.2.1))), (ay 3, .inl (0, 12, .inl (nF D.2.2.2.2.1))), (ay 4, .inl (0, 12, .inl (nF D.2.2.2.2.2.1))), (ay 5, .inl (0, 64, .inl (nF D.2.2.2.2.2.2.1))), (ay 6, .inl (1, 64, .inl (nF D.2.2.2.2.2.2.2)))] := by
  intro q
  induction q with
  | zero =>
    intro i τ tk D hi hτ hD hG
    refine zs_iload_n dX11_read_6 rfl ?_
    refine zs_sipush (v := nI 700) dX11_read_7 (by decide) ?_
    refine zs_icmp_ge (tgt := 52) dX11_read_10 (by decide) (fun c_1 => ?_) (fun c_1 => (c_1 (by rw [show i = 700 by omega]; exact Int32.le_refl _) : False).elim)
    refine zs_aload_n dX11_read_52 rfl rfl ?_
    refine zs_callV (M := mX9_takeEnd) (As := []) (st := []) (Kc := [(x, .inr (8, fTx b n L τ 0 pl (nI tk)))]) (Kr := [(b, .inl (0, 740, .inl (nF bt))), (y, .inr (9, fYard ay (ysN D.1 D.2.1))), (ay 1, .inl (0, 12, .inl (nF D.2.2.1))), (ay 2, .inl (0, 12, .inl (nF D.2.2.2.1))), (ay 3, .inl (0, 12, .inl (nF D.2.2.2.2.1))), (ay 4, .inl (0, 12, .inl (nF D.2.2.2.2.2.1))), (ay 5, .inl (0, 64, .inl (nF D.2.2.2.2.2.2.1))), (ay 6, .inl (1, 64, .inl (nF D.2.2.2.2.2.2.2)))]) [0] [1, 2, 3, 4, 5, 6, 7, 8] 0 dX11_read_53 zl_RX11_85 kX9_takeEnd rfl rfl rfl rfl rfl (by decide) rfl rfl (show dd - 1 + 1 ≤ dd by omega) (Nat.zero_le _) (Nat.zero_le _) (Nat.le_of_ble_eq_true rfl) (s_takeEnd l (dd - 1) x b n L τ pl (nI tk) (by omega) hτ) (fun r K1 hr => ?_)
    rcases hr with ⟨hq53, rfl, rfl⟩ | ⟨hq53, rfl, rfl⟩
    · refine zs_K (K' := [(x, .inr (8, fTx b n L τ 0 pl (nI tk))), (b, .inl (0, 740, .inl (nF bt))), (y, .inr (9, fYard ay (ysN D.1 D.2.1))), (ay 1, .inl (0, 12, .inl (nF D.2.2.1))), (ay 2, .inl (0, 12, .inl (nF D.2.2.2.1))), (ay 3, .inl (0, 12, .inl (nF D.2.2.2.2.1))), (ay 4, .inl (0, 12, .inl (nF D.2.2.2.2.2.1))), (ay 5, .inl (0, 64, .inl (nF D.2.2.2.2.2.2.1))), (ay 6, .inl (1, 64, .inl (nF D.2.2.2.2.2.2.2)))]) [8, 0, 1, 2, 3, 4, 5, 6, 7] rfl (by decide) ?_
      refine zs_pop dX11_read_56 rfl ?_
      refine zs_sipush (v := nI 700) dX11_read_57 (by decide) ?_
      have e : G = ((0, τ, tk, D), i) := by rw [← hG, pLines, if_pos hq53]
      have hi7 : i = 700 := by omega
      exact zs_iret dX11_read_60 rfl (hP _ _ ⟨by rw [e, hi7], by rw [e]; rfl⟩)
    · refine zs_K (K' := [(x, .inr (8, fTx b n L τ 1 τ.2.1 (nI tk))), (b, .inl (0, 740, .inl (nF bt))), (y, .inr (9, fYard ay (ysN D.1 D.2.1))), (ay 1, .inl (0, 12, .inl (nF D.2.2.1))), (ay 2, .inl (0, 12, .inl (nF D.2.2.2.1))), (ay 3, .inl (0, 12, .inl (nF D.2.2.2.2.1))), (ay 4, .inl (0, 12, .inl (nF D.2.2.2.2.2.1))), (ay 5, .inl (0, 64, .inl (nF D.2.2.2.2.2.2.1))), (ay 6, .inl (1, 64, .inl (nF D.2.2.2.2.2.2.2)))]) [8, 0, 1, 2, 3, 4, 5, 6, 7] rfl (by decide) ?_
      refine zs_pop dX11_read_56 rfl ?_
      refine zs_sipush (v := nI 700) dX11_read_57 (by decide) ?_
      have e : G = ((1, τ, tk, D), i) := by rw [← hG, pLines, if_neg (fun h => by rw [hq53] at h; exact absurd h (by decide))]
      have hi7 : i = 700 := by omega
      exact zs_iret dX11_read_60 rfl (hP _ _ ⟨by rw [e, hi7], by rw [e]; rfl⟩)
  | succ q ih =>
    intro i τ tk D hi hτ hD hG
    refine zs_iload_n dX11_read_6 rfl ?_
    refine zs_sipush (v := nI 700) dX11_read_7 (by decide) ?_
    refine zs_icmp_ge (tgt := 52) dX11_read_10 (by decide) (fun c_1 => (nI_ge (show i < 700 by omega) (by omega) c_1 : False).elim) (fun c_1 => ?_)
    refine zs_aload_n dX11_read_13 rfl rfl ?_
    refine zs_get 0 dX11_read_14 zf_RX11_80 rfl (v := .int (nI τ.1)) rfl ?_
    have hk4 := hτ.1
    refine zs_if_ne (tgt := 27) dX11_read_17 (by decide) (fun c_2 => ?_) (fun c_2 => ?_)
    · have c_2 : ¬ (τ.1 = 0) := by have hc := c_2; rw [show (0 : Int32) = nI 0 from rfl] at hc; rw [nI_eq' (by omega) (by omega)] at hc; exact hc
      refine zs_aload_n dX11_read_27 rfl rfl ?_
      refine zs_aload_n dX11_read_28 rfl rfl ?_
      have hI := pLine_I (L := L) (tk := tk) hbt hn hτ hD
      refine zs_callV (M := mX11_readLine) (As := [.ref x]) (st := []) (Kc := [(x, .inr (8, fTx b n L τ 0 pl (nI tk))), (b, .inl (0, 740, .inl (nF bt))), (y, .inr (9, fYard ay (ysN D.1 D.2.1))), (ay 1, .inl (0, 12, .inl (nF D.2.2.1))), (ay 2, .inl (0, 12, .inl (nF D.2.2.2.1))), (ay 3, .inl (0, 12, .inl (nF D.2.2.2.2.1))), (ay 4, .inl (0, 12, .inl (nF D.2.2.2.2.2.1))), (ay 5, .inl (0, 64, .inl (nF D.2.2.2.2.2.2.1))), (ay 6, .inl (1, 64, .inl (nF D.2.2.2.2.2.2.2)))]) (Kr := []) [0, 1, 2, 3, 4, 5, 6, 7, 8] [] 2 dX11_read_29 zl_RX11_89 kX11_readLine rfl rfl rfl rfl rfl (by decide) rfl rfl (show dd - 1 + 1 ≤ dd by omega) (Nat.zero_le _) (Nat.zero_le _) (Nat.le_of_ble_eq_true rfl) (s_rdLine l (dd - 1) x b n L y ay bt τ pl tk D (by omega) hn hL hbt hτ hD) (fun r K1 hr => ?_)
      rcases hr with ⟨hq29, rfl, rfl⟩ | ⟨hq29, rfl, rfl⟩
      · refine zs_K (K' := [(x, .inr (8, fTx b n L ((pLine bt n L τ tk D).2.1) 0 pl (nI (pLine bt n L τ tk D).2.2.1))), (b, .inl (0, 740, .inl (nF bt))), (y, .inr (9, fYard ay (ysN ((pLine bt n L τ tk D).2.2.2.1) ((pLine bt n L τ tk D).2.2.2.2.1)))), (ay 1, .inl (0, 12, .inl (nF ((pLine bt n L τ tk D).2.2.2.2.2.1)))), (ay 2, .inl (0, 12, .inl (nF ((pLine bt n L τ tk D).2.2.2.2.2.2.1)))), (ay 3, .inl (0, 12, .inl (nF ((pLine bt n L τ tk D).2.2.2.2.2.2.2.1)))), (ay 4, .inl (0, 12, .inl (nF ((pLine bt n L τ tk D).2.2.2.2.2.2.2.2.1)))), (ay 5, .inl (0, 64, .inl (nF ((pLine bt n L τ tk D).2.2.2.2.2.2.2.2.2.1)))), (ay 6, .inl (1, 64, .inl (nF ((pLine bt n L τ tk D).2.2.2.2.2.2.2.2.2.2))))]) [0, 1, 2, 3, 4, 5, 6, 7, 8] rfl (by decide) ?_
        refine zs_if_eq (tgt := 44) dX11_read_32 (by decide) (fun c_3 => (by first | exact absurd c_3 (by decide) | exact absurd (by decide) c_3 : False).elim) (fun c_3 => ?_)
        refine zs_aload_n dX11_read_35 rfl rfl ?_
        refine zs_bipush (v := nI 59) dX11_read_36 (by decide) ?_
        refine zs_callV (M := mX9_takeSign) (As := [.int (nI 59)]) (st := []) (Kc := [(x, .inr (8, fTx b n L ((pLine bt n L τ tk D).2.1) 0 pl (nI (pLine bt n L τ tk D).2.2.1))), (b, .inl (0, 740, .inl (nF bt)))]) (Kr := [(y, .inr (9, fYard ay (ysN ((pLine bt n L τ tk D).2.2.2.1) ((pLine bt n L τ tk D).2.2.2.2.1)))), (ay 1, .inl (0, 12, .inl (nF ((pLine bt n L τ tk D).2.2.2.2.2.1)))), (ay 2, .inl (0, 12, .inl (nF ((pLine bt n L τ tk D).2.2.2.2.2.2.1)))), (ay 3, .inl (0, 12, .inl (nF ((pLine bt n L τ tk D).2.2.2.2.2.2.2.1)))), (ay 4, .inl (0, 12, .inl (nF ((pLine bt n L τ tk D).2.2.2.2.2.2.2.2.1)))), (ay 5, .inl (0, 64, .inl (nF ((pLine bt n L τ tk D).2.2.2.2.2.2.2.2.2.1)))), (ay 6, .inl (1, 64, .inl (nF ((pLine bt n L τ tk D).2.2.2.2.2.2.2.2.2.2))))]) [0, 1] [2, 3, 4, 5, 6, 7, 8] 0 dX11_read_38 zl_RX11_93 kX9_takeSign rfl rfl rfl rfl rfl (by decide) rfl rfl (show dd - 1 + 1 ≤ dd by omega) (Nat.zero_le _) (Nat.zero_le _) (Nat.le_of_ble_eq_true rfl) (s_takeSign l (dd - 1) x b n L bt (pLine bt n L τ tk D).2.1 pl (nI (pLine bt n L τ tk D).2.2.1) 59 (by omega) hn hL hbt hI.1 (by decide)) (fun r K1 hr => ?_)
        rcases hr with ⟨hq38, rfl, rfl⟩ | ⟨hq38, rfl, rfl⟩
        · refine zs_K (K' := [(x, .inr (8, fTx b n L (nxt bt n L (pLine bt n L τ tk D).2.1) 0 pl (nI (pLine bt n L τ tk D).2.2.1))), (b, .inl (0, 740, .inl (nF bt))), (y, .inr (9, fYard ay (ysN ((pLine bt n L τ tk D).2.2.2.1) ((pLine bt n L τ tk D).2.2.2.2.1)))), (ay 1, .inl (0, 12, .inl (nF ((pLine bt n L τ tk D).2.2.2.2.2.1)))), (ay 2, .inl (0, 12, .inl (nF ((pLine bt n L τ tk D).2.2.2.2.2.2.1)))), (ay 3, .inl (0, 12, .inl (nF ((pLine bt n L τ tk D).2.2.2.2.2.2.2.1)))), (ay 4, .inl (0, 12, .inl (nF ((pLine bt n L τ tk D).2.2.2.2.2.2.2.2.1)))), (ay 5, .inl (0, 64, .inl (nF ((pLine bt n L τ tk D).2.2.2.2.2.2.2.2.2.1)))), (ay 6, .inl (1, 64, .inl (nF ((pLine bt n L τ tk D).2.2.2.2.2.2.2.2.2.2))))]) [7, 8, 0, 1, 2, 3, 4, 5, 6] rfl (by decide) ?_
          refine zs_if_ne (tgt := 46) dX11_read_41 (by decide) (fun c_4 => ?_) (fun c_4 => (by first | exact absurd c_4 (by decide) | exact absurd (by decide) c_4 : False).elim)
          refine zs_iinc (v := (nI (i + 1))) (lv' := [(2, .int (nI (i + 1))), (0, .ref y), (1, .ref x)]) dX11_read_46 rfl (nI_add _ 1) (Nat.le_of_ble_eq_true rfl) rfl ?_
          refine zs_goto (tgt := 6) dX11_read_49 (by decide) ?_
          refine zs_lv [1, 2, 0] rfl ?_
          exact ih (i + 1) _ _ _ (by omega) (nxt_OK hbt hn) hI.2 (by rw [← hG, pLines, if_neg c_2, if_pos hq29, if_pos hq38])
        · refine zs_K (K' := [(x, .inr (8, fTx b n L ((pLine bt n L τ tk D).2.1) 1 ((pLine bt n L τ tk D).2.1.2.1) (nI (pLine bt n L τ tk D).2.2.1))), (b, .inl (0, 740, .inl (nF bt))), (y, .inr (9, fYard ay (ysN ((pLine bt n L τ tk D).2.2.2.1) ((pLine bt n L τ tk D).2.2.2.2.1)))), (ay 1, .inl (0, 12, .inl (nF ((pLine bt n L τ tk D).2.2.2.2.2.1)))), (ay 2, .inl (0, 12, .inl (nF ((pLine bt n L τ tk D).2.2.2.2.2.2.1)))), (ay 3, .inl (0, 12, .inl (nF ((pLine bt n L τ tk D).2.2.2.2.2.2.2.1)))), (ay 4, .inl (0, 12, .inl (nF ((pLine bt n L τ tk D).2.2.2.2.2.2.2.2.1)))), (ay 5, .inl (0, 64, .inl (nF ((pLine bt n L τ tk D).2.2.2.2.2.2.2.2.2.1)))), (ay 6, .inl (1, 64, .inl (nF ((pLine bt n L τ tk D).2.2.2.2.2.2.2.2.2.2))))]) [7, 8, 0, 1, 2, 3, 4, 5, 6] rfl (by decide) ?_
          refine zs_if_ne (tgt := 46) dX11_read_41 (by decide) (fun c_5 => (by first | exact absurd c_5 (by decide) | exact absurd (by decide) c_5 : False).elim) (fun c_5 => ?_)
          refine zs_iload_n dX11_read_44 rfl ?_
          have e : G = ((1, (pLine bt n L τ tk D).2), i) := by rw [← hG, pLines, if_neg c_2, if_pos hq29, if_neg (fun h => by rw [hq38] at h; exact absurd h (by decide))]
          exact zs_iret dX11_read_45 rfl (hP _ _ ⟨by rw [e], by rw [e]; rfl⟩)
      · refine zs_K (K' := [(x, .inr (8, fTx b n L ((pLine bt n L τ tk D).2.1) ((pLine bt n L τ tk D).1) ((pLine bt n L τ tk D).2.1.2.1) (nI (pLine bt n L τ tk D).2.2.1))), (b, .inl (0, 740, .inl (nF bt))), (y, .inr (9, fYard ay (ysN ((pLine bt n L τ tk D).2.2.2.1) ((pLine bt n L τ tk D).2.2.2.2.1)))), (ay 1, .inl (0, 12, .inl (nF ((pLine bt n L τ tk D).2.2.2.2.2.1)))), (ay 2, .inl (0, 12, .inl (nF ((pLine bt n L τ tk D).2.2.2.2.2.2.1)))), (ay 3, .inl (0, 12, .inl (nF ((pLine bt n L τ tk D).2.2.2.2.2.2.2.1)))), (ay 4, .inl (0, 12, .inl (nF ((pLine bt n L τ tk D).2.2.2.2.2.2.2.2.1)))), (ay 5, .inl (0, 64, .inl (nF ((pLine bt n L τ tk D).2.2.2.2.2.2.2.2.2.1)))), (ay 6, .inl (1, 64, .inl (nF ((pLine bt n L τ tk D).2.2.2.2.2.2.2.2.2.2))))]) [0, 1, 2, 3, 4, 5, 6, 7, 8] rfl (by decide) ?_
        refine zs_if_eq (tgt := 44) dX11_read_32 (by decide) (fun c_6 => ?_) (fun c_6 => (by first | exact absurd c_6 (by decide) | exact absurd (by decide) c_6 : False).elim)
        refine zs_iload_n dX11_read_44 rfl ?_
        have e : G = ((pLine bt n L τ tk D), i) := by rw [← hG, pLines, if_neg c_2, if_neg hq29]
        exact zs_iret dX11_read_45 rfl (hP _ _ ⟨by rw [e], by rw [e]; show _ = kTx x b n L bt (pLine bt n L τ tk D).2.1 (pLine bt n L τ tk D).1 (if (pLine bt n L τ tk D).1 = 0 then pl else (pLine bt n L τ tk D).2.1.2.1) (pLine bt n L τ tk D).2.2.1 ++ kYd y ay (pLine bt n L τ tk D).2.2.2; rw [if_neg hq29]; rfl⟩)
    · have c_2 : τ.1 = 0 := by have hc := c_2; rw [show (0 : Int32) = nI 0 from rfl] at hc; rw [nI_eq' (by omega) (by omega)] at hc; exact hc
      refine zs_aload_n dX11_read_20 rfl rfl ?_
      refine zs_callV (M := mX9_takeEnd) (As := []) (st := []) (Kc := [(x, .inr (8, fTx b n L τ 0 pl (nI tk)))]) (Kr := [(b, .inl (0, 740, .inl (nF bt))), (y, .inr (9, fYard ay (ysN D.1 D.2.1))), (ay 1, .inl (0, 12, .inl (nF D.2.2.1))), (ay 2, .inl (0, 12, .inl (nF D.2.2.2.1))), (ay 3, .inl (0, 12, .inl (nF D.2.2.2.2.1))), (ay 4, .inl (0, 12, .inl (nF D.2.2.2.2.2.1))), (ay 5, .inl (0, 64, .inl (nF D.2.2.2.2.2.2.1))), (ay 6, .inl (1, 64, .inl (nF D.2.2.2.2.2.2.2)))]) [0] [1, 2, 3, 4, 5, 6, 7, 8] 0 dX11_read_21 zl_RX11_85 kX9_takeEnd rfl rfl rfl rfl rfl (by decide) rfl rfl (show dd - 1 + 1 ≤ dd by omega) (Nat.zero_le _) (Nat.zero_le _) (Nat.le_of_ble_eq_true rfl) (s_takeEnd l (dd - 1) x b n L τ pl (nI tk) (by omega) hτ) (fun r K1 hr => ?_)
      rcases hr with ⟨hq21, rfl, rfl⟩ | ⟨hq21, rfl, rfl⟩
      · refine zs_K (K' := [(x, .inr (8, fTx b n L τ 0 pl (nI tk))), (b, .inl (0, 740, .inl (nF bt))), (y, .inr (9, fYard ay (ysN D.1 D.2.1))), (ay 1, .inl (0, 12, .inl (nF D.2.2.1))), (ay 2, .inl (0, 12, .inl (nF D.2.2.2.1))), (ay 3, .inl (0, 12, .inl (nF D.2.2.2.2.1))), (ay 4, .inl (0, 12, .inl (nF D.2.2.2.2.2.1))), (ay 5, .inl (0, 64, .inl (nF D.2.2.2.2.2.2.1))), (ay 6, .inl (1, 64, .inl (nF D.2.2.2.2.2.2.2)))]) [8, 0, 1, 2, 3, 4, 5, 6, 7] rfl (by decide) ?_
        refine zs_pop dX11_read_24 rfl ?_
        refine zs_iload_n dX11_read_25 rfl ?_
        have e : G = ((0, τ, tk, D), i) := by rw [← hG, pLines, if_pos c_2, if_pos hq21]
        exact zs_iret dX11_read_26 rfl (hP _ _ ⟨by rw [e], by rw [e]; rfl⟩)
      · refine zs_K (K' := [(x, .inr (8, fTx b n L τ 1 τ.2.1 (nI tk))), (b, .inl (0, 740, .inl (nF bt))), (y, .inr (9, fYard ay (ysN D.1 D.2.1))), (ay 1, .inl (0, 12, .inl (nF D.2.2.1))), (ay 2, .inl (0, 12, .inl (nF D.2.2.2.1))), (ay 3, .inl (0, 12, .inl (nF D.2.2.2.2.1))), (ay 4, .inl (0, 12, .inl (nF D.2.2.2.2.2.1))), (ay 5, .inl (0, 64, .inl (nF D.2.2.2.2.2.2.1))), (ay 6, .inl (1, 64, .inl (nF D.2.2.2.2.2.2.2)))]) [8, 0, 1, 2, 3, 4, 5, 6, 7] rfl (by decide) ?_
        refine zs_pop dX11_read_24 rfl ?_
        refine zs_iload_n dX11_read_25 rfl ?_
        have e : G = ((1, τ, tk, D), i) := by rw [← hG, pLines, if_pos c_2, if_neg (fun h => by rw [hq21] at h; exact absurd h (by decide))]
        exact zs_iret dX11_read_26 rfl (hP _ _ ⟨by rw [e], by rw [e]; rfl⟩)
set_option maxRecDepth 100000 in
theorem s_yRead (l : Launch) (dd : Nat) (x b n L y : Nat) (ay : Nat → Nat) (bt : Nat → Nat) (τ : zTk) (pl tk : Nat) (D : zYd) (hd : 7 ≤ dd) (hn : n ≤ 740) (hL : L ≤ 740) (hbt : ∀ j, bt j < 256) (hτ : tOK τ) (hD : yI D) : zSp l mX11_read dd 0 0 [.ref y, .ref x] [(x, .inr (8, fTx b n L τ 0 pl (nI tk))), (b, .inl (0, 740, .inl (nF bt))), (y, .inr (9, fYard ay (ysN D.1 D.2.1))), (ay 1, .inl (0, 12, .inl (nF D.2.2.1))), (ay 2, .inl (0, 12, .inl (nF D.2.2.2.1))), (ay 3, .inl (0, 12, .inl (nF D.2.2.2.2.1))), (ay 4, .inl (0, 12, .inl (nF D.2.2.2.2.2.1))), (ay 5, .inl (0, 64, .inl (nF D.2.2.2.2.2.2.1))), (ay 6, .inl (1, 64, .inl (nF D.2.2.2.2.2.2.2)))] (fun r K' => r = some (.int (nI (pLines bt n L 700 τ tk (yClr D) 0).2)) ∧ K' = kTx x b n L bt (pLines bt n L 700 τ tk (yClr D) 0).1.2.1 (pLines bt n L 700 τ tk (yClr D) 0).1.1 (if (pLines bt n L 700 τ tk (yClr D) 0).1.1 = 0 then pl else (pLines bt n L 700 τ tk (yClr D) 0).1.2.1.2.1) (pLines bt n L 700 τ tk (yClr D) 0).1.2.2.1 ++ kYd y ay (pLines bt n L 700 τ tk (yClr D) 0).1.2.2.2) := by
  refine zSp.of (by decide) (Nat.le_of_ble_eq_true rfl) (fun h0 => ?_)
  show zS _ 0 0 0 [(0, .ref y), (1, .ref x)] [] [(x, .inr (8, fTx b n L τ 0 pl (nI tk))), (b, .inl (0, 740, .inl (nF bt))), (y, .inr (9, fYard ay (ysN D.1 D.2.1))), (ay 1, .inl (0, 12, .inl (nF D.2.2.1))), (ay 2, .inl (0, 12, .inl (nF D.2.2.2.1))), (ay 3, .inl (0, 12, .inl (nF D.2.2.2.2.1))), (ay 4, .inl (0, 12, .inl (nF D.2.2.2.2.2.1))), (ay 5, .inl (0, 64, .inl (nF D.2.2.2.2.2.2.1))), (ay 6, .inl (1, 64, .inl (nF D.2.2.2.2.2.2.2)))]
  refine zs_aload_n dX11_read_0 rfl rfl ?_
  refine zs_callV (M := mX11_clear) (As := []) (st := []) (Kc := [(y, .inr (9, fYard ay (ysN D.1 D.2.1))), (ay 1, .inl (0, 12, .inl (nF D.2.2.1))), (ay 2, .inl (0, 12, .inl (nF D.2.2.2.1))), (ay 3, .inl (0, 12, .inl (nF D.2.2.2.2.1))), (ay 4, .inl (0, 12, .inl (nF D.2.2.2.2.2.1))), (ay 5, .inl (0, 64, .inl (nF D.2.2.2.2.2.2.1))), (ay 6, .inl (1, 64, .inl (nF D.2.2.2.2.2.2.2)))]) (Kr := [(x, .inr (8, fTx b n L τ 0 pl (nI tk))), (b, .inl (0, 740, .inl (nF bt)))]) [2, 3, 4, 5, 6, 7, 8] [0, 1] 0 dX11_read_1 zl_RX11_31 kX11_clear rfl rfl rfl rfl rfl (by decide) rfl rfl (show dd - 1 + 1 ≤ dd by omega) (Nat.zero_le _) (Nat.zero_le _) (Nat.le_of_ble_eq_true rfl) (s_yClear l (dd - 1) y ay D) (fun r K1 hr => ?_)
  obtain ⟨rfl, rfl⟩ := hr
  refine zs_K (K' := [(x, .inr (8, fTx b n L τ 0 pl (nI tk))), (b, .inl (0, 740, .inl (nF bt))), (y, .inr (9, fYard ay (ysN ((yClr D).1) ((yClr D).2.1)))), (ay 1, .inl (0, 12, .inl (nF ((yClr D).2.2.1)))), (ay 2, .inl (0, 12, .inl (nF ((yClr D).2.2.2.1)))), (ay 3, .inl (0, 12, .inl (nF ((yClr D).2.2.2.2.1)))), (ay 4, .inl (0, 12, .inl (nF ((yClr D).2.2.2.2.2.1)))), (ay 5, .inl (0, 64, .inl (nF ((yClr D).2.2.2.2.2.2.1)))), (ay 6, .inl (1, 64, .inl (nF ((yClr D).2.2.2.2.2.2.2))))]) [0, 1, 2, 3, 4, 5, 6, 7, 8] rfl (by decide) ?_
  refine zs_iconst (v := nI 0) dX11_read_4 (by decide) ?_
  refine zs_istore_n (lv' := [(2, .int (nI 0)), (0, .ref y), (1, .ref x)]) dX11_read_5 (Nat.le_of_ble_eq_true rfl) rfl ?_
  refine zs_lv [1, 2, 0] rfl ?_
  exact lp_read x b n L y ay bt pl hd hn hL hbt _ (fun r K1 h => h) 700 0 τ tk (yClr D) (by omega) hτ (yClr_I hD.2.2.2.1 hD.2.2.2.2.1 hD.2.2.2.2.2.1 hD.2.2.2.2.2.2.2.1) rfl
theorem pCl_nF (f g : Nat → Nat) (n : Nat) : pCl (nF f) (nF g) n = nF (nCl f g n) := by
  funext j
  simp only [pCl, nF, nCl]
  split <;> rfl
def yCp (D E : zYd) : zYd := (un (un (un (un (un (un (un (un (un (un (un (un D.1 0 (E.1 0)) 5 (E.1 5)) 6 (E.1 6)) 7 (E.1 7)) 8 (E.1 8)) 9 (E.1 9)) 10 (E.1 10)) 11 (E.1 11)) 12 (E.1 12)) 14 (E.1 14)) 15 (E.1 15)) 18 (E.1 18), E.2.1, nCl E.2.2.1 D.2.2.1 12, nCl E.2.2.2.1 D.2.2.2.1 12, nCl E.2.2.2.2.1 D.2.2.2.2.1 12, nCl E.2.2.2.2.2.1 D.2.2.2.2.2.1 12, nCl E.2.2.2.2.2.2.1 D.2.2.2.2.2.2.1 64, nCl E.2.2.2.2.2.2.2 D.2.2.2.2.2.2.2 64)
theorem nCl_lt {f g : Nat → Nat} {n b j : Nat} (h1 : f j < b) (h2 : g j < b) : nCl f g n j < b := by
  unfold nCl
  split
  · exact h1
  · exact h2
theorem yCp_I {D E : zYd} (h : yI E) (h4 : ∀ j, D.2.2.1 j < 400000000) (h5 : ∀ j, D.2.2.2.2.2.2.1 j ≤ 9) (h6 : ∀ j, D.2.2.2.2.2.2.2 j ≤ 1) (h8 : ∀ j, D.2.2.2.1 j ≤ 9 ∧ D.2.2.2.2.1 j ≤ 9 ∧ D.2.2.2.2.2.1 j ≤ 99) : yI (yCp D E) := by
  obtain ⟨a1, a2, a3, a4, a5, a6, a7, a8, a9, a10⟩ := h
  refine ⟨a1, a2, a3, fun j => nCl_lt (a4 j) (h4 j), fun j => nCl_le (fun _ => a5 j) (h5 j), fun j => nCl_le (fun _ => a6 j) (h6 j), a7, fun j => ⟨nCl_le (fun _ => (a8 j).1) (h8 j).1, nCl_le (fun _ => (a8 j).2.1) (h8 j).2.1, nCl_le (fun _ => (a8 j).2.2) (h8 j).2.2⟩, fun j hj => ?_, a10⟩
  have hj : j < E.1 0 := hj
  show 1 ≤ nCl E.2.2.2.1 D.2.2.2.1 12 j ∧ 1 ≤ nCl E.2.2.2.2.1 D.2.2.2.2.1 12 j ∧ 1 ≤ nCl E.2.2.2.2.2.1 D.2.2.2.2.2.1 12 j
  rw [nCl_s (by omega), nCl_s (by omega), nCl_s (by omega)]
  exact a9 j hj
theorem dX11_copy_0 : decode cX11_copy 0 = .ok (.aload_n 0, 1) := by decide +kernel
theorem dX11_copy_1 : decode cX11_copy 1 = .ok (.aload_n 1, 1) := by decide +kernel
theorem dX11_copy_2 : decode cX11_copy 2 = .ok (.getfield 34, 3) := by decide +kernel
theorem dX11_copy_5 : decode cX11_copy 5 = .ok (.putfield 34, 3) := by decide +kernel
theorem dX11_copy_8 : decode cX11_copy 8 = .ok (.aload_n 1, 1) := by decide +kernel
theorem dX11_copy_9 : decode cX11_copy 9 = .ok (.getfield 9, 3) := by decide +kernel
theorem dX11_copy_12 : decode cX11_copy 12 = .ok (.iconst 0, 1) := by decide +kernel
theorem dX11_copy_13 : decode cX11_copy 13 = .ok (.aload_n 0, 1) := by decide +kernel
theorem dX11_copy_14 : decode cX11_copy 14 = .ok (.getfield 9, 3) := by decide +kernel
theorem dX11_copy_17 : decode cX11_copy 17 = .ok (.iconst 0, 1) := by decide +kernel
theorem dX11_copy_18 : decode cX11_copy 18 = .ok (.bipush 12, 2) := by decide +kernel
theorem dX11_copy_20 : decode cX11_copy 20 = .ok (.invokestatic 74, 3) := by decide +kernel
theorem dX11_copy_23 : decode cX11_copy 23 = .ok (.aload_n 1, 1) := by decide +kernel
theorem dX11_copy_24 : decode cX11_copy 24 = .ok (.getfield 15, 3) := by decide +kernel
theorem dX11_copy_27 : decode cX11_copy 27 = .ok (.iconst 0, 1) := by decide +kernel
theorem dX11_copy_28 : decode cX11_copy 28 = .ok (.aload_n 0, 1) := by decide +kernel
theorem dX11_copy_29 : decode cX11_copy 29 = .ok (.getfield 15, 3) := by decide +kernel
theorem dX11_copy_32 : decode cX11_copy 32 = .ok (.iconst 0, 1) := by decide +kernel
theorem dX11_copy_33 : decode cX11_copy 33 = .ok (.bipush 12, 2) := by decide +kernel
theorem dX11_copy_35 : decode cX11_copy 35 = .ok (.invokestatic 74, 3) := by decide +kernel
theorem dX11_copy_38 : decode cX11_copy 38 = .ok (.aload_n 1, 1) := by decide +kernel
theorem dX11_copy_39 : decode cX11_copy 39 = .ok (.getfield 18, 3) := by decide +kernel
theorem dX11_copy_42 : decode cX11_copy 42 = .ok (.iconst 0, 1) := by decide +kernel
theorem dX11_copy_43 : decode cX11_copy 43 = .ok (.aload_n 0, 1) := by decide +kernel
theorem dX11_copy_44 : decode cX11_copy 44 = .ok (.getfield 18, 3) := by decide +kernel
theorem dX11_copy_47 : decode cX11_copy 47 = .ok (.iconst 0, 1) := by decide +kernel
theorem dX11_copy_48 : decode cX11_copy 48 = .ok (.bipush 12, 2) := by decide +kernel
theorem dX11_copy_50 : decode cX11_copy 50 = .ok (.invokestatic 74, 3) := by decide +kernel
theorem dX11_copy_53 : decode cX11_copy 53 = .ok (.aload_n 1, 1) := by decide +kernel
theorem dX11_copy_54 : decode cX11_copy 54 = .ok (.getfield 21, 3) := by decide +kernel
theorem dX11_copy_57 : decode cX11_copy 57 = .ok (.iconst 0, 1) := by decide +kernel
theorem dX11_copy_58 : decode cX11_copy 58 = .ok (.aload_n 0, 1) := by decide +kernel
theorem dX11_copy_59 : decode cX11_copy 59 = .ok (.getfield 21, 3) := by decide +kernel
theorem dX11_copy_62 : decode cX11_copy 62 = .ok (.iconst 0, 1) := by decide +kernel
theorem dX11_copy_63 : decode cX11_copy 63 = .ok (.bipush 12, 2) := by decide +kernel
theorem dX11_copy_65 : decode cX11_copy 65 = .ok (.invokestatic 74, 3) := by decide +kernel
theorem dX11_copy_68 : decode cX11_copy 68 = .ok (.aload_n 0, 1) := by decide +kernel
theorem dX11_copy_69 : decode cX11_copy 69 = .ok (.aload_n 1, 1) := by decide +kernel
theorem dX11_copy_70 : decode cX11_copy 70 = .ok (.getfield 38, 3) := by decide +kernel
theorem dX11_copy_73 : decode cX11_copy 73 = .ok (.putfield 38, 3) := by decide +kernel
theorem dX11_copy_76 : decode cX11_copy 76 = .ok (.aload_n 0, 1) := by decide +kernel
theorem dX11_copy_77 : decode cX11_copy 77 = .ok (.aload_n 1, 1) := by decide +kernel
theorem dX11_copy_78 : decode cX11_copy 78 = .ok (.getfield 41, 3) := by decide +kernel
theorem dX11_copy_81 : decode cX11_copy 81 = .ok (.putfield 41, 3) := by decide +kernel
theorem dX11_copy_84 : decode cX11_copy 84 = .ok (.aload_n 0, 1) := by decide +kernel
theorem dX11_copy_85 : decode cX11_copy 85 = .ok (.aload_n 1, 1) := by decide +kernel
theorem dX11_copy_86 : decode cX11_copy 86 = .ok (.getfield 44, 3) := by decide +kernel
theorem dX11_copy_89 : decode cX11_copy 89 = .ok (.putfield 44, 3) := by decide +kernel
theorem dX11_copy_92 : decode cX11_copy 92 = .ok (.aload_n 0, 1) := by decide +kernel
theorem dX11_copy_93 : decode cX11_copy 93 = .ok (.aload_n 1, 1) := by decide +kernel
theorem dX11_copy_94 : decode cX11_copy 94 = .ok (.getfield 47, 3) := by decide +kernel
theorem dX11_copy_97 : decode cX11_copy 97 = .ok (.putfield 47, 3) := by decide +kernel
theorem dX11_copy_100 : decode cX11_copy 100 = .ok (.aload_n 0, 1) := by decide +kernel
theorem dX11_copy_101 : decode cX11_copy 101 = .ok (.aload_n 1, 1) := by decide +kernel
theorem dX11_copy_102 : decode cX11_copy 102 = .ok (.getfield 50, 3) := by decide +kernel
theorem dX11_copy_105 : decode cX11_copy 105 = .ok (.putfield 50, 3) := by decide +kernel
theorem dX11_copy_108 : decode cX11_copy 108 = .ok (.aload_n 0, 1) := by decide +kernel
theorem dX11_copy_109 : decode cX11_copy 109 = .ok (.aload_n 1, 1) := by decide +kernel
theorem dX11_copy_110 : decode cX11_copy 110 = .ok (.getfield 53, 3) := by decide +kernel
theorem dX11_copy_113 : decode cX11_copy 113 = .ok (.putfield 53, 3) := by decide +kernel
theorem dX11_copy_116 : decode cX11_copy 116 = .ok (.aload_n 0, 1) := by decide +kernel
theorem dX11_copy_117 : decode cX11_copy 117 = .ok (.aload_n 1, 1) := by decide +kernel
theorem dX11_copy_118 : decode cX11_copy 118 = .ok (.getfield 56, 3) := by decide +kernel
theorem dX11_copy_121 : decode cX11_copy 121 = .ok (.putfield 56, 3) := by decide +kernel
theorem dX11_copy_124 : decode cX11_copy 124 = .ok (.aload_n 0, 1) := by decide +kernel
theorem dX11_copy_125 : decode cX11_copy 125 = .ok (.aload_n 1, 1) := by decide +kernel
theorem dX11_copy_126 : decode cX11_copy 126 = .ok (.getfield 59, 3) := by decide +kernel
theorem dX11_copy_129 : decode cX11_copy 129 = .ok (.putfield 59, 3) := by decide +kernel
theorem dX11_copy_132 : decode cX11_copy 132 = .ok (.aload_n 0, 1) := by decide +kernel
theorem dX11_copy_133 : decode cX11_copy 133 = .ok (.aload_n 1, 1) := by decide +kernel
theorem dX11_copy_134 : decode cX11_copy 134 = .ok (.getfield 62, 3) := by decide +kernel
theorem dX11_copy_137 : decode cX11_copy 137 = .ok (.putfield 62, 3) := by decide +kernel
theorem dX11_copy_140 : decode cX11_copy 140 = .ok (.aload_n 0, 1) := by decide +kernel
theorem dX11_copy_141 : decode cX11_copy 141 = .ok (.aload_n 1, 1) := by decide +kernel
theorem dX11_copy_142 : decode cX11_copy 142 = .ok (.getfield 65, 3) := by decide +kernel
theorem dX11_copy_145 : decode cX11_copy 145 = .ok (.putfield 65, 3) := by decide +kernel
theorem dX11_copy_148 : decode cX11_copy 148 = .ok (.aload_n 0, 1) := by decide +kernel
theorem dX11_copy_149 : decode cX11_copy 149 = .ok (.aload_n 1, 1) := by decide +kernel
theorem dX11_copy_150 : decode cX11_copy 150 = .ok (.getfield 68, 3) := by decide +kernel
theorem dX11_copy_153 : decode cX11_copy 153 = .ok (.putfield 68, 3) := by decide +kernel
theorem dX11_copy_156 : decode cX11_copy 156 = .ok (.iconst 0, 1) := by decide +kernel
theorem dX11_copy_157 : decode cX11_copy 157 = .ok (.istore_n 2, 1) := by decide +kernel
theorem dX11_copy_158 : decode cX11_copy 158 = .ok (.iload_n 2, 1) := by decide +kernel
theorem dX11_copy_159 : decode cX11_copy 159 = .ok (.bipush 64, 2) := by decide +kernel
theorem dX11_copy_161 : decode cX11_copy 161 = .ok (.if_icmp .ge 33, 3) := by decide +kernel
theorem dX11_copy_164 : decode cX11_copy 164 = .ok (.aload_n 0, 1) := by decide +kernel
theorem dX11_copy_165 : decode cX11_copy 165 = .ok (.getfield 24, 3) := by decide +kernel
theorem dX11_copy_168 : decode cX11_copy 168 = .ok (.iload_n 2, 1) := by decide +kernel
theorem dX11_copy_169 : decode cX11_copy 169 = .ok (.aload_n 1, 1) := by decide +kernel
theorem dX11_copy_170 : decode cX11_copy 170 = .ok (.getfield 24, 3) := by decide +kernel
theorem dX11_copy_173 : decode cX11_copy 173 = .ok (.iload_n 2, 1) := by decide +kernel
theorem dX11_copy_174 : decode cX11_copy 174 = .ok (.iaload, 1) := by decide +kernel
theorem dX11_copy_175 : decode cX11_copy 175 = .ok (.iastore, 1) := by decide +kernel
theorem dX11_copy_176 : decode cX11_copy 176 = .ok (.aload_n 0, 1) := by decide +kernel
theorem dX11_copy_177 : decode cX11_copy 177 = .ok (.getfield 27, 3) := by decide +kernel
theorem dX11_copy_180 : decode cX11_copy 180 = .ok (.iload_n 2, 1) := by decide +kernel
theorem dX11_copy_181 : decode cX11_copy 181 = .ok (.aload_n 1, 1) := by decide +kernel
theorem dX11_copy_182 : decode cX11_copy 182 = .ok (.getfield 27, 3) := by decide +kernel
theorem dX11_copy_185 : decode cX11_copy 185 = .ok (.iload_n 2, 1) := by decide +kernel
theorem dX11_copy_186 : decode cX11_copy 186 = .ok (.baload, 1) := by decide +kernel
theorem dX11_copy_187 : decode cX11_copy 187 = .ok (.bastore, 1) := by decide +kernel
theorem dX11_copy_188 : decode cX11_copy 188 = .ok (.iinc 2 1, 3) := by decide +kernel
theorem dX11_copy_191 : decode cX11_copy 191 = .ok (.goto (-33), 3) := by decide +kernel
theorem dX11_copy_194 : decode cX11_copy 194 = .ok (.aload_n 0, 1) := by decide +kernel
theorem dX11_copy_195 : decode cX11_copy 195 = .ok (.aload_n 1, 1) := by decide +kernel
theorem dX11_copy_196 : decode cX11_copy 196 = .ok (.getfield 71, 3) := by decide +kernel
theorem dX11_copy_199 : decode cX11_copy 199 = .ok (.putfield 71, 3) := by decide +kernel
theorem dX11_copy_202 : decode cX11_copy 202 = .ok (.return_, 1) := by decide +kernel
set_option maxRecDepth 100000 in
theorem lp_ycp {l : Launch} {dd : Nat} {Po : zPo} {K0 : zK} {h0 : List va_E} {Xo : zK → Prop} {Gc : zG → Prop} (y o : Nat) (ay ao : Nat → Nat) (D E : zYd) (h01 : ∀ j, E.2.2.2.2.2.2.2 j ≤ 1)
    (hk : zS (l, mX11_copy, dd, Po, K0, h0, Xo, Gc) 0 0 194 [(0, .ref y), (1, .ref o), (2, .int (nI 64))] [] [(y, .inr (9, fYard ay (ysN (un (un (un (un (un (un (un (un (un (un (un D.1 0 (E.1 0)) 5 (E.1 5)) 6 (E.1 6)) 7 (E.1 7)) 8 (E.1 8)) 9 (E.1 9)) 10 (E.1 10)) 11 (E.1 11)) 12 (E.1 12)) 14 (E.1 14)) 15 (E.1 15)) E.2.1))), (ay 1, .inl (0, 12, .inl (nF (nCl E.2.2.1 D.2.2.1 12)))), (ay 2, .inl (0, 12, .inl (nF (nCl E.2.2.2.1 D.2.2.2.1 12)))), (ay 3, .inl (0, 12, .inl (nF (nCl E.2.2.2.2.1 D.2.2.2.2.1 12)))), (ay 4, .inl (0, 12, .inl (nF (nCl E.2.2.2.2.2.1 D.2.2.2.2.2.1 12)))), (ay 5, .inl (0, 64, .inl (nF (nCl E.2.2.2.2.2.2.1 D.2.2.2.2.2.2.1 64)))), (ay 6, .inl (1, 64, .inl (nF (nCl E.2.2.2.2.2.2.2 D.2.2.2.2.2.2.2 64)))), (o, .inr (9, fYard ao (ysN E.1 E.2.1))), (ao 1, .inl (0, 12, .inl (nF E.2.2.1))), (ao 2, .inl (0, 12, .inl (nF E.2.2.2.1))), (ao 3, .inl (0, 12, .inl (nF E.2.2.2.2.1))), (ao 4, .inl (0, 12, .inl (nF E.2.2.2.2.2.1))), (ao 5, .inl (0, 64, .inl (nF E.2.2.2.2.2.2.1))), (ao 6, .inl (1, 64, .inl (nF E.2.2.2.2.2.2.2)))]) :
    ∀ (m i : Nat) , i + m = 64 → zS (l, mX11_copy, dd, Po, K0, h0, Xo, Gc) 0 0 158 [(0, .ref y), (1, .ref o), (2, .int (nI i))] [] [(y, .inr (9, fYard ay (ysN (un (un (un (un (un (un (un (un (un (un (un D.1 0 (E.1 0)) 5 (E.1 5)) 6 (E.1 6)) 7 (E.1 7)) 8 (E.1 8)) 9 (E.1 9)) 10 (E.1 10)) 11 (E.1 11)) 12 (E.1 12)) 14 (E.1 14)) 15 (E.1 15)) E.2.1))), (ay 1, .inl (0, 12, .inl (nF (nCl E.2.2.1 D.2.2.1 12)))), (ay 2, .inl (0, 12, .inl (nF (nCl E.2.2.2.1 D.2.2.2.1 12)))), (ay 3, .inl (0, 12, .inl (nF (nCl E.2.2.2.2.1 D.2.2.2.2.1 12)))), (ay 4, .inl (0, 12, .inl (nF (nCl E.2.2.2.2.2.1 D.2.2.2.2.2.1 12)))), (ay 5, .inl (0, 64, .inl (nF (nCl E.2.2.2.2.2.2.1 D.2.2.2.2.2.2.1 i)))), (ay 6, .inl (1, 64, .inl (nF (nCl E.2.2.2.2.2.2.2 D.2.2.2.2.2.2.2 i)))), (o, .inr (9, fYard ao (ysN E.1 E.2.1))), (ao 1, .inl (0, 12, .inl (nF E.2.2.1))), (ao 2, .inl (0, 12, .inl (nF E.2.2.2.1))), (ao 3, .inl (0, 12, .inl (nF E.2.2.2.2.1))), (ao 4, .inl (0, 12, .inl (nF E.2.2.2.2.2.1))), (ao 5, .inl (0, 64, .inl (nF E.2.2.2.2.2.2.1))), (ao 6, .inl (1, 64, .inl (nF E.2.2.2.2.2.2.2)))] := by
  intro m
  induction m with
  | zero =>
    intro i hi
    have hin : i = 64 := by omega
    subst hin
    refine zs_iload_n dX11_copy_158 rfl ?_
    refine zs_bipush (v := nI 64) dX11_copy_159 (by decide) ?_
    refine zs_icmp_ge (tgt := 194) dX11_copy_161 (by decide) (fun c_1 => ?_) (fun c_1 => (c_1 (Int32.le_refl _) : False).elim)
    exact hk
  | succ m ih =>
    intro i hi
    refine zs_iload_n dX11_copy_158 rfl ?_
    refine zs_bipush (v := nI 64) dX11_copy_159 (by decide) ?_
    refine zs_icmp_ge (tgt := 194) dX11_copy_161 (by decide) (fun c_1 => (nI_ge (show i < 64 by omega) (by omega) c_1 : False).elim) (fun c_1 => ?_)
    refine zs_aload_n dX11_copy_164 rfl rfl ?_
    refine zs_get 0 dX11_copy_165 zf_RX11_24 rfl (v := .ref (ay 5)) rfl ?_
    refine zs_iload_n dX11_copy_168 rfl ?_
    refine zs_aload_n dX11_copy_169 rfl rfl ?_
    refine zs_get 7 dX11_copy_170 zf_RX11_24 rfl (v := .ref (ao 5)) rfl ?_
    refine zs_iload_n dX11_copy_173 rfl ?_
    refine zs_iald 12 dX11_copy_174 rfl (vp_in_nI (by omega) (by omega)) ?_
    refine zs_as (y := nI (E.2.2.2.2.2.2.1 i)) (by rw [nI_c (n := i) (by omega)]; rfl) ?_
    refine zs_iast 5 dX11_copy_175 rfl (vp_in_nI (by omega) (by omega)) ?_
    rw [nI_c (n := i) (by omega), nF_u]
    rw [nCl_u (new := E.2.2.2.2.2.2.1) (old := D.2.2.2.2.2.2.1) (k := i) rfl]
    show zS _ _ _ _ _ _ [(y, .inr (9, fYard ay (ysN (un (un (un (un (un (un (un (un (un (un (un D.1 0 (E.1 0)) 5 (E.1 5)) 6 (E.1 6)) 7 (E.1 7)) 8 (E.1 8)) 9 (E.1 9)) 10 (E.1 10)) 11 (E.1 11)) 12 (E.1 12)) 14 (E.1 14)) 15 (E.1 15)) E.2.1))), (ay 1, .inl (0, 12, .inl (nF (nCl E.2.2.1 D.2.2.1 12)))), (ay 2, .inl (0, 12, .inl (nF (nCl E.2.2.2.1 D.2.2.2.1 12)))), (ay 3, .inl (0, 12, .inl (nF (nCl E.2.2.2.2.1 D.2.2.2.2.1 12)))), (ay 4, .inl (0, 12, .inl (nF (nCl E.2.2.2.2.2.1 D.2.2.2.2.2.1 12)))), (ay 5, .inl (0, 64, .inl (nF (nCl E.2.2.2.2.2.2.1 D.2.2.2.2.2.2.1 (i + 1))))), (ay 6, .inl (1, 64, .inl (nF (nCl E.2.2.2.2.2.2.2 D.2.2.2.2.2.2.2 i)))), (o, .inr (9, fYard ao (ysN E.1 E.2.1))), (ao 1, .inl (0, 12, .inl (nF E.2.2.1))), (ao 2, .inl (0, 12, .inl (nF E.2.2.2.1))), (ao 3, .inl (0, 12, .inl (nF E.2.2.2.2.1))), (ao 4, .inl (0, 12, .inl (nF E.2.2.2.2.2.1))), (ao 5, .inl (0, 64, .inl (nF E.2.2.2.2.2.2.1))), (ao 6, .inl (1, 64, .inl (nF E.2.2.2.2.2.2.2)))]
    refine zs_aload_n dX11_copy_176 rfl rfl ?_
    refine zs_get 0 dX11_copy_177 zf_RX11_27 rfl (v := .ref (ay 6)) rfl ?_
    refine zs_iload_n dX11_copy_180 rfl ?_
    refine zs_aload_n dX11_copy_181 rfl rfl ?_
    refine zs_get 7 dX11_copy_182 zf_RX11_27 rfl (v := .ref (ao 6)) rfl ?_
    refine zs_iload_n dX11_copy_185 rfl ?_
    refine zs_zald 13 dX11_copy_186 rfl (vp_in_nI (by omega) (by omega)) ?_
    refine zs_as (y := nI (E.2.2.2.2.2.2.2 i)) (by rw [nI_c (n := i) (by omega)]; rfl) ?_
    refine zs_zast 6 dX11_copy_187 rfl (vp_in_nI (by omega) (by omega)) (by have h := h01 i; rcases Nat.le_one_iff_eq_zero_or_eq_one.mp h with e | e <;> rw [e] <;> first | exact Or.inl rfl | exact Or.inr rfl) ?_
    rw [nI_c (n := i) (by omega), nF_u]
    rw [nCl_u (new := E.2.2.2.2.2.2.2) (old := D.2.2.2.2.2.2.2) (k := i) rfl]
    show zS _ _ _ _ _ _ [(y, .inr (9, fYard ay (ysN (un (un (un (un (un (un (un (un (un (un (un D.1 0 (E.1 0)) 5 (E.1 5)) 6 (E.1 6)) 7 (E.1 7)) 8 (E.1 8)) 9 (E.1 9)) 10 (E.1 10)) 11 (E.1 11)) 12 (E.1 12)) 14 (E.1 14)) 15 (E.1 15)) E.2.1))), (ay 1, .inl (0, 12, .inl (nF (nCl E.2.2.1 D.2.2.1 12)))), (ay 2, .inl (0, 12, .inl (nF (nCl E.2.2.2.1 D.2.2.2.1 12)))), (ay 3, .inl (0, 12, .inl (nF (nCl E.2.2.2.2.1 D.2.2.2.2.1 12)))), (ay 4, .inl (0, 12, .inl (nF (nCl E.2.2.2.2.2.1 D.2.2.2.2.2.1 12)))), (ay 5, .inl (0, 64, .inl (nF (nCl E.2.2.2.2.2.2.1 D.2.2.2.2.2.2.1 (i + 1))))), (ay 6, .inl (1, 64, .inl (nF (nCl E.2.2.2.2.2.2.2 D.2.2.2.2.2.2.2 (i + 1))))), (o, .inr (9, fYard ao (ysN E.1 E.2.1))), (ao 1, .inl (0, 12, .inl (nF E.2.2.1))), (ao 2, .inl (0, 12, .inl (nF E.2.2.2.1))), (ao 3, .inl (0, 12, .inl (nF E.2.2.2.2.1))), (ao 4, .inl (0, 12, .inl (nF E.2.2.2.2.2.1))), (ao 5, .inl (0, 64, .inl (nF E.2.2.2.2.2.2.1))), (ao 6, .inl (1, 64, .inl (nF E.2.2.2.2.2.2.2)))]
    refine zs_iinc (v := (nI (i + 1))) (lv' := [(2, .int (nI (i + 1))), (0, .ref y), (1, .ref o)]) dX11_copy_188 rfl (nI_add _ 1) (Nat.le_of_ble_eq_true rfl) rfl ?_
    refine zs_goto (tgt := 158) dX11_copy_191 (by decide) ?_
    refine zs_lv [1, 2, 0] rfl ?_
    exact ih (i + 1) (by omega)
set_option maxRecDepth 100000 in
theorem s_yCopy (l : Launch) (dd : Nat) (y o : Nat) (ay ao : Nat → Nat) (D E : zYd) (hd : 1 ≤ dd) (h01 : ∀ j, E.2.2.2.2.2.2.2 j ≤ 1) : zSp l mX11_copy dd 0 0 [.ref y, .ref o] [(y, .inr (9, fYard ay (ysN D.1 D.2.1))), (ay 1, .inl (0, 12, .inl (nF D.2.2.1))), (ay 2, .inl (0, 12, .inl (nF D.2.2.2.1))), (ay 3, .inl (0, 12, .inl (nF D.2.2.2.2.1))), (ay 4, .inl (0, 12, .inl (nF D.2.2.2.2.2.1))), (ay 5, .inl (0, 64, .inl (nF D.2.2.2.2.2.2.1))), (ay 6, .inl (1, 64, .inl (nF D.2.2.2.2.2.2.2))), (o, .inr (9, fYard ao (ysN E.1 E.2.1))), (ao 1, .inl (0, 12, .inl (nF E.2.2.1))), (ao 2, .inl (0, 12, .inl (nF E.2.2.2.1))), (ao 3, .inl (0, 12, .inl (nF E.2.2.2.2.1))), (ao 4, .inl (0, 12, .inl (nF E.2.2.2.2.2.1))), (ao 5, .inl (0, 64, .inl (nF E.2.2.2.2.2.2.1))), (ao 6, .inl (1, 64, .inl (nF E.2.2.2.2.2.2.2)))] (fun r K' => r = none ∧ K' = kYd y ay (yCp D E) ++ kYd o ao E) := by
  refine zSp.of (by decide) (Nat.le_of_ble_eq_true rfl) (fun h0 => ?_)
  show zS _ 0 0 0 [(0, .ref y), (1, .ref o)] [] [(y, .inr (9, fYard ay (ysN D.1 D.2.1))), (ay 1, .inl (0, 12, .inl (nF D.2.2.1))), (ay 2, .inl (0, 12, .inl (nF D.2.2.2.1))), (ay 3, .inl (0, 12, .inl (nF D.2.2.2.2.1))), (ay 4, .inl (0, 12, .inl (nF D.2.2.2.2.2.1))), (ay 5, .inl (0, 64, .inl (nF D.2.2.2.2.2.2.1))), (ay 6, .inl (1, 64, .inl (nF D.2.2.2.2.2.2.2))), (o, .inr (9, fYard ao (ysN E.1 E.2.1))), (ao 1, .inl (0, 12, .inl (nF E.2.2.1))), (ao 2, .inl (0, 12, .inl (nF E.2.2.2.1))), (ao 3, .inl (0, 12, .inl (nF E.2.2.2.2.1))), (ao 4, .inl (0, 12, .inl (nF E.2.2.2.2.2.1))), (ao 5, .inl (0, 64, .inl (nF E.2.2.2.2.2.2.1))), (ao 6, .inl (1, 64, .inl (nF E.2.2.2.2.2.2.2)))]
  refine zs_aload_n dX11_copy_0 rfl rfl ?_
  refine zs_aload_n dX11_copy_1 rfl rfl ?_
  refine zs_get 7 dX11_copy_2 zf_RX11_34 rfl (v := .int (nI (E.1 0))) rfl ?_
  refine zs_put 0 dX11_copy_5 zf_RX11_34 rfl (Nat.le_of_ble_eq_true rfl) (zPv_i _) ?_
  show zS _ _ _ _ _ _ [(y, .inr (9, fYard ay (ysN (un D.1 0 (E.1 0)) D.2.1))), (ay 1, .inl (0, 12, .inl (nF D.2.2.1))), (ay 2, .inl (0, 12, .inl (nF D.2.2.2.1))), (ay 3, .inl (0, 12, .inl (nF D.2.2.2.2.1))), (ay 4, .inl (0, 12, .inl (nF D.2.2.2.2.2.1))), (ay 5, .inl (0, 64, .inl (nF D.2.2.2.2.2.2.1))), (ay 6, .inl (1, 64, .inl (nF D.2.2.2.2.2.2.2))), (o, .inr (9, fYard ao (ysN E.1 E.2.1))), (ao 1, .inl (0, 12, .inl (nF E.2.2.1))), (ao 2, .inl (0, 12, .inl (nF E.2.2.2.1))), (ao 3, .inl (0, 12, .inl (nF E.2.2.2.2.1))), (ao 4, .inl (0, 12, .inl (nF E.2.2.2.2.2.1))), (ao 5, .inl (0, 64, .inl (nF E.2.2.2.2.2.2.1))), (ao 6, .inl (1, 64, .inl (nF E.2.2.2.2.2.2.2)))]
  refine zs_aload_n dX11_copy_8 rfl rfl ?_
  refine zs_get 7 dX11_copy_9 zf_RX11_9 rfl (v := .ref (ao 1)) rfl ?_
  refine zs_iconst (v := nI 0) dX11_copy_12 (by decide) ?_
  refine zs_aload_n dX11_copy_13 rfl rfl ?_
  refine zs_get 0 dX11_copy_14 zf_RX11_9 rfl (v := .ref (ay 1)) rfl ?_
  refine zs_iconst (v := nI 0) dX11_copy_17 (by decide) ?_
  refine zs_bipush (v := nI 12) dX11_copy_18 (by decide) ?_
  refine zs_copy 8 1 dX11_copy_20 zl_RX11_74 zcpy1 zcpy2 zcpy3 (show 1 ≤ dd by omega) (Nat.le_of_ble_eq_true rfl) rfl rfl (by decide) (by decide) (by decide) (by decide) (by decide) ?_
  show zS _ _ _ _ _ _ [(y, .inr (9, fYard ay (ysN (un D.1 0 (E.1 0)) D.2.1))), (ay 1, .inl (0, 12, .inl (va_cpy (nF E.2.2.1) (nF D.2.2.1) (nI 0).toNatClampNeg (nI 0).toNatClampNeg (nI 12).toNatClampNeg))), (ay 2, .inl (0, 12, .inl (nF D.2.2.2.1))), (ay 3, .inl (0, 12, .inl (nF D.2.2.2.2.1))), (ay 4, .inl (0, 12, .inl (nF D.2.2.2.2.2.1))), (ay 5, .inl (0, 64, .inl (nF D.2.2.2.2.2.2.1))), (ay 6, .inl (1, 64, .inl (nF D.2.2.2.2.2.2.2))), (o, .inr (9, fYard ao (ysN E.1 E.2.1))), (ao 1, .inl (0, 12, .inl (nF E.2.2.1))), (ao 2, .inl (0, 12, .inl (nF E.2.2.2.1))), (ao 3, .inl (0, 12, .inl (nF E.2.2.2.2.1))), (ao 4, .inl (0, 12, .inl (nF E.2.2.2.2.2.1))), (ao 5, .inl (0, 64, .inl (nF E.2.2.2.2.2.2.1))), (ao 6, .inl (1, 64, .inl (nF E.2.2.2.2.2.2.2)))]
  rw [show (nI 0).toNatClampNeg = 0 from rfl, show (nI 12).toNatClampNeg = 12 from rfl, va_cpy_0, pCl_nF]
  show zS _ _ _ _ _ _ [(y, .inr (9, fYard ay (ysN (un D.1 0 (E.1 0)) D.2.1))), (ay 1, .inl (0, 12, .inl (nF (nCl E.2.2.1 D.2.2.1 12)))), (ay 2, .inl (0, 12, .inl (nF D.2.2.2.1))), (ay 3, .inl (0, 12, .inl (nF D.2.2.2.2.1))), (ay 4, .inl (0, 12, .inl (nF D.2.2.2.2.2.1))), (ay 5, .inl (0, 64, .inl (nF D.2.2.2.2.2.2.1))), (ay 6, .inl (1, 64, .inl (nF D.2.2.2.2.2.2.2))), (o, .inr (9, fYard ao (ysN E.1 E.2.1))), (ao 1, .inl (0, 12, .inl (nF E.2.2.1))), (ao 2, .inl (0, 12, .inl (nF E.2.2.2.1))), (ao 3, .inl (0, 12, .inl (nF E.2.2.2.2.1))), (ao 4, .inl (0, 12, .inl (nF E.2.2.2.2.2.1))), (ao 5, .inl (0, 64, .inl (nF E.2.2.2.2.2.2.1))), (ao 6, .inl (1, 64, .inl (nF E.2.2.2.2.2.2.2)))]
  refine zs_aload_n dX11_copy_23 rfl rfl ?_
  refine zs_get 7 dX11_copy_24 zf_RX11_15 rfl (v := .ref (ao 2)) rfl ?_
  refine zs_iconst (v := nI 0) dX11_copy_27 (by decide) ?_
  refine zs_aload_n dX11_copy_28 rfl rfl ?_
  refine zs_get 0 dX11_copy_29 zf_RX11_15 rfl (v := .ref (ay 2)) rfl ?_
  refine zs_iconst (v := nI 0) dX11_copy_32 (by decide) ?_
  refine zs_bipush (v := nI 12) dX11_copy_33 (by decide) ?_
  refine zs_copy 9 2 dX11_copy_35 zl_RX11_74 zcpy1 zcpy2 zcpy3 (show 1 ≤ dd by omega) (Nat.le_of_ble_eq_true rfl) rfl rfl (by decide) (by decide) (by decide) (by decide) (by decide) ?_
  show zS _ _ _ _ _ _ [(y, .inr (9, fYard ay (ysN (un D.1 0 (E.1 0)) D.2.1))), (ay 1, .inl (0, 12, .inl (nF (nCl E.2.2.1 D.2.2.1 12)))), (ay 2, .inl (0, 12, .inl (va_cpy (nF E.2.2.2.1) (nF D.2.2.2.1) (nI 0).toNatClampNeg (nI 0).toNatClampNeg (nI 12).toNatClampNeg))), (ay 3, .inl (0, 12, .inl (nF D.2.2.2.2.1))), (ay 4, .inl (0, 12, .inl (nF D.2.2.2.2.2.1))), (ay 5, .inl (0, 64, .inl (nF D.2.2.2.2.2.2.1))), (ay 6, .inl (1, 64, .inl (nF D.2.2.2.2.2.2.2))), (o, .inr (9, fYard ao (ysN E.1 E.2.1))), (ao 1, .inl (0, 12, .inl (nF E.2.2.1))), (ao 2, .inl (0, 12, .inl (nF E.2.2.2.1))), (ao 3, .inl (0, 12, .inl (nF E.2.2.2.2.1))), (ao 4, .inl (0, 12, .inl (nF E.2.2.2.2.2.1))), (ao 5, .inl (0, 64, .inl (nF E.2.2.2.2.2.2.1))), (ao 6, .inl (1, 64, .inl (nF E.2.2.2.2.2.2.2)))]
  rw [show (nI 0).toNatClampNeg = 0 from rfl, show (nI 12).toNatClampNeg = 12 from rfl, va_cpy_0, pCl_nF]
  show zS _ _ _ _ _ _ [(y, .inr (9, fYard ay (ysN (un D.1 0 (E.1 0)) D.2.1))), (ay 1, .inl (0, 12, .inl (nF (nCl E.2.2.1 D.2.2.1 12)))), (ay 2, .inl (0, 12, .inl (nF (nCl E.2.2.2.1 D.2.2.2.1 12)))), (ay 3, .inl (0, 12, .inl (nF D.2.2.2.2.1))), (ay 4, .inl (0, 12, .inl (nF D.2.2.2.2.2.1))), (ay 5, .inl (0, 64, .inl (nF D.2.2.2.2.2.2.1))), (ay 6, .inl (1, 64, .inl (nF D.2.2.2.2.2.2.2))), (o, .inr (9, fYard ao (ysN E.1 E.2.1))), (ao 1, .inl (0, 12, .inl (nF E.2.2.1))), (ao 2, .inl (0, 12, .inl (nF E.2.2.2.1))), (ao 3, .inl (0, 12, .inl (nF E.2.2.2.2.1))), (ao 4, .inl (0, 12, .inl (nF E.2.2.2.2.2.1))), (ao 5, .inl (0, 64, .inl (nF E.2.2.2.2.2.2.1))), (ao 6, .inl (1, 64, .inl (nF E.2.2.2.2.2.2.2)))]
  refine zs_aload_n dX11_copy_38 rfl rfl ?_
  refine zs_get 7 dX11_copy_39 zf_RX11_18 rfl (v := .ref (ao 3)) rfl ?_
  refine zs_iconst (v := nI 0) dX11_copy_42 (by decide) ?_
  refine zs_aload_n dX11_copy_43 rfl rfl ?_
  refine zs_get 0 dX11_copy_44 zf_RX11_18 rfl (v := .ref (ay 3)) rfl ?_
  refine zs_iconst (v := nI 0) dX11_copy_47 (by decide) ?_
  refine zs_bipush (v := nI 12) dX11_copy_48 (by decide) ?_
  refine zs_copy 10 3 dX11_copy_50 zl_RX11_74 zcpy1 zcpy2 zcpy3 (show 1 ≤ dd by omega) (Nat.le_of_ble_eq_true rfl) rfl rfl (by decide) (by decide) (by decide) (by decide) (by decide) ?_
  show zS _ _ _ _ _ _ [(y, .inr (9, fYard ay (ysN (un D.1 0 (E.1 0)) D.2.1))), (ay 1, .inl (0, 12, .inl (nF (nCl E.2.2.1 D.2.2.1 12)))), (ay 2, .inl (0, 12, .inl (nF (nCl E.2.2.2.1 D.2.2.2.1 12)))), (ay 3, .inl (0, 12, .inl (va_cpy (nF E.2.2.2.2.1) (nF D.2.2.2.2.1) (nI 0).toNatClampNeg (nI 0).toNatClampNeg (nI 12).toNatClampNeg))), (ay 4, .inl (0, 12, .inl (nF D.2.2.2.2.2.1))), (ay 5, .inl (0, 64, .inl (nF D.2.2.2.2.2.2.1))), (ay 6, .inl (1, 64, .inl (nF D.2.2.2.2.2.2.2))), (o, .inr (9, fYard ao (ysN E.1 E.2.1))), (ao 1, .inl (0, 12, .inl (nF E.2.2.1))), (ao 2, .inl (0, 12, .inl (nF E.2.2.2.1))), (ao 3, .inl (0, 12, .inl (nF E.2.2.2.2.1))), (ao 4, .inl (0, 12, .inl (nF E.2.2.2.2.2.1))), (ao 5, .inl (0, 64, .inl (nF E.2.2.2.2.2.2.1))), (ao 6, .inl (1, 64, .inl (nF E.2.2.2.2.2.2.2)))]
  rw [show (nI 0).toNatClampNeg = 0 from rfl, show (nI 12).toNatClampNeg = 12 from rfl, va_cpy_0, pCl_nF]
  show zS _ _ _ _ _ _ [(y, .inr (9, fYard ay (ysN (un D.1 0 (E.1 0)) D.2.1))), (ay 1, .inl (0, 12, .inl (nF (nCl E.2.2.1 D.2.2.1 12)))), (ay 2, .inl (0, 12, .inl (nF (nCl E.2.2.2.1 D.2.2.2.1 12)))), (ay 3, .inl (0, 12, .inl (nF (nCl E.2.2.2.2.1 D.2.2.2.2.1 12)))), (ay 4, .inl (0, 12, .inl (nF D.2.2.2.2.2.1))), (ay 5, .inl (0, 64, .inl (nF D.2.2.2.2.2.2.1))), (ay 6, .inl (1, 64, .inl (nF D.2.2.2.2.2.2.2))), (o, .inr (9, fYard ao (ysN E.1 E.2.1))), (ao 1, .inl (0, 12, .inl (nF E.2.2.1))), (ao 2, .inl (0, 12, .inl (nF E.2.2.2.1))), (ao 3, .inl (0, 12, .inl (nF E.2.2.2.2.1))), (ao 4, .inl (0, 12, .inl (nF E.2.2.2.2.2.1))), (ao 5, .inl (0, 64, .inl (nF E.2.2.2.2.2.2.1))), (ao 6, .inl (1, 64, .inl (nF E.2.2.2.2.2.2.2)))]
  refine zs_aload_n dX11_copy_53 rfl rfl ?_
  refine zs_get 7 dX11_copy_54 zf_RX11_21 rfl (v := .ref (ao 4)) rfl ?_
  refine zs_iconst (v := nI 0) dX11_copy_57 (by decide) ?_
  refine zs_aload_n dX11_copy_58 rfl rfl ?_
  refine zs_get 0 dX11_copy_59 zf_RX11_21 rfl (v := .ref (ay 4)) rfl ?_
  refine zs_iconst (v := nI 0) dX11_copy_62 (by decide) ?_
  refine zs_bipush (v := nI 12) dX11_copy_63 (by decide) ?_
  refine zs_copy 11 4 dX11_copy_65 zl_RX11_74 zcpy1 zcpy2 zcpy3 (show 1 ≤ dd by omega) (Nat.le_of_ble_eq_true rfl) rfl rfl (by decide) (by decide) (by decide) (by decide) (by decide) ?_
  show zS _ _ _ _ _ _ [(y, .inr (9, fYard ay (ysN (un D.1 0 (E.1 0)) D.2.1))), (ay 1, .inl (0, 12, .inl (nF (nCl E.2.2.1 D.2.2.1 12)))), (ay 2, .inl (0, 12, .inl (nF (nCl E.2.2.2.1 D.2.2.2.1 12)))), (ay 3, .inl (0, 12, .inl (nF (nCl E.2.2.2.2.1 D.2.2.2.2.1 12)))), (ay 4, .inl (0, 12, .inl (va_cpy (nF E.2.2.2.2.2.1) (nF D.2.2.2.2.2.1) (nI 0).toNatClampNeg (nI 0).toNatClampNeg (nI 12).toNatClampNeg))), (ay 5, .inl (0, 64, .inl (nF D.2.2.2.2.2.2.1))), (ay 6, .inl (1, 64, .inl (nF D.2.2.2.2.2.2.2))), (o, .inr (9, fYard ao (ysN E.1 E.2.1))), (ao 1, .inl (0, 12, .inl (nF E.2.2.1))), (ao 2, .inl (0, 12, .inl (nF E.2.2.2.1))), (ao 3, .inl (0, 12, .inl (nF E.2.2.2.2.1))), (ao 4, .inl (0, 12, .inl (nF E.2.2.2.2.2.1))), (ao 5, .inl (0, 64, .inl (nF E.2.2.2.2.2.2.1))), (ao 6, .inl (1, 64, .inl (nF E.2.2.2.2.2.2.2)))]
  rw [show (nI 0).toNatClampNeg = 0 from rfl, show (nI 12).toNatClampNeg = 12 from rfl, va_cpy_0, pCl_nF]
  show zS _ _ _ _ _ _ [(y, .inr (9, fYard ay (ysN (un D.1 0 (E.1 0)) D.2.1))), (ay 1, .inl (0, 12, .inl (nF (nCl E.2.2.1 D.2.2.1 12)))), (ay 2, .inl (0, 12, .inl (nF (nCl E.2.2.2.1 D.2.2.2.1 12)))), (ay 3, .inl (0, 12, .inl (nF (nCl E.2.2.2.2.1 D.2.2.2.2.1 12)))), (ay 4, .inl (0, 12, .inl (nF (nCl E.2.2.2.2.2.1 D.2.2.2.2.2.1 12)))), (ay 5, .inl (0, 64, .inl (nF D.2.2.2.2.2.2.1))), (ay 6, .inl (1, 64, .inl (nF D.2.2.2.2.2.2.2))), (o, .inr (9, fYard ao (ysN E.1 E.2.1))), (ao 1, .inl (0, 12, .inl (nF E.2.2.1))), (ao 2, .inl (0, 12, .inl (nF E.2.2.2.1))), (ao 3, .inl (0, 12, .inl (nF E.2.2.2.2.1))), (ao 4, .inl (0, 12, .inl (nF E.2.2.2.2.2.1))), (ao 5, .inl (0, 64, .inl (nF E.2.2.2.2.2.2.1))), (ao 6, .inl (1, 64, .inl (nF E.2.2.2.2.2.2.2)))]
  refine zs_aload_n dX11_copy_68 rfl rfl ?_
  refine zs_aload_n dX11_copy_69 rfl rfl ?_
  refine zs_get 7 dX11_copy_70 zf_RX11_38 rfl (v := .int (nI (E.1 5))) rfl ?_
  refine zs_put 0 dX11_copy_73 zf_RX11_38 rfl (Nat.le_of_ble_eq_true rfl) (zPv_i _) ?_
  show zS _ _ _ _ _ _ [(y, .inr (9, fYard ay (ysN (un (un D.1 0 (E.1 0)) 5 (E.1 5)) D.2.1))), (ay 1, .inl (0, 12, .inl (nF (nCl E.2.2.1 D.2.2.1 12)))), (ay 2, .inl (0, 12, .inl (nF (nCl E.2.2.2.1 D.2.2.2.1 12)))), (ay 3, .inl (0, 12, .inl (nF (nCl E.2.2.2.2.1 D.2.2.2.2.1 12)))), (ay 4, .inl (0, 12, .inl (nF (nCl E.2.2.2.2.2.1 D.2.2.2.2.2.1 12)))), (ay 5, .inl (0, 64, .inl (nF D.2.2.2.2.2.2.1))), (ay 6, .inl (1, 64, .inl (nF D.2.2.2.2.2.2.2))), (o, .inr (9, fYard ao (ysN E.1 E.2.1))), (ao 1, .inl (0, 12, .inl (nF E.2.2.1))), (ao 2, .inl (0, 12, .inl (nF E.2.2.2.1))), (ao 3, .inl (0, 12, .inl (nF E.2.2.2.2.1))), (ao 4, .inl (0, 12, .inl (nF E.2.2.2.2.2.1))), (ao 5, .inl (0, 64, .inl (nF E.2.2.2.2.2.2.1))), (ao 6, .inl (1, 64, .inl (nF E.2.2.2.2.2.2.2)))]
  refine zs_aload_n dX11_copy_76 rfl rfl ?_
  refine zs_aload_n dX11_copy_77 rfl rfl ?_
  refine zs_get 7 dX11_copy_78 zf_RX11_41 rfl (v := .int (nI (E.1 6))) rfl ?_
  refine zs_put 0 dX11_copy_81 zf_RX11_41 rfl (Nat.le_of_ble_eq_true rfl) (zPv_i _) ?_
  show zS _ _ _ _ _ _ [(y, .inr (9, fYard ay (ysN (un (un (un D.1 0 (E.1 0)) 5 (E.1 5)) 6 (E.1 6)) D.2.1))), (ay 1, .inl (0, 12, .inl (nF (nCl E.2.2.1 D.2.2.1 12)))), (ay 2, .inl (0, 12, .inl (nF (nCl E.2.2.2.1 D.2.2.2.1 12)))), (ay 3, .inl (0, 12, .inl (nF (nCl E.2.2.2.2.1 D.2.2.2.2.1 12)))), (ay 4, .inl (0, 12, .inl (nF (nCl E.2.2.2.2.2.1 D.2.2.2.2.2.1 12)))), (ay 5, .inl (0, 64, .inl (nF D.2.2.2.2.2.2.1))), (ay 6, .inl (1, 64, .inl (nF D.2.2.2.2.2.2.2))), (o, .inr (9, fYard ao (ysN E.1 E.2.1))), (ao 1, .inl (0, 12, .inl (nF E.2.2.1))), (ao 2, .inl (0, 12, .inl (nF E.2.2.2.1))), (ao 3, .inl (0, 12, .inl (nF E.2.2.2.2.1))), (ao 4, .inl (0, 12, .inl (nF E.2.2.2.2.2.1))), (ao 5, .inl (0, 64, .inl (nF E.2.2.2.2.2.2.1))), (ao 6, .inl (1, 64, .inl (nF E.2.2.2.2.2.2.2)))]
  refine zs_aload_n dX11_copy_84 rfl rfl ?_
  refine zs_aload_n dX11_copy_85 rfl rfl ?_
  refine zs_get 7 dX11_copy_86 zf_RX11_44 rfl (v := .int (nI (E.1 7))) rfl ?_
  refine zs_put 0 dX11_copy_89 zf_RX11_44 rfl (Nat.le_of_ble_eq_true rfl) (zPv_i _) ?_
  show zS _ _ _ _ _ _ [(y, .inr (9, fYard ay (ysN (un (un (un (un D.1 0 (E.1 0)) 5 (E.1 5)) 6 (E.1 6)) 7 (E.1 7)) D.2.1))), (ay 1, .inl (0, 12, .inl (nF (nCl E.2.2.1 D.2.2.1 12)))), (ay 2, .inl (0, 12, .inl (nF (nCl E.2.2.2.1 D.2.2.2.1 12)))), (ay 3, .inl (0, 12, .inl (nF (nCl E.2.2.2.2.1 D.2.2.2.2.1 12)))), (ay 4, .inl (0, 12, .inl (nF (nCl E.2.2.2.2.2.1 D.2.2.2.2.2.1 12)))), (ay 5, .inl (0, 64, .inl (nF D.2.2.2.2.2.2.1))), (ay 6, .inl (1, 64, .inl (nF D.2.2.2.2.2.2.2))), (o, .inr (9, fYard ao (ysN E.1 E.2.1))), (ao 1, .inl (0, 12, .inl (nF E.2.2.1))), (ao 2, .inl (0, 12, .inl (nF E.2.2.2.1))), (ao 3, .inl (0, 12, .inl (nF E.2.2.2.2.1))), (ao 4, .inl (0, 12, .inl (nF E.2.2.2.2.2.1))), (ao 5, .inl (0, 64, .inl (nF E.2.2.2.2.2.2.1))), (ao 6, .inl (1, 64, .inl (nF E.2.2.2.2.2.2.2)))]
  refine zs_aload_n dX11_copy_92 rfl rfl ?_
  refine zs_aload_n dX11_copy_93 rfl rfl ?_
  refine zs_get 7 dX11_copy_94 zf_RX11_47 rfl (v := .int (nI (E.1 8))) rfl ?_
  refine zs_put 0 dX11_copy_97 zf_RX11_47 rfl (Nat.le_of_ble_eq_true rfl) (zPv_i _) ?_
  show zS _ _ _ _ _ _ [(y, .inr (9, fYard ay (ysN (un (un (un (un (un D.1 0 (E.1 0)) 5 (E.1 5)) 6 (E.1 6)) 7 (E.1 7)) 8 (E.1 8)) D.2.1))), (ay 1, .inl (0, 12, .inl (nF (nCl E.2.2.1 D.2.2.1 12)))), (ay 2, .inl (0, 12, .inl (nF (nCl E.2.2.2.1 D.2.2.2.1 12)))), (ay 3, .inl (0, 12, .inl (nF (nCl E.2.2.2.2.1 D.2.2.2.2.1 12)))), (ay 4, .inl (0, 12, .inl (nF (nCl E.2.2.2.2.2.1 D.2.2.2.2.2.1 12)))), (ay 5, .inl (0, 64, .inl (nF D.2.2.2.2.2.2.1))), (ay 6, .inl (1, 64, .inl (nF D.2.2.2.2.2.2.2))), (o, .inr (9, fYard ao (ysN E.1 E.2.1))), (ao 1, .inl (0, 12, .inl (nF E.2.2.1))), (ao 2, .inl (0, 12, .inl (nF E.2.2.2.1))), (ao 3, .inl (0, 12, .inl (nF E.2.2.2.2.1))), (ao 4, .inl (0, 12, .inl (nF E.2.2.2.2.2.1))), (ao 5, .inl (0, 64, .inl (nF E.2.2.2.2.2.2.1))), (ao 6, .inl (1, 64, .inl (nF E.2.2.2.2.2.2.2)))]
  refine zs_aload_n dX11_copy_100 rfl rfl ?_
  refine zs_aload_n dX11_copy_101 rfl rfl ?_
  refine zs_get 7 dX11_copy_102 zf_RX11_50 rfl (v := .int (nI (E.1 9))) rfl ?_
  refine zs_put 0 dX11_copy_105 zf_RX11_50 rfl (Nat.le_of_ble_eq_true rfl) (zPv_i _) ?_
  show zS _ _ _ _ _ _ [(y, .inr (9, fYard ay (ysN (un (un (un (un (un (un D.1 0 (E.1 0)) 5 (E.1 5)) 6 (E.1 6)) 7 (E.1 7)) 8 (E.1 8)) 9 (E.1 9)) D.2.1))), (ay 1, .inl (0, 12, .inl (nF (nCl E.2.2.1 D.2.2.1 12)))), (ay 2, .inl (0, 12, .inl (nF (nCl E.2.2.2.1 D.2.2.2.1 12)))), (ay 3, .inl (0, 12, .inl (nF (nCl E.2.2.2.2.1 D.2.2.2.2.1 12)))), (ay 4, .inl (0, 12, .inl (nF (nCl E.2.2.2.2.2.1 D.2.2.2.2.2.1 12)))), (ay 5, .inl (0, 64, .inl (nF D.2.2.2.2.2.2.1))), (ay 6, .inl (1, 64, .inl (nF D.2.2.2.2.2.2.2))), (o, .inr (9, fYard ao (ysN E.1 E.2.1))), (ao 1, .inl (0, 12, .inl (nF E.2.2.1))), (ao 2, .inl (0, 12, .inl (nF E.2.2.2.1))), (ao 3, .inl (0, 12, .inl (nF E.2.2.2.2.1))), (ao 4, .inl (0, 12, .inl (nF E.2.2.2.2.2.1))), (ao 5, .inl (0, 64, .inl (nF E.2.2.2.2.2.2.1))), (ao 6, .inl (1, 64, .inl (nF E.2.2.2.2.2.2.2)))]
  refine zs_aload_n dX11_copy_108 rfl rfl ?_
  refine zs_aload_n dX11_copy_109 rfl rfl ?_
  refine zs_get 7 dX11_copy_110 zf_RX11_53 rfl (v := .int (nI (E.1 10))) rfl ?_
  refine zs_put 0 dX11_copy_113 zf_RX11_53 rfl (Nat.le_of_ble_eq_true rfl) (zPv_i _) ?_
  show zS _ _ _ _ _ _ [(y, .inr (9, fYard ay (ysN (un (un (un (un (un (un (un D.1 0 (E.1 0)) 5 (E.1 5)) 6 (E.1 6)) 7 (E.1 7)) 8 (E.1 8)) 9 (E.1 9)) 10 (E.1 10)) D.2.1))), (ay 1, .inl (0, 12, .inl (nF (nCl E.2.2.1 D.2.2.1 12)))), (ay 2, .inl (0, 12, .inl (nF (nCl E.2.2.2.1 D.2.2.2.1 12)))), (ay 3, .inl (0, 12, .inl (nF (nCl E.2.2.2.2.1 D.2.2.2.2.1 12)))), (ay 4, .inl (0, 12, .inl (nF (nCl E.2.2.2.2.2.1 D.2.2.2.2.2.1 12)))), (ay 5, .inl (0, 64, .inl (nF D.2.2.2.2.2.2.1))), (ay 6, .inl (1, 64, .inl (nF D.2.2.2.2.2.2.2))), (o, .inr (9, fYard ao (ysN E.1 E.2.1))), (ao 1, .inl (0, 12, .inl (nF E.2.2.1))), (ao 2, .inl (0, 12, .inl (nF E.2.2.2.1))), (ao 3, .inl (0, 12, .inl (nF E.2.2.2.2.1))), (ao 4, .inl (0, 12, .inl (nF E.2.2.2.2.2.1))), (ao 5, .inl (0, 64, .inl (nF E.2.2.2.2.2.2.1))), (ao 6, .inl (1, 64, .inl (nF E.2.2.2.2.2.2.2)))]
  refine zs_aload_n dX11_copy_116 rfl rfl ?_
  refine zs_aload_n dX11_copy_117 rfl rfl ?_
  refine zs_get 7 dX11_copy_118 zf_RX11_56 rfl (v := .int (nI (E.1 11))) rfl ?_
  refine zs_put 0 dX11_copy_121 zf_RX11_56 rfl (Nat.le_of_ble_eq_true rfl) (zPv_i _) ?_
  show zS _ _ _ _ _ _ [(y, .inr (9, fYard ay (ysN (un (un (un (un (un (un (un (un D.1 0 (E.1 0)) 5 (E.1 5)) 6 (E.1 6)) 7 (E.1 7)) 8 (E.1 8)) 9 (E.1 9)) 10 (E.1 10)) 11 (E.1 11)) D.2.1))), (ay 1, .inl (0, 12, .inl (nF (nCl E.2.2.1 D.2.2.1 12)))), (ay 2, .inl (0, 12, .inl (nF (nCl E.2.2.2.1 D.2.2.2.1 12)))), (ay 3, .inl (0, 12, .inl (nF (nCl E.2.2.2.2.1 D.2.2.2.2.1 12)))), (ay 4, .inl (0, 12, .inl (nF (nCl E.2.2.2.2.2.1 D.2.2.2.2.2.1 12)))), (ay 5, .inl (0, 64, .inl (nF D.2.2.2.2.2.2.1))), (ay 6, .inl (1, 64, .inl (nF D.2.2.2.2.2.2.2))), (o, .inr (9, fYard ao (ysN E.1 E.2.1))), (ao 1, .inl (0, 12, .inl (nF E.2.2.1))), (ao 2, .inl (0, 12, .inl (nF E.2.2.2.1))), (ao 3, .inl (0, 12, .inl (nF E.2.2.2.2.1))), (ao 4, .inl (0, 12, .inl (nF E.2.2.2.2.2.1))), (ao 5, .inl (0, 64, .inl (nF E.2.2.2.2.2.2.1))), (ao 6, .inl (1, 64, .inl (nF E.2.2.2.2.2.2.2)))]
  refine zs_aload_n dX11_copy_124 rfl rfl ?_
  refine zs_aload_n dX11_copy_125 rfl rfl ?_
  refine zs_get 7 dX11_copy_126 zf_RX11_59 rfl (v := .int (nI (E.1 12))) rfl ?_
  refine zs_put 0 dX11_copy_129 zf_RX11_59 rfl (Nat.le_of_ble_eq_true rfl) (zPv_i _) ?_
  show zS _ _ _ _ _ _ [(y, .inr (9, fYard ay (ysN (un (un (un (un (un (un (un (un (un D.1 0 (E.1 0)) 5 (E.1 5)) 6 (E.1 6)) 7 (E.1 7)) 8 (E.1 8)) 9 (E.1 9)) 10 (E.1 10)) 11 (E.1 11)) 12 (E.1 12)) D.2.1))), (ay 1, .inl (0, 12, .inl (nF (nCl E.2.2.1 D.2.2.1 12)))), (ay 2, .inl (0, 12, .inl (nF (nCl E.2.2.2.1 D.2.2.2.1 12)))), (ay 3, .inl (0, 12, .inl (nF (nCl E.2.2.2.2.1 D.2.2.2.2.1 12)))), (ay 4, .inl (0, 12, .inl (nF (nCl E.2.2.2.2.2.1 D.2.2.2.2.2.1 12)))), (ay 5, .inl (0, 64, .inl (nF D.2.2.2.2.2.2.1))), (ay 6, .inl (1, 64, .inl (nF D.2.2.2.2.2.2.2))), (o, .inr (9, fYard ao (ysN E.1 E.2.1))), (ao 1, .inl (0, 12, .inl (nF E.2.2.1))), (ao 2, .inl (0, 12, .inl (nF E.2.2.2.1))), (ao 3, .inl (0, 12, .inl (nF E.2.2.2.2.1))), (ao 4, .inl (0, 12, .inl (nF E.2.2.2.2.2.1))), (ao 5, .inl (0, 64, .inl (nF E.2.2.2.2.2.2.1))), (ao 6, .inl (1, 64, .inl (nF E.2.2.2.2.2.2.2)))]
  refine zs_aload_n dX11_copy_132 rfl rfl ?_
  refine zs_aload_n dX11_copy_133 rfl rfl ?_
  refine zs_get 7 dX11_copy_134 zf_RX11_62 rfl (v := .int E.2.1) rfl ?_
  refine zs_put 0 dX11_copy_137 zf_RX11_62 rfl (Nat.le_of_ble_eq_true rfl) (zPv_i _) ?_
  show zS _ _ _ _ _ _ [(y, .inr (9, fYard ay (ysN (un (un (un (un (un (un (un (un (un D.1 0 (E.1 0)) 5 (E.1 5)) 6 (E.1 6)) 7 (E.1 7)) 8 (E.1 8)) 9 (E.1 9)) 10 (E.1 10)) 11 (E.1 11)) 12 (E.1 12)) E.2.1))), (ay 1, .inl (0, 12, .inl (nF (nCl E.2.2.1 D.2.2.1 12)))), (ay 2, .inl (0, 12, .inl (nF (nCl E.2.2.2.1 D.2.2.2.1 12)))), (ay 3, .inl (0, 12, .inl (nF (nCl E.2.2.2.2.1 D.2.2.2.2.1 12)))), (ay 4, .inl (0, 12, .inl (nF (nCl E.2.2.2.2.2.1 D.2.2.2.2.2.1 12)))), (ay 5, .inl (0, 64, .inl (nF D.2.2.2.2.2.2.1))), (ay 6, .inl (1, 64, .inl (nF D.2.2.2.2.2.2.2))), (o, .inr (9, fYard ao (ysN E.1 E.2.1))), (ao 1, .inl (0, 12, .inl (nF E.2.2.1))), (ao 2, .inl (0, 12, .inl (nF E.2.2.2.1))), (ao 3, .inl (0, 12, .inl (nF E.2.2.2.2.1))), (ao 4, .inl (0, 12, .inl (nF E.2.2.2.2.2.1))), (ao 5, .inl (0, 64, .inl (nF E.2.2.2.2.2.2.1))), (ao 6, .inl (1, 64, .inl (nF E.2.2.2.2.2.2.2)))]
  refine zs_aload_n dX11_copy_140 rfl rfl ?_
  refine zs_aload_n dX11_copy_141 rfl rfl ?_
  refine zs_get 7 dX11_copy_142 zf_RX11_65 rfl (v := .int (nI (E.1 14))) rfl ?_
  refine zs_put 0 dX11_copy_145 zf_RX11_65 rfl (Nat.le_of_ble_eq_true rfl) (zPv_i _) ?_
  show zS _ _ _ _ _ _ [(y, .inr (9, fYard ay (ysN (un (un (un (un (un (un (un (un (un (un D.1 0 (E.1 0)) 5 (E.1 5)) 6 (E.1 6)) 7 (E.1 7)) 8 (E.1 8)) 9 (E.1 9)) 10 (E.1 10)) 11 (E.1 11)) 12 (E.1 12)) 14 (E.1 14)) E.2.1))), (ay 1, .inl (0, 12, .inl (nF (nCl E.2.2.1 D.2.2.1 12)))), (ay 2, .inl (0, 12, .inl (nF (nCl E.2.2.2.1 D.2.2.2.1 12)))), (ay 3, .inl (0, 12, .inl (nF (nCl E.2.2.2.2.1 D.2.2.2.2.1 12)))), (ay 4, .inl (0, 12, .inl (nF (nCl E.2.2.2.2.2.1 D.2.2.2.2.2.1 12)))), (ay 5, .inl (0, 64, .inl (nF D.2.2.2.2.2.2.1))), (ay 6, .inl (1, 64, .inl (nF D.2.2.2.2.2.2.2))), (o, .inr (9, fYard ao (ysN E.1 E.2.1))), (ao 1, .inl (0, 12, .inl (nF E.2.2.1))), (ao 2, .inl (0, 12, .inl (nF E.2.2.2.1))), (ao 3, .inl (0, 12, .inl (nF E.2.2.2.2.1))), (ao 4, .inl (0, 12, .inl (nF E.2.2.2.2.2.1))), (ao 5, .inl (0, 64, .inl (nF E.2.2.2.2.2.2.1))), (ao 6, .inl (1, 64, .inl (nF E.2.2.2.2.2.2.2)))]
  refine zs_aload_n dX11_copy_148 rfl rfl ?_
  refine zs_aload_n dX11_copy_149 rfl rfl ?_
  refine zs_get 7 dX11_copy_150 zf_RX11_68 rfl (v := .int (nI (E.1 15))) rfl ?_
  refine zs_put 0 dX11_copy_153 zf_RX11_68 rfl (Nat.le_of_ble_eq_true rfl) (zPv_i _) ?_
  show zS _ _ _ _ _ _ [(y, .inr (9, fYard ay (ysN (un (un (un (un (un (un (un (un (un (un (un D.1 0 (E.1 0)) 5 (E.1 5)) 6 (E.1 6)) 7 (E.1 7)) 8 (E.1 8)) 9 (E.1 9)) 10 (E.1 10)) 11 (E.1 11)) 12 (E.1 12)) 14 (E.1 14)) 15 (E.1 15)) E.2.1))), (ay 1, .inl (0, 12, .inl (nF (nCl E.2.2.1 D.2.2.1 12)))), (ay 2, .inl (0, 12, .inl (nF (nCl E.2.2.2.1 D.2.2.2.1 12)))), (ay 3, .inl (0, 12, .inl (nF (nCl E.2.2.2.2.1 D.2.2.2.2.1 12)))), (ay 4, .inl (0, 12, .inl (nF (nCl E.2.2.2.2.2.1 D.2.2.2.2.2.1 12)))), (ay 5, .inl (0, 64, .inl (nF D.2.2.2.2.2.2.1))), (ay 6, .inl (1, 64, .inl (nF D.2.2.2.2.2.2.2))), (o, .inr (9, fYard ao (ysN E.1 E.2.1))), (ao 1, .inl (0, 12, .inl (nF E.2.2.1))), (ao 2, .inl (0, 12, .inl (nF E.2.2.2.1))), (ao 3, .inl (0, 12, .inl (nF E.2.2.2.2.1))), (ao 4, .inl (0, 12, .inl (nF E.2.2.2.2.2.1))), (ao 5, .inl (0, 64, .inl (nF E.2.2.2.2.2.2.1))), (ao 6, .inl (1, 64, .inl (nF E.2.2.2.2.2.2.2)))]
  refine zs_iconst (v := nI 0) dX11_copy_156 (by decide) ?_
  refine zs_istore_n (lv' := [(2, .int (nI 0)), (0, .ref y), (1, .ref o)]) dX11_copy_157 (Nat.le_of_ble_eq_true rfl) rfl ?_
  refine zs_lv [1, 2, 0] rfl ?_
  refine zs_eq (K' := [(y, .inr (9, fYard ay (ysN (un (un (un (un (un (un (un (un (un (un (un D.1 0 (E.1 0)) 5 (E.1 5)) 6 (E.1 6)) 7 (E.1 7)) 8 (E.1 8)) 9 (E.1 9)) 10 (E.1 10)) 11 (E.1 11)) 12 (E.1 12)) 14 (E.1 14)) 15 (E.1 15)) E.2.1))), (ay 1, .inl (0, 12, .inl (nF (nCl E.2.2.1 D.2.2.1 12)))), (ay 2, .inl (0, 12, .inl (nF (nCl E.2.2.2.1 D.2.2.2.1 12)))), (ay 3, .inl (0, 12, .inl (nF (nCl E.2.2.2.2.1 D.2.2.2.2.1 12)))), (ay 4, .inl (0, 12, .inl (nF (nCl E.2.2.2.2.2.1 D.2.2.2.2.2.1 12)))), (ay 5, .inl (0, 64, .inl (nF (nCl E.2.2.2.2.2.2.1 D.2.2.2.2.2.2.1 0)))), (ay 6, .inl (1, 64, .inl (nF (nCl E.2.2.2.2.2.2.2 D.2.2.2.2.2.2.2 0)))), (o, .inr (9, fYard ao (ysN E.1 E.2.1))), (ao 1, .inl (0, 12, .inl (nF E.2.2.1))), (ao 2, .inl (0, 12, .inl (nF E.2.2.2.1))), (ao 3, .inl (0, 12, .inl (nF E.2.2.2.2.1))), (ao 4, .inl (0, 12, .inl (nF E.2.2.2.2.2.1))), (ao 5, .inl (0, 64, .inl (nF E.2.2.2.2.2.2.1))), (ao 6, .inl (1, 64, .inl (nF E.2.2.2.2.2.2.2)))]) (by simp only [nCl_0]; try rfl) ?_
  refine lp_ycp y o ay ao D E h01 ?_ 64 0 (by omega)
  refine zs_aload_n dX11_copy_194 rfl rfl ?_
  refine zs_aload_n dX11_copy_195 rfl rfl ?_
  refine zs_get 7 dX11_copy_196 zf_RX11_71 rfl (v := .int (nI (E.1 18))) rfl ?_
  refine zs_put 0 dX11_copy_199 zf_RX11_71 rfl (Nat.le_of_ble_eq_true rfl) (zPv_i _) ?_
  show zS _ _ _ _ _ _ [(y, .inr (9, fYard ay (ysN (un (un (un (un (un (un (un (un (un (un (un (un D.1 0 (E.1 0)) 5 (E.1 5)) 6 (E.1 6)) 7 (E.1 7)) 8 (E.1 8)) 9 (E.1 9)) 10 (E.1 10)) 11 (E.1 11)) 12 (E.1 12)) 14 (E.1 14)) 15 (E.1 15)) 18 (E.1 18)) E.2.1))), (ay 1, .inl (0, 12, .inl (nF (nCl E.2.2.1 D.2.2.1 12)))), (ay 2, .inl (0, 12, .inl (nF (nCl E.2.2.2.1 D.2.2.2.1 12)))), (ay 3, .inl (0, 12, .inl (nF (nCl E.2.2.2.2.1 D.2.2.2.2.1 12)))), (ay 4, .inl (0, 12, .inl (nF (nCl E.2.2.2.2.2.1 D.2.2.2.2.2.1 12)))), (ay 5, .inl (0, 64, .inl (nF (nCl E.2.2.2.2.2.2.1 D.2.2.2.2.2.2.1 64)))), (ay 6, .inl (1, 64, .inl (nF (nCl E.2.2.2.2.2.2.2 D.2.2.2.2.2.2.2 64)))), (o, .inr (9, fYard ao (ysN E.1 E.2.1))), (ao 1, .inl (0, 12, .inl (nF E.2.2.1))), (ao 2, .inl (0, 12, .inl (nF E.2.2.2.1))), (ao 3, .inl (0, 12, .inl (nF E.2.2.2.2.1))), (ao 4, .inl (0, 12, .inl (nF E.2.2.2.2.2.1))), (ao 5, .inl (0, 64, .inl (nF E.2.2.2.2.2.2.1))), (ao 6, .inl (1, 64, .inl (nF E.2.2.2.2.2.2.2)))]
  exact zs_vret dX11_copy_202 rfl ⟨rfl, rfl⟩
