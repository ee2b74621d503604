/-! ===== the reference: words, signs, faults ===== -/
def mSpl (a b c d e : Int32) : Int64 :=
  if e ≤ 0 then (if d ≤ 0 then (if c ≤ 0 then (27 : Int64) * (a.toInt64 - 96) + b.toInt64 - 96 else (27 : Int64) * ((27 : Int64) * (a.toInt64 - 96) + b.toInt64 - 96) + c.toInt64 - 96)
    else (27 : Int64) * (if c ≤ 0 then (27 : Int64) * (a.toInt64 - 96) + b.toInt64 - 96 else (27 : Int64) * ((27 : Int64) * (a.toInt64 - 96) + b.toInt64 - 96) + c.toInt64 - 96) + d.toInt64 - 96)
  else (27 : Int64) * (if d ≤ 0 then (if c ≤ 0 then (27 : Int64) * (a.toInt64 - 96) + b.toInt64 - 96 else (27 : Int64) * ((27 : Int64) * (a.toInt64 - 96) + b.toInt64 - 96) + c.toInt64 - 96)
    else (27 : Int64) * (if c ≤ 0 then (27 : Int64) * (a.toInt64 - 96) + b.toInt64 - 96 else (27 : Int64) * ((27 : Int64) * (a.toInt64 - 96) + b.toInt64 - 96) + c.toInt64 - 96) + d.toInt64 - 96) + e.toInt64 - 96
abbrev wNoL : List Nat := [9518, 1701829, 55175, 16819, 8529643, 456690, 10419204, 40187, 10799834, 459652, 7749089, 99677, 10408481, 456887, 47, 13550, 13703, 388978, 985, 144941, 423, 1111, 10631, 11522, 191610176, 291595532, 247664, 1489744, 12257559]
/-- the reference's k-th word as a number; which word of ours it is -/
def wNo (k : Nat) : Nat := wNoL.getD k 0
abbrev mPmL : List Nat := [0, 7, 8, 1, 2, 3, 4, 5, 6, 9, 10, 11, 12, 13, 14, 15, 16, 17, 18, 19, 20, 21, 22, 23, 24, 25, 26, 27, 28]
def mPm (k : Nat) : Nat := mPmL.getD k 0
theorem mPm_z : ∀ k, k < 29 → mPm k < 29 ∧ zLet.getD (mPm k) 0 = nI (wNo k) ∧ wNo k < 400000000 := by decide +kernel
theorem zLet_i : ∀ i, i < 29 → ∀ j, j < 29 → zLet.getD i 0 = zLet.getD j 0 → i = j := by decide +kernel
theorem wFind_f {x : Int32} : ∀ (m i j : Nat), wFind x m i = some j → zLet.getD j 0 = x
  | 0, _, _, h => nomatch h
  | m + 1, i, j, h => by
    simp only [wFind] at h
    split at h
    · cases h
      assumption
    · exact wFind_f m (i + 1) j h
theorem wFind_g {x : Int32} {j : Nat} (hx : zLet.getD j 0 = x) : ∀ (m i : Nat), i ≤ j → j < i + m → ∃ p, wFind x m i = some p
  | 0, i, h1, h2 => by omega
  | m + 1, i, h1, h2 => by
    simp only [wFind]
    split
    · exact ⟨_, rfl⟩
    · rename_i hne
      by_cases hij : i = j
      · exact absurd (hij ▸ hx) hne
      · exact wFind_g hx m (i + 1) (by omega) (by omega)
/-- a word is ours just where its number is the reference's -/
theorem wOf_k {v k : Nat} (hv : v < 2147483648) (hk : k < 29) : wOf (nI v) = some (mPm k) ↔ v = wNo k := by
  obtain ⟨h1, h2, h3⟩ := mPm_z k hk
  refine ⟨fun h => ?_, fun h => ?_⟩
  · have e := wFind_f 29 0 _ h
    rw [h2, nI_eq' (by omega) hv] at e
    exact e.symm
  · obtain ⟨p, hp⟩ := wFind_g (x := nI v) (j := mPm k) (by rw [h2, h]) 29 0 (Nat.zero_le _) (by omega)
    have e := wFind_f 29 0 _ hp
    have hp29 := wFind_lt 29 0 _ hp
    rw [h, ← h2] at e
    unfold wOf
    rw [hp, zLet_i p (by omega) (mPm k) h1 e]
theorem nL_i {a b : Nat} (ha : a < 2147483648) (hb : b < 2147483648) : nL a = nL b ↔ a = b := by
  refine ⟨fun h => ?_, fun h => by rw [h]⟩
  have h2 := congrArg Int64.toInt h
  unfold nL at h2
  rw [Int64.toInt_ofNat_of_lt (by omega), Int64.toInt_ofNat_of_lt (by omega)] at h2
  omega
theorem lg_cmp_0 {a b : Int64} : lg_cmp a b = 0 ↔ a = b := by
  unfold lg_cmp
  by_cases h1 : b < a
  · rw [if_pos h1]
    exact ⟨fun h => absurd h (by decide), fun h => absurd (h ▸ h1) Int64.lt_irrefl⟩
  · rw [if_neg h1]
    by_cases h2 : a = b
    · rw [if_pos h2]
      exact ⟨fun _ => h2, fun _ => rfl⟩
    · rw [if_neg h2]
      exact ⟨fun h => absurd h (by decide), fun h => absurd h h2⟩
theorem dX13_spelt_0 : decode cX13_spelt 0 = .ok (.ldc2_w 194, 3) := by decide +kernel
theorem dX13_spelt_3 : decode cX13_spelt 3 = .ok (.iload_n 0, 1) := by decide +kernel
theorem dX13_spelt_4 : decode cX13_spelt 4 = .ok (.i2l, 1) := by decide +kernel
theorem dX13_spelt_5 : decode cX13_spelt 5 = .ok (.ldc2_w 196, 3) := by decide +kernel
theorem dX13_spelt_8 : decode cX13_spelt 8 = .ok (.lsub, 1) := by decide +kernel
theorem dX13_spelt_9 : decode cX13_spelt 9 = .ok (.lmul, 1) := by decide +kernel
theorem dX13_spelt_10 : decode cX13_spelt 10 = .ok (.iload_n 1, 1) := by decide +kernel
theorem dX13_spelt_11 : decode cX13_spelt 11 = .ok (.i2l, 1) := by decide +kernel
theorem dX13_spelt_12 : decode cX13_spelt 12 = .ok (.ladd, 1) := by decide +kernel
theorem dX13_spelt_13 : decode cX13_spelt 13 = .ok (.ldc2_w 196, 3) := by decide +kernel
theorem dX13_spelt_16 : decode cX13_spelt 16 = .ok (.lsub, 1) := by decide +kernel
theorem dX13_spelt_17 : decode cX13_spelt 17 = .ok (.lstore 5, 2) := by decide +kernel
theorem dX13_spelt_19 : decode cX13_spelt 19 = .ok (.iload_n 2, 1) := by decide +kernel
theorem dX13_spelt_20 : decode cX13_spelt 20 = .ok (.ifCond .le 18, 3) := by decide +kernel
theorem dX13_spelt_23 : decode cX13_spelt 23 = .ok (.ldc2_w 194, 3) := by decide +kernel
theorem dX13_spelt_26 : decode cX13_spelt 26 = .ok (.lload 5, 2) := by decide +kernel
theorem dX13_spelt_28 : decode cX13_spelt 28 = .ok (.lmul, 1) := by decide +kernel
theorem dX13_spelt_29 : decode cX13_spelt 29 = .ok (.iload_n 2, 1) := by decide +kernel
theorem dX13_spelt_30 : decode cX13_spelt 30 = .ok (.i2l, 1) := by decide +kernel
theorem dX13_spelt_31 : decode cX13_spelt 31 = .ok (.ladd, 1) := by decide +kernel
theorem dX13_spelt_32 : decode cX13_spelt 32 = .ok (.ldc2_w 196, 3) := by decide +kernel
theorem dX13_spelt_35 : decode cX13_spelt 35 = .ok (.lsub, 1) := by decide +kernel
theorem dX13_spelt_36 : decode cX13_spelt 36 = .ok (.lstore 5, 2) := by decide +kernel
theorem dX13_spelt_38 : decode cX13_spelt 38 = .ok (.iload_n 3, 1) := by decide +kernel
theorem dX13_spelt_39 : decode cX13_spelt 39 = .ok (.ifCond .le 18, 3) := by decide +kernel
theorem dX13_spelt_42 : decode cX13_spelt 42 = .ok (.ldc2_w 194, 3) := by decide +kernel
theorem dX13_spelt_45 : decode cX13_spelt 45 = .ok (.lload 5, 2) := by decide +kernel
theorem dX13_spelt_47 : decode cX13_spelt 47 = .ok (.lmul, 1) := by decide +kernel
theorem dX13_spelt_48 : decode cX13_spelt 48 = .ok (.iload_n 3, 1) := by decide +kernel
theorem dX13_spelt_49 : decode cX13_spelt 49 = .ok (.i2l, 1) := by decide +kernel
theorem dX13_spelt_50 : decode cX13_spelt 50 = .ok (.ladd, 1) := by decide +kernel
theorem dX13_spelt_51 : decode cX13_spelt 51 = .ok (.ldc2_w 196, 3) := by decide +kernel
theorem dX13_spelt_54 : decode cX13_spelt 54 = .ok (.lsub, 1) := by decide +kernel
theorem dX13_spelt_55 : decode cX13_spelt 55 = .ok (.lstore 5, 2) := by decide +kernel
theorem dX13_spelt_57 : decode cX13_spelt 57 = .ok (.iload 4, 2) := by decide +kernel
theorem dX13_spelt_59 : decode cX13_spelt 59 = .ok (.ifCond .le 20, 3) := by decide +kernel
theorem dX13_spelt_62 : decode cX13_spelt 62 = .ok (.ldc2_w 194, 3) := by decide +kernel
theorem dX13_spelt_65 : decode cX13_spelt 65 = .ok (.lload 5, 2) := by decide +kernel
theorem dX13_spelt_67 : decode cX13_spelt 67 = .ok (.lmul, 1) := by decide +kernel
theorem dX13_spelt_68 : decode cX13_spelt 68 = .ok (.iload 4, 2) := by decide +kernel
theorem dX13_spelt_70 : decode cX13_spelt 70 = .ok (.i2l, 1) := by decide +kernel
theorem dX13_spelt_71 : decode cX13_spelt 71 = .ok (.ladd, 1) := by decide +kernel
theorem dX13_spelt_72 : decode cX13_spelt 72 = .ok (.ldc2_w 196, 3) := by decide +kernel
theorem dX13_spelt_75 : decode cX13_spelt 75 = .ok (.lsub, 1) := by decide +kernel
theorem dX13_spelt_76 : decode cX13_spelt 76 = .ok (.goto 5, 3) := by decide +kernel
theorem dX13_spelt_79 : decode cX13_spelt 79 = .ok (.lload 5, 2) := by decide +kernel
theorem dX13_spelt_81 : decode cX13_spelt 81 = .ok (.lreturn, 1) := by decide +kernel
theorem dX13_on_0 : decode cX13_on 0 = .ok (.ldc2_w 194, 3) := by decide +kernel
theorem dX13_on_3 : decode cX13_on 3 = .ok (.lload_n 0, 1) := by decide +kernel
theorem dX13_on_4 : decode cX13_on 4 = .ok (.lmul, 1) := by decide +kernel
theorem dX13_on_5 : decode cX13_on 5 = .ok (.iload_n 2, 1) := by decide +kernel
theorem dX13_on_6 : decode cX13_on 6 = .ok (.i2l, 1) := by decide +kernel
theorem dX13_on_7 : decode cX13_on 7 = .ok (.ladd, 1) := by decide +kernel
theorem dX13_on_8 : decode cX13_on 8 = .ok (.ldc2_w 196, 3) := by decide +kernel
theorem dX13_on_11 : decode cX13_on 11 = .ok (.lsub, 1) := by decide +kernel
theorem dX13_on_12 : decode cX13_on 12 = .ok (.lreturn, 1) := by decide +kernel
theorem dX13_wordOf_0 : decode cX13_wordOf 0 = .ok (.iload_n 0, 1) := by decide +kernel
theorem dX13_wordOf_1 : decode cX13_wordOf 1 = .ok (.tableswitch 498 0 27 #[127, 139, 153, 166, 178, 192, 205, 219, 232, 246, 259, 273, 286, 300, 313, 324, 336, 348, 361, 373, 386, 397, 409, 421, 433, 452, 471, 484], 127) := by decide +kernel
theorem dX13_wordOf_128 : decode cX13_wordOf 128 = .ok (.bipush 109, 2) := by decide +kernel
theorem dX13_wordOf_130 : decode cX13_wordOf 130 = .ok (.bipush 97, 2) := by decide +kernel
theorem dX13_wordOf_132 : decode cX13_wordOf 132 = .ok (.bipush 110, 2) := by decide +kernel
theorem dX13_wordOf_134 : decode cX13_wordOf 134 = .ok (.iconst 0, 1) := by decide +kernel
theorem dX13_wordOf_135 : decode cX13_wordOf 135 = .ok (.iconst 0, 1) := by decide +kernel
theorem dX13_wordOf_136 : decode cX13_wordOf 136 = .ok (.invokestatic 198, 3) := by decide +kernel
theorem dX13_wordOf_139 : decode cX13_wordOf 139 = .ok (.lreturn, 1) := by decide +kernel
theorem dX13_wordOf_140 : decode cX13_wordOf 140 = .ok (.bipush 99, 2) := by decide +kernel
theorem dX13_wordOf_142 : decode cX13_wordOf 142 = .ok (.bipush 101, 2) := by decide +kernel
theorem dX13_wordOf_144 : decode cX13_wordOf 144 = .ok (.bipush 108, 2) := by decide +kernel
theorem dX13_wordOf_146 : decode cX13_wordOf 146 = .ok (.bipush 108, 2) := by decide +kernel
theorem dX13_wordOf_148 : decode cX13_wordOf 148 = .ok (.bipush 115, 2) := by decide +kernel
theorem dX13_wordOf_150 : decode cX13_wordOf 150 = .ok (.invokestatic 198, 3) := by decide +kernel
theorem dX13_wordOf_153 : decode cX13_wordOf 153 = .ok (.lreturn, 1) := by decide +kernel
theorem dX13_wordOf_154 : decode cX13_wordOf 154 = .ok (.bipush 98, 2) := by decide +kernel
theorem dX13_wordOf_156 : decode cX13_wordOf 156 = .ok (.bipush 117, 2) := by decide +kernel
theorem dX13_wordOf_158 : decode cX13_wordOf 158 = .ok (.bipush 114, 2) := by decide +kernel
theorem dX13_wordOf_160 : decode cX13_wordOf 160 = .ok (.bipush 110, 2) := by decide +kernel
theorem dX13_wordOf_162 : decode cX13_wordOf 162 = .ok (.iconst 0, 1) := by decide +kernel
theorem dX13_wordOf_163 : decode cX13_wordOf 163 = .ok (.invokestatic 198, 3) := by decide +kernel
theorem dX13_wordOf_166 : decode cX13_wordOf 166 = .ok (.lreturn, 1) := by decide +kernel
theorem dX13_wordOf_167 : decode cX13_wordOf 167 = .ok (.bipush 119, 2) := by decide +kernel
theorem dX13_wordOf_169 : decode cX13_wordOf 169 = .ok (.bipush 97, 2) := by decide +kernel
theorem dX13_wordOf_171 : decode cX13_wordOf 171 = .ok (.bipush 121, 2) := by decide +kernel
theorem dX13_wordOf_173 : decode cX13_wordOf 173 = .ok (.iconst 0, 1) := by decide +kernel
theorem dX13_wordOf_174 : decode cX13_wordOf 174 = .ok (.iconst 0, 1) := by decide +kernel
theorem dX13_wordOf_175 : decode cX13_wordOf 175 = .ok (.invokestatic 198, 3) := by decide +kernel
theorem dX13_wordOf_178 : decode cX13_wordOf 178 = .ok (.lreturn, 1) := by decide +kernel
theorem dX13_wordOf_179 : decode cX13_wordOf 179 = .ok (.bipush 112, 2) := by decide +kernel
theorem dX13_wordOf_181 : decode cX13_wordOf 181 = .ok (.bipush 97, 2) := by decide +kernel
theorem dX13_wordOf_183 : decode cX13_wordOf 183 = .ok (.bipush 105, 2) := by decide +kernel
theorem dX13_wordOf_185 : decode cX13_wordOf 185 = .ok (.bipush 108, 2) := by decide +kernel
theorem dX13_wordOf_187 : decode cX13_wordOf 187 = .ok (.bipush 115, 2) := by decide +kernel
theorem dX13_wordOf_189 : decode cX13_wordOf 189 = .ok (.invokestatic 198, 3) := by decide +kernel
theorem dX13_wordOf_192 : decode cX13_wordOf 192 = .ok (.lreturn, 1) := by decide +kernel
theorem dX13_wordOf_193 : decode cX13_wordOf 193 = .ok (.bipush 119, 2) := by decide +kernel
theorem dX13_wordOf_195 : decode cX13_wordOf 195 = .ok (.bipush 101, 2) := by decide +kernel
theorem dX13_wordOf_197 : decode cX13_wordOf 197 = .ok (.bipush 108, 2) := by decide +kernel
theorem dX13_wordOf_199 : decode cX13_wordOf 199 = .ok (.bipush 108, 2) := by decide +kernel
theorem dX13_wordOf_201 : decode cX13_wordOf 201 = .ok (.iconst 0, 1) := by decide +kernel
theorem dX13_wordOf_202 : decode cX13_wordOf 202 = .ok (.invokestatic 198, 3) := by decide +kernel
theorem dX13_wordOf_205 : decode cX13_wordOf 205 = .ok (.lreturn, 1) := by decide +kernel
theorem dX13_wordOf_206 : decode cX13_wordOf 206 = .ok (.bipush 115, 2) := by decide +kernel
theorem dX13_wordOf_208 : decode cX13_wordOf 208 = .ok (.bipush 112, 2) := by decide +kernel
theorem dX13_wordOf_210 : decode cX13_wordOf 210 = .ok (.bipush 105, 2) := by decide +kernel
theorem dX13_wordOf_212 : decode cX13_wordOf 212 = .ok (.bipush 108, 2) := by decide +kernel
theorem dX13_wordOf_214 : decode cX13_wordOf 214 = .ok (.bipush 108, 2) := by decide +kernel
theorem dX13_wordOf_216 : decode cX13_wordOf 216 = .ok (.invokestatic 198, 3) := by decide +kernel
theorem dX13_wordOf_219 : decode cX13_wordOf 219 = .ok (.lreturn, 1) := by decide +kernel
theorem dX13_wordOf_220 : decode cX13_wordOf 220 = .ok (.bipush 98, 2) := by decide +kernel
theorem dX13_wordOf_222 : decode cX13_wordOf 222 = .ok (.bipush 97, 2) := by decide +kernel
theorem dX13_wordOf_224 : decode cX13_wordOf 224 = .ok (.bipush 99, 2) := by decide +kernel
theorem dX13_wordOf_226 : decode cX13_wordOf 226 = .ok (.bipush 107, 2) := by decide +kernel
theorem dX13_wordOf_228 : decode cX13_wordOf 228 = .ok (.iconst 0, 1) := by decide +kernel
theorem dX13_wordOf_229 : decode cX13_wordOf 229 = .ok (.invokestatic 198, 3) := by decide +kernel
theorem dX13_wordOf_232 : decode cX13_wordOf 232 = .ok (.lreturn, 1) := by decide +kernel
theorem dX13_wordOf_233 : decode cX13_wordOf 233 = .ok (.bipush 116, 2) := by decide +kernel
theorem dX13_wordOf_235 : decode cX13_wordOf 235 = .ok (.bipush 104, 2) := by decide +kernel
theorem dX13_wordOf_237 : decode cX13_wordOf 237 = .ok (.bipush 114, 2) := by decide +kernel
theorem dX13_wordOf_239 : decode cX13_wordOf 239 = .ok (.bipush 111, 2) := by decide +kernel
theorem dX13_wordOf_241 : decode cX13_wordOf 241 = .ok (.bipush 119, 2) := by decide +kernel
theorem dX13_wordOf_243 : decode cX13_wordOf 243 = .ok (.invokestatic 198, 3) := by decide +kernel
theorem dX13_wordOf_246 : decode cX13_wordOf 246 = .ok (.lreturn, 1) := by decide +kernel
theorem dX13_wordOf_247 : decode cX13_wordOf 247 = .ok (.bipush 119, 2) := by decide +kernel
theorem dX13_wordOf_249 : decode cX13_wordOf 249 = .ok (.bipush 105, 2) := by decide +kernel
theorem dX13_wordOf_251 : decode cX13_wordOf 251 = .ok (.bipush 110, 2) := by decide +kernel
theorem dX13_wordOf_253 : decode cX13_wordOf 253 = .ok (.bipush 100, 2) := by decide +kernel
theorem dX13_wordOf_255 : decode cX13_wordOf 255 = .ok (.iconst 0, 1) := by decide +kernel
theorem dX13_wordOf_256 : decode cX13_wordOf 256 = .ok (.invokestatic 198, 3) := by decide +kernel
theorem dX13_wordOf_259 : decode cX13_wordOf 259 = .ok (.lreturn, 1) := by decide +kernel
theorem dX13_wordOf_260 : decode cX13_wordOf 260 = .ok (.bipush 110, 2) := by decide +kernel
theorem dX13_wordOf_262 : decode cX13_wordOf 262 = .ok (.bipush 111, 2) := by decide +kernel
theorem dX13_wordOf_264 : decode cX13_wordOf 264 = .ok (.bipush 114, 2) := by decide +kernel
theorem dX13_wordOf_266 : decode cX13_wordOf 266 = .ok (.bipush 116, 2) := by decide +kernel
theorem dX13_wordOf_268 : decode cX13_wordOf 268 = .ok (.bipush 104, 2) := by decide +kernel
theorem dX13_wordOf_270 : decode cX13_wordOf 270 = .ok (.invokestatic 198, 3) := by decide +kernel
theorem dX13_wordOf_273 : decode cX13_wordOf 273 = .ok (.lreturn, 1) := by decide +kernel
theorem dX13_wordOf_274 : decode cX13_wordOf 274 = .ok (.bipush 101, 2) := by decide +kernel
theorem dX13_wordOf_276 : decode cX13_wordOf 276 = .ok (.bipush 97, 2) := by decide +kernel
theorem dX13_wordOf_278 : decode cX13_wordOf 278 = .ok (.bipush 115, 2) := by decide +kernel
theorem dX13_wordOf_280 : decode cX13_wordOf 280 = .ok (.bipush 116, 2) := by decide +kernel
theorem dX13_wordOf_282 : decode cX13_wordOf 282 = .ok (.iconst 0, 1) := by decide +kernel
theorem dX13_wordOf_283 : decode cX13_wordOf 283 = .ok (.invokestatic 198, 3) := by decide +kernel
theorem dX13_wordOf_286 : decode cX13_wordOf 286 = .ok (.lreturn, 1) := by decide +kernel
theorem dX13_wordOf_287 : decode cX13_wordOf 287 = .ok (.bipush 115, 2) := by decide +kernel
theorem dX13_wordOf_289 : decode cX13_wordOf 289 = .ok (.bipush 111, 2) := by decide +kernel
theorem dX13_wordOf_291 : decode cX13_wordOf 291 = .ok (.bipush 117, 2) := by decide +kernel
theorem dX13_wordOf_293 : decode cX13_wordOf 293 = .ok (.bipush 116, 2) := by decide +kernel
theorem dX13_wordOf_295 : decode cX13_wordOf 295 = .ok (.bipush 104, 2) := by decide +kernel
theorem dX13_wordOf_297 : decode cX13_wordOf 297 = .ok (.invokestatic 198, 3) := by decide +kernel
theorem dX13_wordOf_300 : decode cX13_wordOf 300 = .ok (.lreturn, 1) := by decide +kernel
theorem dX13_wordOf_301 : decode cX13_wordOf 301 = .ok (.bipush 119, 2) := by decide +kernel
theorem dX13_wordOf_303 : decode cX13_wordOf 303 = .ok (.bipush 101, 2) := by decide +kernel
theorem dX13_wordOf_305 : decode cX13_wordOf 305 = .ok (.bipush 115, 2) := by decide +kernel
theorem dX13_wordOf_307 : decode cX13_wordOf 307 = .ok (.bipush 116, 2) := by decide +kernel
theorem dX13_wordOf_309 : decode cX13_wordOf 309 = .ok (.iconst 0, 1) := by decide +kernel
theorem dX13_wordOf_310 : decode cX13_wordOf 310 = .ok (.invokestatic 198, 3) := by decide +kernel
theorem dX13_wordOf_313 : decode cX13_wordOf 313 = .ok (.lreturn, 1) := by decide +kernel
theorem dX13_wordOf_314 : decode cX13_wordOf 314 = .ok (.bipush 97, 2) := by decide +kernel
theorem dX13_wordOf_316 : decode cX13_wordOf 316 = .ok (.bipush 116, 2) := by decide +kernel
theorem dX13_wordOf_318 : decode cX13_wordOf 318 = .ok (.iconst 0, 1) := by decide +kernel
theorem dX13_wordOf_319 : decode cX13_wordOf 319 = .ok (.iconst 0, 1) := by decide +kernel
theorem dX13_wordOf_320 : decode cX13_wordOf 320 = .ok (.iconst 0, 1) := by decide +kernel
theorem dX13_wordOf_321 : decode cX13_wordOf 321 = .ok (.invokestatic 198, 3) := by decide +kernel
theorem dX13_wordOf_324 : decode cX13_wordOf 324 = .ok (.lreturn, 1) := by decide +kernel
theorem dX13_wordOf_325 : decode cX13_wordOf 325 = .ok (.bipush 114, 2) := by decide +kernel
theorem dX13_wordOf_327 : decode cX13_wordOf 327 = .ok (.bipush 111, 2) := by decide +kernel
theorem dX13_wordOf_329 : decode cX13_wordOf 329 = .ok (.bipush 119, 2) := by decide +kernel
theorem dX13_wordOf_331 : decode cX13_wordOf 331 = .ok (.iconst 0, 1) := by decide +kernel
theorem dX13_wordOf_332 : decode cX13_wordOf 332 = .ok (.iconst 0, 1) := by decide +kernel
theorem dX13_wordOf_333 : decode cX13_wordOf 333 = .ok (.invokestatic 198, 3) := by decide +kernel
theorem dX13_wordOf_336 : decode cX13_wordOf 336 = .ok (.lreturn, 1) := by decide +kernel
theorem dX13_wordOf_337 : decode cX13_wordOf 337 = .ok (.bipush 114, 2) := by decide +kernel
theorem dX13_wordOf_339 : decode cX13_wordOf 339 = .ok (.bipush 117, 2) := by decide +kernel
theorem dX13_wordOf_341 : decode cX13_wordOf 341 = .ok (.bipush 110, 2) := by decide +kernel
theorem dX13_wordOf_343 : decode cX13_wordOf 343 = .ok (.iconst 0, 1) := by decide +kernel
theorem dX13_wordOf_344 : decode cX13_wordOf 344 = .ok (.iconst 0, 1) := by decide +kernel
theorem dX13_wordOf_345 : decode cX13_wordOf 345 = .ok (.invokestatic 198, 3) := by decide +kernel
theorem dX13_wordOf_348 : decode cX13_wordOf 348 = .ok (.lreturn, 1) := by decide +kernel
theorem dX13_wordOf_349 : decode cX13_wordOf 349 = .ok (.bipush 115, 2) := by decide +kernel
theorem dX13_wordOf_351 : decode cX13_wordOf 351 = .ok (.bipush 116, 2) := by decide +kernel
theorem dX13_wordOf_353 : decode cX13_wordOf 353 = .ok (.bipush 111, 2) := by decide +kernel
theorem dX13_wordOf_355 : decode cX13_wordOf 355 = .ok (.bipush 112, 2) := by decide +kernel
theorem dX13_wordOf_357 : decode cX13_wordOf 357 = .ok (.iconst 0, 1) := by decide +kernel
theorem dX13_wordOf_358 : decode cX13_wordOf 358 = .ok (.invokestatic 198, 3) := by decide +kernel
theorem dX13_wordOf_361 : decode cX13_wordOf 361 = .ok (.lreturn, 1) := by decide +kernel
theorem dX13_wordOf_362 : decode cX13_wordOf 362 = .ok (.bipush 97, 2) := by decide +kernel
theorem dX13_wordOf_364 : decode cX13_wordOf 364 = .ok (.bipush 105, 2) := by decide +kernel
theorem dX13_wordOf_366 : decode cX13_wordOf 366 = .ok (.bipush 109, 2) := by decide +kernel
theorem dX13_wordOf_368 : decode cX13_wordOf 368 = .ok (.iconst 0, 1) := by decide +kernel
theorem dX13_wordOf_369 : decode cX13_wordOf 369 = .ok (.iconst 0, 1) := by decide +kernel
theorem dX13_wordOf_370 : decode cX13_wordOf 370 = .ok (.invokestatic 198, 3) := by decide +kernel
theorem dX13_wordOf_373 : decode cX13_wordOf 373 = .ok (.lreturn, 1) := by decide +kernel
theorem dX13_wordOf_374 : decode cX13_wordOf 374 = .ok (.bipush 103, 2) := by decide +kernel
theorem dX13_wordOf_376 : decode cX13_wordOf 376 = .ok (.bipush 105, 2) := by decide +kernel
theorem dX13_wordOf_378 : decode cX13_wordOf 378 = .ok (.bipush 118, 2) := by decide +kernel
theorem dX13_wordOf_380 : decode cX13_wordOf 380 = .ok (.bipush 101, 2) := by decide +kernel
theorem dX13_wordOf_382 : decode cX13_wordOf 382 = .ok (.iconst 0, 1) := by decide +kernel
theorem dX13_wordOf_383 : decode cX13_wordOf 383 = .ok (.invokestatic 198, 3) := by decide +kernel
theorem dX13_wordOf_386 : decode cX13_wordOf 386 = .ok (.lreturn, 1) := by decide +kernel
theorem dX13_wordOf_387 : decode cX13_wordOf 387 = .ok (.bipush 111, 2) := by decide +kernel
theorem dX13_wordOf_389 : decode cX13_wordOf 389 = .ok (.bipush 114, 2) := by decide +kernel
theorem dX13_wordOf_391 : decode cX13_wordOf 391 = .ok (.iconst 0, 1) := by decide +kernel
theorem dX13_wordOf_392 : decode cX13_wordOf 392 = .ok (.iconst 0, 1) := by decide +kernel
theorem dX13_wordOf_393 : decode cX13_wordOf 393 = .ok (.iconst 0, 1) := by decide +kernel
theorem dX13_wordOf_394 : decode cX13_wordOf 394 = .ok (.invokestatic 198, 3) := by decide +kernel
theorem dX13_wordOf_397 : decode cX13_wordOf 397 = .ok (.lreturn, 1) := by decide +kernel
theorem dX13_wordOf_398 : decode cX13_wordOf 398 = .ok (.bipush 97, 2) := by decide +kernel
theorem dX13_wordOf_400 : decode cX13_wordOf 400 = .ok (.bipush 110, 2) := by decide +kernel
theorem dX13_wordOf_402 : decode cX13_wordOf 402 = .ok (.bipush 100, 2) := by decide +kernel
theorem dX13_wordOf_404 : decode cX13_wordOf 404 = .ok (.iconst 0, 1) := by decide +kernel
theorem dX13_wordOf_405 : decode cX13_wordOf 405 = .ok (.iconst 0, 1) := by decide +kernel
theorem dX13_wordOf_406 : decode cX13_wordOf 406 = .ok (.invokestatic 198, 3) := by decide +kernel
theorem dX13_wordOf_409 : decode cX13_wordOf 409 = .ok (.lreturn, 1) := by decide +kernel
theorem dX13_wordOf_410 : decode cX13_wordOf 410 = .ok (.bipush 110, 2) := by decide +kernel
theorem dX13_wordOf_412 : decode cX13_wordOf 412 = .ok (.bipush 111, 2) := by decide +kernel
theorem dX13_wordOf_414 : decode cX13_wordOf 414 = .ok (.bipush 116, 2) := by decide +kernel
theorem dX13_wordOf_416 : decode cX13_wordOf 416 = .ok (.iconst 0, 1) := by decide +kernel
theorem dX13_wordOf_417 : decode cX13_wordOf 417 = .ok (.iconst 0, 1) := by decide +kernel
theorem dX13_wordOf_418 : decode cX13_wordOf 418 = .ok (.invokestatic 198, 3) := by decide +kernel
theorem dX13_wordOf_421 : decode cX13_wordOf 421 = .ok (.lreturn, 1) := by decide +kernel
theorem dX13_wordOf_422 : decode cX13_wordOf 422 = .ok (.bipush 111, 2) := by decide +kernel
theorem dX13_wordOf_424 : decode cX13_wordOf 424 = .ok (.bipush 117, 2) := by decide +kernel
theorem dX13_wordOf_426 : decode cX13_wordOf 426 = .ok (.bipush 116, 2) := by decide +kernel
theorem dX13_wordOf_428 : decode cX13_wordOf 428 = .ok (.iconst 0, 1) := by decide +kernel
theorem dX13_wordOf_429 : decode cX13_wordOf 429 = .ok (.iconst 0, 1) := by decide +kernel
theorem dX13_wordOf_430 : decode cX13_wordOf 430 = .ok (.invokestatic 198, 3) := by decide +kernel
theorem dX13_wordOf_433 : decode cX13_wordOf 433 = .ok (.lreturn, 1) := by decide +kernel
theorem dX13_wordOf_434 : decode cX13_wordOf 434 = .ok (.bipush 109, 2) := by decide +kernel
theorem dX13_wordOf_436 : decode cX13_wordOf 436 = .ok (.bipush 105, 2) := by decide +kernel
theorem dX13_wordOf_438 : decode cX13_wordOf 438 = .ok (.bipush 110, 2) := by decide +kernel
theorem dX13_wordOf_440 : decode cX13_wordOf 440 = .ok (.bipush 117, 2) := by decide +kernel
theorem dX13_wordOf_442 : decode cX13_wordOf 442 = .ok (.bipush 116, 2) := by decide +kernel
theorem dX13_wordOf_444 : decode cX13_wordOf 444 = .ok (.invokestatic 198, 3) := by decide +kernel
theorem dX13_wordOf_447 : decode cX13_wordOf 447 = .ok (.bipush 101, 2) := by decide +kernel
theorem dX13_wordOf_449 : decode cX13_wordOf 449 = .ok (.invokestatic 202, 3) := by decide +kernel
theorem dX13_wordOf_452 : decode cX13_wordOf 452 = .ok (.lreturn, 1) := by decide +kernel
theorem dX13_wordOf_453 : decode cX13_wordOf 453 = .ok (.bipush 116, 2) := by decide +kernel
theorem dX13_wordOf_455 : decode cX13_wordOf 455 = .ok (.bipush 104, 2) := by decide +kernel
theorem dX13_wordOf_457 : decode cX13_wordOf 457 = .ok (.bipush 114, 2) := by decide +kernel
theorem dX13_wordOf_459 : decode cX13_wordOf 459 = .ok (.bipush 111, 2) := by decide +kernel
theorem dX13_wordOf_461 : decode cX13_wordOf 461 = .ok (.bipush 119, 2) := by decide +kernel
theorem dX13_wordOf_463 : decode cX13_wordOf 463 = .ok (.invokestatic 198, 3) := by decide +kernel
theorem dX13_wordOf_466 : decode cX13_wordOf 466 = .ok (.bipush 110, 2) := by decide +kernel
theorem dX13_wordOf_468 : decode cX13_wordOf 468 = .ok (.invokestatic 202, 3) := by decide +kernel
theorem dX13_wordOf_471 : decode cX13_wordOf 471 = .ok (.lreturn, 1) := by decide +kernel
theorem dX13_wordOf_472 : decode cX13_wordOf 472 = .ok (.bipush 108, 2) := by decide +kernel
theorem dX13_wordOf_474 : decode cX13_wordOf 474 = .ok (.bipush 111, 2) := by decide +kernel
theorem dX13_wordOf_476 : decode cX13_wordOf 476 = .ok (.bipush 115, 2) := by decide +kernel
theorem dX13_wordOf_478 : decode cX13_wordOf 478 = .ok (.bipush 116, 2) := by decide +kernel
theorem dX13_wordOf_480 : decode cX13_wordOf 480 = .ok (.iconst 0, 1) := by decide +kernel
theorem dX13_wordOf_481 : decode cX13_wordOf 481 = .ok (.invokestatic 198, 3) := by decide +kernel
theorem dX13_wordOf_484 : decode cX13_wordOf 484 = .ok (.lreturn, 1) := by decide +kernel
theorem dX13_wordOf_485 : decode cX13_wordOf 485 = .ok (.bipush 98, 2) := by decide +kernel
theorem dX13_wordOf_487 : decode cX13_wordOf 487 = .ok (.bipush 117, 2) := by decide +kernel
theorem dX13_wordOf_489 : decode cX13_wordOf 489 = .ok (.bipush 114, 2) := by decide +kernel
theorem dX13_wordOf_491 : decode cX13_wordOf 491 = .ok (.bipush 110, 2) := by decide +kernel
theorem dX13_wordOf_493 : decode cX13_wordOf 493 = .ok (.bipush 115, 2) := by decide +kernel
theorem dX13_wordOf_495 : decode cX13_wordOf 495 = .ok (.invokestatic 198, 3) := by decide +kernel
theorem dX13_wordOf_498 : decode cX13_wordOf 498 = .ok (.lreturn, 1) := by decide +kernel
theorem dX13_wordOf_499 : decode cX13_wordOf 499 = .ok (.bipush 119, 2) := by decide +kernel
theorem dX13_wordOf_501 : decode cX13_wordOf 501 = .ok (.bipush 97, 2) := by decide +kernel
theorem dX13_wordOf_503 : decode cX13_wordOf 503 = .ok (.bipush 116, 2) := by decide +kernel
theorem dX13_wordOf_505 : decode cX13_wordOf 505 = .ok (.bipush 101, 2) := by decide +kernel
theorem dX13_wordOf_507 : decode cX13_wordOf 507 = .ok (.bipush 114, 2) := by decide +kernel
theorem dX13_wordOf_509 : decode cX13_wordOf 509 = .ok (.invokestatic 198, 3) := by decide +kernel
theorem dX13_wordOf_512 : decode cX13_wordOf 512 = .ok (.lreturn, 1) := by decide +kernel
set_option maxRecDepth 100000 in
theorem s_mSpelt (l : Launch) (dd : Nat) (a b c d e : Int32)  : zSp l mX13_spelt dd 0 0 [.int a, .int b, .int c, .int d, .int e] [] (fun r K' => r = some (.long (mSpl a b c d e)) ∧ K' = []) := by
  refine zSp.of (by decide) (Nat.le_of_ble_eq_true rfl) (fun h0 => ?_)
  show zS _ 0 0 0 [(0, .int a), (1, .int b), (2, .int c), (3, .int d), (4, .int e)] [] []
  refine zs_ldc2 (v := 27) dX13_spelt_0 zkl_RX13_194 ?_
  refine zs_iload_n dX13_spelt_3 rfl ?_
  refine zs_i2l (v := a.toInt64) dX13_spelt_4 rfl ?_
  refine zs_ldc2 (v := 96) dX13_spelt_5 zkl_RX13_196 ?_
  refine zs_lsub dX13_spelt_8 ?_
  refine zs_lmul dX13_spelt_9 ?_
  refine zs_iload_n dX13_spelt_10 rfl ?_
  refine zs_i2l (v := b.toInt64) dX13_spelt_11 rfl ?_
  refine zs_ladd dX13_spelt_12 ?_
  refine zs_ldc2 (v := 96) dX13_spelt_13 zkl_RX13_196 ?_
  refine zs_lsub dX13_spelt_16 ?_
  refine zs_lstore (lv' := [(5, .long (((27 * (a.toInt64 - 96)) + b.toInt64) - 96)), (0, .int a), (1, .int b), (2, .int c), (3, .int d), (4, .int e)]) dX13_spelt_17 (Nat.le_of_ble_eq_true rfl) rfl ?_
  refine zs_iload_n dX13_spelt_19 rfl ?_
  refine zs_if_le (tgt := 38) dX13_spelt_20 (by decide) (fun c_1 => ?_) (fun c_1 => ?_)
  · refine zs_iload_n dX13_spelt_38 rfl ?_
    refine zs_if_le (tgt := 57) dX13_spelt_39 (by decide) (fun c_2 => ?_) (fun c_2 => ?_)
    · refine zs_iload dX13_spelt_57 rfl ?_
      refine zs_if_le (tgt := 79) dX13_spelt_59 (by decide) (fun c_3 => ?_) (fun c_3 => ?_)
      · refine zs_lload dX13_spelt_79 rfl ?_
        exact zs_lret dX13_spelt_81 rfl ⟨by rw [mSpl]; simp only [if_pos c_1, if_pos c_2, if_pos c_3], rfl⟩
      · refine zs_ldc2 (v := 27) dX13_spelt_62 zkl_RX13_194 ?_
        refine zs_lload dX13_spelt_65 rfl ?_
        refine zs_lmul dX13_spelt_67 ?_
        refine zs_iload dX13_spelt_68 rfl ?_
        refine zs_i2l (v := e.toInt64) dX13_spelt_70 rfl ?_
        refine zs_ladd dX13_spelt_71 ?_
        refine zs_ldc2 (v := 96) dX13_spelt_72 zkl_RX13_196 ?_
        refine zs_lsub dX13_spelt_75 ?_
        refine zs_goto (tgt := 81) dX13_spelt_76 (by decide) ?_
        exact zs_lret dX13_spelt_81 rfl ⟨by rw [mSpl]; simp only [if_pos c_1, if_pos c_2, if_neg c_3], rfl⟩
    · refine zs_ldc2 (v := 27) dX13_spelt_42 zkl_RX13_194 ?_
      refine zs_lload dX13_spelt_45 rfl ?_
      refine zs_lmul dX13_spelt_47 ?_
      refine zs_iload_n dX13_spelt_48 rfl ?_
      refine zs_i2l (v := d.toInt64) dX13_spelt_49 rfl ?_
      refine zs_ladd dX13_spelt_50 ?_
      refine zs_ldc2 (v := 96) dX13_spelt_51 zkl_RX13_196 ?_
      refine zs_lsub dX13_spelt_54 ?_
      refine zs_lstore (lv' := [(5, .long (((27 * (((27 * (a.toInt64 - 96)) + b.toInt64) - 96)) + d.toInt64) - 96)), (0, .int a), (1, .int b), (2, .int c), (3, .int d), (4, .int e)]) dX13_spelt_55 (Nat.le_of_ble_eq_true rfl) rfl ?_
      refine zs_iload dX13_spelt_57 rfl ?_
      refine zs_if_le (tgt := 79) dX13_spelt_59 (by decide) (fun c_4 => ?_) (fun c_4 => ?_)
      · refine zs_lload dX13_spelt_79 rfl ?_
        exact zs_lret dX13_spelt_81 rfl ⟨by rw [mSpl]; simp only [if_pos c_1, if_neg c_2, if_pos c_4], rfl⟩
      · refine zs_ldc2 (v := 27) dX13_spelt_62 zkl_RX13_194 ?_
        refine zs_lload dX13_spelt_65 rfl ?_
        refine zs_lmul dX13_spelt_67 ?_
        refine zs_iload dX13_spelt_68 rfl ?_
        refine zs_i2l (v := e.toInt64) dX13_spelt_70 rfl ?_
        refine zs_ladd dX13_spelt_71 ?_
        refine zs_ldc2 (v := 96) dX13_spelt_72 zkl_RX13_196 ?_
        refine zs_lsub dX13_spelt_75 ?_
        refine zs_goto (tgt := 81) dX13_spelt_76 (by decide) ?_
        exact zs_lret dX13_spelt_81 rfl ⟨by rw [mSpl]; simp only [if_pos c_1, if_neg c_2, if_neg c_4], rfl⟩
  · refine zs_ldc2 (v := 27) dX13_spelt_23 zkl_RX13_194 ?_
    refine zs_lload dX13_spelt_26 rfl ?_
    refine zs_lmul dX13_spelt_28 ?_
    refine zs_iload_n dX13_spelt_29 rfl ?_
    refine zs_i2l (v := c.toInt64) dX13_spelt_30 rfl ?_
    refine zs_ladd dX13_spelt_31 ?_
    refine zs_ldc2 (v := 96) dX13_spelt_32 zkl_RX13_196 ?_
    refine zs_lsub dX13_spelt_35 ?_
    refine zs_lstore (lv' := [(5, .long (((27 * (((27 * (a.toInt64 - 96)) + b.toInt64) - 96)) + c.toInt64) - 96)), (0, .int a), (1, .int b), (2, .int c), (3, .int d), (4, .int e)]) dX13_spelt_36 (Nat.le_of_ble_eq_true rfl) rfl ?_
    refine zs_iload_n dX13_spelt_38 rfl ?_
    refine zs_if_le (tgt := 57) dX13_spelt_39 (by decide) (fun c_5 => ?_) (fun c_5 => ?_)
    · refine zs_iload dX13_spelt_57 rfl ?_
      refine zs_if_le (tgt := 79) dX13_spelt_59 (by decide) (fun c_6 => ?_) (fun c_6 => ?_)
      · refine zs_lload dX13_spelt_79 rfl ?_
        exact zs_lret dX13_spelt_81 rfl ⟨by rw [mSpl]; simp only [if_neg c_1, if_pos c_5, if_pos c_6], rfl⟩
      · refine zs_ldc2 (v := 27) dX13_spelt_62 zkl_RX13_194 ?_
        refine zs_lload dX13_spelt_65 rfl ?_
        refine zs_lmul dX13_spelt_67 ?_
        refine zs_iload dX13_spelt_68 rfl ?_
        refine zs_i2l (v := e.toInt64) dX13_spelt_70 rfl ?_
        refine zs_ladd dX13_spelt_71 ?_
        refine zs_ldc2 (v := 96) dX13_spelt_72 zkl_RX13_196 ?_
        refine zs_lsub dX13_spelt_75 ?_
        refine zs_goto (tgt := 81) dX13_spelt_76 (by decide) ?_
        exact zs_lret dX13_spelt_81 rfl ⟨by rw [mSpl]; simp only [if_neg c_1, if_pos c_5, if_neg c_6], rfl⟩
    · refine zs_ldc2 (v := 27) dX13_spelt_42 zkl_RX13_194 ?_
      refine zs_lload dX13_spelt_45 rfl ?_
      refine zs_lmul dX13_spelt_47 ?_
      refine zs_iload_n dX13_spelt_48 rfl ?_
      refine zs_i2l (v := d.toInt64) dX13_spelt_49 rfl ?_
      refine zs_ladd dX13_spelt_50 ?_
      refine zs_ldc2 (v := 96) dX13_spelt_51 zkl_RX13_196 ?_
      refine zs_lsub dX13_spelt_54 ?_
      refine zs_lstore (lv' := [(5, .long (((27 * (((27 * (((27 * (a.toInt64 - 96)) + b.toInt64) - 96)) + c.toInt64) - 96)) + d.toInt64) - 96)), (0, .int a), (1, .int b), (2, .int c), (3, .int d), (4, .int e)]) dX13_spelt_55 (Nat.le_of_ble_eq_true rfl) rfl ?_
      refine zs_iload dX13_spelt_57 rfl ?_
      refine zs_if_le (tgt := 79) dX13_spelt_59 (by decide) (fun c_7 => ?_) (fun c_7 => ?_)
      · refine zs_lload dX13_spelt_79 rfl ?_
        exact zs_lret dX13_spelt_81 rfl ⟨by rw [mSpl]; simp only [if_neg c_1, if_neg c_5, if_pos c_7], rfl⟩
      · refine zs_ldc2 (v := 27) dX13_spelt_62 zkl_RX13_194 ?_
        refine zs_lload dX13_spelt_65 rfl ?_
        refine zs_lmul dX13_spelt_67 ?_
        refine zs_iload dX13_spelt_68 rfl ?_
        refine zs_i2l (v := e.toInt64) dX13_spelt_70 rfl ?_
        refine zs_ladd dX13_spelt_71 ?_
        refine zs_ldc2 (v := 96) dX13_spelt_72 zkl_RX13_196 ?_
        refine zs_lsub dX13_spelt_75 ?_
        refine zs_goto (tgt := 81) dX13_spelt_76 (by decide) ?_
        exact zs_lret dX13_spelt_81 rfl ⟨by rw [mSpl]; simp only [if_neg c_1, if_neg c_5, if_neg c_7], rfl⟩
set_option maxRecDepth 100000 in
theorem s_mOn (l : Launch) (dd : Nat) (v : Int64) (a : Int32)  : zSp l mX13_on dd 0 0 [.long v, .int a] [] (fun r K' => r = some (.long ((27 : Int64) * v + a.toInt64 - 96)) ∧ K' = []) := by
  refine zSp.of (by decide) (Nat.le_of_ble_eq_true rfl) (fun h0 => ?_)
  show zS _ 0 0 0 [(0, .long v), (2, .int a)] [] []
  refine zs_ldc2 (v := 27) dX13_on_0 zkl_RX13_194 ?_
  refine zs_lload_n dX13_on_3 rfl ?_
  refine zs_lmul dX13_on_4 ?_
  refine zs_iload_n dX13_on_5 rfl ?_
  refine zs_i2l (v := a.toInt64) dX13_on_6 rfl ?_
  refine zs_ladd dX13_on_7 ?_
  refine zs_ldc2 (v := 96) dX13_on_8 zkl_RX13_196 ?_
  refine zs_lsub dX13_on_11 ?_
  exact zs_lret dX13_on_12 rfl ⟨rfl, rfl⟩
set_option maxRecDepth 100000 in
theorem s_mWordOf (l : Launch) (dd : Nat) (k : Nat) (hd : 1 ≤ dd) (hk : k < 29) : zSp l mX13_wordOf dd 0 0 [.int (nI k)] [] (fun r K' => r = some (.long (nL (wNo k))) ∧ K' = []) := by
  refine zSp.of (by decide) (Nat.le_of_ble_eq_true rfl) (fun h0 => ?_)
  show zS _ 0 0 0 [(0, .int (nI k))] [] []
  refine zs_iload_n dX13_wordOf_0 rfl ?_
  by_cases h1_0 : k = 0
  · refine zs_as (y := nI 0) (congrArg nI h1_0) ?_
    refine zs_tableIn (off := 127) (tgt := 128) dX13_wordOf_1 (by decide) (by decide) rfl (by decide) ?_
    refine zs_bipush (v := nI 109) dX13_wordOf_128 (by decide) ?_
    refine zs_bipush (v := nI 97) dX13_wordOf_130 (by decide) ?_
    refine zs_bipush (v := nI 110) dX13_wordOf_132 (by decide) ?_
    refine zs_iconst (v := nI 0) dX13_wordOf_134 (by decide) ?_
    refine zs_iconst (v := nI 0) dX13_wordOf_135 (by decide) ?_
    refine zs_callS (M := mX13_spelt) (As := [.int (nI 109), .int (nI 97), .int (nI 110), .int (nI 0), .int (nI 0)]) (st := []) (Kc := []) (Kr := []) [] [] dX13_wordOf_136 zl_RX13_198 kX13_spelt rfl rfl rfl rfl rfl (by decide) (show dd - 1 + 1 ≤ dd by omega) (Nat.zero_le _) (Nat.zero_le _) (Nat.le_of_ble_eq_true rfl) (s_mSpelt l (dd - 1) (nI 109) (nI 97) (nI 110) (nI 0) (nI 0)) (fun r K1 hr => ?_)
    obtain ⟨rfl, rfl⟩ := hr
    refine zs_K (K' := []) [] rfl (by decide) ?_
    exact zs_lret dX13_wordOf_139 rfl ⟨by rw [h1_0]; exact congrArg (fun q => some (Value.long q)) (by decide +kernel), rfl⟩
  by_cases h1_1 : k = 1
  · refine zs_as (y := nI 1) (congrArg nI h1_1) ?_
    refine zs_tableIn (off := 139) (tgt := 140) dX13_wordOf_1 (by decide) (by decide) rfl (by decide) ?_
    refine zs_bipush (v := nI 99) dX13_wordOf_140 (by decide) ?_
    refine zs_bipush (v := nI 101) dX13_wordOf_142 (by decide) ?_
    refine zs_bipush (v := nI 108) dX13_wordOf_144 (by decide) ?_
    refine zs_bipush (v := nI 108) dX13_wordOf_146 (by decide) ?_
    refine zs_bipush (v := nI 115) dX13_wordOf_148 (by decide) ?_
    refine zs_callS (M := mX13_spelt) (As := [.int (nI 99), .int (nI 101), .int (nI 108), .int (nI 108), .int (nI 115)]) (st := []) (Kc := []) (Kr := []) [] [] dX13_wordOf_150 zl_RX13_198 kX13_spelt rfl rfl rfl rfl rfl (by decide) (show dd - 1 + 1 ≤ dd by omega) (Nat.zero_le _) (Nat.zero_le _) (Nat.le_of_ble_eq_true rfl) (s_mSpelt l (dd - 1) (nI 99) (nI 101) (nI 108) (nI 108) (nI 115)) (fun r K1 hr => ?_)
    obtain ⟨rfl, rfl⟩ := hr
    refine zs_K (K' := []) [] rfl (by decide) ?_
    exact zs_lret dX13_wordOf_153 rfl ⟨by rw [h1_1]; exact congrArg (fun q => some (Value.long q)) (by decide +kernel), rfl⟩
  by_cases h1_2 : k = 2
  · refine zs_as (y := nI 2) (congrArg nI h1_2) ?_
    refine zs_tableIn (off := 153) (tgt := 154) dX13_wordOf_1 (by decide) (by decide) rfl (by decide) ?_
    refine zs_bipush (v := nI 98) dX13_wordOf_154 (by decide) ?_
    refine zs_bipush (v := nI 117) dX13_wordOf_156 (by decide) ?_
    refine zs_bipush (v := nI 114) dX13_wordOf_158 (by decide) ?_
    refine zs_bipush (v := nI 110) dX13_wordOf_160 (by decide) ?_
    refine zs_iconst (v := nI 0) dX13_wordOf_162 (by decide) ?_
    refine zs_callS (M := mX13_spelt) (As := [.int (nI 98), .int (nI 117), .int (nI 114), .int (nI 110), .int (nI 0)]) (st := []) (Kc := []) (Kr := []) [] [] dX13_wordOf_163 zl_RX13_198 kX13_spelt rfl rfl rfl rfl rfl (by decide) (show dd - 1 + 1 ≤ dd by omega) (Nat.zero_le _) (Nat.zero_le _) (Nat.le_of_ble_eq_true rfl) (s_mSpelt l (dd - 1) (nI 98) (nI 117) (nI 114) (nI 110) (nI 0)) (fun r K1 hr => ?_)
    obtain ⟨rfl, rfl⟩ := hr
    refine zs_K (K' := []) [] rfl (by decide) ?_
    exact zs_lret dX13_wordOf_166 rfl ⟨by rw [h1_2]; exact congrArg (fun q => some (Value.long q)) (by decide +kernel), rfl⟩
  by_cases h1_3 : k = 3
  · refine zs_as (y := nI 3) (congrArg nI h1_3) ?_
    refine zs_tableIn (off := 166) (tgt := 167) dX13_wordOf_1 (by decide) (by decide) rfl (by decide) ?_
    refine zs_bipush (v := nI 119) dX13_wordOf_167 (by decide) ?_
    refine zs_bipush (v := nI 97) dX13_wordOf_169 (by decide) ?_
    refine zs_bipush (v := nI 121) dX13_wordOf_171 (by decide) ?_
    refine zs_iconst (v := nI 0) dX13_wordOf_173 (by decide) ?_
    refine zs_iconst (v := nI 0) dX13_wordOf_174 (by decide) ?_
    refine zs_callS (M := mX13_spelt) (As := [.int (nI 119), .int (nI 97), .int (nI 121), .int (nI 0), .int (nI 0)]) (st := []) (Kc := []) (Kr := []) [] [] dX13_wordOf_175 zl_RX13_198 kX13_spelt rfl rfl rfl rfl rfl (by decide) (show dd - 1 + 1 ≤ dd by omega) (Nat.zero_le _) (Nat.zero_le _) (Nat.le_of_ble_eq_true rfl) (s_mSpelt l (dd - 1) (nI 119) (nI 97) (nI 121) (nI 0) (nI 0)) (fun r K1 hr => ?_)
    obtain ⟨rfl, rfl⟩ := hr
    refine zs_K (K' := []) [] rfl (by decide) ?_
    exact zs_lret dX13_wordOf_178 rfl ⟨by rw [h1_3]; exact congrArg (fun q => some (Value.long q)) (by decide +kernel), rfl⟩
  by_cases h1_4 : k = 4
  · refine zs_as (y := nI 4) (congrArg nI h1_4) ?_
    refine zs_tableIn (off := 178) (tgt := 179) dX13_wordOf_1 (by decide) (by decide) rfl (by decide) ?_
    refine zs_bipush (v := nI 112) dX13_wordOf_179 (by decide) ?_
    refine zs_bipush (v := nI 97) dX13_wordOf_181 (by decide) ?_
    refine zs_bipush (v := nI 105) dX13_wordOf_183 (by decide) ?_
    refine zs_bipush (v := nI 108) dX13_wordOf_185 (by decide) ?_
    refine zs_bipush (v := nI 115) dX13_wordOf_187 (by decide) ?_
    refine zs_callS (M := mX13_spelt) (As := [.int (nI 112), .int (nI 97), .int (nI 105), .int (nI 108), .int (nI 115)]) (st := []) (Kc := []) (Kr := []) [] [] dX13_wordOf_189 zl_RX13_198 kX13_spelt rfl rfl rfl rfl rfl (by decide) (show dd - 1 + 1 ≤ dd by omega) (Nat.zero_le _) (Nat.zero_le _) (Nat.le_of_ble_eq_true rfl) (s_mSpelt l (dd - 1) (nI 112) (nI 97) (nI 105) (nI 108) (nI 115)) (fun r K1 hr => ?_)
    obtain ⟨rfl, rfl⟩ := hr
    refine zs_K (K' := []) [] rfl (by decide) ?_
    exact zs_lret dX13_wordOf_192 rfl ⟨by rw [h1_4]; exact congrArg (fun q => some (Value.long q)) (by decide +kernel), rfl⟩
  by_cases h1_5 : k = 5
  · refine zs_as (y := nI 5) (congrArg nI h1_5) ?_
    refine zs_tableIn (off := 192) (tgt := 193) dX13_wordOf_1 (by decide) (by decide) rfl (by decide) ?_
    refine zs_bipush (v := nI 119) dX13_wordOf_193 (by decide) ?_
    refine zs_bipush (v := nI 101) dX13_wordOf_195 (by decide) ?_
    refine zs_bipush (v := nI 108) dX13_wordOf_197 (by decide) ?_
    refine zs_bipush (v := nI 108) dX13_wordOf_199 (by decide) ?_
    refine zs_iconst (v := nI 0) dX13_wordOf_201 (by decide) ?_
    refine zs_callS (M := mX13_spelt) (As := [.int (nI 119), .int (nI 101), .int (nI 108), .int (nI 108), .int (nI 0)]) (st := []) (Kc := []) (Kr := []) [] [] dX13_wordOf_202 zl_RX13_198 kX13_spelt rfl rfl rfl rfl rfl (by decide) (show dd - 1 + 1 ≤ dd by omega) (Nat.zero_le _) (Nat.zero_le _) (Nat.le_of_ble_eq_true rfl) (s_mSpelt l (dd - 1) (nI 119) (nI 101) (nI 108) (nI 108) (nI 0)) (fun r K1 hr => ?_)
    obtain ⟨rfl, rfl⟩ := hr
    refine zs_K (K' := []) [] rfl (by decide) ?_
    exact zs_lret dX13_wordOf_205 rfl ⟨by rw [h1_5]; exact congrArg (fun q => some (Value.long q)) (by decide +kernel), rfl⟩
  by_cases h1_6 : k = 6
  · refine zs_as (y := nI 6) (congrArg nI h1_6) ?_
    refine zs_tableIn (off := 205) (tgt := 206) dX13_wordOf_1 (by decide) (by decide) rfl (by decide) ?_
    refine zs_bipush (v := nI 115) dX13_wordOf_206 (by decide) ?_
    refine zs_bipush (v := nI 112) dX13_wordOf_208 (by decide) ?_
    refine zs_bipush (v := nI 105) dX13_wordOf_210 (by decide) ?_
    refine zs_bipush (v := nI 108) dX13_wordOf_212 (by decide) ?_
    refine zs_bipush (v := nI 108) dX13_wordOf_214 (by decide) ?_
    refine zs_callS (M := mX13_spelt) (As := [.int (nI 115), .int (nI 112), .int (nI 105), .int (nI 108), .int (nI 108)]) (st := []) (Kc := []) (Kr := []) [] [] dX13_wordOf_216 zl_RX13_198 kX13_spelt rfl rfl rfl rfl rfl (by decide) (show dd - 1 + 1 ≤ dd by omega) (Nat.zero_le _) (Nat.zero_le _) (Nat.le_of_ble_eq_true rfl) (s_mSpelt l (dd - 1) (nI 115) (nI 112) (nI 105) (nI 108) (nI 108)) (fun r K1 hr => ?_)
    obtain ⟨rfl, rfl⟩ := hr
    refine zs_K (K' := []) [] rfl (by decide) ?_
    exact zs_lret dX13_wordOf_219 rfl ⟨by rw [h1_6]; exact congrArg (fun q => some (Value.long q)) (by decide +kernel), rfl⟩
  by_cases h1_7 : k = 7
  · refine zs_as (y := nI 7) (congrArg nI h1_7) ?_
    refine zs_tableIn (off := 219) (tgt := 220) dX13_wordOf_1 (by decide) (by decide) rfl (by decide) ?_
    refine zs_bipush (v := nI 98) dX13_wordOf_220 (by decide) ?_
    refine zs_bipush (v := nI 97) dX13_wordOf_222 (by decide) ?_
    refine zs_bipush (v := nI 99) dX13_wordOf_224 (by decide) ?_
    refine zs_bipush (v := nI 107) dX13_wordOf_226 (by decide) ?_
    refine zs_iconst (v := nI 0) dX13_wordOf_228 (by decide) ?_
    refine zs_callS (M := mX13_spelt) (As := [.int (nI 98), .int (nI 97), .int (nI 99), .int (nI 107), .int (nI 0)]) (st := []) (Kc := []) (Kr := []) [] [] dX13_wordOf_229 zl_RX13_198 kX13_spelt rfl rfl rfl rfl rfl (by decide) (show dd - 1 + 1 ≤ dd by omega) (Nat.zero_le _) (Nat.zero_le _) (Nat.le_of_ble_eq_true rfl) (s_mSpelt l (dd - 1) (nI 98) (nI 97) (nI 99) (nI 107) (nI 0)) (fun r K1 hr => ?_)
    obtain ⟨rfl, rfl⟩ := hr
    refine zs_K (K' := []) [] rfl (by decide) ?_
    exact zs_lret dX13_wordOf_232 rfl ⟨by rw [h1_7]; exact congrArg (fun q => some (Value.long q)) (by decide +kernel), rfl⟩
  by_cases h1_8 : k = 8
  · refine zs_as (y := nI 8) (congrArg nI h1_8) ?_
    refine zs_tableIn (off := 232) (tgt := 233) dX13_wordOf_1 (by decide) (by decide) rfl (by decide) ?_
    refine zs_bipush (v := nI 116) dX13_wordOf_233 (by decide) ?_
    refine zs_bipush (v := nI 104) dX13_wordOf_235 (by decide) ?_
    refine zs_bipush (v := nI 114) dX13_wordOf_237 (by decide) ?_
    refine zs_bipush (v := nI 111) dX13_wordOf_239 (by decide) ?_
    refine zs_bipush (v := nI 119) dX13_wordOf_241 (by decide) ?_
    refine zs_callS (M := mX13_spelt) (As := [.int (nI 116), .int (nI 104), .int (nI 114), .int (nI 111), .int (nI 119)]) (st := []) (Kc := []) (Kr := []) [] [] dX13_wordOf_243 zl_RX13_198 kX13_spelt rfl rfl rfl rfl rfl (by decide) (show dd - 1 + 1 ≤ dd by omega) (Nat.zero_le _) (Nat.zero_le _) (Nat.le_of_ble_eq_true rfl) (s_mSpelt l (dd - 1) (nI 116) (nI 104) (nI 114) (nI 111) (nI 119)) (fun r K1 hr => ?_)
    obtain ⟨rfl, rfl⟩ := hr
    refine zs_K (K' := []) [] rfl (by decide) ?_
    exact zs_lret dX13_wordOf_246 rfl ⟨by rw [h1_8]; exact congrArg (fun q => some (Value.long q)) (by decide +kernel), rfl⟩
  by_cases h1_9 : k = 9
  · refine zs_as (y := nI 9) (congrArg nI h1_9) ?_
    refine zs_tableIn (off := 246) (tgt := 247) dX13_wordOf_1 (by decide) (by decide) rfl (by decide) ?_
    refine zs_bipush (v := nI 119) dX13_wordOf_247 (by decide) ?_
    refine zs_bipush (v := nI 105) dX13_wordOf_249 (by decide) ?_
    refine zs_bipush (v := nI 110) dX13_wordOf_251 (by decide) ?_
    refine zs_bipush (v := nI 100) dX13_wordOf_253 (by decide) ?_
    refine zs_iconst (v := nI 0) dX13_wordOf_255 (by decide) ?_
    refine zs_callS (M := mX13_spelt) (As := [.int (nI 119), .int (nI 105), .int (nI 110), .int (nI 100), .int (nI 0)]) (st := []) (Kc := []) (Kr := []) [] [] dX13_wordOf_256 zl_RX13_198 kX13_spelt rfl rfl rfl rfl rfl (by decide) (show dd - 1 + 1 ≤ dd by omega) (Nat.zero_le _) (Nat.zero_le _) (Nat.le_of_ble_eq_true rfl) (s_mSpelt l (dd - 1) (nI 119) (nI 105) (nI 110) (nI 100) (nI 0)) (fun r K1 hr => ?_)
    obtain ⟨rfl, rfl⟩ := hr
    refine zs_K (K' := []) [] rfl (by decide) ?_
    exact zs_lret dX13_wordOf_259 rfl ⟨by rw [h1_9]; exact congrArg (fun q => some (Value.long q)) (by decide +kernel), rfl⟩
  by_cases h1_10 : k = 10
  · refine zs_as (y := nI 10) (congrArg nI h1_10) ?_
    refine zs_tableIn (off := 259) (tgt := 260) dX13_wordOf_1 (by decide) (by decide) rfl (by decide) ?_
    refine zs_bipush (v := nI 110) dX13_wordOf_260 (by decide) ?_
    refine zs_bipush (v := nI 111) dX13_wordOf_262 (by decide) ?_
    refine zs_bipush (v := nI 114) dX13_wordOf_264 (by decide) ?_
    refine zs_bipush (v := nI 116) dX13_wordOf_266 (by decide) ?_
    refine zs_bipush (v := nI 104) dX13_wordOf_268 (by decide) ?_
    refine zs_callS (M := mX13_spelt) (As := [.int (nI 110), .int (nI 111), .int (nI 114), .int (nI 116), .int (nI 104)]) (st := []) (Kc := []) (Kr := []) [] [] dX13_wordOf_270 zl_RX13_198 kX13_spelt rfl rfl rfl rfl rfl (by decide) (show dd - 1 + 1 ≤ dd by omega) (Nat.zero_le _) (Nat.zero_le _) (Nat.le_of_ble_eq_true rfl) (s_mSpelt l (dd - 1) (nI 110) (nI 111) (nI 114) (nI 116) (nI 104)) (fun r K1 hr => ?_)
    obtain ⟨rfl, rfl⟩ := hr
    refine zs_K (K' := []) [] rfl (by decide) ?_
    exact zs_lret dX13_wordOf_273 rfl ⟨by rw [h1_10]; exact congrArg (fun q => some (Value.long q)) (by decide +kernel), rfl⟩
  by_cases h1_11 : k = 11
  · refine zs_as (y := nI 11) (congrArg nI h1_11) ?_
    refine zs_tableIn (off := 273) (tgt := 274) dX13_wordOf_1 (by decide) (by decide) rfl (by decide) ?_
    refine zs_bipush (v := nI 101) dX13_wordOf_274 (by decide) ?_
    refine zs_bipush (v := nI 97) dX13_wordOf_276 (by decide) ?_
    refine zs_bipush (v := nI 115) dX13_wordOf_278 (by decide) ?_
    refine zs_bipush (v := nI 116) dX13_wordOf_280 (by decide) ?_
    refine zs_iconst (v := nI 0) dX13_wordOf_282 (by decide) ?_
    refine zs_callS (M := mX13_spelt) (As := [.int (nI 101), .int (nI 97), .int (nI 115), .int (nI 116), .int (nI 0)]) (st := []) (Kc := []) (Kr := []) [] [] dX13_wordOf_283 zl_RX13_198 kX13_spelt rfl rfl rfl rfl rfl (by decide) (show dd - 1 + 1 ≤ dd by omega) (Nat.zero_le _) (Nat.zero_le _) (Nat.le_of_ble_eq_true rfl) (s_mSpelt l (dd - 1) (nI 101) (nI 97) (nI 115) (nI 116) (nI 0)) (fun r K1 hr => ?_)
    obtain ⟨rfl, rfl⟩ := hr
    refine zs_K (K' := []) [] rfl (by decide) ?_
    exact zs_lret dX13_wordOf_286 rfl ⟨by rw [h1_11]; exact congrArg (fun q => some (Value.long q)) (by decide +kernel), rfl⟩
  by_cases h1_12 : k = 12
  · refine zs_as (y := nI 12) (congrArg nI h1_12) ?_
    refine zs_tableIn (off := 286) (tgt := 287) dX13_wordOf_1 (by decide) (by decide) rfl (by decide) ?_
    refine zs_bipush (v := nI 115) dX13_wordOf_287 (by decide) ?_
    refine zs_bipush (v := nI 111) dX13_wordOf_289 (by decide) ?_
    refine zs_bipush (v := nI 117) dX13_wordOf_291 (by decide) ?_
    refine zs_bipush (v := nI 116) dX13_wordOf_293 (by decide) ?_
    refine zs_bipush (v := nI 104) dX13_wordOf_295 (by decide) ?_
    refine zs_callS (M := mX13_spelt) (As := [.int (nI 115), .int (nI 111), .int (nI 117), .int (nI 116), .int (nI 104)]) (st := []) (Kc := []) (Kr := []) [] [] dX13_wordOf_297 zl_RX13_198 kX13_spelt rfl rfl rfl rfl rfl (by decide) (show dd - 1 + 1 ≤ dd by omega) (Nat.zero_le _) (Nat.zero_le _) (Nat.le_of_ble_eq_true rfl) (s_mSpelt l (dd - 1) (nI 115) (nI 111) (nI 117) (nI 116) (nI 104)) (fun r K1 hr => ?_)
    obtain ⟨rfl, rfl⟩ := hr
    refine zs_K (K' := []) [] rfl (by decide) ?_
    exact zs_lret dX13_wordOf_300 rfl ⟨by rw [h1_12]; exact congrArg (fun q => some (Value.long q)) (by decide +kernel), rfl⟩
  by_cases h1_13 : k = 13
  · refine zs_as (y := nI 13) (congrArg nI h1_13) ?_
    refine zs_tableIn (off := 300) (tgt := 301) dX13_wordOf_1 (by decide) (by decide) rfl (by decide) ?_
    refine zs_bipush (v := nI 119) dX13_wordOf_301 (by decide) ?_
    refine zs_bipush (v := nI 101) dX13_wordOf_303 (by decide) ?_
    refine zs_bipush (v := nI 115) dX13_wordOf_305 (by decide) ?_
    refine zs_bipush (v := nI 116) dX13_wordOf_307 (by decide) ?_
    refine zs_iconst (v := nI 0) dX13_wordOf_309 (by decide) ?_
    refine zs_callS (M := mX13_spelt) (As := [.int (nI 119), .int (nI 101), .int (nI 115), .int (nI 116), .int (nI 0)]) (st := []) (Kc := []) (Kr := []) [] [] dX13_wordOf_310 zl_RX13_198 kX13_spelt rfl rfl rfl rfl rfl (by decide) (show dd - 1 + 1 ≤ dd by omega) (Nat.zero_le _) (Nat.zero_le _) (Nat.le_of_ble_eq_true rfl) (s_mSpelt l (dd - 1) (nI 119) (nI 101) (nI 115) (nI 116) (nI 0)) (fun r K1 hr => ?_)
    obtain ⟨rfl, rfl⟩ := hr
    refine zs_K (K' := []) [] rfl (by decide) ?_
    exact zs_lret dX13_wordOf_313 rfl ⟨by rw [h1_13]; exact congrArg (fun q => some (Value.long q)) (by decide +kernel), rfl⟩
  by_cases h1_14 : k = 14
  · refine zs_as (y := nI 14) (congrArg nI h1_14) ?_
    refine zs_tableIn (off := 313) (tgt := 314) dX13_wordOf_1 (by decide) (by decide) rfl (by decide) ?_
    refine zs_bipush (v := nI 97) dX13_wordOf_314 (by decide) ?_
    refine zs_bipush (v := nI 116) dX13_wordOf_316 (by decide) ?_
    refine zs_iconst (v := nI 0) dX13_wordOf_318 (by decide) ?_
    refine zs_iconst (v := nI 0) dX13_wordOf_319 (by decide) ?_
    refine zs_iconst (v := nI 0) dX13_wordOf_320 (by decide) ?_
    refine zs_callS (M := mX13_spelt) (As := [.int (nI 97), .int (nI 116), .int (nI 0), .int (nI 0), .int (nI 0)]) (st := []) (Kc := []) (Kr := []) [] [] dX13_wordOf_321 zl_RX13_198 kX13_spelt rfl rfl rfl rfl rfl (by decide) (show dd - 1 + 1 ≤ dd by omega) (Nat.zero_le _) (Nat.zero_le _) (Nat.le_of_ble_eq_true rfl) (s_mSpelt l (dd - 1) (nI 97) (nI 116) (nI 0) (nI 0) (nI 0)) (fun r K1 hr => ?_)
    obtain ⟨rfl, rfl⟩ := hr
    refine zs_K (K' := []) [] rfl (by decide) ?_
    exact zs_lret dX13_wordOf_324 rfl ⟨by rw [h1_14]; exact congrArg (fun q => some (Value.long q)) (by decide +kernel), rfl⟩
  by_cases h1_15 : k = 15
  · refine zs_as (y := nI 15) (congrArg nI h1_15) ?_
    refine zs_tableIn (off := 324) (tgt := 325) dX13_wordOf_1 (by decide) (by decide) rfl (by decide) ?_
    refine zs_bipush (v := nI 114) dX13_wordOf_325 (by decide) ?_
    refine zs_bipush (v := nI 111) dX13_wordOf_327 (by decide) ?_
    refine zs_bipush (v := nI 119) dX13_wordOf_329 (by decide) ?_
    refine zs_iconst (v := nI 0) dX13_wordOf_331 (by decide) ?_
    refine zs_iconst (v := nI 0) dX13_wordOf_332 (by decide) ?_
    refine zs_callS (M := mX13_spelt) (As := [.int (nI 114), .int (nI 111), .int (nI 119), .int (nI 0), .int (nI 0)]) (st := []) (Kc := []) (Kr := []) [] [] dX13_wordOf_333 zl_RX13_198 kX13_spelt rfl rfl rfl rfl rfl (by decide) (show dd - 1 + 1 ≤ dd by omega) (Nat.zero_le _) (Nat.zero_le _) (Nat.le_of_ble_eq_true rfl) (s_mSpelt l (dd - 1) (nI 114) (nI 111) (nI 119) (nI 0) (nI 0)) (fun r K1 hr => ?_)
    obtain ⟨rfl, rfl⟩ := hr
    refine zs_K (K' := []) [] rfl (by decide) ?_
    exact zs_lret dX13_wordOf_336 rfl ⟨by rw [h1_15]; exact congrArg (fun q => some (Value.long q)) (by decide +kernel), rfl⟩
  by_cases h1_16 : k = 16
  · refine zs_as (y := nI 16) (congrArg nI h1_16) ?_
    refine zs_tableIn (off := 336) (tgt := 337) dX13_wordOf_1 (by decide) (by decide) rfl (by decide) ?_
    refine zs_bipush (v := nI 114) dX13_wordOf_337 (by decide) ?_
    refine zs_bipush (v := nI 117) dX13_wordOf_339 (by decide) ?_
    refine zs_bipush (v := nI 110) dX13_wordOf_341 (by decide) ?_
    refine zs_iconst (v := nI 0) dX13_wordOf_343 (by decide) ?_
    refine zs_iconst (v := nI 0) dX13_wordOf_344 (by decide) ?_
    refine zs_callS (M := mX13_spelt) (As := [.int (nI 114), .int (nI 117), .int (nI 110), .int (nI 0), .int (nI 0)]) (st := []) (Kc := []) (Kr := []) [] [] dX13_wordOf_345 zl_RX13_198 kX13_spelt rfl rfl rfl rfl rfl (by decide) (show dd - 1 + 1 ≤ dd by omega) (Nat.zero_le _) (Nat.zero_le _) (Nat.le_of_ble_eq_true rfl) (s_mSpelt l (dd - 1) (nI 114) (nI 117) (nI 110) (nI 0) (nI 0)) (fun r K1 hr => ?_)
    obtain ⟨rfl, rfl⟩ := hr
    refine zs_K (K' := []) [] rfl (by decide) ?_
    exact zs_lret dX13_wordOf_348 rfl ⟨by rw [h1_16]; exact congrArg (fun q => some (Value.long q)) (by decide +kernel), rfl⟩
  by_cases h1_17 : k = 17
  · refine zs_as (y := nI 17) (congrArg nI h1_17) ?_
    refine zs_tableIn (off := 348) (tgt := 349) dX13_wordOf_1 (by decide) (by decide) rfl (by decide) ?_
    refine zs_bipush (v := nI 115) dX13_wordOf_349 (by decide) ?_
    refine zs_bipush (v := nI 116) dX13_wordOf_351 (by decide) ?_
    refine zs_bipush (v := nI 111) dX13_wordOf_353 (by decide) ?_
    refine zs_bipush (v := nI 112) dX13_wordOf_355 (by decide) ?_
    refine zs_iconst (v := nI 0) dX13_wordOf_357 (by decide) ?_
    refine zs_callS (M := mX13_spelt) (As := [.int (nI 115), .int (nI 116), .int (nI 111), .int (nI 112), .int (nI 0)]) (st := []) (Kc := []) (Kr := []) [] [] dX13_wordOf_358 zl_RX13_198 kX13_spelt rfl rfl rfl rfl rfl (by decide) (show dd - 1 + 1 ≤ dd by omega) (Nat.zero_le _) (Nat.zero_le _) (Nat.le_of_ble_eq_true rfl) (s_mSpelt l (dd - 1) (nI 115) (nI 116) (nI 111) (nI 112) (nI 0)) (fun r K1 hr => ?_)
    obtain ⟨rfl, rfl⟩ := hr
    refine zs_K (K' := []) [] rfl (by decide) ?_
    exact zs_lret dX13_wordOf_361 rfl ⟨by rw [h1_17]; exact congrArg (fun q => some (Value.long q)) (by decide +kernel), rfl⟩
  by_cases h1_18 : k = 18
  · refine zs_as (y := nI 18) (congrArg nI h1_18) ?_
    refine zs_tableIn (off := 361) (tgt := 362) dX13_wordOf_1 (by decide) (by decide) rfl (by decide) ?_
    refine zs_bipush (v := nI 97) dX13_wordOf_362 (by decide) ?_
    refine zs_bipush (v := nI 105) dX13_wordOf_364 (by decide) ?_
    refine zs_bipush (v := nI 109) dX13_wordOf_366 (by decide) ?_
    refine zs_iconst (v := nI 0) dX13_wordOf_368 (by decide) ?_
    refine zs_iconst (v := nI 0) dX13_wordOf_369 (by decide) ?_
    refine zs_callS (M := mX13_spelt) (As := [.int (nI 97), .int (nI 105), .int (nI 109), .int (nI 0), .int (nI 0)]) (st := []) (Kc := []) (Kr := []) [] [] dX13_wordOf_370 zl_RX13_198 kX13_spelt rfl rfl rfl rfl rfl (by decide) (show dd - 1 + 1 ≤ dd by omega) (Nat.zero_le _) (Nat.zero_le _) (Nat.le_of_ble_eq_true rfl) (s_mSpelt l (dd - 1) (nI 97) (nI 105) (nI 109) (nI 0) (nI 0)) (fun r K1 hr => ?_)
    obtain ⟨rfl, rfl⟩ := hr
    refine zs_K (K' := []) [] rfl (by decide) ?_
    exact zs_lret dX13_wordOf_373 rfl ⟨by rw [h1_18]; exact congrArg (fun q => some (Value.long q)) (by decide +kernel), rfl⟩
  by_cases h1_19 : k = 19
  · refine zs_as (y := nI 19) (congrArg nI h1_19) ?_
    refine zs_tableIn (off := 373) (tgt := 374) dX13_wordOf_1 (by decide) (by decide) rfl (by decide) ?_
    refine zs_bipush (v := nI 103) dX13_wordOf_374 (by decide) ?_
    refine zs_bipush (v := nI 105) dX13_wordOf_376 (by decide) ?_
    refine zs_bipush (v := nI 118) dX13_wordOf_378 (by decide) ?_
    refine zs_bipush (v := nI 101) dX13_wordOf_380 (by decide) ?_
    refine zs_iconst (v := nI 0) dX13_wordOf_382 (by decide) ?_
    refine zs_callS (M := mX13_spelt) (As := [.int (nI 103), .int (nI 105), .int (nI 118), .int (nI 101), .int (nI 0)]) (st := []) (Kc := []) (Kr := []) [] [] dX13_wordOf_383 zl_RX13_198 kX13_spelt rfl rfl rfl rfl rfl (by decide) (show dd - 1 + 1 ≤ dd by omega) (Nat.zero_le _) (Nat.zero_le _) (Nat.le_of_ble_eq_true rfl) (s_mSpelt l (dd - 1) (nI 103) (nI 105) (nI 118) (nI 101) (nI 0)) (fun r K1 hr => ?_)
    obtain ⟨rfl, rfl⟩ := hr
    refine zs_K (K' := []) [] rfl (by decide) ?_
    exact zs_lret dX13_wordOf_386 rfl ⟨by rw [h1_19]; exact congrArg (fun q => some (Value.long q)) (by decide +kernel), rfl⟩
  by_cases h1_20 : k = 20
  · refine zs_as (y := nI 20) (congrArg nI h1_20) ?_
    refine zs_tableIn (off := 386) (tgt := 387) dX13_wordOf_1 (by decide) (by decide) rfl (by decide) ?_
    refine zs_bipush (v := nI 111) dX13_wordOf_387 (by decide) ?_
    refine zs_bipush (v := nI 114) dX13_wordOf_389 (by decide) ?_
    refine zs_iconst (v := nI 0) dX13_wordOf_391 (by decide) ?_
    refine zs_iconst (v := nI 0) dX13_wordOf_392 (by decide) ?_
    refine zs_iconst (v := nI 0) dX13_wordOf_393 (by decide) ?_
    refine zs_callS (M := mX13_spelt) (As := [.int (nI 111), .int (nI 114), .int (nI 0), .int (nI 0), .int (nI 0)]) (st := []) (Kc := []) (Kr := []) [] [] dX13_wordOf_394 zl_RX13_198 kX13_spelt rfl rfl rfl rfl rfl (by decide) (show dd - 1 + 1 ≤ dd by omega) (Nat.zero_le _) (Nat.zero_le _) (Nat.le_of_ble_eq_true rfl) (s_mSpelt l (dd - 1) (nI 111) (nI 114) (nI 0) (nI 0) (nI 0)) (fun r K1 hr => ?_)
    obtain ⟨rfl, rfl⟩ := hr
    refine zs_K (K' := []) [] rfl (by decide) ?_
    exact zs_lret dX13_wordOf_397 rfl ⟨by rw [h1_20]; exact congrArg (fun q => some (Value.long q)) (by decide +kernel), rfl⟩
  by_cases h1_21 : k = 21
  · refine zs_as (y := nI 21) (congrArg nI h1_21) ?_
    refine zs_tableIn (off := 397) (tgt := 398) dX13_wordOf_1 (by decide) (by decide) rfl (by decide) ?_
    refine zs_bipush (v := nI 97) dX13_wordOf_398 (by decide) ?_
    refine zs_bipush (v := nI 110) dX13_wordOf_400 (by decide) ?_
    refine zs_bipush (v := nI 100) dX13_wordOf_402 (by decide) ?_
    refine zs_iconst (v := nI 0) dX13_wordOf_404 (by decide) ?_
    refine zs_iconst (v := nI 0) dX13_wordOf_405 (by decide) ?_
    refine zs_callS (M := mX13_spelt) (As := [.int (nI 97), .int (nI 110), .int (nI 100), .int (nI 0), .int (nI 0)]) (st := []) (Kc := []) (Kr := []) [] [] dX13_wordOf_406 zl_RX13_198 kX13_spelt rfl rfl rfl rfl rfl (by decide) (show dd - 1 + 1 ≤ dd by omega) (Nat.zero_le _) (Nat.zero_le _) (Nat.le_of_ble_eq_true rfl) (s_mSpelt l (dd - 1) (nI 97) (nI 110) (nI 100) (nI 0) (nI 0)) (fun r K1 hr => ?_)
    obtain ⟨rfl, rfl⟩ := hr
    refine zs_K (K' := []) [] rfl (by decide) ?_
    exact zs_lret dX13_wordOf_409 rfl ⟨by rw [h1_21]; exact congrArg (fun q => some (Value.long q)) (by decide +kernel), rfl⟩
  by_cases h1_22 : k = 22
  · refine zs_as (y := nI 22) (congrArg nI h1_22) ?_
    refine zs_tableIn (off := 409) (tgt := 410) dX13_wordOf_1 (by decide) (by decide) rfl (by decide) ?_
    refine zs_bipush (v := nI 110) dX13_wordOf_410 (by decide) ?_
    refine zs_bipush (v := nI 111) dX13_wordOf_412 (by decide) ?_
    refine zs_bipush (v := nI 116) dX13_wordOf_414 (by decide) ?_
    refine zs_iconst (v := nI 0) dX13_wordOf_416 (by decide) ?_
    refine zs_iconst (v := nI 0) dX13_wordOf_417 (by decide) ?_
    refine zs_callS (M := mX13_spelt) (As := [.int (nI 110), .int (nI 111), .int (nI 116), .int (nI 0), .int (nI 0)]) (st := []) (Kc := []) (Kr := []) [] [] dX13_wordOf_418 zl_RX13_198 kX13_spelt rfl rfl rfl rfl rfl (by decide) (show dd - 1 + 1 ≤ dd by omega) (Nat.zero_le _) (Nat.zero_le _) (Nat.le_of_ble_eq_true rfl) (s_mSpelt l (dd - 1) (nI 110) (nI 111) (nI 116) (nI 0) (nI 0)) (fun r K1 hr => ?_)
    obtain ⟨rfl, rfl⟩ := hr
    refine zs_K (K' := []) [] rfl (by decide) ?_
    exact zs_lret dX13_wordOf_421 rfl ⟨by rw [h1_22]; exact congrArg (fun q => some (Value.long q)) (by decide +kernel), rfl⟩
  by_cases h1_23 : k = 23
  · refine zs_as (y := nI 23) (congrArg nI h1_23) ?_
    refine zs_tableIn (off := 421) (tgt := 422) dX13_wordOf_1 (by decide) (by decide) rfl (by decide) ?_
    refine zs_bipush (v := nI 111) dX13_wordOf_422 (by decide) ?_
    refine zs_bipush (v := nI 117) dX13_wordOf_424 (by decide) ?_
    refine zs_bipush (v := nI 116) dX13_wordOf_426 (by decide) ?_
    refine zs_iconst (v := nI 0) dX13_wordOf_428 (by decide) ?_
    refine zs_iconst (v := nI 0) dX13_wordOf_429 (by decide) ?_
    refine zs_callS (M := mX13_spelt) (As := [.int (nI 111), .int (nI 117), .int (nI 116), .int (nI 0), .int (nI 0)]) (st := []) (Kc := []) (Kr := []) [] [] dX13_wordOf_430 zl_RX13_198 kX13_spelt rfl rfl rfl rfl rfl (by decide) (show dd - 1 + 1 ≤ dd by omega) (Nat.zero_le _) (Nat.zero_le _) (Nat.le_of_ble_eq_true rfl) (s_mSpelt l (dd - 1) (nI 111) (nI 117) (nI 116) (nI 0) (nI 0)) (fun r K1 hr => ?_)
    obtain ⟨rfl, rfl⟩ := hr
    refine zs_K (K' := []) [] rfl (by decide) ?_
    exact zs_lret dX13_wordOf_433 rfl ⟨by rw [h1_23]; exact congrArg (fun q => some (Value.long q)) (by decide +kernel), rfl⟩
  by_cases h1_24 : k = 24
  · refine zs_as (y := nI 24) (congrArg nI h1_24) ?_
    refine zs_tableIn (off := 433) (tgt := 434) dX13_wordOf_1 (by decide) (by decide) rfl (by decide) ?_
    refine zs_bipush (v := nI 109) dX13_wordOf_434 (by decide) ?_
    refine zs_bipush (v := nI 105) dX13_wordOf_436 (by decide) ?_
    refine zs_bipush (v := nI 110) dX13_wordOf_438 (by decide) ?_
    refine zs_bipush (v := nI 117) dX13_wordOf_440 (by decide) ?_
    refine zs_bipush (v := nI 116) dX13_wordOf_442 (by decide) ?_
    refine zs_callS (M := mX13_spelt) (As := [.int (nI 109), .int (nI 105), .int (nI 110), .int (nI 117), .int (nI 116)]) (st := []) (Kc := []) (Kr := []) [] [] dX13_wordOf_444 zl_RX13_198 kX13_spelt rfl rfl rfl rfl rfl (by decide) (show dd - 1 + 1 ≤ dd by omega) (Nat.zero_le _) (Nat.zero_le _) (Nat.le_of_ble_eq_true rfl) (s_mSpelt l (dd - 1) (nI 109) (nI 105) (nI 110) (nI 117) (nI 116)) (fun r K1 hr => ?_)
    obtain ⟨rfl, rfl⟩ := hr
    refine zs_K (K' := []) [] rfl (by decide) ?_
    refine zs_bipush (v := nI 101) dX13_wordOf_447 (by decide) ?_
    refine zs_callS (M := mX13_on) (As := [.long (mSpl (nI 109) (nI 105) (nI 110) (nI 117) (nI 116)), .int (nI 101)]) (st := []) (Kc := []) (Kr := []) [] [] dX13_wordOf_449 zl_RX13_202 kX13_on rfl rfl rfl rfl rfl (by decide) (show dd - 1 + 1 ≤ dd by omega) (Nat.zero_le _) (Nat.zero_le _) (Nat.le_of_ble_eq_true rfl) (s_mOn l (dd - 1) (mSpl (nI 109) (nI 105) (nI 110) (nI 117) (nI 116)) (nI 101)) (fun r K1 hr => ?_)
    obtain ⟨rfl, rfl⟩ := hr
    refine zs_K (K' := []) [] rfl (by decide) ?_
    exact zs_lret dX13_wordOf_452 rfl ⟨by rw [h1_24]; exact congrArg (fun q => some (Value.long q)) (by decide +kernel), rfl⟩
  by_cases h1_25 : k = 25
  · refine zs_as (y := nI 25) (congrArg nI h1_25) ?_
    refine zs_tableIn (off := 452) (tgt := 453) dX13_wordOf_1 (by decide) (by decide) rfl (by decide) ?_
    refine zs_bipush (v := nI 116) dX13_wordOf_453 (by decide) ?_
    refine zs_bipush (v := nI 104) dX13_wordOf_455 (by decide) ?_
    refine zs_bipush (v := nI 114) dX13_wordOf_457 (by decide) ?_
    refine zs_bipush (v := nI 111) dX13_wordOf_459 (by decide) ?_
    refine zs_bipush (v := nI 119) dX13_wordOf_461 (by decide) ?_
    refine zs_callS (M := mX13_spelt) (As := [.int (nI 116), .int (nI 104), .int (nI 114), .int (nI 111), .int (nI 119)]) (st := []) (Kc := []) (Kr := []) [] [] dX13_wordOf_463 zl_RX13_198 kX13_spelt rfl rfl rfl rfl rfl (by decide) (show dd - 1 + 1 ≤ dd by omega) (Nat.zero_le _) (Nat.zero_le _) (Nat.le_of_ble_eq_true rfl) (s_mSpelt l (dd - 1) (nI 116) (nI 104) (nI 114) (nI 111) (nI 119)) (fun r K1 hr => ?_)
    obtain ⟨rfl, rfl⟩ := hr
    refine zs_K (K' := []) [] rfl (by decide) ?_
    refine zs_bipush (v := nI 110) dX13_wordOf_466 (by decide) ?_
    refine zs_callS (M := mX13_on) (As := [.long (mSpl (nI 116) (nI 104) (nI 114) (nI 111) (nI 119)), .int (nI 110)]) (st := []) (Kc := []) (Kr := []) [] [] dX13_wordOf_468 zl_RX13_202 kX13_on rfl rfl rfl rfl rfl (by decide) (show dd - 1 + 1 ≤ dd by omega) (Nat.zero_le _) (Nat.zero_le _) (Nat.le_of_ble_eq_true rfl) (s_mOn l (dd - 1) (mSpl (nI 116) (nI 104) (nI 114) (nI 111) (nI 119)) (nI 110)) (fun r K1 hr => ?_)
    obtain ⟨rfl, rfl⟩ := hr
    refine zs_K (K' := []) [] rfl (by decide) ?_
    exact zs_lret dX13_wordOf_471 rfl ⟨by rw [h1_25]; exact congrArg (fun q => some (Value.long q)) (by decide +kernel), rfl⟩
  by_cases h1_26 : k = 26
  · refine zs_as (y := nI 26) (congrArg nI h1_26) ?_
    refine zs_tableIn (off := 471) (tgt := 472) dX13_wordOf_1 (by decide) (by decide) rfl (by decide) ?_
    refine zs_bipush (v := nI 108) dX13_wordOf_472 (by decide) ?_
    refine zs_bipush (v := nI 111) dX13_wordOf_474 (by decide) ?_
    refine zs_bipush (v := nI 115) dX13_wordOf_476 (by decide) ?_
    refine zs_bipush (v := nI 116) dX13_wordOf_478 (by decide) ?_
    refine zs_iconst (v := nI 0) dX13_wordOf_480 (by decide) ?_
    refine zs_callS (M := mX13_spelt) (As := [.int (nI 108), .int (nI 111), .int (nI 115), .int (nI 116), .int (nI 0)]) (st := []) (Kc := []) (Kr := []) [] [] dX13_wordOf_481 zl_RX13_198 kX13_spelt rfl rfl rfl rfl rfl (by decide) (show dd - 1 + 1 ≤ dd by omega) (Nat.zero_le _) (Nat.zero_le _) (Nat.le_of_ble_eq_true rfl) (s_mSpelt l (dd - 1) (nI 108) (nI 111) (nI 115) (nI 116) (nI 0)) (fun r K1 hr => ?_)
    obtain ⟨rfl, rfl⟩ := hr
    refine zs_K (K' := []) [] rfl (by decide) ?_
    exact zs_lret dX13_wordOf_484 rfl ⟨by rw [h1_26]; exact congrArg (fun q => some (Value.long q)) (by decide +kernel), rfl⟩
  by_cases h1_27 : k = 27
  · refine zs_as (y := nI 27) (congrArg nI h1_27) ?_
    refine zs_tableIn (off := 484) (tgt := 485) dX13_wordOf_1 (by decide) (by decide) rfl (by decide) ?_
    refine zs_bipush (v := nI 98) dX13_wordOf_485 (by decide) ?_
    refine zs_bipush (v := nI 117) dX13_wordOf_487 (by decide) ?_
    refine zs_bipush (v := nI 114) dX13_wordOf_489 (by decide) ?_
    refine zs_bipush (v := nI 110) dX13_wordOf_491 (by decide) ?_
    refine zs_bipush (v := nI 115) dX13_wordOf_493 (by decide) ?_
    refine zs_callS (M := mX13_spelt) (As := [.int (nI 98), .int (nI 117), .int (nI 114), .int (nI 110), .int (nI 115)]) (st := []) (Kc := []) (Kr := []) [] [] dX13_wordOf_495 zl_RX13_198 kX13_spelt rfl rfl rfl rfl rfl (by decide) (show dd - 1 + 1 ≤ dd by omega) (Nat.zero_le _) (Nat.zero_le _) (Nat.le_of_ble_eq_true rfl) (s_mSpelt l (dd - 1) (nI 98) (nI 117) (nI 114) (nI 110) (nI 115)) (fun r K1 hr => ?_)
    obtain ⟨rfl, rfl⟩ := hr
    refine zs_K (K' := []) [] rfl (by decide) ?_
    exact zs_lret dX13_wordOf_498 rfl ⟨by rw [h1_27]; exact congrArg (fun q => some (Value.long q)) (by decide +kernel), rfl⟩
  refine zs_tableOut (tgt := 499) dX13_wordOf_1 (by rw [nI_t (by omega)]; omega) (by decide) ?_
  refine zs_bipush (v := nI 119) dX13_wordOf_499 (by decide) ?_
  refine zs_bipush (v := nI 97) dX13_wordOf_501 (by decide) ?_
  refine zs_bipush (v := nI 116) dX13_wordOf_503 (by decide) ?_
  refine zs_bipush (v := nI 101) dX13_wordOf_505 (by decide) ?_
  refine zs_bipush (v := nI 114) dX13_wordOf_507 (by decide) ?_
  refine zs_callS (M := mX13_spelt) (As := [.int (nI 119), .int (nI 97), .int (nI 116), .int (nI 101), .int (nI 114)]) (st := []) (Kc := []) (Kr := []) [] [] dX13_wordOf_509 zl_RX13_198 kX13_spelt rfl rfl rfl rfl rfl (by decide) (show dd - 1 + 1 ≤ dd by omega) (Nat.zero_le _) (Nat.zero_le _) (Nat.le_of_ble_eq_true rfl) (s_mSpelt l (dd - 1) (nI 119) (nI 97) (nI 116) (nI 101) (nI 114)) (fun r K1 hr => ?_)
  obtain ⟨rfl, rfl⟩ := hr
  refine zs_K (K' := []) [] rfl (by decide) ?_
  exact zs_lret dX13_wordOf_512 rfl ⟨by rw [(show k = 28 by omega)]; exact congrArg (fun q => some (Value.long q)) (by decide +kernel), rfl⟩
