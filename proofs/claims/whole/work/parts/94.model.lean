/-! ===== the reference: a thing told ===== -/
theorem mFr_fb {g g1 : Nat → Int32} {k : Nat} {t : zTk} (h : mFr [5, 6, 7, 8, 9, 13, 23, 84] g g1) : mFr [5, 6, 7, 8, 9, 10, 11, 13, 23, 84] g (mFa g1 k t) := mFr_u (mFr_u (fun j hj => h j (fun hq => hj ((by decide : ∀ x ∈ [5, 6, 7, 8, 9, 13, 23, 84], x ∈ [5, 6, 7, 8, 9, 10, 11, 13, 23, 84]) j hq))) (by decide)) (by decide)
/-- one thing and its end -/
def mTd (b : Nat → Nat) (n L : Nat) (D : zYd) (e : Nat) (τ : zTk) (tk : Nat) (P : zPl) : zPp :=
  if ¬ τ.2.2.2.2 = some 14 then (1, τ, tk, P) else
  if 20 ≤ P.1 then (4, τ, tk, P) else
  if ¬ tNu (nxt b n L τ) e 59 = 0 then (tNu (nxt b n L τ) e 59, nxt b n L τ, tk, P) else
  if ¬ (pThing b n L D (nxt b n L (nxt b n L τ)) (nxt b n L τ).2.2.2.1 (pWt P (nxt b n L τ).2.2.2.1)).1 = 0 then pThing b n L D (nxt b n L (nxt b n L τ)) (nxt b n L τ).2.2.2.1 (pWt P (nxt b n L τ).2.2.2.1) else
  if tAt (pThing b n L D (nxt b n L (nxt b n L τ)) (nxt b n L τ).2.2.2.1 (pWt P (nxt b n L τ).2.2.2.1)).2.1 59 = true then
    (0, nxt b n L (pThing b n L D (nxt b n L (nxt b n L τ)) (nxt b n L τ).2.2.2.1 (pWt P (nxt b n L τ).2.2.2.1)).2.1, (pThing b n L D (nxt b n L (nxt b n L τ)) (nxt b n L τ).2.2.2.1 (pWt P (nxt b n L τ).2.2.2.1)).2.2.1, (P.1 + 1, (pThing b n L D (nxt b n L (nxt b n L τ)) (nxt b n L τ).2.2.2.1 (pWt P (nxt b n L τ).2.2.2.1)).2.2.2.2))
  else (1, (pThing b n L D (nxt b n L (nxt b n L τ)) (nxt b n L τ).2.2.2.1 (pWt P (nxt b n L τ).2.2.2.1)).2)
section
variable {b : Nat → Nat} {n L e : Nat} {D : zYd} {τ : zTk} {tk : Nat} {P : zPl}
theorem mTd_1 (h : ¬ τ.2.2.2.2 = some 14) : mTd b n L D e τ tk P = (1, τ, tk, P) := by rw [mTd, if_pos h]
theorem mTd_4 (h : τ.2.2.2.2 = some 14) (h2 : 20 ≤ P.1) : mTd b n L D e τ tk P = (4, τ, tk, P) := by rw [mTd, if_neg (fun q => q h), if_pos h2]
theorem mTd_n (h : τ.2.2.2.2 = some 14) (h2 : ¬ 20 ≤ P.1) (h3 : ¬ tNu (nxt b n L τ) e 59 = 0) : mTd b n L D e τ tk P = (tNu (nxt b n L τ) e 59, nxt b n L τ, tk, P) := by rw [mTd, if_neg (fun q => q h), if_neg h2, if_pos h3]
theorem mTd_t (h : τ.2.2.2.2 = some 14) (h2 : ¬ 20 ≤ P.1) (h3 : tNu (nxt b n L τ) e 59 = 0) {T : zPp} (hT : pThing b n L D (nxt b n L (nxt b n L τ)) (nxt b n L τ).2.2.2.1 (pWt P (nxt b n L τ).2.2.2.1) = T) : mTd b n L D e τ tk P = if ¬ T.1 = 0 then T else if tAt T.2.1 59 = true then (0, nxt b n L T.2.1, T.2.2.1, (P.1 + 1, T.2.2.2.2)) else (1, T.2) := by
  subst hT
  rw [mTd, if_neg (fun q => q h), if_neg h2, if_neg (fun q => q h3)]
end
theorem pRk_0 {P : zPl} {f : Nat → Int32} {v kd : Nat} (hP : ∀ i, i < P.1 → P.2.2.1 i ≤ 1 → P.2.2.2.1 i ≤ 12) (h : ∀ i, i < P.1 → pE P f i) : pRk (pWk (pWt P v) kd) (upd (upd f (16 * P.1) (nI v)) (16 * P.1 + 1) (nI kd)) 0 := by
  refine ⟨fun i hi => ?_, ?_, ?_, fun j hj => absurd hj (Nat.not_lt_zero j)⟩
  · have hi : i < P.1 := hi
    exact pE_o (h i hi) (un_n (k := P.1) (by omega)).symm (un_n (k := P.1) (by omega)).symm rfl (hP i hi) (fun j hj => rfl) (fun j h1 h2 => by rw [upd_x (by omega), upd_x (by omega)])
  · show upd (upd f (16 * P.1) (nI v)) (16 * P.1 + 1) (nI kd) (16 * P.1) = nI (un P.2.1 P.1 v P.1)
    rw [un_s, upd_x (by omega)]
    exact upd_s _ _ _
  · show upd (upd f (16 * P.1) (nI v)) (16 * P.1 + 1) (nI kd) (16 * P.1 + 1) = nI (un P.2.2.1 P.1 kd P.1)
    rw [un_s]
    exact upd_s _ _ _
theorem pRk_2 {Q : zPl} {f : Nat → Int32} (h2 : Q.2.2.1 Q.1 = 2) (h : pRk Q f 0) : ∀ i, i < Q.1 + 1 → pE Q f i := fun i hi => by
  by_cases h1 : i = Q.1
  · subst h1
    exact ⟨h.2.1, h.2.2.1, fun q => absurd h2 q, fun q => by omega⟩
  · exact h.1 i (by omega)
theorem pRk_3 {Q : zPl} {f : Nat → Int32} {v : Nat} (hP : ∀ i, i < Q.1 → Q.2.2.1 i ≤ 1 → Q.2.2.2.1 i ≤ 12) (h2 : 2 < Q.2.2.1 Q.1) (h : pRk Q f 0) : ∀ i, i < Q.1 + 1 → pE (pWn Q v) (upd f (16 * Q.1 + 2) (nI v)) i := fun i hi => by
  obtain ⟨a, b, c, d⟩ := h
  by_cases h1 : i = Q.1
  · subst h1
    refine ⟨(upd_x (by omega)).trans b, (upd_x (by omega)).trans c, fun _ => ?_, fun q => by have q : Q.2.2.1 Q.1 ≤ 1 := q; omega⟩
    show upd f (16 * Q.1 + 2) (nI v) (16 * Q.1 + 2) = nI (un Q.2.2.2.1 Q.1 v Q.1)
    rw [un_s]
    exact upd_s _ _ _
  · exact pE_o (a i (by omega)) rfl rfl (un_n h1).symm (hP i (by omega)) (fun j hj => rfl) (fun j h1 h2 => upd_x (by omega))
theorem dX13_readTold_0 : decode cX13_readTold 0 = .ok (.aload_n 0, 1) := by decide +kernel
theorem dX13_readTold_1 : decode cX13_readTold 1 = .ok (.bipush 14, 2) := by decide +kernel
theorem dX13_readTold_3 : decode cX13_readTold 3 = .ok (.invokevirtual 264, 3) := by decide +kernel
theorem dX13_readTold_6 : decode cX13_readTold 6 = .ok (.ifCond .ne 9, 3) := by decide +kernel
theorem dX13_readTold_9 : decode cX13_readTold 9 = .ok (.aload_n 0, 1) := by decide +kernel
theorem dX13_readTold_10 : decode cX13_readTold 10 = .ok (.iconst 1, 1) := by decide +kernel
theorem dX13_readTold_11 : decode cX13_readTold 11 = .ok (.invokevirtual 216, 3) := by decide +kernel
theorem dX13_readTold_14 : decode cX13_readTold 14 = .ok (.ireturn, 1) := by decide +kernel
theorem dX13_readTold_15 : decode cX13_readTold 15 = .ok (.aload_n 0, 1) := by decide +kernel
theorem dX13_readTold_16 : decode cX13_readTold 16 = .ok (.getfield 491, 3) := by decide +kernel
theorem dX13_readTold_19 : decode cX13_readTold 19 = .ok (.bipush 20, 2) := by decide +kernel
theorem dX13_readTold_21 : decode cX13_readTold 21 = .ok (.if_icmp .ne 9, 3) := by decide +kernel
theorem dX13_readTold_24 : decode cX13_readTold 24 = .ok (.aload_n 0, 1) := by decide +kernel
theorem dX13_readTold_25 : decode cX13_readTold 25 = .ok (.iconst 4, 1) := by decide +kernel
theorem dX13_readTold_26 : decode cX13_readTold 26 = .ok (.invokevirtual 216, 3) := by decide +kernel
theorem dX13_readTold_29 : decode cX13_readTold 29 = .ok (.ireturn, 1) := by decide +kernel
theorem dX13_readTold_30 : decode cX13_readTold 30 = .ok (.bipush 16, 2) := by decide +kernel
theorem dX13_readTold_32 : decode cX13_readTold 32 = .ok (.aload_n 0, 1) := by decide +kernel
theorem dX13_readTold_33 : decode cX13_readTold 33 = .ok (.getfield 491, 3) := by decide +kernel
theorem dX13_readTold_36 : decode cX13_readTold 36 = .ok (.imul, 1) := by decide +kernel
theorem dX13_readTold_37 : decode cX13_readTold 37 = .ok (.istore_n 1, 1) := by decide +kernel
theorem dX13_readTold_38 : decode cX13_readTold 38 = .ok (.aload_n 0, 1) := by decide +kernel
theorem dX13_readTold_39 : decode cX13_readTold 39 = .ok (.invokevirtual 226, 3) := by decide +kernel
theorem dX13_readTold_42 : decode cX13_readTold 42 = .ok (.aload_n 0, 1) := by decide +kernel
theorem dX13_readTold_43 : decode cX13_readTold 43 = .ok (.aload_n 0, 1) := by decide +kernel
theorem dX13_readTold_44 : decode cX13_readTold 44 = .ok (.getfield 491, 3) := by decide +kernel
theorem dX13_readTold_47 : decode cX13_readTold 47 = .ok (.ifCond .ne 7, 3) := by decide +kernel
theorem dX13_readTold_50 : decode cX13_readTold 50 = .ok (.iconst 0, 1) := by decide +kernel
theorem dX13_readTold_51 : decode cX13_readTold 51 = .ok (.goto 12, 3) := by decide +kernel
theorem dX13_readTold_54 : decode cX13_readTold 54 = .ok (.aload_n 0, 1) := by decide +kernel
theorem dX13_readTold_55 : decode cX13_readTold 55 = .ok (.getfield 19, 3) := by decide +kernel
theorem dX13_readTold_58 : decode cX13_readTold 58 = .ok (.iload_n 1, 1) := by decide +kernel
theorem dX13_readTold_59 : decode cX13_readTold 59 = .ok (.bipush 16, 2) := by decide +kernel
theorem dX13_readTold_61 : decode cX13_readTold 61 = .ok (.isub, 1) := by decide +kernel
theorem dX13_readTold_62 : decode cX13_readTold 62 = .ok (.iaload, 1) := by decide +kernel
theorem dX13_readTold_63 : decode cX13_readTold 63 = .ok (.bipush 59, 2) := by decide +kernel
theorem dX13_readTold_65 : decode cX13_readTold 65 = .ok (.invokevirtual 251, 3) := by decide +kernel
theorem dX13_readTold_68 : decode cX13_readTold 68 = .ok (.ifCond .ne 5, 3) := by decide +kernel
theorem dX13_readTold_71 : decode cX13_readTold 71 = .ok (.iconst 0, 1) := by decide +kernel
theorem dX13_readTold_72 : decode cX13_readTold 72 = .ok (.ireturn, 1) := by decide +kernel
theorem dX13_readTold_73 : decode cX13_readTold 73 = .ok (.aload_n 0, 1) := by decide +kernel
theorem dX13_readTold_74 : decode cX13_readTold 74 = .ok (.getfield 19, 3) := by decide +kernel
theorem dX13_readTold_77 : decode cX13_readTold 77 = .ok (.iload_n 1, 1) := by decide +kernel
theorem dX13_readTold_78 : decode cX13_readTold 78 = .ok (.aload_n 0, 1) := by decide +kernel
theorem dX13_readTold_79 : decode cX13_readTold 79 = .ok (.getfield 223, 3) := by decide +kernel
theorem dX13_readTold_82 : decode cX13_readTold 82 = .ok (.iastore, 1) := by decide +kernel
theorem dX13_readTold_83 : decode cX13_readTold 83 = .ok (.bipush 15, 2) := by decide +kernel
theorem dX13_readTold_85 : decode cX13_readTold 85 = .ok (.istore_n 2, 1) := by decide +kernel
theorem dX13_readTold_86 : decode cX13_readTold 86 = .ok (.iload_n 2, 1) := by decide +kernel
theorem dX13_readTold_87 : decode cX13_readTold 87 = .ok (.bipush 19, 2) := by decide +kernel
theorem dX13_readTold_89 : decode cX13_readTold 89 = .ok (.if_icmp .gt 17, 3) := by decide +kernel
theorem dX13_readTold_92 : decode cX13_readTold 92 = .ok (.aload_n 0, 1) := by decide +kernel
theorem dX13_readTold_93 : decode cX13_readTold 93 = .ok (.iload_n 2, 1) := by decide +kernel
theorem dX13_readTold_94 : decode cX13_readTold 94 = .ok (.invokevirtual 264, 3) := by decide +kernel
theorem dX13_readTold_97 : decode cX13_readTold 97 = .ok (.ifCond .ne 9, 3) := by decide +kernel
theorem dX13_readTold_100 : decode cX13_readTold 100 = .ok (.iinc 2 1, 3) := by decide +kernel
theorem dX13_readTold_103 : decode cX13_readTold 103 = .ok (.goto (-17), 3) := by decide +kernel
theorem dX13_readTold_106 : decode cX13_readTold 106 = .ok (.iload_n 2, 1) := by decide +kernel
theorem dX13_readTold_107 : decode cX13_readTold 107 = .ok (.bipush 19, 2) := by decide +kernel
theorem dX13_readTold_109 : decode cX13_readTold 109 = .ok (.if_icmp .le 9, 3) := by decide +kernel
theorem dX13_readTold_112 : decode cX13_readTold 112 = .ok (.aload_n 0, 1) := by decide +kernel
theorem dX13_readTold_113 : decode cX13_readTold 113 = .ok (.iconst 1, 1) := by decide +kernel
theorem dX13_readTold_114 : decode cX13_readTold 114 = .ok (.invokevirtual 216, 3) := by decide +kernel
theorem dX13_readTold_117 : decode cX13_readTold 117 = .ok (.ireturn, 1) := by decide +kernel
theorem dX13_readTold_118 : decode cX13_readTold 118 = .ok (.aload_n 0, 1) := by decide +kernel
theorem dX13_readTold_119 : decode cX13_readTold 119 = .ok (.getfield 19, 3) := by decide +kernel
theorem dX13_readTold_122 : decode cX13_readTold 122 = .ok (.iload_n 1, 1) := by decide +kernel
theorem dX13_readTold_123 : decode cX13_readTold 123 = .ok (.iconst 1, 1) := by decide +kernel
theorem dX13_readTold_124 : decode cX13_readTold 124 = .ok (.iadd, 1) := by decide +kernel
theorem dX13_readTold_125 : decode cX13_readTold 125 = .ok (.iload_n 2, 1) := by decide +kernel
theorem dX13_readTold_126 : decode cX13_readTold 126 = .ok (.bipush 15, 2) := by decide +kernel
theorem dX13_readTold_128 : decode cX13_readTold 128 = .ok (.isub, 1) := by decide +kernel
theorem dX13_readTold_129 : decode cX13_readTold 129 = .ok (.iastore, 1) := by decide +kernel
theorem dX13_readTold_130 : decode cX13_readTold 130 = .ok (.aload_n 0, 1) := by decide +kernel
theorem dX13_readTold_131 : decode cX13_readTold 131 = .ok (.invokevirtual 226, 3) := by decide +kernel
theorem dX13_readTold_134 : decode cX13_readTold 134 = .ok (.iload_n 2, 1) := by decide +kernel
theorem dX13_readTold_135 : decode cX13_readTold 135 = .ok (.bipush 15, 2) := by decide +kernel
theorem dX13_readTold_137 : decode cX13_readTold 137 = .ok (.if_icmp .eq 9, 3) := by decide +kernel
theorem dX13_readTold_140 : decode cX13_readTold 140 = .ok (.iload_n 2, 1) := by decide +kernel
theorem dX13_readTold_141 : decode cX13_readTold 141 = .ok (.bipush 16, 2) := by decide +kernel
theorem dX13_readTold_143 : decode cX13_readTold 143 = .ok (.if_icmp .ne 24, 3) := by decide +kernel
theorem dX13_readTold_146 : decode cX13_readTold 146 = .ok (.aload_n 0, 1) := by decide +kernel
theorem dX13_readTold_147 : decode cX13_readTold 147 = .ok (.iload_n 1, 1) := by decide +kernel
theorem dX13_readTold_148 : decode cX13_readTold 148 = .ok (.iload_n 2, 1) := by decide +kernel
theorem dX13_readTold_149 : decode cX13_readTold 149 = .ok (.bipush 15, 2) := by decide +kernel
theorem dX13_readTold_151 : decode cX13_readTold 151 = .ok (.if_icmp .ne 7, 3) := by decide +kernel
theorem dX13_readTold_154 : decode cX13_readTold 154 = .ok (.iconst 2, 1) := by decide +kernel
theorem dX13_readTold_155 : decode cX13_readTold 155 = .ok (.goto 4, 3) := by decide +kernel
theorem dX13_readTold_158 : decode cX13_readTold 158 = .ok (.iconst 1, 1) := by decide +kernel
theorem dX13_readTold_159 : decode cX13_readTold 159 = .ok (.invokevirtual 494, 3) := by decide +kernel
theorem dX13_readTold_162 : decode cX13_readTold 162 = .ok (.ifCond .ne 78, 3) := by decide +kernel
theorem dX13_readTold_165 : decode cX13_readTold 165 = .ok (.iconst 0, 1) := by decide +kernel
theorem dX13_readTold_166 : decode cX13_readTold 166 = .ok (.ireturn, 1) := by decide +kernel
theorem dX13_readTold_167 : decode cX13_readTold 167 = .ok (.iload_n 2, 1) := by decide +kernel
theorem dX13_readTold_168 : decode cX13_readTold 168 = .ok (.bipush 17, 2) := by decide +kernel
theorem dX13_readTold_170 : decode cX13_readTold 170 = .ok (.if_icmp .eq 70, 3) := by decide +kernel
theorem dX13_readTold_173 : decode cX13_readTold 173 = .ok (.aload_n 0, 1) := by decide +kernel
theorem dX13_readTold_174 : decode cX13_readTold 174 = .ok (.getfield 170, 3) := by decide +kernel
theorem dX13_readTold_177 : decode cX13_readTold 177 = .ok (.iconst 3, 1) := by decide +kernel
theorem dX13_readTold_178 : decode cX13_readTold 178 = .ok (.if_icmp .eq 9, 3) := by decide +kernel
theorem dX13_readTold_181 : decode cX13_readTold 181 = .ok (.aload_n 0, 1) := by decide +kernel
theorem dX13_readTold_182 : decode cX13_readTold 182 = .ok (.iconst 1, 1) := by decide +kernel
theorem dX13_readTold_183 : decode cX13_readTold 183 = .ok (.invokevirtual 216, 3) := by decide +kernel
theorem dX13_readTold_186 : decode cX13_readTold 186 = .ok (.ireturn, 1) := by decide +kernel
theorem dX13_readTold_187 : decode cX13_readTold 187 = .ok (.iload_n 2, 1) := by decide +kernel
theorem dX13_readTold_188 : decode cX13_readTold 188 = .ok (.bipush 18, 2) := by decide +kernel
theorem dX13_readTold_190 : decode cX13_readTold 190 = .ok (.if_icmp .ne 17, 3) := by decide +kernel
theorem dX13_readTold_193 : decode cX13_readTold 193 = .ok (.aload_n 0, 1) := by decide +kernel
theorem dX13_readTold_194 : decode cX13_readTold 194 = .ok (.aload_n 0, 1) := by decide +kernel
theorem dX13_readTold_195 : decode cX13_readTold 195 = .ok (.getfield 187, 3) := by decide +kernel
theorem dX13_readTold_198 : decode cX13_readTold 198 = .ok (.invokevirtual 448, 3) := by decide +kernel
theorem dX13_readTold_201 : decode cX13_readTold 201 = .ok (.ifCond .ne 23, 3) := by decide +kernel
theorem dX13_readTold_204 : decode cX13_readTold 204 = .ok (.goto 14, 3) := by decide +kernel
theorem dX13_readTold_207 : decode cX13_readTold 207 = .ok (.aload_n 0, 1) := by decide +kernel
theorem dX13_readTold_208 : decode cX13_readTold 208 = .ok (.getfield 187, 3) := by decide +kernel
theorem dX13_readTold_211 : decode cX13_readTold 211 = .ok (.aload_n 0, 1) := by decide +kernel
theorem dX13_readTold_212 : decode cX13_readTold 212 = .ok (.invokevirtual 298, 3) := by decide +kernel
theorem dX13_readTold_215 : decode cX13_readTold 215 = .ok (.if_icmp .lt 9, 3) := by decide +kernel
theorem dX13_readTold_218 : decode cX13_readTold 218 = .ok (.aload_n 0, 1) := by decide +kernel
theorem dX13_readTold_219 : decode cX13_readTold 219 = .ok (.iconst 2, 1) := by decide +kernel
theorem dX13_readTold_220 : decode cX13_readTold 220 = .ok (.invokevirtual 216, 3) := by decide +kernel
theorem dX13_readTold_223 : decode cX13_readTold 223 = .ok (.ireturn, 1) := by decide +kernel
theorem dX13_readTold_224 : decode cX13_readTold 224 = .ok (.aload_n 0, 1) := by decide +kernel
theorem dX13_readTold_225 : decode cX13_readTold 225 = .ok (.getfield 19, 3) := by decide +kernel
theorem dX13_readTold_228 : decode cX13_readTold 228 = .ok (.iload_n 1, 1) := by decide +kernel
theorem dX13_readTold_229 : decode cX13_readTold 229 = .ok (.iconst 2, 1) := by decide +kernel
theorem dX13_readTold_230 : decode cX13_readTold 230 = .ok (.iadd, 1) := by decide +kernel
theorem dX13_readTold_231 : decode cX13_readTold 231 = .ok (.aload_n 0, 1) := by decide +kernel
theorem dX13_readTold_232 : decode cX13_readTold 232 = .ok (.getfield 187, 3) := by decide +kernel
theorem dX13_readTold_235 : decode cX13_readTold 235 = .ok (.iastore, 1) := by decide +kernel
theorem dX13_readTold_236 : decode cX13_readTold 236 = .ok (.aload_n 0, 1) := by decide +kernel
theorem dX13_readTold_237 : decode cX13_readTold 237 = .ok (.invokevirtual 226, 3) := by decide +kernel
theorem dX13_readTold_240 : decode cX13_readTold 240 = .ok (.aload_n 0, 1) := by decide +kernel
theorem dX13_readTold_241 : decode cX13_readTold 241 = .ok (.dup, 1) := by decide +kernel
theorem dX13_readTold_242 : decode cX13_readTold 242 = .ok (.getfield 491, 3) := by decide +kernel
theorem dX13_readTold_245 : decode cX13_readTold 245 = .ok (.iconst 1, 1) := by decide +kernel
theorem dX13_readTold_246 : decode cX13_readTold 246 = .ok (.iadd, 1) := by decide +kernel
theorem dX13_readTold_247 : decode cX13_readTold 247 = .ok (.putfield 491, 3) := by decide +kernel
theorem dX13_readTold_250 : decode cX13_readTold 250 = .ok (.aload_n 0, 1) := by decide +kernel
theorem dX13_readTold_251 : decode cX13_readTold 251 = .ok (.invokevirtual 279, 3) := by decide +kernel
theorem dX13_readTold_254 : decode cX13_readTold 254 = .ok (.ireturn, 1) := by decide +kernel
