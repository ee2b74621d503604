/-! ===== the reference: its tokens ===== -/
theorem zkl_RX13_194 : Cond.constantLong RX13 194 (27 : Int64) ∈ zTs := List.mem_filter.mpr ⟨by decide +kernel, by decide +kernel⟩
theorem zkl_RX13_196 : Cond.constantLong RX13 196 (96 : Int64) ∈ zTs := List.mem_filter.mpr ⟨by decide +kernel, by decide +kernel⟩
def nL (n : Nat) : Int64 := Int64.ofNat n
theorem nI_L {n : Nat} (h : n < 2147483648) : (nI n).toInt64 = nL n := by
  rw [← Int64.ofInt_int32ToInt, nI_t h]
  rfl
theorem nL_wd {x c : Nat} (hc : 97 ≤ c) : (27 : Int64) * nL x + nL c - 96 = nL (x * 27 + (c - 97 + 1)) := by
  have e : x * 27 + (c - 97 + 1) + 96 = 27 * x + c := by omega
  have h : nL (x * 27 + (c - 97 + 1)) + 96 = 27 * nL x + nL c := by
    show Int64.ofNat _ + Int64.ofNat 96 = Int64.ofNat 27 * Int64.ofNat x + Int64.ofNat c
    rw [← Int64.ofNat_mul, ← Int64.ofNat_add, ← Int64.ofNat_add, e]
  rw [← h, Int64.add_sub_cancel]
/-- the word, the number of the first k bytes -/
def mWd (b : Nat → Nat) (q : Nat) : Nat → Int64
  | 0 => 0
  | k + 1 => if k < 6 then (27 : Int64) * mWd b q k + (nI (b (q + k))).toInt64 - 96 else mWd b q k
def mNb (b : Nat → Nat) (q : Nat) : Nat → Int32
  | 0 => nI 0
  | k + 1 => if k < 8 then nI 10 * mNb b q k + nI (b (q + k)) - nI 48 else mNb b q k
/-- whether the first k bytes are like the first -/
def mGd (b : Nat → Nat) (q : Nat) : Nat → Bool
  | 0 => true
  | k + 1 => mGd b q k && (isL (b (q + k)) == isL (b q))
theorem mGd_t {b : Nat → Nat} {q : Nat} : ∀ k, mGd b q k = true → ∀ j, j < k → isL (b (q + j)) = isL (b q)
  | 0, _, j, hj => absurd hj (by omega)
  | k + 1, h, j, hj => by
    rw [mGd, Bool.and_eq_true] at h
    by_cases hjk : j = k
    · rw [hjk]; exact eq_of_beq h.2
    · exact mGd_t k h.1 j (by omega)
theorem mGd_f {b : Nat → Nat} {q : Nat} : ∀ k, mGd b q k = false → ∃ j, j < k ∧ isL (b (q + j)) ≠ isL (b q)
  | 0, h => absurd (show true = false from h) (by decide)
  | k + 1, h => by
    rw [mGd, Bool.and_eq_false_iff] at h
    rcases h with h | h
    · obtain ⟨j, hj, e⟩ := mGd_f k h
      exact ⟨j, by omega, e⟩
    · exact ⟨k, by omega, fun e => by rw [e, beq_self_eq_true] at h; exact absurd h (by decide)⟩
theorem lDg_0 {b : Nat → Nat} {q : Nat} : ∀ k, (∀ j, j < k → isL (b (q + j)) = true) → lDg b q k = 0
  | 0, _ => rfl
  | k + 1, h => by rw [lDg, if_pos (h k (by omega))]; exact lDg_0 k (fun j hj => h j (by omega))
theorem lLt_0 {b : Nat → Nat} {q : Nat} : ∀ k, (∀ j, j < k → isL (b (q + j)) = false) → lLt b q k = 0
  | 0, _ => rfl
  | k + 1, h => by rw [lLt, if_neg (by rw [h k (by omega)]; decide)]; exact lLt_0 k (fun j hj => h j (by omega))
theorem mWd_l {b : Nat → Nat} {q : Nat} : ∀ k, k ≤ 6 → (∀ j, b j < 256) → (∀ j, j < k → isL (b (q + j)) = true) → mWd b q k = nL (lSp b q k)
  | 0, _, _, _ => rfl
  | k + 1, hk, hb, h => by
    have h1 := h k (by omega)
    have hc := of_decide_eq_true (show decide (97 ≤ b (q + k) ∧ b (q + k) ≤ 122) = true from h1)
    have h2 := hb (q + k)
    rw [mWd, if_pos (by omega), lSp, if_pos h1, mWd_l k (by omega) hb (fun j hj => h j (by omega)), nI_L (by omega), nL_wd hc.1]
theorem mNb_d {b : Nat → Nat} {q : Nat} : ∀ k, k ≤ 8 → (∀ j, j < k → isL (b (q + j)) = false ∧ isD (b (q + j)) = true) → mNb b q k = nI (lNm b q k)
  | 0, _, _ => rfl
  | k + 1, hk, h => by
    have h1 := h k (by omega)
    have hc := of_decide_eq_true (show decide (48 ≤ b (q + k) ∧ b (q + k) ≤ 57) = true from h1.2)
    rw [mNb, if_pos (by omega), lNm, if_neg (by rw [h1.1]; decide), mNb_d k (by omega) (fun j hj => h j (by omega)), nI_mul, nI_add, nI_sub (by omega)]
    exact congrArg nI (by omega)
/-- the reference's token is the class's -/
def mTk (n L : Nat) (t : zTk) (g : Nat → Int32) (w : Int64) : Prop :=
  (t.1 = 0 → (L < n → g 7 = nI 1 ∧ g 6 = nI L) ∧ (n ≤ L → g 7 = nI 0 ∧ g 6 = nI n)) ∧ (¬ t.1 = 0 → g 7 = nI t.1 ∧ g 6 = nI t.2.1 ∧ g 5 = nI t.2.2.1) ∧ (t.1 = 3 → g 8 = nI t.2.2.2.1) ∧ (t.1 = 4 → g 9 = nI t.2.2.2.1) ∧ (t.1 = 2 → w = nL t.2.2.2.1)
theorem mTk_e {n L : Nat} {t : zTk} {g : Nat → Int32} {w : Int64} (h0 : t.1 = 0) (h : (L < n → g 7 = nI 1 ∧ g 6 = nI L) ∧ (n ≤ L → g 7 = nI 0 ∧ g 6 = nI n)) : mTk n L t g w := ⟨fun _ => h, fun h1 => absurd h0 h1, fun h1 => by rw [h0] at h1; exact absurd h1 (by decide), fun h1 => by rw [h0] at h1; exact absurd h1 (by decide), fun h1 => by rw [h0] at h1; exact absurd h1 (by decide)⟩
/-- what stays of the reference's numbers -/
def mFr (S : List Nat) (g g' : Nat → Int32) : Prop := ∀ j, j ∉ S → g' j = g j
theorem lSk_n {b : Nat → Nat} {n L : Nat} (hL : L ≤ n) : ∀ m p, p + m = n → (lSk b n m p < L → lSk b L (L - p) p = lSk b n m p) ∧ (L ≤ lSk b n m p → L ≤ lSk b L (L - p) p)
  | 0, p, h => by
    refine ⟨fun h1 => ?_, fun h1 => ?_⟩
    · have h1 : p < L := h1
      omega
    · have := (lSk_le (b := b) (st := L) (L - p) p).2
      omega
  | m + 1, p, h => by
    by_cases hp : p < n ∧ (b p = 32 ∨ b p = 10)
    · rw [lSk, if_pos hp]
      have ih := lSk_n (b := b) hL m (p + 1) (by omega)
      by_cases hpL : p < L
      · rw [show L - p = (L - (p + 1)) + 1 by omega, lSk, if_pos ⟨hpL, hp.2⟩]
        exact ih
      · have h2 := (lSk_le (b := b) (st := n) m (p + 1)).2
        refine ⟨fun h1 => by omega, fun _ => ?_⟩
        have := (lSk_le (b := b) (st := L) (L - p) p).2
        omega
    · rw [lSk, if_neg hp]
      refine ⟨fun h1 => ?_, fun h1 => ?_⟩
      · rw [show L - p = (L - (p + 1)) + 1 by omega, lSk, if_neg (fun z => hp ⟨by omega, z.2⟩)]
      · have := (lSk_le (b := b) (st := L) (L - p) p).2
        omega
theorem dX13_byteAt_0 : decode cX13_byteAt 0 = .ok (.iload_n 1, 1) := by decide +kernel
theorem dX13_byteAt_1 : decode cX13_byteAt 1 = .ok (.aload_n 0, 1) := by decide +kernel
theorem dX13_byteAt_2 : decode cX13_byteAt 2 = .ok (.getfield 158, 3) := by decide +kernel
theorem dX13_byteAt_5 : decode cX13_byteAt 5 = .ok (.if_icmp .ge 12, 3) := by decide +kernel
theorem dX13_byteAt_8 : decode cX13_byteAt 8 = .ok (.aload_n 0, 1) := by decide +kernel
theorem dX13_byteAt_9 : decode cX13_byteAt 9 = .ok (.getfield 7, 3) := by decide +kernel
theorem dX13_byteAt_12 : decode cX13_byteAt 12 = .ok (.iload_n 1, 1) := by decide +kernel
theorem dX13_byteAt_13 : decode cX13_byteAt 13 = .ok (.iaload, 1) := by decide +kernel
theorem dX13_byteAt_14 : decode cX13_byteAt 14 = .ok (.goto 4, 3) := by decide +kernel
theorem dX13_byteAt_17 : decode cX13_byteAt 17 = .ok (.iconst 0, 1) := by decide +kernel
theorem dX13_byteAt_18 : decode cX13_byteAt 18 = .ok (.ireturn, 1) := by decide +kernel
def mBy (b : Nat → Nat) (n x : Nat) : Nat := if x < n then b x else 0
theorem mBy_lt {b : Nat → Nat} {n x : Nat} (h : ∀ j, b j < 256) : mBy b n x < 256 := by
  unfold mBy
  split
  · exact h x
  · decide
set_option maxRecDepth 100000 in
theorem s_mByteAt (l : Launch) (dd : Nat) (mo : Nat) (e : Nat → Nat) (g : Nat → Int32) (w : Int64) (n x : Nat) (bt : Nat → Nat) (hn : n ≤ 740) (hx : x ≤ 740) (h3 : g 3 = nI n) : zSp l mX13_byteAt dd 0 0 [.ref mo, .int (nI x)] [(mo, .inr (11, fMo e g w)), ((e 1), .inl (0, 740, .inl (nF bt)))] (fun r K' => r = some (.int (nI (mBy bt n x))) ∧ K' = [(mo, .inr (11, fMo e g w))] ++ [((e 1), .inl (0, 740, .inl (nF bt)))]) := by
  refine zSp.of (by decide) (Nat.le_of_ble_eq_true rfl) (fun h0 => ?_)
  show zS _ 0 0 0 [(0, .ref mo), (1, .int (nI x))] [] [(mo, .inr (11, fMo e g w)), ((e 1), .inl (0, 740, .inl (nF bt)))]
  refine zs_iload_n dX13_byteAt_0 rfl ?_
  refine zs_aload_n dX13_byteAt_1 rfl rfl ?_
  refine zs_get 0 dX13_byteAt_2 zf_RX13_158 rfl (v := .int (g 3)) rfl ?_
  refine zs_as (y := nI n) h3 ?_
  refine zs_icmp_ge (tgt := 17) dX13_byteAt_5 (by decide) (fun c_1 => ?_) (fun c_1 => ?_)
  · have c_1 : n ≤ x := by have hc := c_1; rw [nI_le' (by omega) (by omega)] at hc; exact hc
    refine zs_iconst (v := nI 0) dX13_byteAt_17 (by decide) ?_
    exact zs_iret dX13_byteAt_18 rfl ⟨by rw [mBy, if_neg (show ¬ x < n by omega)] <;> rfl, rfl⟩
  · have c_1 : ¬ (n ≤ x) := by have hc := c_1; rw [nI_le' (by omega) (by omega)] at hc; exact hc
    refine zs_aload_n dX13_byteAt_8 rfl rfl ?_
    refine zs_get 0 dX13_byteAt_9 zf_RX13_7 rfl (v := .ref (e 1)) rfl ?_
    refine zs_iload_n dX13_byteAt_12 rfl ?_
    refine zs_iald 1 dX13_byteAt_13 rfl (vp_in_nI (by omega) (by omega)) ?_
    refine zs_as (y := nI (bt x)) (by rw [nI_c (n := x) (by omega)]; rfl) ?_
    refine zs_goto (tgt := 18) dX13_byteAt_14 (by decide) ?_
    exact zs_iret dX13_byteAt_18 rfl ⟨by rw [mBy, if_pos (show x < n by omega)] <;> rfl, rfl⟩
theorem dX13_go_0 : decode cX13_go 0 = .ok (.aload_n 0, 1) := by decide +kernel
theorem dX13_go_1 : decode cX13_go 1 = .ok (.getfield 161, 3) := by decide +kernel
theorem dX13_go_4 : decode cX13_go 4 = .ok (.aload_n 0, 1) := by decide +kernel
theorem dX13_go_5 : decode cX13_go 5 = .ok (.getfield 158, 3) := by decide +kernel
theorem dX13_go_8 : decode cX13_go 8 = .ok (.if_icmp .ge 44, 3) := by decide +kernel
theorem dX13_go_11 : decode cX13_go 11 = .ok (.aload_n 0, 1) := by decide +kernel
theorem dX13_go_12 : decode cX13_go 12 = .ok (.getfield 7, 3) := by decide +kernel
theorem dX13_go_15 : decode cX13_go 15 = .ok (.aload_n 0, 1) := by decide +kernel
theorem dX13_go_16 : decode cX13_go 16 = .ok (.getfield 161, 3) := by decide +kernel
theorem dX13_go_19 : decode cX13_go 19 = .ok (.iaload, 1) := by decide +kernel
theorem dX13_go_20 : decode cX13_go 20 = .ok (.bipush 32, 2) := by decide +kernel
theorem dX13_go_22 : decode cX13_go 22 = .ok (.if_icmp .eq 17, 3) := by decide +kernel
theorem dX13_go_25 : decode cX13_go 25 = .ok (.aload_n 0, 1) := by decide +kernel
theorem dX13_go_26 : decode cX13_go 26 = .ok (.getfield 7, 3) := by decide +kernel
theorem dX13_go_29 : decode cX13_go 29 = .ok (.aload_n 0, 1) := by decide +kernel
theorem dX13_go_30 : decode cX13_go 30 = .ok (.getfield 161, 3) := by decide +kernel
theorem dX13_go_33 : decode cX13_go 33 = .ok (.iaload, 1) := by decide +kernel
theorem dX13_go_34 : decode cX13_go 34 = .ok (.bipush 10, 2) := by decide +kernel
theorem dX13_go_36 : decode cX13_go 36 = .ok (.if_icmp .ne 16, 3) := by decide +kernel
theorem dX13_go_39 : decode cX13_go 39 = .ok (.aload_n 0, 1) := by decide +kernel
theorem dX13_go_40 : decode cX13_go 40 = .ok (.dup, 1) := by decide +kernel
theorem dX13_go_41 : decode cX13_go 41 = .ok (.getfield 161, 3) := by decide +kernel
theorem dX13_go_44 : decode cX13_go 44 = .ok (.iconst 1, 1) := by decide +kernel
theorem dX13_go_45 : decode cX13_go 45 = .ok (.iadd, 1) := by decide +kernel
theorem dX13_go_46 : decode cX13_go 46 = .ok (.putfield 161, 3) := by decide +kernel
theorem dX13_go_49 : decode cX13_go 49 = .ok (.goto (-49), 3) := by decide +kernel
theorem dX13_go_52 : decode cX13_go 52 = .ok (.aload_n 0, 1) := by decide +kernel
theorem dX13_go_53 : decode cX13_go 53 = .ok (.aload_n 0, 1) := by decide +kernel
theorem dX13_go_54 : decode cX13_go 54 = .ok (.getfield 161, 3) := by decide +kernel
theorem dX13_go_57 : decode cX13_go 57 = .ok (.putfield 164, 3) := by decide +kernel
theorem dX13_go_60 : decode cX13_go 60 = .ok (.aload_n 0, 1) := by decide +kernel
theorem dX13_go_61 : decode cX13_go 61 = .ok (.getfield 158, 3) := by decide +kernel
theorem dX13_go_64 : decode cX13_go 64 = .ok (.aload_n 0, 1) := by decide +kernel
theorem dX13_go_65 : decode cX13_go 65 = .ok (.getfield 167, 3) := by decide +kernel
theorem dX13_go_68 : decode cX13_go 68 = .ok (.if_icmp .le 28, 3) := by decide +kernel
theorem dX13_go_71 : decode cX13_go 71 = .ok (.aload_n 0, 1) := by decide +kernel
theorem dX13_go_72 : decode cX13_go 72 = .ok (.getfield 164, 3) := by decide +kernel
theorem dX13_go_75 : decode cX13_go 75 = .ok (.aload_n 0, 1) := by decide +kernel
theorem dX13_go_76 : decode cX13_go 76 = .ok (.getfield 167, 3) := by decide +kernel
theorem dX13_go_79 : decode cX13_go 79 = .ok (.if_icmp .lt 17, 3) := by decide +kernel
theorem dX13_go_82 : decode cX13_go 82 = .ok (.aload_n 0, 1) := by decide +kernel
theorem dX13_go_83 : decode cX13_go 83 = .ok (.aload_n 0, 1) := by decide +kernel
theorem dX13_go_84 : decode cX13_go 84 = .ok (.getfield 167, 3) := by decide +kernel
theorem dX13_go_87 : decode cX13_go 87 = .ok (.putfield 164, 3) := by decide +kernel
theorem dX13_go_90 : decode cX13_go 90 = .ok (.aload_n 0, 1) := by decide +kernel
theorem dX13_go_91 : decode cX13_go 91 = .ok (.iconst 1, 1) := by decide +kernel
theorem dX13_go_92 : decode cX13_go 92 = .ok (.putfield 170, 3) := by decide +kernel
theorem dX13_go_95 : decode cX13_go 95 = .ok (.return_, 1) := by decide +kernel
theorem dX13_go_96 : decode cX13_go 96 = .ok (.aload_n 0, 1) := by decide +kernel
theorem dX13_go_97 : decode cX13_go 97 = .ok (.getfield 161, 3) := by decide +kernel
theorem dX13_go_100 : decode cX13_go 100 = .ok (.aload_n 0, 1) := by decide +kernel
theorem dX13_go_101 : decode cX13_go 101 = .ok (.getfield 158, 3) := by decide +kernel
theorem dX13_go_104 : decode cX13_go 104 = .ok (.if_icmp .lt 9, 3) := by decide +kernel
theorem dX13_go_107 : decode cX13_go 107 = .ok (.aload_n 0, 1) := by decide +kernel
theorem dX13_go_108 : decode cX13_go 108 = .ok (.iconst 0, 1) := by decide +kernel
theorem dX13_go_109 : decode cX13_go 109 = .ok (.putfield 170, 3) := by decide +kernel
theorem dX13_go_112 : decode cX13_go 112 = .ok (.return_, 1) := by decide +kernel
theorem dX13_go_113 : decode cX13_go 113 = .ok (.aload_n 0, 1) := by decide +kernel
theorem dX13_go_114 : decode cX13_go 114 = .ok (.getfield 7, 3) := by decide +kernel
theorem dX13_go_117 : decode cX13_go 117 = .ok (.aload_n 0, 1) := by decide +kernel
theorem dX13_go_118 : decode cX13_go 118 = .ok (.getfield 161, 3) := by decide +kernel
theorem dX13_go_121 : decode cX13_go 121 = .ok (.iaload, 1) := by decide +kernel
theorem dX13_go_122 : decode cX13_go 122 = .ok (.istore_n 1, 1) := by decide +kernel
theorem dX13_go_123 : decode cX13_go 123 = .ok (.iload_n 1, 1) := by decide +kernel
theorem dX13_go_124 : decode cX13_go 124 = .ok (.invokestatic 173, 3) := by decide +kernel
theorem dX13_go_127 : decode cX13_go 127 = .ok (.ifCond .ne 71, 3) := by decide +kernel
theorem dX13_go_130 : decode cX13_go 130 = .ok (.iload_n 1, 1) := by decide +kernel
theorem dX13_go_131 : decode cX13_go 131 = .ok (.invokestatic 177, 3) := by decide +kernel
theorem dX13_go_134 : decode cX13_go 134 = .ok (.ifCond .ne 64, 3) := by decide +kernel
theorem dX13_go_137 : decode cX13_go 137 = .ok (.aload_n 0, 1) := by decide +kernel
theorem dX13_go_138 : decode cX13_go 138 = .ok (.iload_n 1, 1) := by decide +kernel
theorem dX13_go_139 : decode cX13_go 139 = .ok (.bipush 59, 2) := by decide +kernel
theorem dX13_go_141 : decode cX13_go 141 = .ok (.if_icmp .eq 33, 3) := by decide +kernel
theorem dX13_go_144 : decode cX13_go 144 = .ok (.iload_n 1, 1) := by decide +kernel
theorem dX13_go_145 : decode cX13_go 145 = .ok (.bipush 60, 2) := by decide +kernel
theorem dX13_go_147 : decode cX13_go 147 = .ok (.if_icmp .eq 27, 3) := by decide +kernel
theorem dX13_go_150 : decode cX13_go 150 = .ok (.iload_n 1, 1) := by decide +kernel
theorem dX13_go_151 : decode cX13_go 151 = .ok (.bipush 61, 2) := by decide +kernel
theorem dX13_go_153 : decode cX13_go 153 = .ok (.if_icmp .eq 21, 3) := by decide +kernel
theorem dX13_go_156 : decode cX13_go 156 = .ok (.iload_n 1, 1) := by decide +kernel
theorem dX13_go_157 : decode cX13_go 157 = .ok (.bipush 62, 2) := by decide +kernel
theorem dX13_go_159 : decode cX13_go 159 = .ok (.if_icmp .eq 15, 3) := by decide +kernel
theorem dX13_go_162 : decode cX13_go 162 = .ok (.iload_n 1, 1) := by decide +kernel
theorem dX13_go_163 : decode cX13_go 163 = .ok (.bipush 40, 2) := by decide +kernel
theorem dX13_go_165 : decode cX13_go 165 = .ok (.if_icmp .eq 9, 3) := by decide +kernel
theorem dX13_go_168 : decode cX13_go 168 = .ok (.iload_n 1, 1) := by decide +kernel
theorem dX13_go_169 : decode cX13_go 169 = .ok (.bipush 41, 2) := by decide +kernel
theorem dX13_go_171 : decode cX13_go 171 = .ok (.if_icmp .ne 7, 3) := by decide +kernel
theorem dX13_go_174 : decode cX13_go 174 = .ok (.iconst 4, 1) := by decide +kernel
theorem dX13_go_175 : decode cX13_go 175 = .ok (.goto 4, 3) := by decide +kernel
theorem dX13_go_178 : decode cX13_go 178 = .ok (.iconst 1, 1) := by decide +kernel
theorem dX13_go_179 : decode cX13_go 179 = .ok (.putfield 170, 3) := by decide +kernel
theorem dX13_go_182 : decode cX13_go 182 = .ok (.aload_n 0, 1) := by decide +kernel
theorem dX13_go_183 : decode cX13_go 183 = .ok (.iload_n 1, 1) := by decide +kernel
theorem dX13_go_184 : decode cX13_go 184 = .ok (.putfield 180, 3) := by decide +kernel
theorem dX13_go_187 : decode cX13_go 187 = .ok (.aload_n 0, 1) := by decide +kernel
theorem dX13_go_188 : decode cX13_go 188 = .ok (.dup, 1) := by decide +kernel
theorem dX13_go_189 : decode cX13_go 189 = .ok (.getfield 161, 3) := by decide +kernel
theorem dX13_go_192 : decode cX13_go 192 = .ok (.iconst 1, 1) := by decide +kernel
theorem dX13_go_193 : decode cX13_go 193 = .ok (.iadd, 1) := by decide +kernel
theorem dX13_go_194 : decode cX13_go 194 = .ok (.putfield 161, 3) := by decide +kernel
theorem dX13_go_197 : decode cX13_go 197 = .ok (.return_, 1) := by decide +kernel
theorem dX13_go_198 : decode cX13_go 198 = .ok (.iload_n 1, 1) := by decide +kernel
theorem dX13_go_199 : decode cX13_go 199 = .ok (.invokestatic 173, 3) := by decide +kernel
theorem dX13_go_202 : decode cX13_go 202 = .ok (.istore_n 2, 1) := by decide +kernel
theorem dX13_go_203 : decode cX13_go 203 = .ok (.iconst 1, 1) := by decide +kernel
theorem dX13_go_204 : decode cX13_go 204 = .ok (.istore_n 3, 1) := by decide +kernel
theorem dX13_go_205 : decode cX13_go 205 = .ok (.aload_n 0, 1) := by decide +kernel
theorem dX13_go_206 : decode cX13_go 206 = .ok (.lconst 0, 1) := by decide +kernel
theorem dX13_go_207 : decode cX13_go 207 = .ok (.putfield 183, 3) := by decide +kernel
theorem dX13_go_210 : decode cX13_go 210 = .ok (.aload_n 0, 1) := by decide +kernel
theorem dX13_go_211 : decode cX13_go 211 = .ok (.iconst 0, 1) := by decide +kernel
theorem dX13_go_212 : decode cX13_go 212 = .ok (.putfield 187, 3) := by decide +kernel
theorem dX13_go_215 : decode cX13_go 215 = .ok (.aload_n 0, 1) := by decide +kernel
theorem dX13_go_216 : decode cX13_go 216 = .ok (.aload_n 0, 1) := by decide +kernel
theorem dX13_go_217 : decode cX13_go 217 = .ok (.getfield 161, 3) := by decide +kernel
theorem dX13_go_220 : decode cX13_go 220 = .ok (.invokevirtual 190, 3) := by decide +kernel
theorem dX13_go_223 : decode cX13_go 223 = .ok (.invokestatic 173, 3) := by decide +kernel
theorem dX13_go_226 : decode cX13_go 226 = .ok (.ifCond .ne 17, 3) := by decide +kernel
theorem dX13_go_229 : decode cX13_go 229 = .ok (.aload_n 0, 1) := by decide +kernel
theorem dX13_go_230 : decode cX13_go 230 = .ok (.aload_n 0, 1) := by decide +kernel
theorem dX13_go_231 : decode cX13_go 231 = .ok (.getfield 161, 3) := by decide +kernel
theorem dX13_go_234 : decode cX13_go 234 = .ok (.invokevirtual 190, 3) := by decide +kernel
theorem dX13_go_237 : decode cX13_go 237 = .ok (.invokestatic 177, 3) := by decide +kernel
theorem dX13_go_240 : decode cX13_go 240 = .ok (.ifCond .eq 111, 3) := by decide +kernel
theorem dX13_go_243 : decode cX13_go 243 = .ok (.aload_n 0, 1) := by decide +kernel
theorem dX13_go_244 : decode cX13_go 244 = .ok (.getfield 7, 3) := by decide +kernel
theorem dX13_go_247 : decode cX13_go 247 = .ok (.aload_n 0, 1) := by decide +kernel
theorem dX13_go_248 : decode cX13_go 248 = .ok (.getfield 161, 3) := by decide +kernel
theorem dX13_go_251 : decode cX13_go 251 = .ok (.iaload, 1) := by decide +kernel
theorem dX13_go_252 : decode cX13_go 252 = .ok (.istore 4, 2) := by decide +kernel
theorem dX13_go_254 : decode cX13_go 254 = .ok (.iload_n 3, 1) := by decide +kernel
theorem dX13_go_255 : decode cX13_go 255 = .ok (.ifCond .eq 16, 3) := by decide +kernel
theorem dX13_go_258 : decode cX13_go 258 = .ok (.iload 4, 2) := by decide +kernel
theorem dX13_go_260 : decode cX13_go 260 = .ok (.invokestatic 173, 3) := by decide +kernel
theorem dX13_go_263 : decode cX13_go 263 = .ok (.iload_n 2, 1) := by decide +kernel
theorem dX13_go_264 : decode cX13_go 264 = .ok (.if_icmp .ne 7, 3) := by decide +kernel
theorem dX13_go_267 : decode cX13_go 267 = .ok (.iconst 1, 1) := by decide +kernel
theorem dX13_go_268 : decode cX13_go 268 = .ok (.goto 4, 3) := by decide +kernel
theorem dX13_go_271 : decode cX13_go 271 = .ok (.iconst 0, 1) := by decide +kernel
theorem dX13_go_272 : decode cX13_go 272 = .ok (.istore_n 3, 1) := by decide +kernel
theorem dX13_go_273 : decode cX13_go 273 = .ok (.aload_n 0, 1) := by decide +kernel
theorem dX13_go_274 : decode cX13_go 274 = .ok (.getfield 161, 3) := by decide +kernel
theorem dX13_go_277 : decode cX13_go 277 = .ok (.aload_n 0, 1) := by decide +kernel
theorem dX13_go_278 : decode cX13_go 278 = .ok (.getfield 164, 3) := by decide +kernel
theorem dX13_go_281 : decode cX13_go 281 = .ok (.isub, 1) := by decide +kernel
theorem dX13_go_282 : decode cX13_go 282 = .ok (.bipush 6, 2) := by decide +kernel
theorem dX13_go_284 : decode cX13_go 284 = .ok (.if_icmp .ge 23, 3) := by decide +kernel
theorem dX13_go_287 : decode cX13_go 287 = .ok (.aload_n 0, 1) := by decide +kernel
theorem dX13_go_288 : decode cX13_go 288 = .ok (.ldc2_w 194, 3) := by decide +kernel
theorem dX13_go_291 : decode cX13_go 291 = .ok (.aload_n 0, 1) := by decide +kernel
theorem dX13_go_292 : decode cX13_go 292 = .ok (.getfield 183, 3) := by decide +kernel
theorem dX13_go_295 : decode cX13_go 295 = .ok (.lmul, 1) := by decide +kernel
theorem dX13_go_296 : decode cX13_go 296 = .ok (.iload 4, 2) := by decide +kernel
theorem dX13_go_298 : decode cX13_go 298 = .ok (.i2l, 1) := by decide +kernel
theorem dX13_go_299 : decode cX13_go 299 = .ok (.ladd, 1) := by decide +kernel
theorem dX13_go_300 : decode cX13_go 300 = .ok (.ldc2_w 196, 3) := by decide +kernel
theorem dX13_go_303 : decode cX13_go 303 = .ok (.lsub, 1) := by decide +kernel
theorem dX13_go_304 : decode cX13_go 304 = .ok (.putfield 183, 3) := by decide +kernel
theorem dX13_go_307 : decode cX13_go 307 = .ok (.aload_n 0, 1) := by decide +kernel
theorem dX13_go_308 : decode cX13_go 308 = .ok (.getfield 161, 3) := by decide +kernel
theorem dX13_go_311 : decode cX13_go 311 = .ok (.aload_n 0, 1) := by decide +kernel
theorem dX13_go_312 : decode cX13_go 312 = .ok (.getfield 164, 3) := by decide +kernel
theorem dX13_go_315 : decode cX13_go 315 = .ok (.isub, 1) := by decide +kernel
theorem dX13_go_316 : decode cX13_go 316 = .ok (.bipush 8, 2) := by decide +kernel
theorem dX13_go_318 : decode cX13_go 318 = .ok (.if_icmp .ge 20, 3) := by decide +kernel
theorem dX13_go_321 : decode cX13_go 321 = .ok (.aload_n 0, 1) := by decide +kernel
theorem dX13_go_322 : decode cX13_go 322 = .ok (.bipush 10, 2) := by decide +kernel
theorem dX13_go_324 : decode cX13_go 324 = .ok (.aload_n 0, 1) := by decide +kernel
theorem dX13_go_325 : decode cX13_go 325 = .ok (.getfield 187, 3) := by decide +kernel
theorem dX13_go_328 : decode cX13_go 328 = .ok (.imul, 1) := by decide +kernel
theorem dX13_go_329 : decode cX13_go 329 = .ok (.iload 4, 2) := by decide +kernel
theorem dX13_go_331 : decode cX13_go 331 = .ok (.iadd, 1) := by decide +kernel
theorem dX13_go_332 : decode cX13_go 332 = .ok (.bipush 48, 2) := by decide +kernel
theorem dX13_go_334 : decode cX13_go 334 = .ok (.isub, 1) := by decide +kernel
theorem dX13_go_335 : decode cX13_go 335 = .ok (.putfield 187, 3) := by decide +kernel
theorem dX13_go_338 : decode cX13_go 338 = .ok (.aload_n 0, 1) := by decide +kernel
theorem dX13_go_339 : decode cX13_go 339 = .ok (.dup, 1) := by decide +kernel
theorem dX13_go_340 : decode cX13_go 340 = .ok (.getfield 161, 3) := by decide +kernel
theorem dX13_go_343 : decode cX13_go 343 = .ok (.iconst 1, 1) := by decide +kernel
theorem dX13_go_344 : decode cX13_go 344 = .ok (.iadd, 1) := by decide +kernel
theorem dX13_go_345 : decode cX13_go 345 = .ok (.putfield 161, 3) := by decide +kernel
theorem dX13_go_348 : decode cX13_go 348 = .ok (.goto (-133), 3) := by decide +kernel
theorem dX13_go_351 : decode cX13_go 351 = .ok (.aload_n 0, 1) := by decide +kernel
theorem dX13_go_352 : decode cX13_go 352 = .ok (.iload_n 3, 1) := by decide +kernel
theorem dX13_go_353 : decode cX13_go 353 = .ok (.ifCond .eq 26, 3) := by decide +kernel
theorem dX13_go_356 : decode cX13_go 356 = .ok (.aload_n 0, 1) := by decide +kernel
theorem dX13_go_357 : decode cX13_go 357 = .ok (.getfield 161, 3) := by decide +kernel
theorem dX13_go_360 : decode cX13_go 360 = .ok (.aload_n 0, 1) := by decide +kernel
theorem dX13_go_361 : decode cX13_go 361 = .ok (.getfield 164, 3) := by decide +kernel
theorem dX13_go_364 : decode cX13_go 364 = .ok (.isub, 1) := by decide +kernel
theorem dX13_go_365 : decode cX13_go 365 = .ok (.iload_n 2, 1) := by decide +kernel
theorem dX13_go_366 : decode cX13_go 366 = .ok (.ifCond .eq 8, 3) := by decide +kernel
theorem dX13_go_369 : decode cX13_go 369 = .ok (.bipush 6, 2) := by decide +kernel
theorem dX13_go_371 : decode cX13_go 371 = .ok (.goto 5, 3) := by decide +kernel
theorem dX13_go_374 : decode cX13_go 374 = .ok (.bipush 8, 2) := by decide +kernel
theorem dX13_go_376 : decode cX13_go 376 = .ok (.if_icmp .le 7, 3) := by decide +kernel
theorem dX13_go_379 : decode cX13_go 379 = .ok (.iconst 1, 1) := by decide +kernel
theorem dX13_go_380 : decode cX13_go 380 = .ok (.goto 12, 3) := by decide +kernel
theorem dX13_go_383 : decode cX13_go 383 = .ok (.iload_n 2, 1) := by decide +kernel
theorem dX13_go_384 : decode cX13_go 384 = .ok (.ifCond .eq 7, 3) := by decide +kernel
theorem dX13_go_387 : decode cX13_go 387 = .ok (.iconst 2, 1) := by decide +kernel
theorem dX13_go_388 : decode cX13_go 388 = .ok (.goto 4, 3) := by decide +kernel
theorem dX13_go_391 : decode cX13_go 391 = .ok (.iconst 3, 1) := by decide +kernel
theorem dX13_go_392 : decode cX13_go 392 = .ok (.putfield 170, 3) := by decide +kernel
theorem dX13_go_395 : decode cX13_go 395 = .ok (.return_, 1) := by decide +kernel
set_option maxRecDepth 100000 in
theorem lp_mskip {l : Launch} {dd : Nat} {Po : zPo} {K0 : zK} {h0 : List va_E} {Xo : zK → Prop} {Gc : zG → Prop} (mo : Nat) (e : Nat → Nat) (g : Nat → Int32) (w : Int64) (n L : Nat) (bt : Nat → Nat) (hd : 1 ≤ dd) (hn : n ≤ 740) (hL : L ≤ 740) (hbt : ∀ j, bt j < 256) (h3 : g 3 = nI n) (h4 : g 4 = nI L) (Q : Nat) (hk : zS (l, mX13_go, dd, Po, K0, h0, Xo, Gc) 0 0 52 [(0, .ref mo)] [] [(mo, .inr (11, fMo e (upd g 5 (nI Q)) w)), ((e 1), .inl (0, 740, .inl (nF bt)))]) : ∀ (m p : Nat), p + m = n → lSk bt n m p = Q → zS (l, mX13_go, dd, Po, K0, h0, Xo, Gc) 0 0 0 [(0, .ref mo)] [] [(mo, .inr (11, fMo e (upd g 5 (nI p)) w)), ((e 1), .inl (0, 740, .inl (nF bt)))] := by
  intro m
  induction m with
  | zero =>
    intro p hp hQ
    refine zs_aload_n dX13_go_0 rfl rfl ?_
    refine zs_get 0 dX13_go_1 zf_RX13_161 rfl (v := .int (nI p)) rfl ?_
    refine zs_aload_n dX13_go_4 rfl rfl ?_
    refine zs_get 0 dX13_go_5 zf_RX13_158 rfl (v := .int (g 3)) rfl ?_
    refine zs_as (y := nI n) h3 ?_
    refine zs_icmp_ge (tgt := 52) dX13_go_8 (by decide) (fun c_1 => ?_) (fun c_1 => (c_1 (by rw [nI_le' (by omega) (by omega)]; omega) : False).elim)
    refine zs_lv [0] rfl ?_
    rw [show p = Q from hQ]
    exact hk
  | succ m ih =>
    intro p hp hQ
    refine zs_aload_n dX13_go_0 rfl rfl ?_
    refine zs_get 0 dX13_go_1 zf_RX13_161 rfl (v := .int (nI p)) rfl ?_
    refine zs_aload_n dX13_go_4 rfl rfl ?_
    refine zs_get 0 dX13_go_5 zf_RX13_158 rfl (v := .int (g 3)) rfl ?_
    refine zs_as (y := nI n) h3 ?_
    refine zs_icmp_ge (tgt := 52) dX13_go_8 (by decide) (fun c_1 => ?_) (fun c_1 => ?_)
    · have c_1 : n ≤ p := by have hc := c_1; rw [nI_le' (by omega) (by omega)] at hc; exact hc
      refine zs_lv [0] rfl ?_
      rw [show p = Q by rw [← hQ, lSk, if_neg (fun h => by have h1 := h.1; have h2 := h.2; omega)]]
      exact hk
    · have c_1 : ¬ (n ≤ p) := by have hc := c_1; rw [nI_le' (by omega) (by omega)] at hc; exact hc
      have hb := hbt p
      refine zs_aload_n dX13_go_11 rfl rfl ?_
      refine zs_get 0 dX13_go_12 zf_RX13_7 rfl (v := .ref (e 1)) rfl ?_
      refine zs_aload_n dX13_go_15 rfl rfl ?_
      refine zs_get 0 dX13_go_16 zf_RX13_161 rfl (v := .int (nI p)) rfl ?_
      refine zs_iald 1 dX13_go_19 rfl (vp_in_nI (by omega) (by omega)) ?_
      refine zs_as (y := nI (bt p)) (by rw [nI_c (n := p) (by omega)]; rfl) ?_
      refine zs_bipush (v := nI 32) dX13_go_20 (by decide) ?_
      refine zs_icmp_eq (tgt := 39) dX13_go_22 (by decide) (fun c_2 => ?_) (fun c_2 => ?_)
      · have c_2 : (bt p) = 32 := by have hc := c_2; rw [nI_eq' (by omega) (by omega)] at hc; exact hc
        refine zs_aload_n dX13_go_39 rfl rfl ?_
        refine zs_dup dX13_go_40 rfl ?_
        refine zs_get 0 dX13_go_41 zf_RX13_161 rfl (v := .int (nI p)) rfl ?_
        refine zs_iconst (v := nI 1) dX13_go_44 (by decide) ?_
        refine zs_iadd dX13_go_45 ?_
        refine zs_as (y := nI (p + 1)) (nI_add _ _) ?_
        refine zs_put 0 dX13_go_46 zf_RX13_161 rfl (Nat.le_of_ble_eq_true rfl) (zPv_i _) ?_
        show zS _ _ _ _ _ _ [(mo, .inr (11, fMo e (upd g 5 (nI (p + 1))) w)), ((e 1), .inl (0, 740, .inl (nF bt)))]
        refine zs_goto (tgt := 0) dX13_go_49 (by decide) ?_
        refine zs_lv [0] rfl ?_
        exact ih (p + 1) (by omega) (by rw [← hQ, lSk, if_pos ⟨by omega, Or.inl c_2⟩])
      · have c_2 : ¬ ((bt p) = 32) := by have hc := c_2; rw [nI_eq' (by omega) (by omega)] at hc; exact hc
        refine zs_aload_n dX13_go_25 rfl rfl ?_
        refine zs_get 0 dX13_go_26 zf_RX13_7 rfl (v := .ref (e 1)) rfl ?_
        refine zs_aload_n dX13_go_29 rfl rfl ?_
        refine zs_get 0 dX13_go_30 zf_RX13_161 rfl (v := .int (nI p)) rfl ?_
        refine zs_iald 1 dX13_go_33 rfl (vp_in_nI (by omega) (by omega)) ?_
        refine zs_as (y := nI (bt p)) (by rw [nI_c (n := p) (by omega)]; rfl) ?_
        refine zs_bipush (v := nI 10) dX13_go_34 (by decide) ?_
        refine zs_icmp_ne (tgt := 52) dX13_go_36 (by decide) (fun c_3 => ?_) (fun c_3 => ?_)
        · have c_3 : ¬ ((bt p) = 10) := by have hc := c_3; rw [nI_eq' (by omega) (by omega)] at hc; exact hc
          refine zs_lv [0] rfl ?_
          rw [show p = Q by rw [← hQ, lSk, if_neg (fun h => by have h1 := h.1; have h2 := h.2; omega)]]
          exact hk
        · have c_3 : (bt p) = 10 := by have hc := c_3; rw [nI_eq' (by omega) (by omega)] at hc; exact hc
          refine zs_aload_n dX13_go_39 rfl rfl ?_
          refine zs_dup dX13_go_40 rfl ?_
          refine zs_get 0 dX13_go_41 zf_RX13_161 rfl (v := .int (nI p)) rfl ?_
          refine zs_iconst (v := nI 1) dX13_go_44 (by decide) ?_
          refine zs_iadd dX13_go_45 ?_
          refine zs_as (y := nI (p + 1)) (nI_add _ _) ?_
          refine zs_put 0 dX13_go_46 zf_RX13_161 rfl (Nat.le_of_ble_eq_true rfl) (zPv_i _) ?_
          show zS _ _ _ _ _ _ [(mo, .inr (11, fMo e (upd g 5 (nI (p + 1))) w)), ((e 1), .inl (0, 740, .inl (nF bt)))]
          refine zs_goto (tgt := 0) dX13_go_49 (by decide) ?_
          refine zs_lv [0] rfl ?_
          exact ih (p + 1) (by omega) (by rw [← hQ, lSk, if_pos ⟨by omega, Or.inr c_3⟩])
