/-! ===== Word, Text ===== -/
def wFind (x : Int32) : Nat → Nat → Option Nat
  | 0, _ => none
  | q + 1, i => if zLet.getD i 0 = x then some i else wFind x q (i + 1)
def wOf (x : Int32) : Option Nat := wFind x 29 0
def wV (w : Option Nat) : Value := match w with
  | none => .null
  | some i => .float (UInt32.ofNat i)
def isL (c : Nat) : Bool := decide (97 ≤ c ∧ c ≤ 122)
def isD (c : Nat) : Bool := decide (48 ≤ c ∧ c ≤ 57)
def isS (c : Nat) : Bool := decide (c = 59 ∨ c = 60 ∨ c = 61 ∨ c = 62 ∨ c = 40 ∨ c = 41)
theorem bI_t {b : Bool} (h : ¬ bI b = 0) : b = true := by
  cases b
  · exact absurd rfl h
  · rfl
theorem bI_f {b : Bool} (h : bI b = 0) : b = false := by
  cases b
  · rfl
  · exact absurd h (by decide)
/-- behind the blanks -/
def lSk (b : Nat → Nat) (st : Nat) : Nat → Nat → Nat
  | 0, p => p
  | m + 1, p => if p < st ∧ (b p = 32 ∨ b p = 10) then lSk b st m (p + 1) else p
/-- behind the letters and digits -/
def lRun (b : Nat → Nat) (n : Nat) : Nat → Nat → Nat
  | 0, p => p
  | m + 1, p => if p < n ∧ (isL (b p) || isD (b p)) = true then lRun b n m (p + 1) else p
def lLt (b : Nat → Nat) (p : Nat) : Nat → Nat
  | 0 => 0
  | k + 1 => if isL (b (p + k)) = true then lLt b p k + 1 else lLt b p k
def lDg (b : Nat → Nat) (p : Nat) : Nat → Nat
  | 0 => 0
  | k + 1 => if isL (b (p + k)) = true then lDg b p k else lDg b p k + 1
def lSp (b : Nat → Nat) (p : Nat) : Nat → Nat
  | 0 => 0
  | k + 1 => if isL (b (p + k)) = true then lSp b p k * 27 + (b (p + k) - 97 + 1) else lSp b p k
def lNm (b : Nat → Nat) (p : Nat) : Nat → Nat
  | 0 => 0
  | k + 1 => if isL (b (p + k)) = true then lNm b p k else lNm b p k * 10 + (b (p + k) - 48)
/-- a token: kind, begin, end, value, word -/
abbrev zTk : Type := Nat × Nat × Nat × Nat × Option Nat
def lTk (b : Nat → Nat) (q e : Nat) : zTk :=
  if lDg b q (e - q) = 0 then (if 6 < lLt b q (e - q) then (1, q, e, lNm b q (e - q), none) else (2, q, e, lSp b q (e - q), wOf (nI (lSp b q (e - q)))))
  else (if lLt b q (e - q) = 0 then (if 8 < lDg b q (e - q) then (1, q, e, lNm b q (e - q), none) else (3, q, e, lNm b q (e - q), none)) else (1, q, e, lNm b q (e - q), none))
/-- the token from place q on, which is no blank -/
def lAt (b : Nat → Nat) (n st q v : Nat) : zTk :=
  if st ≤ q then (0, st, st, v, none)
  else if isL (b q) = true then lTk b q (lRun b n (n - q) q)
  else if isD (b q) = true then lTk b q (lRun b n (n - q) q)
  else ((if isS (b q) = true then 4 else 1), q, q + 1, b q, none)
/-- the next token -/
def nxt (b : Nat → Nat) (n L : Nat) (τ : zTk) : zTk := lAt b n (min n L) (lSk b (min n L) (min n L - τ.2.2.1) τ.2.2.1) τ.2.2.2.1
def fTx (b n L : Nat) (τ : zTk) (fa pl : Nat) (tk : Int32) : List Value := [.ref b, .int (nI n), .int (nI (min n L)), .int (bI (decide (L < n))), .int (nI τ.1), .int (nI τ.2.1), .int (nI τ.2.2.1), .int (nI τ.2.2.2.1), wV τ.2.2.2.2, .int (nI fa), .int (nI pl), .int tk]
theorem lSk_le {b : Nat → Nat} {st : Nat} : ∀ (m p : Nat), lSk b st m p ≤ max st p ∧ p ≤ lSk b st m p
  | 0, p => ⟨Nat.le_max_right _ _, Nat.le_refl _⟩
  | m + 1, p => by
    simp only [lSk]
    split
    · rename_i h
      have := lSk_le (b := b) (st := st) m (p + 1)
      refine ⟨Nat.le_trans this.1 ?_, by omega⟩
      omega
    · exact ⟨Nat.le_max_right _ _, Nat.le_refl _⟩
theorem lRun_le {b : Nat → Nat} {n : Nat} : ∀ (m p : Nat), lRun b n m p ≤ max n p ∧ p ≤ lRun b n m p
  | 0, p => ⟨Nat.le_max_right _ _, Nat.le_refl _⟩
  | m + 1, p => by
    simp only [lRun]
    split
    · rename_i h
      have := lRun_le (b := b) (n := n) m (p + 1)
      refine ⟨Nat.le_trans this.1 ?_, by omega⟩
      omega
    · exact ⟨Nat.le_max_right _ _, Nat.le_refl _⟩
theorem lLt_le (b : Nat → Nat) (p : Nat) : ∀ k, lLt b p k + lDg b p k = k
  | 0 => rfl
  | k + 1 => by
    simp only [lLt, lDg]
    have := lLt_le b p k
    split <;> omega
theorem isL_iff {c : Nat} : isL c = true ↔ 97 ≤ c ∧ c ≤ 122 := decide_eq_true_iff
theorem isD_iff {c : Nat} : isD c = true ↔ 48 ≤ c ∧ c ≤ 57 := decide_eq_true_iff
def tAt (τ : zTk) (c : Nat) : Bool := decide (τ.1 = 4) && decide (τ.2.2.2.1 = c)
/-- a token as they come -/
def tOK (τ : zTk) : Prop := τ.1 ≤ 4 ∧ τ.2.1 ≤ 740 ∧ τ.2.2.1 ≤ 740 ∧ τ.2.1 ≤ τ.2.2.1 ∧ (τ.1 = 3 → τ.2.2.2.1 ≤ 99999999) ∧ (τ.1 = 4 → τ.2.2.2.1 < 256) ∧ (τ.1 = 2 → τ.2.2.2.1 < 400000000) ∧ (∀ i, τ.2.2.2.2 = some i → i < 29) ∧ (∀ i, τ.2.2.2.2 = some i → τ.1 = 2)
theorem wFind_lt {x : Int32} : ∀ (m i j : Nat), wFind x m i = some j → j < i + m
  | 0, i, j, h => nomatch h
  | m + 1, i, j, h => by
    simp only [wFind] at h
    split at h
    · cases h
      omega
    · have := wFind_lt m (i + 1) j h
      omega
theorem wOf_lt {x : Int32} {j : Nat} (h : wOf x = some j) : j < 29 := by
  have := wFind_lt 29 0 j h
  omega
theorem tOK_mk {k q e v : Nat} {w : Option Nat} (hk : k ≤ 4) (hq : q ≤ e) (he : e ≤ 740) (h3 : k = 3 → v ≤ 99999999) (h4 : k = 4 → v < 256) (h2 : k = 2 → v < 400000000) (hw : ∀ i, w = some i → i < 29) (hw2 : ∀ i, w = some i → k = 2) : tOK (k, q, e, v, w) := ⟨hk, Nat.le_trans hq he, he, hq, h3, h4, h2, hw, hw2⟩
theorem lDg_b (b : Nat → Nat) (p : Nat) : ∀ k, lDg b p k = 0 → lSp b p k < 27 ^ k ∨ ∃ j, j < k ∧ ¬ isL (b (p + j)) = true
  | 0, _ => Or.inl (by show 0 < 1; omega)
  | k + 1, h => by
    simp only [lDg] at h
    by_cases c : isL (b (p + k)) = true
    · rw [if_pos c] at h
      rcases lDg_b b p k h with h1 | ⟨j, hj, h2⟩
      · left
        simp only [lSp, if_pos c]
        have := isL_iff.mp c
        have e : 27 ^ (k + 1) = 27 ^ k * 27 := Nat.pow_succ 27 k
        rw [e]
        have h3 : (lSp b p k + 1) * 27 ≤ 27 ^ k * 27 := Nat.mul_le_mul_right _ h1
        omega
      · exact Or.inr ⟨j, by omega, h2⟩
    · exact Or.inr ⟨k, by omega, c⟩
theorem lDg_L (b : Nat → Nat) (p : Nat) : ∀ k, lDg b p k = 0 → ∀ j, j < k → isL (b (p + j)) = true
  | 0, _, j, hj => absurd hj (by omega)
  | k + 1, h, j, hj => by
    simp only [lDg] at h
    by_cases c : isL (b (p + k)) = true
    · rw [if_pos c] at h
      by_cases e : j = k
      · rw [e]; exact c
      · exact lDg_L b p k h j (by omega)
    · rw [if_neg c] at h
      exact absurd h (by omega)
theorem lLt_D (b : Nat → Nat) (p : Nat) : ∀ k, lLt b p k = 0 → ∀ j, j < k → ¬ isL (b (p + j)) = true
  | 0, _, j, hj => absurd hj (by omega)
  | k + 1, h, j, hj => by
    simp only [lLt] at h
    by_cases c : isL (b (p + k)) = true
    · rw [if_pos c] at h
      exact absurd h (by omega)
    · rw [if_neg c] at h
      by_cases e : j = k
      · rw [e]; exact c
      · exact lLt_D b p k h j (by omega)
theorem lSp_b {b : Nat → Nat} {p k : Nat} (h : lDg b p k = 0) : lSp b p k < 27 ^ k := by
  rcases lDg_b b p k h with h1 | ⟨j, hj, h2⟩
  · exact h1
  · exact absurd (lDg_L b p k h j hj) h2
theorem lRun_D {b : Nat → Nat} {n : Nat} : ∀ (m p j : Nat), p ≤ j → j < lRun b n m p → (isL (b j) || isD (b j)) = true ∧ j < n
  | 0, p, j, h1, h2 => absurd h2 (by simp only [lRun]; omega)
  | m + 1, p, j, h1, h2 => by
    simp only [lRun] at h2
    split at h2
    · rename_i h
      by_cases e : j = p
      · rw [e]; exact ⟨h.2, h.1⟩
      · exact lRun_D m (p + 1) j (by omega) h2
    · exact absurd h2 (by omega)
theorem lNm_b {b : Nat → Nat} {p : Nat} (hb : ∀ j, isL (b j) = true ∨ b j ≤ 57) : ∀ k, lNm b p k < 10 ^ lDg b p k
  | 0 => by show 0 < 1; omega
  | k + 1 => by
    have ih := lNm_b (p := p) hb k
    simp only [lNm, lDg]
    by_cases c : isL (b (p + k)) = true
    · rw [if_pos c, if_pos c]; exact ih
    · rw [if_neg c, if_neg c, Nat.pow_succ]
      have h1 := (hb (p + k)).resolve_left c
      have h3 : (lNm b p k + 1) * 10 ≤ 10 ^ lDg b p k * 10 := Nat.mul_le_mul_right _ ih
      omega
theorem lNm_c {b c : Nat → Nat} {p : Nat} : ∀ k, (∀ j, j < k → b (p + j) = c (p + j)) → lNm b p k = lNm c p k ∧ lDg b p k = lDg c p k
  | 0, _ => ⟨rfl, rfl⟩
  | k + 1, h => by
    have ih := lNm_c (p := p) k (fun j hj => h j (by omega))
    simp only [lNm, lDg, ih.1, ih.2, h k (by omega)]
    exact ⟨trivial, trivial⟩
theorem lTk_OK {b : Nat → Nat} {n q : Nat} (hn : n ≤ 740) (hq : q ≤ n) : tOK (lTk b q (lRun b n (n - q) q)) := by
  have hr := lRun_le (b := b) (n := n) (n - q) q
  have hd := lRun_D (b := b) (n := n) (n - q) q
  generalize lRun b n (n - q) q = e at hr hd
  unfold lTk
  have he : e ≤ 740 := by omega
  split
  · rename_i h0
    split
    · exact tOK_mk (k := 1) (by decide) hr.2 he (fun h => absurd h (by decide)) (fun h => absurd h (by decide)) (fun h => absurd h (by decide)) (fun _ h => (nomatch h)) (fun _ h => (nomatch h))
    · rename_i h6
      refine tOK_mk (k := 2) (by decide) hr.2 he (fun h => absurd h (by decide)) (fun h => absurd h (by decide)) (fun _ => ?_) (fun _ h => wOf_lt h) (fun _ _ => rfl)
      have h1 := lSp_b h0
      have h2 := lLt_le b q (e - q)
      have h3 : 27 ^ (e - q) ≤ 27 ^ 6 := Nat.pow_le_pow_right (by decide) (by omega)
      exact Nat.lt_of_lt_of_le h1 (Nat.le_trans h3 (by decide))
  · split
    · split
      · exact tOK_mk (k := 1) (by decide) hr.2 he (fun h => absurd h (by decide)) (fun h => absurd h (by decide)) (fun h => absurd h (by decide)) (fun _ h => (nomatch h)) (fun _ h => (nomatch h))
      · rename_i h0 h8
        refine tOK_mk (k := 3) (by decide) hr.2 he (fun _ => ?_) (fun h => absurd h (by decide)) (fun h => absurd h (by decide)) (fun _ h => (nomatch h)) (fun _ h => (nomatch h))
        have hc := lNm_c (b := b) (c := fun j => if q ≤ j ∧ j < e then b j else 48) (p := q) (e - q) (fun j hj => (if_pos (by omega)).symm)
        have h1 := lNm_b (b := fun j => if q ≤ j ∧ j < e then b j else 48) (p := q) (fun j => by
          show isL (if q ≤ j ∧ j < e then b j else 48) = true ∨ (if q ≤ j ∧ j < e then b j else 48) ≤ 57
          split
          · rename_i hj
            have := (hd j hj.1 hj.2).1
            rw [Bool.or_eq_true] at this
            rcases this with h | h
            · exact Or.inl h
            · exact Or.inr (isD_iff.mp h).2
          · exact Or.inr (by decide)) (e - q)
        rw [← hc.1, ← hc.2] at h1
        have h3 : 10 ^ lDg b q (e - q) ≤ 10 ^ 8 := Nat.pow_le_pow_right (by decide) (by omega)
        show lNm b q (e - q) ≤ 99999999
        have h4 : (10 : Nat) ^ 8 = 100000000 := by decide
        omega
    · exact tOK_mk (k := 1) (by decide) hr.2 he (fun h => absurd h (by decide)) (fun h => absurd h (by decide)) (fun h => absurd h (by decide)) (fun _ h => (nomatch h)) (fun _ h => (nomatch h))
theorem lAt_OK {b : Nat → Nat} {n st q v : Nat} (hb : ∀ j, b j < 256) (hn : n ≤ 740) (hs : st ≤ n) : tOK (lAt b n st q v) := by
  unfold lAt
  split
  · exact tOK_mk (k := 0) (by decide) (Nat.le_refl _) (by omega) (fun h => absurd h (by decide)) (fun h => absurd h (by decide)) (fun h => absurd h (by decide)) (fun _ h => (nomatch h)) (fun _ h => (nomatch h))
  · split
    · exact lTk_OK hn (by omega)
    · split
      · exact lTk_OK hn (by omega)
      · split
        · exact tOK_mk (k := 4) (by decide) (Nat.le_succ q) (by omega) (fun h => absurd h (by decide)) (fun _ => hb q) (fun h => absurd h (by decide)) (fun _ h => (nomatch h)) (fun _ h => (nomatch h))
        · exact tOK_mk (k := 1) (by decide) (Nat.le_succ q) (by omega) (fun h => absurd h (by decide)) (fun h => absurd h (by decide)) (fun h => absurd h (by decide)) (fun _ h => (nomatch h)) (fun _ h => (nomatch h))
theorem nxt_OK {b : Nat → Nat} {n L : Nat} {τ : zTk} (hb : ∀ j, b j < 256) (hn : n ≤ 740) : tOK (nxt b n L τ) := lAt_OK hb hn (Nat.min_le_left _ _)
theorem dX10_withLetter_0 : decode cX10_withLetter 0 = .ok (.iload_n 0, 1) := by decide +kernel
theorem dX10_withLetter_1 : decode cX10_withLetter 1 = .ok (.bipush 27, 2) := by decide +kernel
theorem dX10_withLetter_3 : decode cX10_withLetter 3 = .ok (.imul, 1) := by decide +kernel
theorem dX10_withLetter_4 : decode cX10_withLetter 4 = .ok (.iload_n 1, 1) := by decide +kernel
theorem dX10_withLetter_5 : decode cX10_withLetter 5 = .ok (.bipush 97, 2) := by decide +kernel
theorem dX10_withLetter_7 : decode cX10_withLetter 7 = .ok (.isub, 1) := by decide +kernel
theorem dX10_withLetter_8 : decode cX10_withLetter 8 = .ok (.iconst 1, 1) := by decide +kernel
theorem dX10_withLetter_9 : decode cX10_withLetter 9 = .ok (.iadd, 1) := by decide +kernel
theorem dX10_withLetter_10 : decode cX10_withLetter 10 = .ok (.iadd, 1) := by decide +kernel
theorem dX10_withLetter_11 : decode cX10_withLetter 11 = .ok (.ireturn, 1) := by decide +kernel
set_option maxRecDepth 100000 in
theorem s_withLetter (l : Launch) (dd : Nat) (a : Int32) (c : Nat)  : zSp l mX10_withLetter dd 0 0 [.int a, .int (nI c)] [] (fun r K' => r = some (.int (a * 27 + (nI c - 97 + 1))) ∧ K' = []) := by
  refine zSp.of (by decide) (Nat.le_of_ble_eq_true rfl) (fun h0 => ?_)
  show zS _ 0 0 0 [(0, .int a), (1, .int (nI c))] [] []
  refine zs_iload_n dX10_withLetter_0 rfl ?_
  refine zs_bipush (v := nI 27) dX10_withLetter_1 (by decide) ?_
  refine zs_imul dX10_withLetter_3 ?_
  refine zs_iload_n dX10_withLetter_4 rfl ?_
  refine zs_bipush (v := nI 97) dX10_withLetter_5 (by decide) ?_
  refine zs_isub dX10_withLetter_7 ?_
  refine zs_iconst (v := nI 1) dX10_withLetter_8 (by decide) ?_
  refine zs_iadd dX10_withLetter_9 ?_
  refine zs_iadd dX10_withLetter_10 ?_
  exact zs_iret dX10_withLetter_11 rfl ⟨rfl, rfl⟩
theorem dX9_isLetter_0 : decode cX9_isLetter 0 = .ok (.iload_n 0, 1) := by decide +kernel
theorem dX9_isLetter_1 : decode cX9_isLetter 1 = .ok (.bipush 97, 2) := by decide +kernel
theorem dX9_isLetter_3 : decode cX9_isLetter 3 = .ok (.if_icmp .lt 13, 3) := by decide +kernel
theorem dX9_isLetter_6 : decode cX9_isLetter 6 = .ok (.iload_n 0, 1) := by decide +kernel
theorem dX9_isLetter_7 : decode cX9_isLetter 7 = .ok (.bipush 122, 2) := by decide +kernel
theorem dX9_isLetter_9 : decode cX9_isLetter 9 = .ok (.if_icmp .gt 7, 3) := by decide +kernel
theorem dX9_isLetter_12 : decode cX9_isLetter 12 = .ok (.iconst 1, 1) := by decide +kernel
theorem dX9_isLetter_13 : decode cX9_isLetter 13 = .ok (.goto 4, 3) := by decide +kernel
theorem dX9_isLetter_16 : decode cX9_isLetter 16 = .ok (.iconst 0, 1) := by decide +kernel
theorem dX9_isLetter_17 : decode cX9_isLetter 17 = .ok (.ireturn, 1) := by decide +kernel
set_option maxRecDepth 100000 in
theorem s_isLetter (l : Launch) (dd : Nat) (c : Nat) (hc : c < 256) : zSp l mX9_isLetter dd 0 0 [.int (nI c)] [] (fun r K' => r = some (.int (bI (isL c))) ∧ K' = []) := by
  refine zSp.of (by decide) (Nat.le_of_ble_eq_true rfl) (fun h0 => ?_)
  show zS _ 0 0 0 [(0, .int (nI c))] [] []
  refine zs_iload_n dX9_isLetter_0 rfl ?_
  refine zs_bipush (v := nI 97) dX9_isLetter_1 (by decide) ?_
  refine zs_icmp_lt (tgt := 16) dX9_isLetter_3 (by decide) (fun c_1 => ?_) (fun c_1 => ?_)
  · have c_1 : c < 97 := by have hc := c_1; rw [nI_lt' (by omega) (by omega)] at hc; exact hc
    refine zs_iconst (v := nI 0) dX9_isLetter_16 (by decide) ?_
    exact zs_zret dX9_isLetter_17 rfl (by first | exact Or.inl rfl | exact Or.inr rfl) ⟨congrArg (fun z => some (Value.int z)) (by rw [show isL c = false from by unfold isL; first | (rw [decide_eq_true_iff]; omega) | (rw [decide_eq_false_iff_not]; omega)]; rfl), rfl⟩
  · have c_1 : ¬ (c < 97) := by have hc := c_1; rw [nI_lt' (by omega) (by omega)] at hc; exact hc
    refine zs_iload_n dX9_isLetter_6 rfl ?_
    refine zs_bipush (v := nI 122) dX9_isLetter_7 (by decide) ?_
    refine zs_icmp_gt (tgt := 16) dX9_isLetter_9 (by decide) (fun c_2 => ?_) (fun c_2 => ?_)
    · have c_2 : 122 < c := by have hc := c_2; rw [nI_lt' (by omega) (by omega)] at hc; exact hc
      refine zs_iconst (v := nI 0) dX9_isLetter_16 (by decide) ?_
      exact zs_zret dX9_isLetter_17 rfl (by first | exact Or.inl rfl | exact Or.inr rfl) ⟨congrArg (fun z => some (Value.int z)) (by rw [show isL c = false from by unfold isL; first | (rw [decide_eq_true_iff]; omega) | (rw [decide_eq_false_iff_not]; omega)]; rfl), rfl⟩
    · have c_2 : ¬ (122 < c) := by have hc := c_2; rw [nI_lt' (by omega) (by omega)] at hc; exact hc
      refine zs_iconst (v := nI 1) dX9_isLetter_12 (by decide) ?_
      refine zs_goto (tgt := 17) dX9_isLetter_13 (by decide) ?_
      exact zs_zret dX9_isLetter_17 rfl (by first | exact Or.inl rfl | exact Or.inr rfl) ⟨congrArg (fun z => some (Value.int z)) (by rw [show isL c = true from by unfold isL; first | (rw [decide_eq_true_iff]; omega) | (rw [decide_eq_false_iff_not]; omega)]; rfl), rfl⟩
theorem dX9_isDigit_0 : decode cX9_isDigit 0 = .ok (.iload_n 0, 1) := by decide +kernel
theorem dX9_isDigit_1 : decode cX9_isDigit 1 = .ok (.bipush 48, 2) := by decide +kernel
theorem dX9_isDigit_3 : decode cX9_isDigit 3 = .ok (.if_icmp .lt 13, 3) := by decide +kernel
theorem dX9_isDigit_6 : decode cX9_isDigit 6 = .ok (.iload_n 0, 1) := by decide +kernel
theorem dX9_isDigit_7 : decode cX9_isDigit 7 = .ok (.bipush 57, 2) := by decide +kernel
theorem dX9_isDigit_9 : decode cX9_isDigit 9 = .ok (.if_icmp .gt 7, 3) := by decide +kernel
theorem dX9_isDigit_12 : decode cX9_isDigit 12 = .ok (.iconst 1, 1) := by decide +kernel
theorem dX9_isDigit_13 : decode cX9_isDigit 13 = .ok (.goto 4, 3) := by decide +kernel
theorem dX9_isDigit_16 : decode cX9_isDigit 16 = .ok (.iconst 0, 1) := by decide +kernel
theorem dX9_isDigit_17 : decode cX9_isDigit 17 = .ok (.ireturn, 1) := by decide +kernel
set_option maxRecDepth 100000 in
theorem s_isDigit (l : Launch) (dd : Nat) (c : Nat) (hc : c < 256) : zSp l mX9_isDigit dd 0 0 [.int (nI c)] [] (fun r K' => r = some (.int (bI (isD c))) ∧ K' = []) := by
  refine zSp.of (by decide) (Nat.le_of_ble_eq_true rfl) (fun h0 => ?_)
  show zS _ 0 0 0 [(0, .int (nI c))] [] []
  refine zs_iload_n dX9_isDigit_0 rfl ?_
  refine zs_bipush (v := nI 48) dX9_isDigit_1 (by decide) ?_
  refine zs_icmp_lt (tgt := 16) dX9_isDigit_3 (by decide) (fun c_1 => ?_) (fun c_1 => ?_)
  · have c_1 : c < 48 := by have hc := c_1; rw [nI_lt' (by omega) (by omega)] at hc; exact hc
    refine zs_iconst (v := nI 0) dX9_isDigit_16 (by decide) ?_
    exact zs_zret dX9_isDigit_17 rfl (by first | exact Or.inl rfl | exact Or.inr rfl) ⟨congrArg (fun z => some (Value.int z)) (by rw [show isD c = false from by unfold isD; first | (rw [decide_eq_true_iff]; omega) | (rw [decide_eq_false_iff_not]; omega)]; rfl), rfl⟩
  · have c_1 : ¬ (c < 48) := by have hc := c_1; rw [nI_lt' (by omega) (by omega)] at hc; exact hc
    refine zs_iload_n dX9_isDigit_6 rfl ?_
    refine zs_bipush (v := nI 57) dX9_isDigit_7 (by decide) ?_
    refine zs_icmp_gt (tgt := 16) dX9_isDigit_9 (by decide) (fun c_2 => ?_) (fun c_2 => ?_)
    · have c_2 : 57 < c := by have hc := c_2; rw [nI_lt' (by omega) (by omega)] at hc; exact hc
      refine zs_iconst (v := nI 0) dX9_isDigit_16 (by decide) ?_
      exact zs_zret dX9_isDigit_17 rfl (by first | exact Or.inl rfl | exact Or.inr rfl) ⟨congrArg (fun z => some (Value.int z)) (by rw [show isD c = false from by unfold isD; first | (rw [decide_eq_true_iff]; omega) | (rw [decide_eq_false_iff_not]; omega)]; rfl), rfl⟩
    · have c_2 : ¬ (57 < c) := by have hc := c_2; rw [nI_lt' (by omega) (by omega)] at hc; exact hc
      refine zs_iconst (v := nI 1) dX9_isDigit_12 (by decide) ?_
      refine zs_goto (tgt := 17) dX9_isDigit_13 (by decide) ?_
      exact zs_zret dX9_isDigit_17 rfl (by first | exact Or.inl rfl | exact Or.inr rfl) ⟨congrArg (fun z => some (Value.int z)) (by rw [show isD c = true from by unfold isD; first | (rw [decide_eq_true_iff]; omega) | (rw [decide_eq_false_iff_not]; omega)]; rfl), rfl⟩
theorem dX9_isSign_0 : decode cX9_isSign 0 = .ok (.iload_n 0, 1) := by decide +kernel
theorem dX9_isSign_1 : decode cX9_isSign 1 = .ok (.bipush 59, 2) := by decide +kernel
theorem dX9_isSign_3 : decode cX9_isSign 3 = .ok (.if_icmp .eq 33, 3) := by decide +kernel
theorem dX9_isSign_6 : decode cX9_isSign 6 = .ok (.iload_n 0, 1) := by decide +kernel
theorem dX9_isSign_7 : decode cX9_isSign 7 = .ok (.bipush 60, 2) := by decide +kernel
theorem dX9_isSign_9 : decode cX9_isSign 9 = .ok (.if_icmp .eq 27, 3) := by decide +kernel
theorem dX9_isSign_12 : decode cX9_isSign 12 = .ok (.iload_n 0, 1) := by decide +kernel
theorem dX9_isSign_13 : decode cX9_isSign 13 = .ok (.bipush 61, 2) := by decide +kernel
theorem dX9_isSign_15 : decode cX9_isSign 15 = .ok (.if_icmp .eq 21, 3) := by decide +kernel
theorem dX9_isSign_18 : decode cX9_isSign 18 = .ok (.iload_n 0, 1) := by decide +kernel
theorem dX9_isSign_19 : decode cX9_isSign 19 = .ok (.bipush 62, 2) := by decide +kernel
theorem dX9_isSign_21 : decode cX9_isSign 21 = .ok (.if_icmp .eq 15, 3) := by decide +kernel
theorem dX9_isSign_24 : decode cX9_isSign 24 = .ok (.iload_n 0, 1) := by decide +kernel
theorem dX9_isSign_25 : decode cX9_isSign 25 = .ok (.bipush 40, 2) := by decide +kernel
theorem dX9_isSign_27 : decode cX9_isSign 27 = .ok (.if_icmp .eq 9, 3) := by decide +kernel
theorem dX9_isSign_30 : decode cX9_isSign 30 = .ok (.iload_n 0, 1) := by decide +kernel
theorem dX9_isSign_31 : decode cX9_isSign 31 = .ok (.bipush 41, 2) := by decide +kernel
theorem dX9_isSign_33 : decode cX9_isSign 33 = .ok (.if_icmp .ne 7, 3) := by decide +kernel
theorem dX9_isSign_36 : decode cX9_isSign 36 = .ok (.iconst 1, 1) := by decide +kernel
theorem dX9_isSign_37 : decode cX9_isSign 37 = .ok (.goto 4, 3) := by decide +kernel
theorem dX9_isSign_40 : decode cX9_isSign 40 = .ok (.iconst 0, 1) := by decide +kernel
theorem dX9_isSign_41 : decode cX9_isSign 41 = .ok (.ireturn, 1) := by decide +kernel
set_option maxRecDepth 100000 in
theorem s_isSign (l : Launch) (dd : Nat) (c : Nat) (hc : c < 256) : zSp l mX9_isSign dd 0 0 [.int (nI c)] [] (fun r K' => r = some (.int (bI (isS c))) ∧ K' = []) := by
  refine zSp.of (by decide) (Nat.le_of_ble_eq_true rfl) (fun h0 => ?_)
  show zS _ 0 0 0 [(0, .int (nI c))] [] []
  refine zs_iload_n dX9_isSign_0 rfl ?_
  refine zs_bipush (v := nI 59) dX9_isSign_1 (by decide) ?_
  refine zs_icmp_eq (tgt := 36) dX9_isSign_3 (by decide) (fun c_1 => ?_) (fun c_1 => ?_)
  · have c_1 : c = 59 := by have hc := c_1; rw [nI_eq' (by omega) (by omega)] at hc; exact hc
    refine zs_iconst (v := nI 1) dX9_isSign_36 (by decide) ?_
    refine zs_goto (tgt := 41) dX9_isSign_37 (by decide) ?_
    exact zs_zret dX9_isSign_41 rfl (by first | exact Or.inl rfl | exact Or.inr rfl) ⟨congrArg (fun z => some (Value.int z)) (by rw [show isS c = true from by unfold isS; first | (rw [decide_eq_true_iff]; omega) | (rw [decide_eq_false_iff_not]; omega)]; rfl), rfl⟩
  · have c_1 : ¬ (c = 59) := by have hc := c_1; rw [nI_eq' (by omega) (by omega)] at hc; exact hc
    refine zs_iload_n dX9_isSign_6 rfl ?_
    refine zs_bipush (v := nI 60) dX9_isSign_7 (by decide) ?_
    refine zs_icmp_eq (tgt := 36) dX9_isSign_9 (by decide) (fun c_2 => ?_) (fun c_2 => ?_)
    · have c_2 : c = 60 := by have hc := c_2; rw [nI_eq' (by omega) (by omega)] at hc; exact hc
      refine zs_iconst (v := nI 1) dX9_isSign_36 (by decide) ?_
      refine zs_goto (tgt := 41) dX9_isSign_37 (by decide) ?_
      exact zs_zret dX9_isSign_41 rfl (by first | exact Or.inl rfl | exact Or.inr rfl) ⟨congrArg (fun z => some (Value.int z)) (by rw [show isS c = true from by unfold isS; first | (rw [decide_eq_true_iff]; omega) | (rw [decide_eq_false_iff_not]; omega)]; rfl), rfl⟩
    · have c_2 : ¬ (c = 60) := by have hc := c_2; rw [nI_eq' (by omega) (by omega)] at hc; exact hc
      refine zs_iload_n dX9_isSign_12 rfl ?_
      refine zs_bipush (v := nI 61) dX9_isSign_13 (by decide) ?_
      refine zs_icmp_eq (tgt := 36) dX9_isSign_15 (by decide) (fun c_3 => ?_) (fun c_3 => ?_)
      · have c_3 : c = 61 := by have hc := c_3; rw [nI_eq' (by omega) (by omega)] at hc; exact hc
        refine zs_iconst (v := nI 1) dX9_isSign_36 (by decide) ?_
        refine zs_goto (tgt := 41) dX9_isSign_37 (by decide) ?_
        exact zs_zret dX9_isSign_41 rfl (by first | exact Or.inl rfl | exact Or.inr rfl) ⟨congrArg (fun z => some (Value.int z)) (by rw [show isS c = true from by unfold isS; first | (rw [decide_eq_true_iff]; omega) | (rw [decide_eq_false_iff_not]; omega)]; rfl), rfl⟩
      · have c_3 : ¬ (c = 61) := by have hc := c_3; rw [nI_eq' (by omega) (by omega)] at hc; exact hc
        refine zs_iload_n dX9_isSign_18 rfl ?_
        refine zs_bipush (v := nI 62) dX9_isSign_19 (by decide) ?_
        refine zs_icmp_eq (tgt := 36) dX9_isSign_21 (by decide) (fun c_4 => ?_) (fun c_4 => ?_)
        · have c_4 : c = 62 := by have hc := c_4; rw [nI_eq' (by omega) (by omega)] at hc; exact hc
          refine zs_iconst (v := nI 1) dX9_isSign_36 (by decide) ?_
          refine zs_goto (tgt := 41) dX9_isSign_37 (by decide) ?_
          exact zs_zret dX9_isSign_41 rfl (by first | exact Or.inl rfl | exact Or.inr rfl) ⟨congrArg (fun z => some (Value.int z)) (by rw [show isS c = true from by unfold isS; first | (rw [decide_eq_true_iff]; omega) | (rw [decide_eq_false_iff_not]; omega)]; rfl), rfl⟩
        · have c_4 : ¬ (c = 62) := by have hc := c_4; rw [nI_eq' (by omega) (by omega)] at hc; exact hc
          refine zs_iload_n dX9_isSign_24 rfl ?_
          refine zs_bipush (v := nI 40) dX9_isSign_25 (by decide) ?_
          refine zs_icmp_eq (tgt := 36) dX9_isSign_27 (by decide) (fun c_5 => ?_) (fun c_5 => ?_)
          · have c_5 : c = 40 := by have hc := c_5; rw [nI_eq' (by omega) (by omega)] at hc; exact hc
            refine zs_iconst (v := nI 1) dX9_isSign_36 (by decide) ?_
            refine zs_goto (tgt := 41) dX9_isSign_37 (by decide) ?_
            exact zs_zret dX9_isSign_41 rfl (by first | exact Or.inl rfl | exact Or.inr rfl) ⟨congrArg (fun z => some (Value.int z)) (by rw [show isS c = true from by unfold isS; first | (rw [decide_eq_true_iff]; omega) | (rw [decide_eq_false_iff_not]; omega)]; rfl), rfl⟩
          · have c_5 : ¬ (c = 40) := by have hc := c_5; rw [nI_eq' (by omega) (by omega)] at hc; exact hc
            refine zs_iload_n dX9_isSign_30 rfl ?_
            refine zs_bipush (v := nI 41) dX9_isSign_31 (by decide) ?_
            refine zs_icmp_ne (tgt := 40) dX9_isSign_33 (by decide) (fun c_6 => ?_) (fun c_6 => ?_)
            · have c_6 : ¬ (c = 41) := by have hc := c_6; rw [nI_eq' (by omega) (by omega)] at hc; exact hc
              refine zs_iconst (v := nI 0) dX9_isSign_40 (by decide) ?_
              exact zs_zret dX9_isSign_41 rfl (by first | exact Or.inl rfl | exact Or.inr rfl) ⟨congrArg (fun z => some (Value.int z)) (by rw [show isS c = false from by unfold isS; first | (rw [decide_eq_true_iff]; omega) | (rw [decide_eq_false_iff_not]; omega)]; rfl), rfl⟩
            · have c_6 : c = 41 := by have hc := c_6; rw [nI_eq' (by omega) (by omega)] at hc; exact hc
              refine zs_iconst (v := nI 1) dX9_isSign_36 (by decide) ?_
              refine zs_goto (tgt := 41) dX9_isSign_37 (by decide) ?_
              exact zs_zret dX9_isSign_41 rfl (by first | exact Or.inl rfl | exact Or.inr rfl) ⟨congrArg (fun z => some (Value.int z)) (by rw [show isS c = true from by unfold isS; first | (rw [decide_eq_true_iff]; omega) | (rw [decide_eq_false_iff_not]; omega)]; rfl), rfl⟩
theorem dX10_of_0 : decode cX10_of 0 = .ok (.iconst 0, 1) := by decide +kernel
theorem dX10_of_1 : decode cX10_of 1 = .ok (.istore_n 1, 1) := by decide +kernel
theorem dX10_of_2 : decode cX10_of 2 = .ok (.iload_n 1, 1) := by decide +kernel
theorem dX10_of_3 : decode cX10_of 3 = .ok (.getstatic 128, 3) := by decide +kernel
theorem dX10_of_6 : decode cX10_of 6 = .ok (.arraylength, 1) := by decide +kernel
theorem dX10_of_7 : decode cX10_of 7 = .ok (.if_icmp .ge 27, 3) := by decide +kernel
theorem dX10_of_10 : decode cX10_of 10 = .ok (.getstatic 128, 3) := by decide +kernel
theorem dX10_of_13 : decode cX10_of 13 = .ok (.iload_n 1, 1) := by decide +kernel
theorem dX10_of_14 : decode cX10_of 14 = .ok (.aaload, 1) := by decide +kernel
theorem dX10_of_15 : decode cX10_of 15 = .ok (.getfield 124, 3) := by decide +kernel
theorem dX10_of_18 : decode cX10_of 18 = .ok (.iload_n 0, 1) := by decide +kernel
theorem dX10_of_19 : decode cX10_of 19 = .ok (.if_icmp .ne 9, 3) := by decide +kernel
theorem dX10_of_22 : decode cX10_of 22 = .ok (.getstatic 128, 3) := by decide +kernel
theorem dX10_of_25 : decode cX10_of 25 = .ok (.iload_n 1, 1) := by decide +kernel
theorem dX10_of_26 : decode cX10_of 26 = .ok (.aaload, 1) := by decide +kernel
theorem dX10_of_27 : decode cX10_of 27 = .ok (.areturn, 1) := by decide +kernel
theorem dX10_of_28 : decode cX10_of 28 = .ok (.iinc 1 1, 3) := by decide +kernel
theorem dX10_of_31 : decode cX10_of 31 = .ok (.goto (-29), 3) := by decide +kernel
theorem dX10_of_34 : decode cX10_of 34 = .ok (.aconst_null, 1) := by decide +kernel
theorem dX10_of_35 : decode cX10_of 35 = .ok (.areturn, 1) := by decide +kernel
theorem zU_n {i : Nat} (h : i < 29) : (UInt32.ofNat i).toNat = i := by
  rw [UInt32.toNat_ofNat']
  exact Nat.mod_eq_of_lt (by omega)
set_option maxRecDepth 100000 in
theorem lp_wof {l : Launch} {dd : Nat} {Po : zPo} {K0 : zK} {h0 : List va_E} {Xo : zK → Prop} {Gc : zG → Prop} (a : Int32) (W : Option Nat) (hf : ∀ i, i < 29 → W = some i → zS (l, mX10_of, dd, Po, K0, h0, Xo, Gc) 0 0 27 [(0, .int a), (1, .int (nI i))] [.float (UInt32.ofNat i)] []) (hn : W = none → zS (l, mX10_of, dd, Po, K0, h0, Xo, Gc) 0 0 34 [(0, .int a), (1, .int (nI 29))] [] []) : ∀ (m i : Nat), i + m = 29 → wFind a m i = W → zS (l, mX10_of, dd, Po, K0, h0, Xo, Gc) 0 0 2 [(0, .int a), (1, .int (nI i))] [] [] := by
  intro m
  induction m with
  | zero =>
    intro i hi hw
    obtain rfl : i = 29 := by omega
    refine zs_iload_n dX10_of_2 rfl ?_
    refine zs_getsAll dX10_of_3 zg_RX10_128 ?_
    refine zs_allLen dX10_of_6 ?_
    refine zs_icmp_ge (tgt := 34) dX10_of_7 (by decide) (fun c_1 => ?_) (fun c_1 => (c_1 (by decide) : False).elim)
    exact hn hw.symm
  | succ m ih =>
    intro i hi hw
    refine zs_iload_n dX10_of_2 rfl ?_
    refine zs_getsAll dX10_of_3 zg_RX10_128 ?_
    refine zs_allLen dX10_of_6 ?_
    refine zs_icmp_ge (tgt := 34) dX10_of_7 (by decide) (fun c_1 => (nI_ge (show i < 29 by omega) (by omega) c_1 : False).elim) (fun c_1 => ?_)
    refine zs_getsAll dX10_of_10 zg_RX10_128 ?_
    refine zs_iload_n dX10_of_13 rfl ?_
    refine zs_allAt dX10_of_14 (vp_in_nI (by omega) (by omega)) ?_
    refine zs_letters dX10_of_15 (by rw [nI_c (n := i) (by omega), zU_n (by omega)]; omega) zg_RX10_124 ?_
    refine zs_iload_n dX10_of_18 rfl ?_
    refine zs_icmp_ne (tgt := 28) dX10_of_19 (by decide) (fun c_2 => ?_) (fun c_2 => ?_)
    · refine zs_iinc (v := (nI (i + 1))) (lv' := [(1, .int (nI (i + 1))), (0, .int a)]) dX10_of_28 rfl (nI_add _ 1) (Nat.le_of_ble_eq_true rfl) rfl ?_
      refine zs_goto (tgt := 2) dX10_of_31 (by decide) ?_
      refine zs_lv [1, 0] rfl ?_
      exact ih (i + 1) (by omega) (by rw [← hw]; exact (if_neg (by have hc := c_2; rw [nI_c (n := i) (by omega), zU_n (by omega)] at hc; exact hc)).symm)
    · refine zs_getsAll dX10_of_22 zg_RX10_128 ?_
      refine zs_iload_n dX10_of_25 rfl ?_
      refine zs_allAt dX10_of_26 (vp_in_nI (by omega) (by omega)) ?_
      rw [nI_c (n := i) (by omega)]
      exact hf i (by omega) (by rw [← hw]; exact if_pos (by have hc := c_2; rw [nI_c (n := i) (by omega), zU_n (by omega)] at hc; exact hc))
set_option maxRecDepth 100000 in
theorem s_of (l : Launch) (dd : Nat) (a : Int32)  : zSp l mX10_of dd 0 0 [.int a] [] (fun r K' => r = some (wV (wOf a)) ∧ K' = []) := by
  refine zSp.of (by decide) (Nat.le_of_ble_eq_true rfl) (fun h0 => ?_)
  show zS _ 0 0 0 [(0, .int a)] [] []
  refine zs_iconst (v := nI 0) dX10_of_0 (by decide) ?_
  refine zs_istore_n (lv' := [(1, .int (nI 0)), (0, .int a)]) dX10_of_1 (Nat.le_of_ble_eq_true rfl) rfl ?_
  refine zs_lv [1, 0] rfl ?_
  refine lp_wof a (wOf a) (fun i hi hw => ?_) (fun hw => ?_) 29 0 rfl rfl
  · exact zs_aret dX10_of_27 rfl (Or.inl ⟨_, rfl⟩) rfl ⟨by rw [hw]; rfl, rfl⟩
  · refine zs_null dX10_of_34 ?_
    exact zs_aret dX10_of_35 rfl (Or.inl ⟨_, rfl⟩) rfl ⟨by rw [hw]; rfl, rfl⟩
theorem dX9_refuse_0 : decode cX9_refuse 0 = .ok (.aload_n 0, 1) := by decide +kernel
theorem dX9_refuse_1 : decode cX9_refuse 1 = .ok (.getfield 33, 3) := by decide +kernel
theorem dX9_refuse_4 : decode cX9_refuse 4 = .ok (.ifCond .ne 16, 3) := by decide +kernel
theorem dX9_refuse_7 : decode cX9_refuse 7 = .ok (.aload_n 0, 1) := by decide +kernel
theorem dX9_refuse_8 : decode cX9_refuse 8 = .ok (.iload_n 1, 1) := by decide +kernel
theorem dX9_refuse_9 : decode cX9_refuse 9 = .ok (.putfield 33, 3) := by decide +kernel
theorem dX9_refuse_12 : decode cX9_refuse 12 = .ok (.aload_n 0, 1) := by decide +kernel
theorem dX9_refuse_13 : decode cX9_refuse 13 = .ok (.aload_n 0, 1) := by decide +kernel
theorem dX9_refuse_14 : decode cX9_refuse 14 = .ok (.getfield 49, 3) := by decide +kernel
theorem dX9_refuse_17 : decode cX9_refuse 17 = .ok (.putfield 36, 3) := by decide +kernel
theorem dX9_refuse_20 : decode cX9_refuse 20 = .ok (.iconst 0, 1) := by decide +kernel
theorem dX9_refuse_21 : decode cX9_refuse 21 = .ok (.ireturn, 1) := by decide +kernel
set_option maxRecDepth 100000 in
theorem s_refuse (l : Launch) (dd : Nat) (x b n L : Nat) (τ : zTk) (pl k : Nat) (tk : Int32)  : zSp l mX9_refuse dd 0 0 [.ref x, .int (nI k)] [(x, .inr (8, fTx b n L τ 0 pl tk))] (fun r K' => r = some (.int 0) ∧ K' = [(x, .inr (8, fTx b n L τ k τ.2.1 tk))]) := by
  refine zSp.of (by decide) (Nat.le_of_ble_eq_true rfl) (fun h0 => ?_)
  show zS _ 0 0 0 [(0, .ref x), (1, .int (nI k))] [] [(x, .inr (8, fTx b n L τ 0 pl tk))]
  refine zs_aload_n dX9_refuse_0 rfl rfl ?_
  refine zs_get 0 dX9_refuse_1 zf_RX9_33 rfl (v := .int (nI 0)) rfl ?_
  refine zs_if_ne (tgt := 20) dX9_refuse_4 (by decide) (fun c_1 => (absurd c_1 (by decide) : False).elim) (fun c_1 => ?_)
  refine zs_aload_n dX9_refuse_7 rfl rfl ?_
  refine zs_iload_n dX9_refuse_8 rfl ?_
  refine zs_put 0 dX9_refuse_9 zf_RX9_33 rfl (Nat.le_of_ble_eq_true rfl) (zPv_i _) ?_
  show zS _ _ _ _ _ _ [(x, .inr (8, [.ref b, .int (nI n), .int (nI (min n L)), .int (bI (decide (L < n))), .int (nI τ.1), .int (nI τ.2.1), .int (nI τ.2.2.1), .int (nI τ.2.2.2.1), (wV τ.2.2.2.2), .int (nI k), .int (nI pl), .int tk]))]
  refine zs_aload_n dX9_refuse_12 rfl rfl ?_
  refine zs_aload_n dX9_refuse_13 rfl rfl ?_
  refine zs_get 0 dX9_refuse_14 zf_RX9_49 rfl (v := .int (nI τ.2.1)) rfl ?_
  refine zs_put 0 dX9_refuse_17 zf_RX9_36 rfl (Nat.le_of_ble_eq_true rfl) (zPv_i _) ?_
  show zS _ _ _ _ _ _ [(x, .inr (8, [.ref b, .int (nI n), .int (nI (min n L)), .int (bI (decide (L < n))), .int (nI τ.1), .int (nI τ.2.1), .int (nI τ.2.2.1), .int (nI τ.2.2.2.1), (wV τ.2.2.2.2), .int (nI k), .int (nI τ.2.1), .int tk]))]
  refine zs_iconst (v := nI 0) dX9_refuse_20 (by decide) ?_
  exact zs_zret dX9_refuse_21 rfl (Or.inl rfl) ⟨rfl, rfl⟩
theorem dX9_isAt_0 : decode cX9_isAt 0 = .ok (.aload_n 0, 1) := by decide +kernel
theorem dX9_isAt_1 : decode cX9_isAt 1 = .ok (.getfield 46, 3) := by decide +kernel
theorem dX9_isAt_4 : decode cX9_isAt 4 = .ok (.iconst 4, 1) := by decide +kernel
theorem dX9_isAt_5 : decode cX9_isAt 5 = .ok (.if_icmp .ne 15, 3) := by decide +kernel
theorem dX9_isAt_8 : decode cX9_isAt 8 = .ok (.aload_n 0, 1) := by decide +kernel
theorem dX9_isAt_9 : decode cX9_isAt 9 = .ok (.getfield 62, 3) := by decide +kernel
theorem dX9_isAt_12 : decode cX9_isAt 12 = .ok (.iload_n 1, 1) := by decide +kernel
theorem dX9_isAt_13 : decode cX9_isAt 13 = .ok (.if_icmp .ne 7, 3) := by decide +kernel
theorem dX9_isAt_16 : decode cX9_isAt 16 = .ok (.iconst 1, 1) := by decide +kernel
theorem dX9_isAt_17 : decode cX9_isAt 17 = .ok (.goto 4, 3) := by decide +kernel
theorem dX9_isAt_20 : decode cX9_isAt 20 = .ok (.iconst 0, 1) := by decide +kernel
theorem dX9_isAt_21 : decode cX9_isAt 21 = .ok (.ireturn, 1) := by decide +kernel
set_option maxRecDepth 100000 in
theorem s_isAt (l : Launch) (dd : Nat) (x b n L : Nat) (τ : zTk) (fa pl : Nat) (tk : Int32) (c : Nat) (hτ : tOK τ) (hc : c < 256) : zSp l mX9_isAt dd 0 0 [.ref x, .int (nI c)] [(x, .inr (8, fTx b n L τ fa pl tk))] (fun r K' => r = some (.int (bI (tAt τ c))) ∧ K' = [(x, .inr (8, fTx b n L τ fa pl tk))]) := by
  refine zSp.of (by decide) (Nat.le_of_ble_eq_true rfl) (fun h0 => ?_)
  show zS _ 0 0 0 [(0, .ref x), (1, .int (nI c))] [] [(x, .inr (8, fTx b n L τ fa pl tk))]
  have h14 := hτ.1
  have hv := hτ.2.2.2.2.2.1
  refine zs_aload_n dX9_isAt_0 rfl rfl ?_
  refine zs_get 0 dX9_isAt_1 zf_RX9_46 rfl (v := .int (nI τ.1)) rfl ?_
  refine zs_iconst (v := nI 4) dX9_isAt_4 (by decide) ?_
  refine zs_icmp_ne (tgt := 20) dX9_isAt_5 (by decide) (fun c_1 => ?_) (fun c_1 => ?_)
  · have c_1 : ¬ (τ.1 = 4) := by have hc := c_1; rw [nI_eq' (by omega) (by omega)] at hc; exact hc
    refine zs_iconst (v := nI 0) dX9_isAt_20 (by decide) ?_
    exact zs_zret dX9_isAt_21 rfl (by first | exact Or.inl rfl | exact Or.inr rfl) ⟨congrArg (fun z => some (Value.int z)) (by unfold tAt; simp only [decide_eq_false c_1]; rfl), rfl⟩
  · have c_1 : τ.1 = 4 := by have hc := c_1; rw [nI_eq' (by omega) (by omega)] at hc; exact hc
    have hv2 := hv c_1
    refine zs_aload_n dX9_isAt_8 rfl rfl ?_
    refine zs_get 0 dX9_isAt_9 zf_RX9_62 rfl (v := .int (nI τ.2.2.2.1)) rfl ?_
    refine zs_iload_n dX9_isAt_12 rfl ?_
    refine zs_icmp_ne (tgt := 20) dX9_isAt_13 (by decide) (fun c_2 => ?_) (fun c_2 => ?_)
    · have c_2 : ¬ (τ.2.2.2.1 = c) := by have hc := c_2; rw [nI_eq' (by omega) (by omega)] at hc; exact hc
      refine zs_iconst (v := nI 0) dX9_isAt_20 (by decide) ?_
      exact zs_zret dX9_isAt_21 rfl (by first | exact Or.inl rfl | exact Or.inr rfl) ⟨congrArg (fun z => some (Value.int z)) (by unfold tAt; simp only [decide_eq_true c_1, decide_eq_false c_2]; rfl), rfl⟩
    · have c_2 : τ.2.2.2.1 = c := by have hc := c_2; rw [nI_eq' (by omega) (by omega)] at hc; exact hc
      refine zs_iconst (v := nI 1) dX9_isAt_16 (by decide) ?_
      refine zs_goto (tgt := 21) dX9_isAt_17 (by decide) ?_
      exact zs_zret dX9_isAt_21 rfl (by first | exact Or.inl rfl | exact Or.inr rfl) ⟨congrArg (fun z => some (Value.int z)) (by unfold tAt; simp only [decide_eq_true c_1, decide_eq_true c_2]; rfl), rfl⟩
theorem dX9_isName_0 : decode cX9_isName 0 = .ok (.aload_n 0, 1) := by decide +kernel
theorem dX9_isName_1 : decode cX9_isName 1 = .ok (.getfield 46, 3) := by decide +kernel
theorem dX9_isName_4 : decode cX9_isName 4 = .ok (.iconst 2, 1) := by decide +kernel
theorem dX9_isName_5 : decode cX9_isName 5 = .ok (.if_icmp .ne 14, 3) := by decide +kernel
theorem dX9_isName_8 : decode cX9_isName 8 = .ok (.aload_n 0, 1) := by decide +kernel
theorem dX9_isName_9 : decode cX9_isName 9 = .ok (.getfield 42, 3) := by decide +kernel
theorem dX9_isName_12 : decode cX9_isName 12 = .ok (.ifnonnull 7, 3) := by decide +kernel
theorem dX9_isName_15 : decode cX9_isName 15 = .ok (.iconst 1, 1) := by decide +kernel
theorem dX9_isName_16 : decode cX9_isName 16 = .ok (.goto 4, 3) := by decide +kernel
theorem dX9_isName_19 : decode cX9_isName 19 = .ok (.iconst 0, 1) := by decide +kernel
theorem dX9_isName_20 : decode cX9_isName 20 = .ok (.ireturn, 1) := by decide +kernel
def tNm (τ : zTk) : Bool := decide (τ.1 = 2) && decide (τ.2.2.2.2 = none)
theorem wV_n {w : Option Nat} : wV w = .null ↔ w = none := by
  cases w
  · exact ⟨fun _ => rfl, fun _ => rfl⟩
  · exact ⟨fun h => (nomatch h), fun h => (nomatch h)⟩
theorem wV_r (w : Option Nat) : zrf (wV w) = true := by
  cases w <;> rfl
set_option maxRecDepth 100000 in
theorem s_isName (l : Launch) (dd : Nat) (x b n L : Nat) (τ : zTk) (fa pl : Nat) (tk : Int32) (hτ : tOK τ) : zSp l mX9_isName dd 0 0 [.ref x] [(x, .inr (8, fTx b n L τ fa pl tk))] (fun r K' => r = some (.int (bI (tNm τ))) ∧ K' = [(x, .inr (8, fTx b n L τ fa pl tk))]) := by
  refine zSp.of (by decide) (Nat.le_of_ble_eq_true rfl) (fun h0 => ?_)
  show zS _ 0 0 0 [(0, .ref x)] [] [(x, .inr (8, fTx b n L τ fa pl tk))]
  have h14 := hτ.1
  refine zs_aload_n dX9_isName_0 rfl rfl ?_
  refine zs_get 0 dX9_isName_1 zf_RX9_46 rfl (v := .int (nI τ.1)) rfl ?_
  refine zs_iconst (v := nI 2) dX9_isName_4 (by decide) ?_
  refine zs_icmp_ne (tgt := 19) dX9_isName_5 (by decide) (fun c_1 => ?_) (fun c_1 => ?_)
  · have c_1 : ¬ (τ.1 = 2) := by have hc := c_1; rw [nI_eq' (by omega) (by omega)] at hc; exact hc
    refine zs_iconst (v := nI 0) dX9_isName_19 (by decide) ?_
    exact zs_zret dX9_isName_20 rfl (by first | exact Or.inl rfl | exact Or.inr rfl) ⟨congrArg (fun z => some (Value.int z)) (by unfold tNm; simp only [decide_eq_false c_1]; rfl), rfl⟩
  · have c_1 : τ.1 = 2 := by have hc := c_1; rw [nI_eq' (by omega) (by omega)] at hc; exact hc
    refine zs_aload_n dX9_isName_8 rfl rfl ?_
    refine zs_get 0 dX9_isName_9 zf_RX9_42 rfl (v := (wV τ.2.2.2.2)) rfl ?_
    refine zs_ifnonnull (tgt := 19) dX9_isName_12 (by decide) (wV_r _) (fun c_2 => ?_) (fun c_2 => ?_)
    · refine zs_iconst (v := nI 0) dX9_isName_19 (by decide) ?_
      exact zs_zret dX9_isName_20 rfl (by first | exact Or.inl rfl | exact Or.inr rfl) ⟨congrArg (fun z => some (Value.int z)) (by unfold tNm; simp only [decide_eq_true c_1, decide_eq_false (fun h => c_2 (wV_n.mpr h))]; rfl), rfl⟩
    · refine zs_iconst (v := nI 1) dX9_isName_15 (by decide) ?_
      refine zs_goto (tgt := 20) dX9_isName_16 (by decide) ?_
      exact zs_zret dX9_isName_20 rfl (by first | exact Or.inl rfl | exact Or.inr rfl) ⟨congrArg (fun z => some (Value.int z)) (by unfold tNm; simp only [decide_eq_true c_1, decide_eq_true (wV_n.mp c_2)]; rfl), rfl⟩
theorem dX9_length_0 : decode cX9_length 0 = .ok (.aload_n 0, 1) := by decide +kernel
theorem dX9_length_1 : decode cX9_length 1 = .ok (.getfield 30, 3) := by decide +kernel
theorem dX9_length_4 : decode cX9_length 4 = .ok (.aload_n 0, 1) := by decide +kernel
theorem dX9_length_5 : decode cX9_length 5 = .ok (.getfield 49, 3) := by decide +kernel
theorem dX9_length_8 : decode cX9_length 8 = .ok (.isub, 1) := by decide +kernel
theorem dX9_length_9 : decode cX9_length 9 = .ok (.ireturn, 1) := by decide +kernel
set_option maxRecDepth 100000 in
theorem s_length (l : Launch) (dd : Nat) (x b n L : Nat) (τ : zTk) (fa pl : Nat) (tk : Int32) (hτ : tOK τ) : zSp l mX9_length dd 0 0 [.ref x] [(x, .inr (8, fTx b n L τ fa pl tk))] (fun r K' => r = some (.int (nI (τ.2.2.1 - τ.2.1))) ∧ K' = [(x, .inr (8, fTx b n L τ fa pl tk))]) := by
  refine zSp.of (by decide) (Nat.le_of_ble_eq_true rfl) (fun h0 => ?_)
  show zS _ 0 0 0 [(0, .ref x)] [] [(x, .inr (8, fTx b n L τ fa pl tk))]
  have h14 := hτ.2.2.2.1
  refine zs_aload_n dX9_length_0 rfl rfl ?_
  refine zs_get 0 dX9_length_1 zf_RX9_30 rfl (v := .int (nI τ.2.2.1)) rfl ?_
  refine zs_aload_n dX9_length_4 rfl rfl ?_
  refine zs_get 0 dX9_length_5 zf_RX9_49 rfl (v := .int (nI τ.2.1)) rfl ?_
  refine zs_isub dX9_length_8 ?_
  refine zs_as (y := nI (τ.2.2.1 - τ.2.1)) (nI_sub (by omega)) ?_
  exact zs_iret dX9_length_9 rfl ⟨rfl, rfl⟩
theorem dX9_digit_0 : decode cX9_digit 0 = .ok (.aload_n 0, 1) := by decide +kernel
theorem dX9_digit_1 : decode cX9_digit 1 = .ok (.getfield 49, 3) := by decide +kernel
theorem dX9_digit_4 : decode cX9_digit 4 = .ok (.iload_n 1, 1) := by decide +kernel
theorem dX9_digit_5 : decode cX9_digit 5 = .ok (.iadd, 1) := by decide +kernel
theorem dX9_digit_6 : decode cX9_digit 6 = .ok (.istore_n 2, 1) := by decide +kernel
theorem dX9_digit_7 : decode cX9_digit 7 = .ok (.iload_n 2, 1) := by decide +kernel
theorem dX9_digit_8 : decode cX9_digit 8 = .ok (.aload_n 0, 1) := by decide +kernel
theorem dX9_digit_9 : decode cX9_digit 9 = .ok (.getfield 49, 3) := by decide +kernel
theorem dX9_digit_12 : decode cX9_digit 12 = .ok (.if_icmp .lt 31, 3) := by decide +kernel
theorem dX9_digit_15 : decode cX9_digit 15 = .ok (.iload_n 2, 1) := by decide +kernel
theorem dX9_digit_16 : decode cX9_digit 16 = .ok (.aload_n 0, 1) := by decide +kernel
theorem dX9_digit_17 : decode cX9_digit 17 = .ok (.getfield 30, 3) := by decide +kernel
theorem dX9_digit_20 : decode cX9_digit 20 = .ok (.if_icmp .ge 23, 3) := by decide +kernel
theorem dX9_digit_23 : decode cX9_digit 23 = .ok (.iload_n 2, 1) := by decide +kernel
theorem dX9_digit_24 : decode cX9_digit 24 = .ok (.aload_n 0, 1) := by decide +kernel
theorem dX9_digit_25 : decode cX9_digit 25 = .ok (.getfield 19, 3) := by decide +kernel
theorem dX9_digit_28 : decode cX9_digit 28 = .ok (.if_icmp .ge 15, 3) := by decide +kernel
theorem dX9_digit_31 : decode cX9_digit 31 = .ok (.aload_n 0, 1) := by decide +kernel
theorem dX9_digit_32 : decode cX9_digit 32 = .ok (.getfield 7, 3) := by decide +kernel
theorem dX9_digit_35 : decode cX9_digit 35 = .ok (.iload_n 2, 1) := by decide +kernel
theorem dX9_digit_36 : decode cX9_digit 36 = .ok (.iaload, 1) := by decide +kernel
theorem dX9_digit_37 : decode cX9_digit 37 = .ok (.bipush 48, 2) := by decide +kernel
theorem dX9_digit_39 : decode cX9_digit 39 = .ok (.isub, 1) := by decide +kernel
theorem dX9_digit_40 : decode cX9_digit 40 = .ok (.goto 4, 3) := by decide +kernel
theorem dX9_digit_43 : decode cX9_digit 43 = .ok (.iconst 0, 1) := by decide +kernel
theorem dX9_digit_44 : decode cX9_digit 44 = .ok (.ireturn, 1) := by decide +kernel
set_option maxRecDepth 100000 in
theorem s_digit (l : Launch) (dd : Nat) (x b n L : Nat) (bt : Nat → Nat) (τ : zTk) (fa pl : Nat) (tk : Int32) (i : Nat) (hn : n ≤ 740) (hL : L ≤ 740) (hbt : ∀ j, bt j < 256) (hτ : tOK τ) (hi : τ.2.1 + i < τ.2.2.1) (hi2 : τ.2.2.1 ≤ n) (h48 : 48 ≤ bt (τ.2.1 + i)) : zSp l mX9_digit dd 0 0 [.ref x, .int (nI i)] [(x, .inr (8, fTx b n L τ fa pl tk)), (b, .inl (0, 740, .inl (nF bt)))] (fun r K' => r = some (.int (nI (bt (τ.2.1 + i) - 48))) ∧ K' = [(x, .inr (8, fTx b n L τ fa pl tk))] ++ [(b, .inl (0, 740, .inl (nF bt)))]) := by
  refine zSp.of (by decide) (Nat.le_of_ble_eq_true rfl) (fun h0 => ?_)
  show zS _ 0 0 0 [(0, .ref x), (1, .int (nI i))] [] [(x, .inr (8, fTx b n L τ fa pl tk)), (b, .inl (0, 740, .inl (nF bt)))]
  have h14 := hτ.2.2.1
  refine zs_aload_n dX9_digit_0 rfl rfl ?_
  refine zs_get 0 dX9_digit_1 zf_RX9_49 rfl (v := .int (nI τ.2.1)) rfl ?_
  refine zs_iload_n dX9_digit_4 rfl ?_
  refine zs_iadd dX9_digit_5 ?_
  refine zs_as (y := nI (τ.2.1 + i)) (nI_add _ _) ?_
  refine zs_istore_n (lv' := [(2, .int (nI (τ.2.1 + i))), (0, .ref x), (1, .int (nI i))]) dX9_digit_6 (Nat.le_of_ble_eq_true rfl) rfl ?_
  refine zs_iload_n dX9_digit_7 rfl ?_
  refine zs_aload_n dX9_digit_8 rfl rfl ?_
  refine zs_get 0 dX9_digit_9 zf_RX9_49 rfl (v := .int (nI τ.2.1)) rfl ?_
  refine zs_icmp_lt (tgt := 43) dX9_digit_12 (by decide) (fun c_1 => (absurd c_1 (by rw [nI_lt' (by omega) (by omega)]; omega) : False).elim) (fun c_1 => ?_)
  refine zs_iload_n dX9_digit_15 rfl ?_
  refine zs_aload_n dX9_digit_16 rfl rfl ?_
  refine zs_get 0 dX9_digit_17 zf_RX9_30 rfl (v := .int (nI τ.2.2.1)) rfl ?_
  refine zs_icmp_ge (tgt := 43) dX9_digit_20 (by decide) (fun c_2 => (absurd c_2 (by rw [nI_le' (by omega) (by omega)]; omega) : False).elim) (fun c_2 => ?_)
  refine zs_iload_n dX9_digit_23 rfl ?_
  refine zs_aload_n dX9_digit_24 rfl rfl ?_
  refine zs_get 0 dX9_digit_25 zf_RX9_19 rfl (v := .int (nI n)) rfl ?_
  refine zs_icmp_ge (tgt := 43) dX9_digit_28 (by decide) (fun c_3 => (absurd c_3 (by rw [nI_le' (by omega) (by omega)]; omega) : False).elim) (fun c_3 => ?_)
  refine zs_aload_n dX9_digit_31 rfl rfl ?_
  refine zs_get 0 dX9_digit_32 zf_RX9_7 rfl (v := .ref b) rfl ?_
  refine zs_iload_n dX9_digit_35 rfl ?_
  refine zs_iald 1 dX9_digit_36 rfl (vp_in_nI (by omega) (by omega)) ?_
  refine zs_as (y := nI (bt (τ.2.1 + i))) (by rw [nI_c (n := τ.2.1 + i) (by omega)]; rfl) ?_
  refine zs_bipush (v := nI 48) dX9_digit_37 (by decide) ?_
  refine zs_isub dX9_digit_39 ?_
  refine zs_as (y := nI ((bt (τ.2.1 + i)) - 48)) (nI_sub (by omega)) ?_
  refine zs_goto (tgt := 44) dX9_digit_40 (by decide) ?_
  exact zs_iret dX9_digit_44 rfl ⟨rfl, rfl⟩
theorem dX9_takeEnd_0 : decode cX9_takeEnd 0 = .ok (.aload_n 0, 1) := by decide +kernel
theorem dX9_takeEnd_1 : decode cX9_takeEnd 1 = .ok (.getfield 46, 3) := by decide +kernel
theorem dX9_takeEnd_4 : decode cX9_takeEnd 4 = .ok (.ifCond .ne 10, 3) := by decide +kernel
theorem dX9_takeEnd_7 : decode cX9_takeEnd 7 = .ok (.aload_n 0, 1) := by decide +kernel
theorem dX9_takeEnd_8 : decode cX9_takeEnd 8 = .ok (.getfield 26, 3) := by decide +kernel
theorem dX9_takeEnd_11 : decode cX9_takeEnd 11 = .ok (.ifCond .eq 11, 3) := by decide +kernel
theorem dX9_takeEnd_14 : decode cX9_takeEnd 14 = .ok (.aload_n 0, 1) := by decide +kernel
theorem dX9_takeEnd_15 : decode cX9_takeEnd 15 = .ok (.iconst 1, 1) := by decide +kernel
theorem dX9_takeEnd_16 : decode cX9_takeEnd 16 = .ok (.invokevirtual 77, 3) := by decide +kernel
theorem dX9_takeEnd_19 : decode cX9_takeEnd 19 = .ok (.ifCond .eq 7, 3) := by decide +kernel
theorem dX9_takeEnd_22 : decode cX9_takeEnd 22 = .ok (.iconst 1, 1) := by decide +kernel
theorem dX9_takeEnd_23 : decode cX9_takeEnd 23 = .ok (.goto 4, 3) := by decide +kernel
theorem dX9_takeEnd_26 : decode cX9_takeEnd 26 = .ok (.iconst 0, 1) := by decide +kernel
theorem dX9_takeEnd_27 : decode cX9_takeEnd 27 = .ok (.ireturn, 1) := by decide +kernel
def tEn (n L : Nat) (τ : zTk) : Bool := decide (τ.1 = 0) && decide (n ≤ L)
set_option maxRecDepth 100000 in
theorem s_takeEnd (l : Launch) (dd : Nat) (x b n L : Nat) (τ : zTk) (pl : Nat) (tk : Int32) (hd : 1 ≤ dd) (hτ : tOK τ) : zSp l mX9_takeEnd dd 0 0 [.ref x] [(x, .inr (8, fTx b n L τ 0 pl tk))] (fun r K' => (tEn n L τ = true ∧ r = some (.int 1) ∧ K' = [(x, .inr (8, fTx b n L τ 0 pl tk))]) ∨ (tEn n L τ = false ∧ r = some (.int 0) ∧ K' = [(x, .inr (8, fTx b n L τ 1 τ.2.1 tk))])) := by
  refine zSp.of (by decide) (Nat.le_of_ble_eq_true rfl) (fun h0 => ?_)
  show zS _ 0 0 0 [(0, .ref x)] [] [(x, .inr (8, fTx b n L τ 0 pl tk))]
  have h14 := hτ.1
  refine zs_aload_n dX9_takeEnd_0 rfl rfl ?_
  refine zs_get 0 dX9_takeEnd_1 zf_RX9_46 rfl (v := .int (nI τ.1)) rfl ?_
  refine zs_if_ne (tgt := 14) dX9_takeEnd_4 (by decide) (fun c_1 => ?_) (fun c_1 => ?_)
  · have c_1 : ¬ (τ.1 = 0) := by have hc := c_1; rw [show (0 : Int32) = nI 0 from rfl] at hc; rw [nI_eq' (by omega) (by omega)] at hc; exact hc
    refine zs_aload_n dX9_takeEnd_14 rfl rfl ?_
    refine zs_iconst (v := nI 1) dX9_takeEnd_15 (by decide) ?_
    refine zs_callV (M := mX9_refuse) (As := [.int (nI 1)]) (st := []) (Kc := [(x, .inr (8, fTx b n L τ 0 pl tk))]) (Kr := []) [0] [] 0 dX9_takeEnd_16 zl_RX9_77 kX9_refuse rfl rfl rfl rfl rfl (by decide) rfl rfl (show dd - 1 + 1 ≤ dd by omega) (Nat.zero_le _) (Nat.zero_le _) (Nat.le_of_ble_eq_true rfl) (s_refuse l (dd - 1) x b n L τ pl 1 tk) (fun r K1 hr => ?_)
    obtain ⟨rfl, rfl⟩ := hr
    refine zs_K (K' := [(x, .inr (8, fTx b n L τ 1 τ.2.1 tk))]) [0] rfl (by decide) ?_
    refine zs_if_eq (tgt := 26) dX9_takeEnd_19 (by decide) (fun c_2 => ?_) (fun c_2 => (absurd (by decide) c_2 : False).elim)
    refine zs_iconst (v := nI 0) dX9_takeEnd_26 (by decide) ?_
    exact zs_zret dX9_takeEnd_27 rfl (by first | exact Or.inl rfl | exact Or.inr rfl) (Or.inr ⟨by unfold tEn; simp only [decide_eq_false c_1]; rfl, rfl, rfl⟩)
  · have c_1 : τ.1 = 0 := by have hc := c_1; rw [show (0 : Int32) = nI 0 from rfl] at hc; rw [nI_eq' (by omega) (by omega)] at hc; exact hc
    refine zs_aload_n dX9_takeEnd_7 rfl rfl ?_
    refine zs_get 0 dX9_takeEnd_8 zf_RX9_26 rfl (v := .int (bI (decide (L < n)))) rfl ?_
    refine zs_if_eq (tgt := 22) dX9_takeEnd_11 (by decide) (fun c_3 => ?_) (fun c_3 => ?_)
    · refine zs_iconst (v := nI 1) dX9_takeEnd_22 (by decide) ?_
      refine zs_goto (tgt := 27) dX9_takeEnd_23 (by decide) ?_
      exact zs_zret dX9_takeEnd_27 rfl (by first | exact Or.inl rfl | exact Or.inr rfl) (Or.inl ⟨by unfold tEn; simp only [decide_eq_true c_1, decide_eq_true (show n ≤ L by have := bI_f c_3; rw [decide_eq_false_iff_not] at this; omega)]; rfl, rfl, rfl⟩)
    · refine zs_aload_n dX9_takeEnd_14 rfl rfl ?_
      refine zs_iconst (v := nI 1) dX9_takeEnd_15 (by decide) ?_
      refine zs_callV (M := mX9_refuse) (As := [.int (nI 1)]) (st := []) (Kc := [(x, .inr (8, fTx b n L τ 0 pl tk))]) (Kr := []) [0] [] 0 dX9_takeEnd_16 zl_RX9_77 kX9_refuse rfl rfl rfl rfl rfl (by decide) rfl rfl (show dd - 1 + 1 ≤ dd by omega) (Nat.zero_le _) (Nat.zero_le _) (Nat.le_of_ble_eq_true rfl) (s_refuse l (dd - 1) x b n L τ pl 1 tk) (fun r K1 hr => ?_)
      obtain ⟨rfl, rfl⟩ := hr
      refine zs_K (K' := [(x, .inr (8, fTx b n L τ 1 τ.2.1 tk))]) [0] rfl (by decide) ?_
      refine zs_if_eq (tgt := 26) dX9_takeEnd_19 (by decide) (fun c_4 => ?_) (fun c_4 => (absurd (by decide) c_4 : False).elim)
      refine zs_iconst (v := nI 0) dX9_takeEnd_26 (by decide) ?_
      exact zs_zret dX9_takeEnd_27 rfl (by first | exact Or.inl rfl | exact Or.inr rfl) (Or.inr ⟨by unfold tEn; simp only [decide_eq_true c_1, decide_eq_false (show ¬ n ≤ L by have := bI_t c_3; rw [decide_eq_true_iff] at this; omega)]; rfl, rfl, rfl⟩)
theorem dX9_next_0 : decode cX9_next 0 = .ok (.aload_n 0, 1) := by decide +kernel
theorem dX9_next_1 : decode cX9_next 1 = .ok (.getfield 30, 3) := by decide +kernel
theorem dX9_next_4 : decode cX9_next 4 = .ok (.istore_n 1, 1) := by decide +kernel
theorem dX9_next_5 : decode cX9_next 5 = .ok (.iload_n 1, 1) := by decide +kernel
theorem dX9_next_6 : decode cX9_next 6 = .ok (.aload_n 0, 1) := by decide +kernel
theorem dX9_next_7 : decode cX9_next 7 = .ok (.getfield 23, 3) := by decide +kernel
theorem dX9_next_10 : decode cX9_next 10 = .ok (.if_icmp .ge 31, 3) := by decide +kernel
theorem dX9_next_13 : decode cX9_next 13 = .ok (.aload_n 0, 1) := by decide +kernel
theorem dX9_next_14 : decode cX9_next 14 = .ok (.getfield 7, 3) := by decide +kernel
theorem dX9_next_17 : decode cX9_next 17 = .ok (.iload_n 1, 1) := by decide +kernel
theorem dX9_next_18 : decode cX9_next 18 = .ok (.iaload, 1) := by decide +kernel
theorem dX9_next_19 : decode cX9_next 19 = .ok (.bipush 32, 2) := by decide +kernel
theorem dX9_next_21 : decode cX9_next 21 = .ok (.if_icmp .eq 14, 3) := by decide +kernel
theorem dX9_next_24 : decode cX9_next 24 = .ok (.aload_n 0, 1) := by decide +kernel
theorem dX9_next_25 : decode cX9_next 25 = .ok (.getfield 7, 3) := by decide +kernel
theorem dX9_next_28 : decode cX9_next 28 = .ok (.iload_n 1, 1) := by decide +kernel
theorem dX9_next_29 : decode cX9_next 29 = .ok (.iaload, 1) := by decide +kernel
theorem dX9_next_30 : decode cX9_next 30 = .ok (.bipush 10, 2) := by decide +kernel
theorem dX9_next_32 : decode cX9_next 32 = .ok (.if_icmp .ne 9, 3) := by decide +kernel
theorem dX9_next_35 : decode cX9_next 35 = .ok (.iinc 1 1, 3) := by decide +kernel
theorem dX9_next_38 : decode cX9_next 38 = .ok (.goto (-33), 3) := by decide +kernel
theorem dX9_next_41 : decode cX9_next 41 = .ok (.aload_n 0, 1) := by decide +kernel
theorem dX9_next_42 : decode cX9_next 42 = .ok (.aconst_null, 1) := by decide +kernel
theorem dX9_next_43 : decode cX9_next 43 = .ok (.putfield 42, 3) := by decide +kernel
theorem dX9_next_46 : decode cX9_next 46 = .ok (.iload_n 1, 1) := by decide +kernel
theorem dX9_next_47 : decode cX9_next 47 = .ok (.aload_n 0, 1) := by decide +kernel
theorem dX9_next_48 : decode cX9_next 48 = .ok (.getfield 23, 3) := by decide +kernel
theorem dX9_next_51 : decode cX9_next 51 = .ok (.if_icmp .lt 25, 3) := by decide +kernel
theorem dX9_next_54 : decode cX9_next 54 = .ok (.aload_n 0, 1) := by decide +kernel
theorem dX9_next_55 : decode cX9_next 55 = .ok (.iconst 0, 1) := by decide +kernel
theorem dX9_next_56 : decode cX9_next 56 = .ok (.putfield 46, 3) := by decide +kernel
theorem dX9_next_59 : decode cX9_next 59 = .ok (.aload_n 0, 1) := by decide +kernel
theorem dX9_next_60 : decode cX9_next 60 = .ok (.aload_n 0, 1) := by decide +kernel
theorem dX9_next_61 : decode cX9_next 61 = .ok (.getfield 23, 3) := by decide +kernel
theorem dX9_next_64 : decode cX9_next 64 = .ok (.putfield 49, 3) := by decide +kernel
theorem dX9_next_67 : decode cX9_next 67 = .ok (.aload_n 0, 1) := by decide +kernel
theorem dX9_next_68 : decode cX9_next 68 = .ok (.aload_n 0, 1) := by decide +kernel
theorem dX9_next_69 : decode cX9_next 69 = .ok (.getfield 23, 3) := by decide +kernel
theorem dX9_next_72 : decode cX9_next 72 = .ok (.putfield 30, 3) := by decide +kernel
theorem dX9_next_75 : decode cX9_next 75 = .ok (.return_, 1) := by decide +kernel
theorem dX9_next_76 : decode cX9_next 76 = .ok (.aload_n 0, 1) := by decide +kernel
theorem dX9_next_77 : decode cX9_next 77 = .ok (.iload_n 1, 1) := by decide +kernel
theorem dX9_next_78 : decode cX9_next 78 = .ok (.putfield 49, 3) := by decide +kernel
theorem dX9_next_81 : decode cX9_next 81 = .ok (.aload_n 0, 1) := by decide +kernel
theorem dX9_next_82 : decode cX9_next 82 = .ok (.getfield 7, 3) := by decide +kernel
theorem dX9_next_85 : decode cX9_next 85 = .ok (.iload_n 1, 1) := by decide +kernel
theorem dX9_next_86 : decode cX9_next 86 = .ok (.iaload, 1) := by decide +kernel
theorem dX9_next_87 : decode cX9_next 87 = .ok (.invokestatic 52, 3) := by decide +kernel
theorem dX9_next_90 : decode cX9_next 90 = .ok (.ifCond .ne 54, 3) := by decide +kernel
theorem dX9_next_93 : decode cX9_next 93 = .ok (.aload_n 0, 1) := by decide +kernel
theorem dX9_next_94 : decode cX9_next 94 = .ok (.getfield 7, 3) := by decide +kernel
theorem dX9_next_97 : decode cX9_next 97 = .ok (.iload_n 1, 1) := by decide +kernel
theorem dX9_next_98 : decode cX9_next 98 = .ok (.iaload, 1) := by decide +kernel
theorem dX9_next_99 : decode cX9_next 99 = .ok (.invokestatic 56, 3) := by decide +kernel
theorem dX9_next_102 : decode cX9_next 102 = .ok (.ifCond .ne 42, 3) := by decide +kernel
theorem dX9_next_105 : decode cX9_next 105 = .ok (.aload_n 0, 1) := by decide +kernel
theorem dX9_next_106 : decode cX9_next 106 = .ok (.aload_n 0, 1) := by decide +kernel
theorem dX9_next_107 : decode cX9_next 107 = .ok (.getfield 7, 3) := by decide +kernel
theorem dX9_next_110 : decode cX9_next 110 = .ok (.iload_n 1, 1) := by decide +kernel
theorem dX9_next_111 : decode cX9_next 111 = .ok (.iaload, 1) := by decide +kernel
theorem dX9_next_112 : decode cX9_next 112 = .ok (.invokestatic 59, 3) := by decide +kernel
theorem dX9_next_115 : decode cX9_next 115 = .ok (.ifCond .eq 7, 3) := by decide +kernel
theorem dX9_next_118 : decode cX9_next 118 = .ok (.iconst 4, 1) := by decide +kernel
theorem dX9_next_119 : decode cX9_next 119 = .ok (.goto 4, 3) := by decide +kernel
theorem dX9_next_122 : decode cX9_next 122 = .ok (.iconst 1, 1) := by decide +kernel
theorem dX9_next_123 : decode cX9_next 123 = .ok (.putfield 46, 3) := by decide +kernel
theorem dX9_next_126 : decode cX9_next 126 = .ok (.aload_n 0, 1) := by decide +kernel
theorem dX9_next_127 : decode cX9_next 127 = .ok (.aload_n 0, 1) := by decide +kernel
theorem dX9_next_128 : decode cX9_next 128 = .ok (.getfield 7, 3) := by decide +kernel
theorem dX9_next_131 : decode cX9_next 131 = .ok (.iload_n 1, 1) := by decide +kernel
theorem dX9_next_132 : decode cX9_next 132 = .ok (.iaload, 1) := by decide +kernel
theorem dX9_next_133 : decode cX9_next 133 = .ok (.putfield 62, 3) := by decide +kernel
theorem dX9_next_136 : decode cX9_next 136 = .ok (.aload_n 0, 1) := by decide +kernel
theorem dX9_next_137 : decode cX9_next 137 = .ok (.iload_n 1, 1) := by decide +kernel
theorem dX9_next_138 : decode cX9_next 138 = .ok (.iconst 1, 1) := by decide +kernel
theorem dX9_next_139 : decode cX9_next 139 = .ok (.iadd, 1) := by decide +kernel
theorem dX9_next_140 : decode cX9_next 140 = .ok (.putfield 30, 3) := by decide +kernel
theorem dX9_next_143 : decode cX9_next 143 = .ok (.return_, 1) := by decide +kernel
theorem dX9_next_144 : decode cX9_next 144 = .ok (.iconst 0, 1) := by decide +kernel
theorem dX9_next_145 : decode cX9_next 145 = .ok (.istore_n 2, 1) := by decide +kernel
theorem dX9_next_146 : decode cX9_next 146 = .ok (.iconst 0, 1) := by decide +kernel
theorem dX9_next_147 : decode cX9_next 147 = .ok (.istore_n 3, 1) := by decide +kernel
theorem dX9_next_148 : decode cX9_next 148 = .ok (.iconst 0, 1) := by decide +kernel
theorem dX9_next_149 : decode cX9_next 149 = .ok (.istore 4, 2) := by decide +kernel
theorem dX9_next_151 : decode cX9_next 151 = .ok (.iconst 0, 1) := by decide +kernel
theorem dX9_next_152 : decode cX9_next 152 = .ok (.istore 5, 2) := by decide +kernel
theorem dX9_next_154 : decode cX9_next 154 = .ok (.iload_n 1, 1) := by decide +kernel
theorem dX9_next_155 : decode cX9_next 155 = .ok (.aload_n 0, 1) := by decide +kernel
theorem dX9_next_156 : decode cX9_next 156 = .ok (.getfield 19, 3) := by decide +kernel
theorem dX9_next_159 : decode cX9_next 159 = .ok (.if_icmp .ge 84, 3) := by decide +kernel
theorem dX9_next_162 : decode cX9_next 162 = .ok (.aload_n 0, 1) := by decide +kernel
theorem dX9_next_163 : decode cX9_next 163 = .ok (.getfield 7, 3) := by decide +kernel
theorem dX9_next_166 : decode cX9_next 166 = .ok (.iload_n 1, 1) := by decide +kernel
theorem dX9_next_167 : decode cX9_next 167 = .ok (.iaload, 1) := by decide +kernel
theorem dX9_next_168 : decode cX9_next 168 = .ok (.invokestatic 52, 3) := by decide +kernel
theorem dX9_next_171 : decode cX9_next 171 = .ok (.ifCond .ne 15, 3) := by decide +kernel
theorem dX9_next_174 : decode cX9_next 174 = .ok (.aload_n 0, 1) := by decide +kernel
theorem dX9_next_175 : decode cX9_next 175 = .ok (.getfield 7, 3) := by decide +kernel
theorem dX9_next_178 : decode cX9_next 178 = .ok (.iload_n 1, 1) := by decide +kernel
theorem dX9_next_179 : decode cX9_next 179 = .ok (.iaload, 1) := by decide +kernel
theorem dX9_next_180 : decode cX9_next 180 = .ok (.invokestatic 56, 3) := by decide +kernel
theorem dX9_next_183 : decode cX9_next 183 = .ok (.ifCond .eq 60, 3) := by decide +kernel
theorem dX9_next_186 : decode cX9_next 186 = .ok (.aload_n 0, 1) := by decide +kernel
theorem dX9_next_187 : decode cX9_next 187 = .ok (.getfield 7, 3) := by decide +kernel
theorem dX9_next_190 : decode cX9_next 190 = .ok (.iload_n 1, 1) := by decide +kernel
theorem dX9_next_191 : decode cX9_next 191 = .ok (.iaload, 1) := by decide +kernel
theorem dX9_next_192 : decode cX9_next 192 = .ok (.invokestatic 52, 3) := by decide +kernel
theorem dX9_next_195 : decode cX9_next 195 = .ok (.ifCond .eq 22, 3) := by decide +kernel
theorem dX9_next_198 : decode cX9_next 198 = .ok (.iinc 2 1, 3) := by decide +kernel
theorem dX9_next_201 : decode cX9_next 201 = .ok (.iload 4, 2) := by decide +kernel
theorem dX9_next_203 : decode cX9_next 203 = .ok (.aload_n 0, 1) := by decide +kernel
theorem dX9_next_204 : decode cX9_next 204 = .ok (.getfield 7, 3) := by decide +kernel
theorem dX9_next_207 : decode cX9_next 207 = .ok (.iload_n 1, 1) := by decide +kernel
theorem dX9_next_208 : decode cX9_next 208 = .ok (.iaload, 1) := by decide +kernel
theorem dX9_next_209 : decode cX9_next 209 = .ok (.invokestatic 65, 3) := by decide +kernel
theorem dX9_next_212 : decode cX9_next 212 = .ok (.istore 4, 2) := by decide +kernel
theorem dX9_next_214 : decode cX9_next 214 = .ok (.goto 23, 3) := by decide +kernel
theorem dX9_next_217 : decode cX9_next 217 = .ok (.iinc 3 1, 3) := by decide +kernel
theorem dX9_next_220 : decode cX9_next 220 = .ok (.iload 5, 2) := by decide +kernel
theorem dX9_next_222 : decode cX9_next 222 = .ok (.bipush 10, 2) := by decide +kernel
theorem dX9_next_224 : decode cX9_next 224 = .ok (.imul, 1) := by decide +kernel
theorem dX9_next_225 : decode cX9_next 225 = .ok (.aload_n 0, 1) := by decide +kernel
theorem dX9_next_226 : decode cX9_next 226 = .ok (.getfield 7, 3) := by decide +kernel
theorem dX9_next_229 : decode cX9_next 229 = .ok (.iload_n 1, 1) := by decide +kernel
theorem dX9_next_230 : decode cX9_next 230 = .ok (.iaload, 1) := by decide +kernel
theorem dX9_next_231 : decode cX9_next 231 = .ok (.bipush 48, 2) := by decide +kernel
theorem dX9_next_233 : decode cX9_next 233 = .ok (.isub, 1) := by decide +kernel
theorem dX9_next_234 : decode cX9_next 234 = .ok (.iadd, 1) := by decide +kernel
theorem dX9_next_235 : decode cX9_next 235 = .ok (.istore 5, 2) := by decide +kernel
theorem dX9_next_237 : decode cX9_next 237 = .ok (.iinc 1 1, 3) := by decide +kernel
theorem dX9_next_240 : decode cX9_next 240 = .ok (.goto (-86), 3) := by decide +kernel
theorem dX9_next_243 : decode cX9_next 243 = .ok (.aload_n 0, 1) := by decide +kernel
theorem dX9_next_244 : decode cX9_next 244 = .ok (.iload_n 1, 1) := by decide +kernel
theorem dX9_next_245 : decode cX9_next 245 = .ok (.putfield 30, 3) := by decide +kernel
theorem dX9_next_248 : decode cX9_next 248 = .ok (.iload_n 3, 1) := by decide +kernel
theorem dX9_next_249 : decode cX9_next 249 = .ok (.ifCond .ne 32, 3) := by decide +kernel
theorem dX9_next_252 : decode cX9_next 252 = .ok (.iload_n 2, 1) := by decide +kernel
theorem dX9_next_253 : decode cX9_next 253 = .ok (.bipush 6, 2) := by decide +kernel
theorem dX9_next_255 : decode cX9_next 255 = .ok (.if_icmp .gt 26, 3) := by decide +kernel
theorem dX9_next_258 : decode cX9_next 258 = .ok (.aload_n 0, 1) := by decide +kernel
theorem dX9_next_259 : decode cX9_next 259 = .ok (.iconst 2, 1) := by decide +kernel
theorem dX9_next_260 : decode cX9_next 260 = .ok (.putfield 46, 3) := by decide +kernel
theorem dX9_next_263 : decode cX9_next 263 = .ok (.aload_n 0, 1) := by decide +kernel
theorem dX9_next_264 : decode cX9_next 264 = .ok (.iload 4, 2) := by decide +kernel
theorem dX9_next_266 : decode cX9_next 266 = .ok (.putfield 62, 3) := by decide +kernel
theorem dX9_next_269 : decode cX9_next 269 = .ok (.aload_n 0, 1) := by decide +kernel
theorem dX9_next_270 : decode cX9_next 270 = .ok (.iload 4, 2) := by decide +kernel
theorem dX9_next_272 : decode cX9_next 272 = .ok (.invokestatic 70, 3) := by decide +kernel
theorem dX9_next_275 : decode cX9_next 275 = .ok (.putfield 42, 3) := by decide +kernel
theorem dX9_next_278 : decode cX9_next 278 = .ok (.goto 28, 3) := by decide +kernel
theorem dX9_next_281 : decode cX9_next 281 = .ok (.aload_n 0, 1) := by decide +kernel
theorem dX9_next_282 : decode cX9_next 282 = .ok (.iload_n 2, 1) := by decide +kernel
theorem dX9_next_283 : decode cX9_next 283 = .ok (.ifCond .ne 13, 3) := by decide +kernel
theorem dX9_next_286 : decode cX9_next 286 = .ok (.iload_n 3, 1) := by decide +kernel
theorem dX9_next_287 : decode cX9_next 287 = .ok (.bipush 8, 2) := by decide +kernel
theorem dX9_next_289 : decode cX9_next 289 = .ok (.if_icmp .gt 7, 3) := by decide +kernel
theorem dX9_next_292 : decode cX9_next 292 = .ok (.iconst 3, 1) := by decide +kernel
theorem dX9_next_293 : decode cX9_next 293 = .ok (.goto 4, 3) := by decide +kernel
theorem dX9_next_296 : decode cX9_next 296 = .ok (.iconst 1, 1) := by decide +kernel
theorem dX9_next_297 : decode cX9_next 297 = .ok (.putfield 46, 3) := by decide +kernel
theorem dX9_next_300 : decode cX9_next 300 = .ok (.aload_n 0, 1) := by decide +kernel
theorem dX9_next_301 : decode cX9_next 301 = .ok (.iload 5, 2) := by decide +kernel
theorem dX9_next_303 : decode cX9_next 303 = .ok (.putfield 62, 3) := by decide +kernel
theorem dX9_next_306 : decode cX9_next 306 = .ok (.return_, 1) := by decide +kernel
set_option maxRecDepth 100000 in
theorem lp_skip {l : Launch} {dd : Nat} {Po : zPo} {K0 : zK} {h0 : List va_E} {Xo : zK → Prop} {Gc : zG → Prop} (x b n L : Nat) (bt : Nat → Nat) (τ : zTk) (fa pl : Nat) (tk : Int32) (hn : n ≤ 740) (hL : L ≤ 740) (hbt : ∀ j, bt j < 256) (Q : Nat) : ∀ (m p : Nat), min n L ≤ p + m → p ≤ 740 → lSk bt (min n L) m p = Q → (hk : zS (l, mX9_next, dd, Po, K0, h0, Xo, Gc) 0 0 41 [(0, .ref x), (1, .int (nI Q))] [] [(x, .inr (8, [.ref b, .int (nI n), .int (nI (min n L)), .int (bI (decide (L < n))), .int (nI τ.1), .int (nI τ.2.1), .int (nI τ.2.2.1), .int (nI τ.2.2.2.1), (wV τ.2.2.2.2), .int (nI fa), .int (nI pl), .int tk])), (b, .inl (0, 740, .inl (nF bt)))]) → zS (l, mX9_next, dd, Po, K0, h0, Xo, Gc) 0 0 5 [(0, .ref x), (1, .int (nI p))] [] [(x, .inr (8, [.ref b, .int (nI n), .int (nI (min n L)), .int (bI (decide (L < n))), .int (nI τ.1), .int (nI τ.2.1), .int (nI τ.2.2.1), .int (nI τ.2.2.2.1), (wV τ.2.2.2.2), .int (nI fa), .int (nI pl), .int tk])), (b, .inl (0, 740, .inl (nF bt)))] := by
  intro m
  induction m with
  | zero =>
    intro p hp hp2 hQ hk
    have hq0 : lSk bt (min n L) 0 p = p := rfl
    by_cases hpl : p < min n L
    · omega
    ·
      refine zs_iload_n dX9_next_5 rfl ?_
      refine zs_aload_n dX9_next_6 rfl rfl ?_
      refine zs_get 0 dX9_next_7 zf_RX9_23 rfl (v := .int (nI (min n L))) rfl ?_
      refine zs_icmp_ge (tgt := 41) dX9_next_10 (by decide) (fun c_1 => ?_) (fun c_1 => (c_1 (by rw [nI_le' (by omega) (by omega)]; omega) : False).elim)
      refine zs_lv [0, 1] rfl ?_
      rw [← hQ, hq0] at hk
      exact hk
  | succ m ih =>
    intro p hp hp2 hQ hk
    by_cases hpl : p < min n L
    ·
      refine zs_iload_n dX9_next_5 rfl ?_
      refine zs_aload_n dX9_next_6 rfl rfl ?_
      refine zs_get 0 dX9_next_7 zf_RX9_23 rfl (v := .int (nI (min n L))) rfl ?_
      refine zs_icmp_ge (tgt := 41) dX9_next_10 (by decide) (fun c_1 => (nI_ge hpl (by omega) c_1 : False).elim) (fun c_1 => ?_)
      refine zs_aload_n dX9_next_13 rfl rfl ?_
      refine zs_get 0 dX9_next_14 zf_RX9_7 rfl (v := .ref b) rfl ?_
      refine zs_iload_n dX9_next_17 rfl ?_
      refine zs_iald 1 dX9_next_18 rfl (vp_in_nI (by omega) (by omega)) ?_
      refine zs_as (y := nI (bt p)) (by rw [nI_c (n := p) (by omega)]; rfl) ?_
      have hb := hbt p
      refine zs_bipush (v := nI 32) dX9_next_19 (by decide) ?_
      refine zs_icmp_eq (tgt := 35) dX9_next_21 (by decide) (fun c_2 => ?_) (fun c_2 => ?_)
      · have c_2 : (bt p) = 32 := by have hc := c_2; rw [nI_eq' (by omega) (by omega)] at hc; exact hc
        refine zs_iinc (v := (nI (p + 1))) (lv' := [(1, .int (nI (p + 1))), (0, .ref x)]) dX9_next_35 rfl (nI_add _ 1) (Nat.le_of_ble_eq_true rfl) rfl ?_
        refine zs_goto (tgt := 5) dX9_next_38 (by decide) ?_
        refine zs_lv [1, 0] rfl ?_
        exact ih (p + 1) (by omega) (by omega) (by rw [← hQ, lSk, if_pos ⟨hpl, by omega⟩]) hk
      · have c_2 : ¬ ((bt p) = 32) := by have hc := c_2; rw [nI_eq' (by omega) (by omega)] at hc; exact hc
        refine zs_aload_n dX9_next_24 rfl rfl ?_
        refine zs_get 0 dX9_next_25 zf_RX9_7 rfl (v := .ref b) rfl ?_
        refine zs_iload_n dX9_next_28 rfl ?_
        refine zs_iald 1 dX9_next_29 rfl (vp_in_nI (by omega) (by omega)) ?_
        refine zs_as (y := nI (bt p)) (by rw [nI_c (n := p) (by omega)]; rfl) ?_
        refine zs_bipush (v := nI 10) dX9_next_30 (by decide) ?_
        refine zs_icmp_ne (tgt := 41) dX9_next_32 (by decide) (fun c_3 => ?_) (fun c_3 => ?_)
        · have c_3 : ¬ ((bt p) = 10) := by have hc := c_3; rw [nI_eq' (by omega) (by omega)] at hc; exact hc
          rw [← hQ, lSk, if_neg (fun h => by have h2 := h.2; omega)] at hk
          refine zs_lv [0, 1] rfl ?_
          exact hk
        · have c_3 : (bt p) = 10 := by have hc := c_3; rw [nI_eq' (by omega) (by omega)] at hc; exact hc
          refine zs_iinc (v := (nI (p + 1))) (lv' := [(1, .int (nI (p + 1))), (0, .ref x)]) dX9_next_35 rfl (nI_add _ 1) (Nat.le_of_ble_eq_true rfl) rfl ?_
          refine zs_goto (tgt := 5) dX9_next_38 (by decide) ?_
          refine zs_lv [1, 0] rfl ?_
          exact ih (p + 1) (by omega) (by omega) (by rw [← hQ, lSk, if_pos ⟨hpl, by omega⟩]) hk
    · have hq0 : lSk bt (min n L) (m + 1) p = p := by rw [lSk, if_neg (fun h => hpl h.1)]
      refine zs_iload_n dX9_next_5 rfl ?_
      refine zs_aload_n dX9_next_6 rfl rfl ?_
      refine zs_get 0 dX9_next_7 zf_RX9_23 rfl (v := .int (nI (min n L))) rfl ?_
      refine zs_icmp_ge (tgt := 41) dX9_next_10 (by decide) (fun c_1 => ?_) (fun c_1 => (c_1 (by rw [nI_le' (by omega) (by omega)]; omega) : False).elim)
      refine zs_lv [0, 1] rfl ?_
      rw [← hQ, hq0] at hk
      exact hk
set_option maxRecDepth 100000 in
theorem lp_run {l : Launch} {dd : Nat} {Po : zPo} {K0 : zK} {h0 : List va_E} {Xo : zK → Prop} {Gc : zG → Prop} (x b n L : Nat) (bt : Nat → Nat) (τ : zTk) (fa pl : Nat) (tk : Int32) (kd : Int32) (q : Nat) (hd : 1 ≤ dd) (hn : n ≤ 740) (hL : L ≤ 740) (hbt : ∀ j, bt j < 256) (hq : q ≤ n) (E : Nat) (hk : zS (l, mX9_next, dd, Po, K0, h0, Xo, Gc) 0 0 243 [(0, .ref x), (1, .int (nI (q + (E - q)))), (2, .int (nI (lLt bt q (E - q)))), (3, .int (nI (lDg bt q (E - q)))), (4, .int (nI (lSp bt q (E - q)))), (5, .int (nI (lNm bt q (E - q))))] [] [(x, .inr (8, [.ref b, .int (nI n), .int (nI (min n L)), .int (bI (decide (L < n))), .int kd, .int (nI q), .int (nI τ.2.2.1), .int (nI τ.2.2.2.1), .null, .int (nI fa), .int (nI pl), .int tk])), (b, .inl (0, 740, .inl (nF bt)))]) : ∀ (m k : Nat), q + k + m = n → q + k ≤ n → lRun bt n m (q + k) = E → zS (l, mX9_next, dd, Po, K0, h0, Xo, Gc) 0 0 154 [(0, .ref x), (1, .int (nI (q + k))), (2, .int (nI (lLt bt q k))), (3, .int (nI (lDg bt q k))), (4, .int (nI (lSp bt q k))), (5, .int (nI (lNm bt q k)))] [] [(x, .inr (8, [.ref b, .int (nI n), .int (nI (min n L)), .int (bI (decide (L < n))), .int kd, .int (nI q), .int (nI τ.2.2.1), .int (nI τ.2.2.2.1), .null, .int (nI fa), .int (nI pl), .int tk])), (b, .inl (0, 740, .inl (nF bt)))] := by
  intro m
  induction m with
  | zero =>
    intro k hi hi2 hE
    have hE0 : q + k = E := hE
    refine zs_iload_n dX9_next_154 rfl ?_
    refine zs_aload_n dX9_next_155 rfl rfl ?_
    refine zs_get 0 dX9_next_156 zf_RX9_19 rfl (v := .int (nI n)) rfl ?_
    refine zs_icmp_ge (tgt := 243) dX9_next_159 (by decide) (fun c_1 => ?_) (fun c_1 => (c_1 (by rw [nI_le' (by omega) (by omega)]; omega) : False).elim)
    have e : k = E - q := by omega
    rw [e]
    exact hk
  | succ m ih =>
    intro k hi hi2 hE
    have hql : q + k < n := by omega
    have hb := hbt (q + k)
    refine zs_iload_n dX9_next_154 rfl ?_
    refine zs_aload_n dX9_next_155 rfl rfl ?_
    refine zs_get 0 dX9_next_156 zf_RX9_19 rfl (v := .int (nI n)) rfl ?_
    refine zs_icmp_ge (tgt := 243) dX9_next_159 (by decide) (fun c_1 => (nI_ge hql (by omega) c_1 : False).elim) (fun c_1 => ?_)
    refine zs_aload_n dX9_next_162 rfl rfl ?_
    refine zs_get 0 dX9_next_163 zf_RX9_7 rfl (v := .ref b) rfl ?_
    refine zs_iload_n dX9_next_166 rfl ?_
    refine zs_iald 1 dX9_next_167 rfl (vp_in_nI (by omega) (by omega)) ?_
    refine zs_as (y := nI (bt (q + k))) (by rw [nI_c (n := q + k) (by omega)]; rfl) ?_
    refine zs_callS (M := mX9_isLetter) (As := [.int (nI (bt (q + k)))]) (st := []) (Kc := []) (Kr := [(x, .inr (8, [.ref b, .int (nI n), .int (nI (min n L)), .int (bI (decide (L < n))), .int kd, .int (nI q), .int (nI τ.2.2.1), .int (nI τ.2.2.2.1), .null, .int (nI fa), .int (nI pl), .int tk])), (b, .inl (0, 740, .inl (nF bt)))]) [] [0, 1] dX9_next_168 zl_RX9_52 kX9_isLetter rfl rfl rfl rfl rfl (by decide) (show dd - 1 + 1 ≤ dd by omega) (Nat.zero_le _) (Nat.zero_le _) (Nat.le_of_ble_eq_true rfl) (s_isLetter l (dd - 1) (bt (q + k)) (hbt _)) (fun r K1 hr => ?_)
    obtain ⟨rfl, rfl⟩ := hr
    refine zs_K (K' := [(x, .inr (8, [.ref b, .int (nI n), .int (nI (min n L)), .int (bI (decide (L < n))), .int kd, .int (nI q), .int (nI τ.2.2.1), .int (nI τ.2.2.2.1), .null, .int (nI fa), .int (nI pl), .int tk])), (b, .inl (0, 740, .inl (nF bt)))]) [0, 1] rfl (by decide) ?_
    refine zs_if_ne (tgt := 186) dX9_next_171 (by decide) (fun c_2 => ?_) (fun c_2 => ?_)
    · refine zs_aload_n dX9_next_186 rfl rfl ?_
      refine zs_get 0 dX9_next_187 zf_RX9_7 rfl (v := .ref b) rfl ?_
      refine zs_iload_n dX9_next_190 rfl ?_
      refine zs_iald 1 dX9_next_191 rfl (vp_in_nI (by omega) (by omega)) ?_
      refine zs_as (y := nI (bt (q + k))) (by rw [nI_c (n := q + k) (by omega)]; rfl) ?_
      refine zs_callS (M := mX9_isLetter) (As := [.int (nI (bt (q + k)))]) (st := []) (Kc := []) (Kr := [(x, .inr (8, [.ref b, .int (nI n), .int (nI (min n L)), .int (bI (decide (L < n))), .int kd, .int (nI q), .int (nI τ.2.2.1), .int (nI τ.2.2.2.1), .null, .int (nI fa), .int (nI pl), .int tk])), (b, .inl (0, 740, .inl (nF bt)))]) [] [0, 1] dX9_next_192 zl_RX9_52 kX9_isLetter rfl rfl rfl rfl rfl (by decide) (show dd - 1 + 1 ≤ dd by omega) (Nat.zero_le _) (Nat.zero_le _) (Nat.le_of_ble_eq_true rfl) (s_isLetter l (dd - 1) (bt (q + k)) (hbt _)) (fun r K1 hr => ?_)
      obtain ⟨rfl, rfl⟩ := hr
      refine zs_K (K' := [(x, .inr (8, [.ref b, .int (nI n), .int (nI (min n L)), .int (bI (decide (L < n))), .int kd, .int (nI q), .int (nI τ.2.2.1), .int (nI τ.2.2.2.1), .null, .int (nI fa), .int (nI pl), .int tk])), (b, .inl (0, 740, .inl (nF bt)))]) [0, 1] rfl (by decide) ?_
      refine zs_if_eq (tgt := 217) dX9_next_195 (by decide) (fun c_3 => ?_) (fun c_3 => ?_)
      · exact absurd (bI_t c_2) (by rw [(bI_f c_3)]; decide)
      · refine zs_iinc (v := (nI ((lLt bt q k) + 1))) (lv' := [(2, .int (nI ((lLt bt q k) + 1))), (0, .ref x), (1, .int (nI (q + k))), (3, .int (nI (lDg bt q k))), (4, .int (nI (lSp bt q k))), (5, .int (nI (lNm bt q k)))]) dX9_next_198 rfl (nI_add _ 1) (Nat.le_of_ble_eq_true rfl) rfl ?_
        refine zs_iload dX9_next_201 rfl ?_
        refine zs_aload_n dX9_next_203 rfl rfl ?_
        refine zs_get 0 dX9_next_204 zf_RX9_7 rfl (v := .ref b) rfl ?_
        refine zs_iload_n dX9_next_207 rfl ?_
        refine zs_iald 1 dX9_next_208 rfl (vp_in_nI (by omega) (by omega)) ?_
        refine zs_as (y := nI (bt (q + k))) (by rw [nI_c (n := q + k) (by omega)]; rfl) ?_
        refine zs_callS (M := mX10_withLetter) (As := [.int (nI (lSp bt q k)), .int (nI (bt (q + k)))]) (st := []) (Kc := []) (Kr := [(x, .inr (8, [.ref b, .int (nI n), .int (nI (min n L)), .int (bI (decide (L < n))), .int kd, .int (nI q), .int (nI τ.2.2.1), .int (nI τ.2.2.2.1), .null, .int (nI fa), .int (nI pl), .int tk])), (b, .inl (0, 740, .inl (nF bt)))]) [] [0, 1] dX9_next_209 zl_RX9_65 kX10_withLetter rfl rfl rfl rfl rfl (by decide) (show dd - 1 + 1 ≤ dd by omega) (Nat.zero_le _) (Nat.zero_le _) (Nat.le_of_ble_eq_true rfl) (s_withLetter l (dd - 1) (nI (lSp bt q k)) (bt (q + k))) (fun r K1 hr => ?_)
        obtain ⟨rfl, rfl⟩ := hr
        refine zs_K (K' := [(x, .inr (8, [.ref b, .int (nI n), .int (nI (min n L)), .int (bI (decide (L < n))), .int kd, .int (nI q), .int (nI τ.2.2.1), .int (nI τ.2.2.2.1), .null, .int (nI fa), .int (nI pl), .int tk])), (b, .inl (0, 740, .inl (nF bt)))]) [0, 1] rfl (by decide) ?_
        refine zs_as (y := nI (lSp bt q k * 27 + (bt (q + k) - 97 + 1))) (by rw [show (97 : Int32) = nI 97 from rfl, show (27 : Int32) = nI 27 from rfl, show (1 : Int32) = nI 1 from rfl, nI_sub (isL_iff.mp (bI_t c_3)).1, nI_add, nI_mul, nI_add]) ?_
        refine zs_istore (lv' := [(4, .int (nI (lSp bt q k * 27 + (bt (q + k) - 97 + 1)))), (2, .int (nI ((lLt bt q k) + 1))), (0, .ref x), (1, .int (nI (q + k))), (3, .int (nI (lDg bt q k))), (5, .int (nI (lNm bt q k)))]) dX9_next_212 (Nat.le_of_ble_eq_true rfl) rfl ?_
        refine zs_goto (tgt := 237) dX9_next_214 (by decide) ?_
        refine zs_iinc (v := (nI ((q + k) + 1))) (lv' := [(1, .int (nI ((q + k) + 1))), (4, .int (nI (lSp bt q k * 27 + (bt (q + k) - 97 + 1)))), (2, .int (nI ((lLt bt q k) + 1))), (0, .ref x), (3, .int (nI (lDg bt q k))), (5, .int (nI (lNm bt q k)))]) dX9_next_237 rfl (nI_add _ 1) (Nat.le_of_ble_eq_true rfl) rfl ?_
        refine zs_goto (tgt := 154) dX9_next_240 (by decide) ?_
        refine zs_lv [3, 0, 2, 4, 1, 5] rfl ?_
        have hq := ih (k + 1) (by omega) (by omega) (by rw [← hE, lRun, if_pos ⟨hql, by rw [Bool.or_eq_true]; exact Or.inl (bI_t c_2)⟩]; rfl)
        simp only [lLt, lDg, lSp, lNm, if_pos (show isL (bt (q + k)) = true from (bI_t c_3))] at hq
        exact hq
    · refine zs_aload_n dX9_next_174 rfl rfl ?_
      refine zs_get 0 dX9_next_175 zf_RX9_7 rfl (v := .ref b) rfl ?_
      refine zs_iload_n dX9_next_178 rfl ?_
      refine zs_iald 1 dX9_next_179 rfl (vp_in_nI (by omega) (by omega)) ?_
      refine zs_as (y := nI (bt (q + k))) (by rw [nI_c (n := q + k) (by omega)]; rfl) ?_
      refine zs_callS (M := mX9_isDigit) (As := [.int (nI (bt (q + k)))]) (st := []) (Kc := []) (Kr := [(x, .inr (8, [.ref b, .int (nI n), .int (nI (min n L)), .int (bI (decide (L < n))), .int kd, .int (nI q), .int (nI τ.2.2.1), .int (nI τ.2.2.2.1), .null, .int (nI fa), .int (nI pl), .int tk])), (b, .inl (0, 740, .inl (nF bt)))]) [] [0, 1] dX9_next_180 zl_RX9_56 kX9_isDigit rfl rfl rfl rfl rfl (by decide) (show dd - 1 + 1 ≤ dd by omega) (Nat.zero_le _) (Nat.zero_le _) (Nat.le_of_ble_eq_true rfl) (s_isDigit l (dd - 1) (bt (q + k)) (hbt _)) (fun r K1 hr => ?_)
      obtain ⟨rfl, rfl⟩ := hr
      refine zs_K (K' := [(x, .inr (8, [.ref b, .int (nI n), .int (nI (min n L)), .int (bI (decide (L < n))), .int kd, .int (nI q), .int (nI τ.2.2.1), .int (nI τ.2.2.2.1), .null, .int (nI fa), .int (nI pl), .int tk])), (b, .inl (0, 740, .inl (nF bt)))]) [0, 1] rfl (by decide) ?_
      refine zs_if_eq (tgt := 243) dX9_next_183 (by decide) (fun c_4 => ?_) (fun c_4 => ?_)
      · have e : k = E - q := by have h := hE; rw [lRun, if_neg (fun h => by have h2 := h.2; rw [(bI_f c_2), (bI_f c_4)] at h2; exact absurd h2 (by decide))] at h; omega
        rw [e] at *
        refine zs_lv [0, 1, 2, 3, 4, 5] rfl ?_
        exact hk
      · refine zs_aload_n dX9_next_186 rfl rfl ?_
        refine zs_get 0 dX9_next_187 zf_RX9_7 rfl (v := .ref b) rfl ?_
        refine zs_iload_n dX9_next_190 rfl ?_
        refine zs_iald 1 dX9_next_191 rfl (vp_in_nI (by omega) (by omega)) ?_
        refine zs_as (y := nI (bt (q + k))) (by rw [nI_c (n := q + k) (by omega)]; rfl) ?_
        refine zs_callS (M := mX9_isLetter) (As := [.int (nI (bt (q + k)))]) (st := []) (Kc := []) (Kr := [(x, .inr (8, [.ref b, .int (nI n), .int (nI (min n L)), .int (bI (decide (L < n))), .int kd, .int (nI q), .int (nI τ.2.2.1), .int (nI τ.2.2.2.1), .null, .int (nI fa), .int (nI pl), .int tk])), (b, .inl (0, 740, .inl (nF bt)))]) [] [0, 1] dX9_next_192 zl_RX9_52 kX9_isLetter rfl rfl rfl rfl rfl (by decide) (show dd - 1 + 1 ≤ dd by omega) (Nat.zero_le _) (Nat.zero_le _) (Nat.le_of_ble_eq_true rfl) (s_isLetter l (dd - 1) (bt (q + k)) (hbt _)) (fun r K1 hr => ?_)
        obtain ⟨rfl, rfl⟩ := hr
        refine zs_K (K' := [(x, .inr (8, [.ref b, .int (nI n), .int (nI (min n L)), .int (bI (decide (L < n))), .int kd, .int (nI q), .int (nI τ.2.2.1), .int (nI τ.2.2.2.1), .null, .int (nI fa), .int (nI pl), .int tk])), (b, .inl (0, 740, .inl (nF bt)))]) [0, 1] rfl (by decide) ?_
        refine zs_if_eq (tgt := 217) dX9_next_195 (by decide) (fun c_5 => ?_) (fun c_5 => ?_)
        · have hdig : isD (bt (q + k)) = true := (bI_t c_4)
          refine zs_iinc (v := (nI ((lDg bt q k) + 1))) (lv' := [(3, .int (nI ((lDg bt q k) + 1))), (0, .ref x), (1, .int (nI (q + k))), (2, .int (nI (lLt bt q k))), (4, .int (nI (lSp bt q k))), (5, .int (nI (lNm bt q k)))]) dX9_next_217 rfl (nI_add _ 1) (Nat.le_of_ble_eq_true rfl) rfl ?_
          refine zs_iload dX9_next_220 rfl ?_
          refine zs_bipush (v := nI 10) dX9_next_222 (by decide) ?_
          refine zs_imul dX9_next_224 ?_
          refine zs_as (y := nI ((lNm bt q k) * 10)) (nI_mul _ _) ?_
          refine zs_aload_n dX9_next_225 rfl rfl ?_
          refine zs_get 0 dX9_next_226 zf_RX9_7 rfl (v := .ref b) rfl ?_
          refine zs_iload_n dX9_next_229 rfl ?_
          refine zs_iald 1 dX9_next_230 rfl (vp_in_nI (by omega) (by omega)) ?_
          refine zs_as (y := nI (bt (q + k))) (by rw [nI_c (n := q + k) (by omega)]; rfl) ?_
          refine zs_bipush (v := nI 48) dX9_next_231 (by decide) ?_
          refine zs_isub dX9_next_233 ?_
          refine zs_as (y := nI ((bt (q + k)) - 48)) (nI_sub (by have h := isD_iff.mp hdig; omega)) ?_
          refine zs_iadd dX9_next_234 ?_
          refine zs_as (y := nI (((lNm bt q k) * 10) + ((bt (q + k)) - 48))) (nI_add _ _) ?_
          refine zs_istore (lv' := [(5, .int (nI (((lNm bt q k) * 10) + ((bt (q + k)) - 48)))), (3, .int (nI ((lDg bt q k) + 1))), (0, .ref x), (1, .int (nI (q + k))), (2, .int (nI (lLt bt q k))), (4, .int (nI (lSp bt q k)))]) dX9_next_235 (Nat.le_of_ble_eq_true rfl) rfl ?_
          refine zs_iinc (v := (nI ((q + k) + 1))) (lv' := [(1, .int (nI ((q + k) + 1))), (5, .int (nI (((lNm bt q k) * 10) + ((bt (q + k)) - 48)))), (3, .int (nI ((lDg bt q k) + 1))), (0, .ref x), (2, .int (nI (lLt bt q k))), (4, .int (nI (lSp bt q k)))]) dX9_next_237 rfl (nI_add _ 1) (Nat.le_of_ble_eq_true rfl) rfl ?_
          refine zs_goto (tgt := 154) dX9_next_240 (by decide) ?_
          refine zs_lv [3, 0, 4, 2, 5, 1] rfl ?_
          have hq := ih (k + 1) (by omega) (by omega) (by rw [← hE, lRun, if_pos ⟨hql, by rw [Bool.or_eq_true]; exact Or.inr (bI_t c_4)⟩]; rfl)
          simp only [lLt, lDg, lSp, lNm, if_neg (show ¬ isL (bt (q + k)) = true from (fun h => by rw [(bI_f c_5)] at h; exact absurd h (by decide)))] at hq
          exact hq
        · exact absurd (bI_t c_5) (by rw [(bI_f c_2)]; decide)
set_option maxRecDepth 100000 in
theorem s_next (l : Launch) (dd : Nat) (x b n L : Nat) (bt : Nat → Nat) (τ : zTk) (fa pl : Nat) (tk : Int32) (hd : 2 ≤ dd) (hn : n ≤ 740) (hL : L ≤ 740) (hbt : ∀ j, bt j < 256) (hte : τ.2.2.1 ≤ 740) : zSp l mX9_next dd 0 0 [.ref x] [(x, .inr (8, [.ref b, .int (nI n), .int (nI (min n L)), .int (bI (decide (L < n))), .int (nI τ.1), .int (nI τ.2.1), .int (nI τ.2.2.1), .int (nI τ.2.2.2.1), (wV τ.2.2.2.2), .int (nI fa), .int (nI pl), .int tk])), (b, .inl (0, 740, .inl (nF bt)))] (fun r K' => r = none ∧ K' = [(x, .inr (8, fTx b n L (nxt bt n L τ) fa pl tk))] ++ [(b, .inl (0, 740, .inl (nF bt)))]) := by
  refine zSp.of (by decide) (Nat.le_of_ble_eq_true rfl) (fun h0 => ?_)
  show zS _ 0 0 0 [(0, .ref x)] [] [(x, .inr (8, [.ref b, .int (nI n), .int (nI (min n L)), .int (bI (decide (L < n))), .int (nI τ.1), .int (nI τ.2.1), .int (nI τ.2.2.1), .int (nI τ.2.2.2.1), (wV τ.2.2.2.2), .int (nI fa), .int (nI pl), .int tk])), (b, .inl (0, 740, .inl (nF bt)))]
  refine zs_aload_n dX9_next_0 rfl rfl ?_
  refine zs_get 0 dX9_next_1 zf_RX9_30 rfl (v := .int (nI τ.2.2.1)) rfl ?_
  refine zs_istore_n (lv' := [(1, .int (nI τ.2.2.1)), (0, .ref x)]) dX9_next_4 (Nat.le_of_ble_eq_true rfl) rfl ?_
  refine zs_lv [1, 0] rfl ?_
  obtain ⟨Q, hQ⟩ : ∃ Q, lSk bt (min n L) (min n L - τ.2.2.1) τ.2.2.1 = Q := ⟨_, rfl⟩
  have hQb := lSk_le (b := bt) (st := min n L) (min n L - τ.2.2.1) τ.2.2.1
  rw [hQ] at hQb
  refine lp_skip x b n L bt τ fa pl tk hn hL hbt Q (min n L - τ.2.2.1) τ.2.2.1 (by omega) (by omega) hQ ?_
  refine zs_aload_n dX9_next_41 rfl rfl ?_
  refine zs_null dX9_next_42 ?_
  refine zs_put 0 dX9_next_43 zf_RX9_42 rfl (Nat.le_of_ble_eq_true rfl) (zPv_o rfl) ?_
  show zS _ _ _ _ _ _ [(x, .inr (8, [.ref b, .int (nI n), .int (nI (min n L)), .int (bI (decide (L < n))), .int (nI τ.1), .int (nI τ.2.1), .int (nI τ.2.2.1), .int (nI τ.2.2.2.1), .null, .int (nI fa), .int (nI pl), .int tk])), (b, .inl (0, 740, .inl (nF bt)))]
  refine zs_iload_n dX9_next_46 rfl ?_
  refine zs_aload_n dX9_next_47 rfl rfl ?_
  refine zs_get 0 dX9_next_48 zf_RX9_23 rfl (v := .int (nI (min n L))) rfl ?_
  refine zs_icmp_lt (tgt := 76) dX9_next_51 (by decide) (fun c_1 => ?_) (fun c_1 => ?_)
  · have c_1 : Q < (min n L) := by have hc := c_1; rw [nI_lt' (by omega) (by omega)] at hc; exact hc
    refine zs_aload_n dX9_next_76 rfl rfl ?_
    refine zs_iload_n dX9_next_77 rfl ?_
    refine zs_put 0 dX9_next_78 zf_RX9_49 rfl (Nat.le_of_ble_eq_true rfl) (zPv_i _) ?_
    show zS _ _ _ _ _ _ [(x, .inr (8, [.ref b, .int (nI n), .int (nI (min n L)), .int (bI (decide (L < n))), .int (nI τ.1), .int (nI Q), .int (nI τ.2.2.1), .int (nI τ.2.2.2.1), .null, .int (nI fa), .int (nI pl), .int tk])), (b, .inl (0, 740, .inl (nF bt)))]
    refine zs_aload_n dX9_next_81 rfl rfl ?_
    refine zs_get 0 dX9_next_82 zf_RX9_7 rfl (v := .ref b) rfl ?_
    refine zs_iload_n dX9_next_85 rfl ?_
    refine zs_iald 1 dX9_next_86 rfl (vp_in_nI (by omega) (by omega)) ?_
    refine zs_as (y := nI (bt Q)) (by rw [nI_c (n := Q) (by omega)]; rfl) ?_
    refine zs_callS (M := mX9_isLetter) (As := [.int (nI (bt Q))]) (st := []) (Kc := []) (Kr := [(x, .inr (8, [.ref b, .int (nI n), .int (nI (min n L)), .int (bI (decide (L < n))), .int (nI τ.1), .int (nI Q), .int (nI τ.2.2.1), .int (nI τ.2.2.2.1), .null, .int (nI fa), .int (nI pl), .int tk])), (b, .inl (0, 740, .inl (nF bt)))]) [] [0, 1] dX9_next_87 zl_RX9_52 kX9_isLetter rfl rfl rfl rfl rfl (by decide) (show dd - 1 + 1 ≤ dd by omega) (Nat.zero_le _) (Nat.zero_le _) (Nat.le_of_ble_eq_true rfl) (s_isLetter l (dd - 1) (bt Q) (hbt _)) (fun r K1 hr => ?_)
    obtain ⟨rfl, rfl⟩ := hr
    refine zs_K (K' := [(x, .inr (8, [.ref b, .int (nI n), .int (nI (min n L)), .int (bI (decide (L < n))), .int (nI τ.1), .int (nI Q), .int (nI τ.2.2.1), .int (nI τ.2.2.2.1), .null, .int (nI fa), .int (nI pl), .int tk])), (b, .inl (0, 740, .inl (nF bt)))]) [0, 1] rfl (by decide) ?_
    refine zs_if_ne (tgt := 144) dX9_next_90 (by decide) (fun c_2 => ?_) (fun c_2 => ?_)
    · refine zs_iconst (v := nI 0) dX9_next_144 (by decide) ?_
      refine zs_istore_n (lv' := [(2, .int (nI 0)), (0, .ref x), (1, .int (nI Q))]) dX9_next_145 (Nat.le_of_ble_eq_true rfl) rfl ?_
      refine zs_iconst (v := nI 0) dX9_next_146 (by decide) ?_
      refine zs_istore_n (lv' := [(3, .int (nI 0)), (2, .int (nI 0)), (0, .ref x), (1, .int (nI Q))]) dX9_next_147 (Nat.le_of_ble_eq_true rfl) rfl ?_
      refine zs_iconst (v := nI 0) dX9_next_148 (by decide) ?_
      refine zs_istore (lv' := [(4, .int (nI 0)), (3, .int (nI 0)), (2, .int (nI 0)), (0, .ref x), (1, .int (nI Q))]) dX9_next_149 (Nat.le_of_ble_eq_true rfl) rfl ?_
      refine zs_iconst (v := nI 0) dX9_next_151 (by decide) ?_
      refine zs_istore (lv' := [(5, .int (nI 0)), (4, .int (nI 0)), (3, .int (nI 0)), (2, .int (nI 0)), (0, .ref x), (1, .int (nI Q))]) dX9_next_152 (Nat.le_of_ble_eq_true rfl) rfl ?_
      refine zs_lv [4, 5, 3, 2, 1, 0] rfl ?_
      obtain ⟨E, hE⟩ : ∃ E, lRun bt n (n - Q) Q = E := ⟨_, rfl⟩
      have hEb := lRun_le (b := bt) (n := n) (n - Q) Q
      rw [hE] at hEb
      refine lp_run x b n L bt τ fa pl tk (nI τ.1) Q (by omega) hn hL hbt (by omega) E ?_ (n - Q) 0 (by omega) (by omega) hE
      rw [show Q + (E - Q) = E by omega]
      have hct := lLt_le bt Q (E - Q)
      refine zs_aload_n dX9_next_243 rfl rfl ?_
      refine zs_iload_n dX9_next_244 rfl ?_
      refine zs_put 0 dX9_next_245 zf_RX9_30 rfl (Nat.le_of_ble_eq_true rfl) (zPv_i _) ?_
      show zS _ _ _ _ _ _ [(x, .inr (8, [.ref b, .int (nI n), .int (nI (min n L)), .int (bI (decide (L < n))), .int (nI τ.1), .int (nI Q), .int (nI E), .int (nI τ.2.2.2.1), .null, .int (nI fa), .int (nI pl), .int tk])), (b, .inl (0, 740, .inl (nF bt)))]
      refine zs_iload_n dX9_next_248 rfl ?_
      refine zs_if_ne (tgt := 281) dX9_next_249 (by decide) (fun c_3 => ?_) (fun c_3 => ?_)
      · have c_3 : ¬ ((lDg bt Q (E - Q)) = 0) := by have hc := c_3; rw [show (0 : Int32) = nI 0 from rfl] at hc; rw [nI_eq' (by omega) (by omega)] at hc; exact hc
        refine zs_aload_n dX9_next_281 rfl rfl ?_
        refine zs_iload_n dX9_next_282 rfl ?_
        refine zs_if_ne (tgt := 296) dX9_next_283 (by decide) (fun c_4 => ?_) (fun c_4 => ?_)
        · have c_4 : ¬ ((lLt bt Q (E - Q)) = 0) := by have hc := c_4; rw [show (0 : Int32) = nI 0 from rfl] at hc; rw [nI_eq' (by omega) (by omega)] at hc; exact hc
          refine zs_iconst (v := nI 1) dX9_next_296 (by decide) ?_
          refine zs_put 0 dX9_next_297 zf_RX9_46 rfl (Nat.le_of_ble_eq_true rfl) (zPv_i _) ?_
          show zS _ _ _ _ _ _ [(x, .inr (8, [.ref b, .int (nI n), .int (nI (min n L)), .int (bI (decide (L < n))), .int (nI 1), .int (nI Q), .int (nI E), .int (nI τ.2.2.2.1), .null, .int (nI fa), .int (nI pl), .int tk])), (b, .inl (0, 740, .inl (nF bt)))]
          refine zs_aload_n dX9_next_300 rfl rfl ?_
          refine zs_iload dX9_next_301 rfl ?_
          refine zs_put 0 dX9_next_303 zf_RX9_62 rfl (Nat.le_of_ble_eq_true rfl) (zPv_i _) ?_
          show zS _ _ _ _ _ _ [(x, .inr (8, [.ref b, .int (nI n), .int (nI (min n L)), .int (bI (decide (L < n))), .int (nI 1), .int (nI Q), .int (nI E), .int (nI (lNm bt Q (E - Q))), .null, .int (nI fa), .int (nI pl), .int tk])), (b, .inl (0, 740, .inl (nF bt)))]
          have e : nxt bt n L τ = (1, Q, E, lNm bt Q (E - Q), none) := by rw [nxt, hQ, lAt, if_neg (show ¬ min n L ≤ Q by omega), if_pos (bI_t c_2), hE, lTk, if_neg c_3, if_neg c_4]
          exact zs_vret dX9_next_306 rfl ⟨rfl, by rw [e]; rfl⟩
        · have c_4 : (lLt bt Q (E - Q)) = 0 := by have hc := c_4; rw [show (0 : Int32) = nI 0 from rfl] at hc; rw [nI_eq' (by omega) (by omega)] at hc; exact hc
          refine zs_iload_n dX9_next_286 rfl ?_
          refine zs_bipush (v := nI 8) dX9_next_287 (by decide) ?_
          refine zs_icmp_gt (tgt := 296) dX9_next_289 (by decide) (fun c_5 => ?_) (fun c_5 => ?_)
          · have c_5 : 8 < (lDg bt Q (E - Q)) := by have hc := c_5; rw [nI_lt' (by omega) (by omega)] at hc; exact hc
            refine zs_iconst (v := nI 1) dX9_next_296 (by decide) ?_
            refine zs_put 0 dX9_next_297 zf_RX9_46 rfl (Nat.le_of_ble_eq_true rfl) (zPv_i _) ?_
            show zS _ _ _ _ _ _ [(x, .inr (8, [.ref b, .int (nI n), .int (nI (min n L)), .int (bI (decide (L < n))), .int (nI 1), .int (nI Q), .int (nI E), .int (nI τ.2.2.2.1), .null, .int (nI fa), .int (nI pl), .int tk])), (b, .inl (0, 740, .inl (nF bt)))]
            refine zs_aload_n dX9_next_300 rfl rfl ?_
            refine zs_iload dX9_next_301 rfl ?_
            refine zs_put 0 dX9_next_303 zf_RX9_62 rfl (Nat.le_of_ble_eq_true rfl) (zPv_i _) ?_
            show zS _ _ _ _ _ _ [(x, .inr (8, [.ref b, .int (nI n), .int (nI (min n L)), .int (bI (decide (L < n))), .int (nI 1), .int (nI Q), .int (nI E), .int (nI (lNm bt Q (E - Q))), .null, .int (nI fa), .int (nI pl), .int tk])), (b, .inl (0, 740, .inl (nF bt)))]
            have e : nxt bt n L τ = (1, Q, E, lNm bt Q (E - Q), none) := by rw [nxt, hQ, lAt, if_neg (show ¬ min n L ≤ Q by omega), if_pos (bI_t c_2), hE, lTk, if_neg c_3, if_pos c_4, if_pos (show 8 < lDg bt Q (E - Q) by omega)]
            exact zs_vret dX9_next_306 rfl ⟨rfl, by rw [e]; rfl⟩
          · have c_5 : ¬ (8 < (lDg bt Q (E - Q))) := by have hc := c_5; rw [nI_lt' (by omega) (by omega)] at hc; exact hc
            refine zs_iconst (v := nI 3) dX9_next_292 (by decide) ?_
            refine zs_goto (tgt := 297) dX9_next_293 (by decide) ?_
            refine zs_put 0 dX9_next_297 zf_RX9_46 rfl (Nat.le_of_ble_eq_true rfl) (zPv_i _) ?_
            show zS _ _ _ _ _ _ [(x, .inr (8, [.ref b, .int (nI n), .int (nI (min n L)), .int (bI (decide (L < n))), .int (nI 3), .int (nI Q), .int (nI E), .int (nI τ.2.2.2.1), .null, .int (nI fa), .int (nI pl), .int tk])), (b, .inl (0, 740, .inl (nF bt)))]
            refine zs_aload_n dX9_next_300 rfl rfl ?_
            refine zs_iload dX9_next_301 rfl ?_
            refine zs_put 0 dX9_next_303 zf_RX9_62 rfl (Nat.le_of_ble_eq_true rfl) (zPv_i _) ?_
            show zS _ _ _ _ _ _ [(x, .inr (8, [.ref b, .int (nI n), .int (nI (min n L)), .int (bI (decide (L < n))), .int (nI 3), .int (nI Q), .int (nI E), .int (nI (lNm bt Q (E - Q))), .null, .int (nI fa), .int (nI pl), .int tk])), (b, .inl (0, 740, .inl (nF bt)))]
            have e : nxt bt n L τ = (3, Q, E, lNm bt Q (E - Q), none) := by rw [nxt, hQ, lAt, if_neg (show ¬ min n L ≤ Q by omega), if_pos (bI_t c_2), hE, lTk, if_neg c_3, if_pos c_4, if_neg (show ¬ 8 < lDg bt Q (E - Q) by omega)]
            exact zs_vret dX9_next_306 rfl ⟨rfl, by rw [e]; rfl⟩
      · have c_3 : (lDg bt Q (E - Q)) = 0 := by have hc := c_3; rw [show (0 : Int32) = nI 0 from rfl] at hc; rw [nI_eq' (by omega) (by omega)] at hc; exact hc
        refine zs_iload_n dX9_next_252 rfl ?_
        refine zs_bipush (v := nI 6) dX9_next_253 (by decide) ?_
        refine zs_icmp_gt (tgt := 281) dX9_next_255 (by decide) (fun c_6 => ?_) (fun c_6 => ?_)
        · have c_6 : 6 < (lLt bt Q (E - Q)) := by have hc := c_6; rw [nI_lt' (by omega) (by omega)] at hc; exact hc
          refine zs_aload_n dX9_next_281 rfl rfl ?_
          refine zs_iload_n dX9_next_282 rfl ?_
          refine zs_if_ne (tgt := 296) dX9_next_283 (by decide) (fun c_7 => ?_) (fun c_7 => (by have hc := c_7; rw [show (0 : Int32) = nI 0 from rfl, nI_eq' (by omega) (by omega)] at hc; omega : False).elim)
          refine zs_iconst (v := nI 1) dX9_next_296 (by decide) ?_
          refine zs_put 0 dX9_next_297 zf_RX9_46 rfl (Nat.le_of_ble_eq_true rfl) (zPv_i _) ?_
          show zS _ _ _ _ _ _ [(x, .inr (8, [.ref b, .int (nI n), .int (nI (min n L)), .int (bI (decide (L < n))), .int (nI 1), .int (nI Q), .int (nI E), .int (nI τ.2.2.2.1), .null, .int (nI fa), .int (nI pl), .int tk])), (b, .inl (0, 740, .inl (nF bt)))]
          refine zs_aload_n dX9_next_300 rfl rfl ?_
          refine zs_iload dX9_next_301 rfl ?_
          refine zs_put 0 dX9_next_303 zf_RX9_62 rfl (Nat.le_of_ble_eq_true rfl) (zPv_i _) ?_
          show zS _ _ _ _ _ _ [(x, .inr (8, [.ref b, .int (nI n), .int (nI (min n L)), .int (bI (decide (L < n))), .int (nI 1), .int (nI Q), .int (nI E), .int (nI (lNm bt Q (E - Q))), .null, .int (nI fa), .int (nI pl), .int tk])), (b, .inl (0, 740, .inl (nF bt)))]
          have e : nxt bt n L τ = (1, Q, E, lNm bt Q (E - Q), none) := by rw [nxt, hQ, lAt, if_neg (show ¬ min n L ≤ Q by omega), if_pos (bI_t c_2), hE, lTk, if_pos c_3, if_pos (show 6 < lLt bt Q (E - Q) by omega)]
          exact zs_vret dX9_next_306 rfl ⟨rfl, by rw [e]; rfl⟩
        · have c_6 : ¬ (6 < (lLt bt Q (E - Q))) := by have hc := c_6; rw [nI_lt' (by omega) (by omega)] at hc; exact hc
          refine zs_aload_n dX9_next_258 rfl rfl ?_
          refine zs_iconst (v := nI 2) dX9_next_259 (by decide) ?_
          refine zs_put 0 dX9_next_260 zf_RX9_46 rfl (Nat.le_of_ble_eq_true rfl) (zPv_i _) ?_
          show zS _ _ _ _ _ _ [(x, .inr (8, [.ref b, .int (nI n), .int (nI (min n L)), .int (bI (decide (L < n))), .int (nI 2), .int (nI Q), .int (nI E), .int (nI τ.2.2.2.1), .null, .int (nI fa), .int (nI pl), .int tk])), (b, .inl (0, 740, .inl (nF bt)))]
          refine zs_aload_n dX9_next_263 rfl rfl ?_
          refine zs_iload dX9_next_264 rfl ?_
          refine zs_put 0 dX9_next_266 zf_RX9_62 rfl (Nat.le_of_ble_eq_true rfl) (zPv_i _) ?_
          show zS _ _ _ _ _ _ [(x, .inr (8, [.ref b, .int (nI n), .int (nI (min n L)), .int (bI (decide (L < n))), .int (nI 2), .int (nI Q), .int (nI E), .int (nI (lSp bt Q (E - Q))), .null, .int (nI fa), .int (nI pl), .int tk])), (b, .inl (0, 740, .inl (nF bt)))]
          refine zs_aload_n dX9_next_269 rfl rfl ?_
          refine zs_iload dX9_next_270 rfl ?_
          refine zs_callS (M := mX10_of) (As := [.int (nI (lSp bt Q (E - Q)))]) (st := [.ref x]) (Kc := []) (Kr := [(x, .inr (8, [.ref b, .int (nI n), .int (nI (min n L)), .int (bI (decide (L < n))), .int (nI 2), .int (nI Q), .int (nI E), .int (nI (lSp bt Q (E - Q))), .null, .int (nI fa), .int (nI pl), .int tk])), (b, .inl (0, 740, .inl (nF bt)))]) [] [0, 1] dX9_next_272 zl_RX9_70 kX10_of rfl rfl rfl rfl rfl (by decide) (show dd - 1 + 1 ≤ dd by omega) (Nat.zero_le _) (Nat.zero_le _) (Nat.le_of_ble_eq_true rfl) (s_of l (dd - 1) (nI (lSp bt Q (E - Q)))) (fun r K1 hr => ?_)
          obtain ⟨rfl, rfl⟩ := hr
          refine zs_K (K' := [(x, .inr (8, [.ref b, .int (nI n), .int (nI (min n L)), .int (bI (decide (L < n))), .int (nI 2), .int (nI Q), .int (nI E), .int (nI (lSp bt Q (E - Q))), .null, .int (nI fa), .int (nI pl), .int tk])), (b, .inl (0, 740, .inl (nF bt)))]) [0, 1] rfl (by decide) ?_
          refine zs_put 0 dX9_next_275 zf_RX9_42 rfl (Nat.le_of_ble_eq_true rfl) (zPv_o (wV_r _)) ?_
          show zS _ _ _ _ _ _ [(x, .inr (8, [.ref b, .int (nI n), .int (nI (min n L)), .int (bI (decide (L < n))), .int (nI 2), .int (nI Q), .int (nI E), .int (nI (lSp bt Q (E - Q))), (wV (wOf (nI (lSp bt Q (E - Q))))), .int (nI fa), .int (nI pl), .int tk])), (b, .inl (0, 740, .inl (nF bt)))]
          refine zs_goto (tgt := 306) dX9_next_278 (by decide) ?_
          have e : nxt bt n L τ = (2, Q, E, lSp bt Q (E - Q), (wOf (nI (lSp bt Q (E - Q))))) := by rw [nxt, hQ, lAt, if_neg (show ¬ min n L ≤ Q by omega), if_pos (bI_t c_2), hE, lTk, if_pos c_3, if_neg (show ¬ 6 < lLt bt Q (E - Q) by omega)]
          exact zs_vret dX9_next_306 rfl ⟨rfl, by rw [e]; rfl⟩
    · refine zs_aload_n dX9_next_93 rfl rfl ?_
      refine zs_get 0 dX9_next_94 zf_RX9_7 rfl (v := .ref b) rfl ?_
      refine zs_iload_n dX9_next_97 rfl ?_
      refine zs_iald 1 dX9_next_98 rfl (vp_in_nI (by omega) (by omega)) ?_
      refine zs_as (y := nI (bt Q)) (by rw [nI_c (n := Q) (by omega)]; rfl) ?_
      refine zs_callS (M := mX9_isDigit) (As := [.int (nI (bt Q))]) (st := []) (Kc := []) (Kr := [(x, .inr (8, [.ref b, .int (nI n), .int (nI (min n L)), .int (bI (decide (L < n))), .int (nI τ.1), .int (nI Q), .int (nI τ.2.2.1), .int (nI τ.2.2.2.1), .null, .int (nI fa), .int (nI pl), .int tk])), (b, .inl (0, 740, .inl (nF bt)))]) [] [0, 1] dX9_next_99 zl_RX9_56 kX9_isDigit rfl rfl rfl rfl rfl (by decide) (show dd - 1 + 1 ≤ dd by omega) (Nat.zero_le _) (Nat.zero_le _) (Nat.le_of_ble_eq_true rfl) (s_isDigit l (dd - 1) (bt Q) (hbt _)) (fun r K1 hr => ?_)
      obtain ⟨rfl, rfl⟩ := hr
      refine zs_K (K' := [(x, .inr (8, [.ref b, .int (nI n), .int (nI (min n L)), .int (bI (decide (L < n))), .int (nI τ.1), .int (nI Q), .int (nI τ.2.2.1), .int (nI τ.2.2.2.1), .null, .int (nI fa), .int (nI pl), .int tk])), (b, .inl (0, 740, .inl (nF bt)))]) [0, 1] rfl (by decide) ?_
      refine zs_if_ne (tgt := 144) dX9_next_102 (by decide) (fun c_8 => ?_) (fun c_8 => ?_)
      · refine zs_iconst (v := nI 0) dX9_next_144 (by decide) ?_
        refine zs_istore_n (lv' := [(2, .int (nI 0)), (0, .ref x), (1, .int (nI Q))]) dX9_next_145 (Nat.le_of_ble_eq_true rfl) rfl ?_
        refine zs_iconst (v := nI 0) dX9_next_146 (by decide) ?_
        refine zs_istore_n (lv' := [(3, .int (nI 0)), (2, .int (nI 0)), (0, .ref x), (1, .int (nI Q))]) dX9_next_147 (Nat.le_of_ble_eq_true rfl) rfl ?_
        refine zs_iconst (v := nI 0) dX9_next_148 (by decide) ?_
        refine zs_istore (lv' := [(4, .int (nI 0)), (3, .int (nI 0)), (2, .int (nI 0)), (0, .ref x), (1, .int (nI Q))]) dX9_next_149 (Nat.le_of_ble_eq_true rfl) rfl ?_
        refine zs_iconst (v := nI 0) dX9_next_151 (by decide) ?_
        refine zs_istore (lv' := [(5, .int (nI 0)), (4, .int (nI 0)), (3, .int (nI 0)), (2, .int (nI 0)), (0, .ref x), (1, .int (nI Q))]) dX9_next_152 (Nat.le_of_ble_eq_true rfl) rfl ?_
        refine zs_lv [4, 5, 3, 2, 1, 0] rfl ?_
        obtain ⟨E, hE⟩ : ∃ E, lRun bt n (n - Q) Q = E := ⟨_, rfl⟩
        have hEb := lRun_le (b := bt) (n := n) (n - Q) Q
        rw [hE] at hEb
        refine lp_run x b n L bt τ fa pl tk (nI τ.1) Q (by omega) hn hL hbt (by omega) E ?_ (n - Q) 0 (by omega) (by omega) hE
        rw [show Q + (E - Q) = E by omega]
        have hct := lLt_le bt Q (E - Q)
        refine zs_aload_n dX9_next_243 rfl rfl ?_
        refine zs_iload_n dX9_next_244 rfl ?_
        refine zs_put 0 dX9_next_245 zf_RX9_30 rfl (Nat.le_of_ble_eq_true rfl) (zPv_i _) ?_
        show zS _ _ _ _ _ _ [(x, .inr (8, [.ref b, .int (nI n), .int (nI (min n L)), .int (bI (decide (L < n))), .int (nI τ.1), .int (nI Q), .int (nI E), .int (nI τ.2.2.2.1), .null, .int (nI fa), .int (nI pl), .int tk])), (b, .inl (0, 740, .inl (nF bt)))]
        refine zs_iload_n dX9_next_248 rfl ?_
        refine zs_if_ne (tgt := 281) dX9_next_249 (by decide) (fun c_9 => ?_) (fun c_9 => ?_)
        · have c_9 : ¬ ((lDg bt Q (E - Q)) = 0) := by have hc := c_9; rw [show (0 : Int32) = nI 0 from rfl] at hc; rw [nI_eq' (by omega) (by omega)] at hc; exact hc
          refine zs_aload_n dX9_next_281 rfl rfl ?_
          refine zs_iload_n dX9_next_282 rfl ?_
          refine zs_if_ne (tgt := 296) dX9_next_283 (by decide) (fun c_10 => ?_) (fun c_10 => ?_)
          · have c_10 : ¬ ((lLt bt Q (E - Q)) = 0) := by have hc := c_10; rw [show (0 : Int32) = nI 0 from rfl] at hc; rw [nI_eq' (by omega) (by omega)] at hc; exact hc
            refine zs_iconst (v := nI 1) dX9_next_296 (by decide) ?_
            refine zs_put 0 dX9_next_297 zf_RX9_46 rfl (Nat.le_of_ble_eq_true rfl) (zPv_i _) ?_
            show zS _ _ _ _ _ _ [(x, .inr (8, [.ref b, .int (nI n), .int (nI (min n L)), .int (bI (decide (L < n))), .int (nI 1), .int (nI Q), .int (nI E), .int (nI τ.2.2.2.1), .null, .int (nI fa), .int (nI pl), .int tk])), (b, .inl (0, 740, .inl (nF bt)))]
            refine zs_aload_n dX9_next_300 rfl rfl ?_
            refine zs_iload dX9_next_301 rfl ?_
            refine zs_put 0 dX9_next_303 zf_RX9_62 rfl (Nat.le_of_ble_eq_true rfl) (zPv_i _) ?_
            show zS _ _ _ _ _ _ [(x, .inr (8, [.ref b, .int (nI n), .int (nI (min n L)), .int (bI (decide (L < n))), .int (nI 1), .int (nI Q), .int (nI E), .int (nI (lNm bt Q (E - Q))), .null, .int (nI fa), .int (nI pl), .int tk])), (b, .inl (0, 740, .inl (nF bt)))]
            have e : nxt bt n L τ = (1, Q, E, lNm bt Q (E - Q), none) := by rw [nxt, hQ, lAt, if_neg (show ¬ min n L ≤ Q by omega), if_neg (fun h => by rw [(bI_f c_2)] at h; exact absurd h (by decide)), if_pos (bI_t c_8), hE, lTk, if_neg c_9, if_neg c_10]
            exact zs_vret dX9_next_306 rfl ⟨rfl, by rw [e]; rfl⟩
          · have c_10 : (lLt bt Q (E - Q)) = 0 := by have hc := c_10; rw [show (0 : Int32) = nI 0 from rfl] at hc; rw [nI_eq' (by omega) (by omega)] at hc; exact hc
            refine zs_iload_n dX9_next_286 rfl ?_
            refine zs_bipush (v := nI 8) dX9_next_287 (by decide) ?_
            refine zs_icmp_gt (tgt := 296) dX9_next_289 (by decide) (fun c_11 => ?_) (fun c_11 => ?_)
            · have c_11 : 8 < (lDg bt Q (E - Q)) := by have hc := c_11; rw [nI_lt' (by omega) (by omega)] at hc; exact hc
              refine zs_iconst (v := nI 1) dX9_next_296 (by decide) ?_
              refine zs_put 0 dX9_next_297 zf_RX9_46 rfl (Nat.le_of_ble_eq_true rfl) (zPv_i _) ?_
              show zS _ _ _ _ _ _ [(x, .inr (8, [.ref b, .int (nI n), .int (nI (min n L)), .int (bI (decide (L < n))), .int (nI 1), .int (nI Q), .int (nI E), .int (nI τ.2.2.2.1), .null, .int (nI fa), .int (nI pl), .int tk])), (b, .inl (0, 740, .inl (nF bt)))]
              refine zs_aload_n dX9_next_300 rfl rfl ?_
              refine zs_iload dX9_next_301 rfl ?_
              refine zs_put 0 dX9_next_303 zf_RX9_62 rfl (Nat.le_of_ble_eq_true rfl) (zPv_i _) ?_
              show zS _ _ _ _ _ _ [(x, .inr (8, [.ref b, .int (nI n), .int (nI (min n L)), .int (bI (decide (L < n))), .int (nI 1), .int (nI Q), .int (nI E), .int (nI (lNm bt Q (E - Q))), .null, .int (nI fa), .int (nI pl), .int tk])), (b, .inl (0, 740, .inl (nF bt)))]
              have e : nxt bt n L τ = (1, Q, E, lNm bt Q (E - Q), none) := by rw [nxt, hQ, lAt, if_neg (show ¬ min n L ≤ Q by omega), if_neg (fun h => by rw [(bI_f c_2)] at h; exact absurd h (by decide)), if_pos (bI_t c_8), hE, lTk, if_neg c_9, if_pos c_10, if_pos (show 8 < lDg bt Q (E - Q) by omega)]
              exact zs_vret dX9_next_306 rfl ⟨rfl, by rw [e]; rfl⟩
            · have c_11 : ¬ (8 < (lDg bt Q (E - Q))) := by have hc := c_11; rw [nI_lt' (by omega) (by omega)] at hc; exact hc
              refine zs_iconst (v := nI 3) dX9_next_292 (by decide) ?_
              refine zs_goto (tgt := 297) dX9_next_293 (by decide) ?_
              refine zs_put 0 dX9_next_297 zf_RX9_46 rfl (Nat.le_of_ble_eq_true rfl) (zPv_i _) ?_
              show zS _ _ _ _ _ _ [(x, .inr (8, [.ref b, .int (nI n), .int (nI (min n L)), .int (bI (decide (L < n))), .int (nI 3), .int (nI Q), .int (nI E), .int (nI τ.2.2.2.1), .null, .int (nI fa), .int (nI pl), .int tk])), (b, .inl (0, 740, .inl (nF bt)))]
              refine zs_aload_n dX9_next_300 rfl rfl ?_
              refine zs_iload dX9_next_301 rfl ?_
              refine zs_put 0 dX9_next_303 zf_RX9_62 rfl (Nat.le_of_ble_eq_true rfl) (zPv_i _) ?_
              show zS _ _ _ _ _ _ [(x, .inr (8, [.ref b, .int (nI n), .int (nI (min n L)), .int (bI (decide (L < n))), .int (nI 3), .int (nI Q), .int (nI E), .int (nI (lNm bt Q (E - Q))), .null, .int (nI fa), .int (nI pl), .int tk])), (b, .inl (0, 740, .inl (nF bt)))]
              have e : nxt bt n L τ = (3, Q, E, lNm bt Q (E - Q), none) := by rw [nxt, hQ, lAt, if_neg (show ¬ min n L ≤ Q by omega), if_neg (fun h => by rw [(bI_f c_2)] at h; exact absurd h (by decide)), if_pos (bI_t c_8), hE, lTk, if_neg c_9, if_pos c_10, if_neg (show ¬ 8 < lDg bt Q (E - Q) by omega)]
              exact zs_vret dX9_next_306 rfl ⟨rfl, by rw [e]; rfl⟩
        · have c_9 : (lDg bt Q (E - Q)) = 0 := by have hc := c_9; rw [show (0 : Int32) = nI 0 from rfl] at hc; rw [nI_eq' (by omega) (by omega)] at hc; exact hc
          refine zs_iload_n dX9_next_252 rfl ?_
          refine zs_bipush (v := nI 6) dX9_next_253 (by decide) ?_
          refine zs_icmp_gt (tgt := 281) dX9_next_255 (by decide) (fun c_12 => ?_) (fun c_12 => ?_)
          · have c_12 : 6 < (lLt bt Q (E - Q)) := by have hc := c_12; rw [nI_lt' (by omega) (by omega)] at hc; exact hc
            refine zs_aload_n dX9_next_281 rfl rfl ?_
            refine zs_iload_n dX9_next_282 rfl ?_
            refine zs_if_ne (tgt := 296) dX9_next_283 (by decide) (fun c_13 => ?_) (fun c_13 => (by have hc := c_13; rw [show (0 : Int32) = nI 0 from rfl, nI_eq' (by omega) (by omega)] at hc; omega : False).elim)
            refine zs_iconst (v := nI 1) dX9_next_296 (by decide) ?_
            refine zs_put 0 dX9_next_297 zf_RX9_46 rfl (Nat.le_of_ble_eq_true rfl) (zPv_i _) ?_
            show zS _ _ _ _ _ _ [(x, .inr (8, [.ref b, .int (nI n), .int (nI (min n L)), .int (bI (decide (L < n))), .int (nI 1), .int (nI Q), .int (nI E), .int (nI τ.2.2.2.1), .null, .int (nI fa), .int (nI pl), .int tk])), (b, .inl (0, 740, .inl (nF bt)))]
            refine zs_aload_n dX9_next_300 rfl rfl ?_
            refine zs_iload dX9_next_301 rfl ?_
            refine zs_put 0 dX9_next_303 zf_RX9_62 rfl (Nat.le_of_ble_eq_true rfl) (zPv_i _) ?_
            show zS _ _ _ _ _ _ [(x, .inr (8, [.ref b, .int (nI n), .int (nI (min n L)), .int (bI (decide (L < n))), .int (nI 1), .int (nI Q), .int (nI E), .int (nI (lNm bt Q (E - Q))), .null, .int (nI fa), .int (nI pl), .int tk])), (b, .inl (0, 740, .inl (nF bt)))]
            have e : nxt bt n L τ = (1, Q, E, lNm bt Q (E - Q), none) := by rw [nxt, hQ, lAt, if_neg (show ¬ min n L ≤ Q by omega), if_neg (fun h => by rw [(bI_f c_2)] at h; exact absurd h (by decide)), if_pos (bI_t c_8), hE, lTk, if_pos c_9, if_pos (show 6 < lLt bt Q (E - Q) by omega)]
            exact zs_vret dX9_next_306 rfl ⟨rfl, by rw [e]; rfl⟩
          · have c_12 : ¬ (6 < (lLt bt Q (E - Q))) := by have hc := c_12; rw [nI_lt' (by omega) (by omega)] at hc; exact hc
            refine zs_aload_n dX9_next_258 rfl rfl ?_
            refine zs_iconst (v := nI 2) dX9_next_259 (by decide) ?_
            refine zs_put 0 dX9_next_260 zf_RX9_46 rfl (Nat.le_of_ble_eq_true rfl) (zPv_i _) ?_
            show zS _ _ _ _ _ _ [(x, .inr (8, [.ref b, .int (nI n), .int (nI (min n L)), .int (bI (decide (L < n))), .int (nI 2), .int (nI Q), .int (nI E), .int (nI τ.2.2.2.1), .null, .int (nI fa), .int (nI pl), .int tk])), (b, .inl (0, 740, .inl (nF bt)))]
            refine zs_aload_n dX9_next_263 rfl rfl ?_
            refine zs_iload dX9_next_264 rfl ?_
            refine zs_put 0 dX9_next_266 zf_RX9_62 rfl (Nat.le_of_ble_eq_true rfl) (zPv_i _) ?_
            show zS _ _ _ _ _ _ [(x, .inr (8, [.ref b, .int (nI n), .int (nI (min n L)), .int (bI (decide (L < n))), .int (nI 2), .int (nI Q), .int (nI E), .int (nI (lSp bt Q (E - Q))), .null, .int (nI fa), .int (nI pl), .int tk])), (b, .inl (0, 740, .inl (nF bt)))]
            refine zs_aload_n dX9_next_269 rfl rfl ?_
            refine zs_iload dX9_next_270 rfl ?_
            refine zs_callS (M := mX10_of) (As := [.int (nI (lSp bt Q (E - Q)))]) (st := [.ref x]) (Kc := []) (Kr := [(x, .inr (8, [.ref b, .int (nI n), .int (nI (min n L)), .int (bI (decide (L < n))), .int (nI 2), .int (nI Q), .int (nI E), .int (nI (lSp bt Q (E - Q))), .null, .int (nI fa), .int (nI pl), .int tk])), (b, .inl (0, 740, .inl (nF bt)))]) [] [0, 1] dX9_next_272 zl_RX9_70 kX10_of rfl rfl rfl rfl rfl (by decide) (show dd - 1 + 1 ≤ dd by omega) (Nat.zero_le _) (Nat.zero_le _) (Nat.le_of_ble_eq_true rfl) (s_of l (dd - 1) (nI (lSp bt Q (E - Q)))) (fun r K1 hr => ?_)
            obtain ⟨rfl, rfl⟩ := hr
            refine zs_K (K' := [(x, .inr (8, [.ref b, .int (nI n), .int (nI (min n L)), .int (bI (decide (L < n))), .int (nI 2), .int (nI Q), .int (nI E), .int (nI (lSp bt Q (E - Q))), .null, .int (nI fa), .int (nI pl), .int tk])), (b, .inl (0, 740, .inl (nF bt)))]) [0, 1] rfl (by decide) ?_
            refine zs_put 0 dX9_next_275 zf_RX9_42 rfl (Nat.le_of_ble_eq_true rfl) (zPv_o (wV_r _)) ?_
            show zS _ _ _ _ _ _ [(x, .inr (8, [.ref b, .int (nI n), .int (nI (min n L)), .int (bI (decide (L < n))), .int (nI 2), .int (nI Q), .int (nI E), .int (nI (lSp bt Q (E - Q))), (wV (wOf (nI (lSp bt Q (E - Q))))), .int (nI fa), .int (nI pl), .int tk])), (b, .inl (0, 740, .inl (nF bt)))]
            refine zs_goto (tgt := 306) dX9_next_278 (by decide) ?_
            have e : nxt bt n L τ = (2, Q, E, lSp bt Q (E - Q), (wOf (nI (lSp bt Q (E - Q))))) := by rw [nxt, hQ, lAt, if_neg (show ¬ min n L ≤ Q by omega), if_neg (fun h => by rw [(bI_f c_2)] at h; exact absurd h (by decide)), if_pos (bI_t c_8), hE, lTk, if_pos c_9, if_neg (show ¬ 6 < lLt bt Q (E - Q) by omega)]
            exact zs_vret dX9_next_306 rfl ⟨rfl, by rw [e]; rfl⟩
      · refine zs_aload_n dX9_next_105 rfl rfl ?_
        refine zs_aload_n dX9_next_106 rfl rfl ?_
        refine zs_get 0 dX9_next_107 zf_RX9_7 rfl (v := .ref b) rfl ?_
        refine zs_iload_n dX9_next_110 rfl ?_
        refine zs_iald 1 dX9_next_111 rfl (vp_in_nI (by omega) (by omega)) ?_
        refine zs_as (y := nI (bt Q)) (by rw [nI_c (n := Q) (by omega)]; rfl) ?_
        refine zs_callS (M := mX9_isSign) (As := [.int (nI (bt Q))]) (st := [.ref x]) (Kc := []) (Kr := [(x, .inr (8, [.ref b, .int (nI n), .int (nI (min n L)), .int (bI (decide (L < n))), .int (nI τ.1), .int (nI Q), .int (nI τ.2.2.1), .int (nI τ.2.2.2.1), .null, .int (nI fa), .int (nI pl), .int tk])), (b, .inl (0, 740, .inl (nF bt)))]) [] [0, 1] dX9_next_112 zl_RX9_59 kX9_isSign rfl rfl rfl rfl rfl (by decide) (show dd - 1 + 1 ≤ dd by omega) (Nat.zero_le _) (Nat.zero_le _) (Nat.le_of_ble_eq_true rfl) (s_isSign l (dd - 1) (bt Q) (hbt _)) (fun r K1 hr => ?_)
        obtain ⟨rfl, rfl⟩ := hr
        refine zs_K (K' := [(x, .inr (8, [.ref b, .int (nI n), .int (nI (min n L)), .int (bI (decide (L < n))), .int (nI τ.1), .int (nI Q), .int (nI τ.2.2.1), .int (nI τ.2.2.2.1), .null, .int (nI fa), .int (nI pl), .int tk])), (b, .inl (0, 740, .inl (nF bt)))]) [0, 1] rfl (by decide) ?_
        refine zs_if_eq (tgt := 122) dX9_next_115 (by decide) (fun c_14 => ?_) (fun c_14 => ?_)
        · refine zs_iconst (v := nI 1) dX9_next_122 (by decide) ?_
          refine zs_put 0 dX9_next_123 zf_RX9_46 rfl (Nat.le_of_ble_eq_true rfl) (zPv_i _) ?_
          show zS _ _ _ _ _ _ [(x, .inr (8, [.ref b, .int (nI n), .int (nI (min n L)), .int (bI (decide (L < n))), .int (nI 1), .int (nI Q), .int (nI τ.2.2.1), .int (nI τ.2.2.2.1), .null, .int (nI fa), .int (nI pl), .int tk])), (b, .inl (0, 740, .inl (nF bt)))]
          refine zs_aload_n dX9_next_126 rfl rfl ?_
          refine zs_aload_n dX9_next_127 rfl rfl ?_
          refine zs_get 0 dX9_next_128 zf_RX9_7 rfl (v := .ref b) rfl ?_
          refine zs_iload_n dX9_next_131 rfl ?_
          refine zs_iald 1 dX9_next_132 rfl (vp_in_nI (by omega) (by omega)) ?_
          refine zs_as (y := nI (bt Q)) (by rw [nI_c (n := Q) (by omega)]; rfl) ?_
          refine zs_put 0 dX9_next_133 zf_RX9_62 rfl (Nat.le_of_ble_eq_true rfl) (zPv_i _) ?_
          show zS _ _ _ _ _ _ [(x, .inr (8, [.ref b, .int (nI n), .int (nI (min n L)), .int (bI (decide (L < n))), .int (nI 1), .int (nI Q), .int (nI τ.2.2.1), .int (nI (bt Q)), .null, .int (nI fa), .int (nI pl), .int tk])), (b, .inl (0, 740, .inl (nF bt)))]
          refine zs_aload_n dX9_next_136 rfl rfl ?_
          refine zs_iload_n dX9_next_137 rfl ?_
          refine zs_iconst (v := nI 1) dX9_next_138 (by decide) ?_
          refine zs_iadd dX9_next_139 ?_
          refine zs_as (y := nI (Q + 1)) (nI_add _ _) ?_
          refine zs_put 0 dX9_next_140 zf_RX9_30 rfl (Nat.le_of_ble_eq_true rfl) (zPv_i _) ?_
          show zS _ _ _ _ _ _ [(x, .inr (8, [.ref b, .int (nI n), .int (nI (min n L)), .int (bI (decide (L < n))), .int (nI 1), .int (nI Q), .int (nI (Q + 1)), .int (nI (bt Q)), .null, .int (nI fa), .int (nI pl), .int tk])), (b, .inl (0, 740, .inl (nF bt)))]
          have e : nxt bt n L τ = (1, Q, Q + 1, bt Q, none) := by rw [nxt, hQ, lAt, if_neg (show ¬ min n L ≤ Q by omega), if_neg (fun h => by rw [(bI_f c_2)] at h; exact absurd h (by decide)), if_neg (fun h => by rw [(bI_f c_8)] at h; exact absurd h (by decide)), if_neg (fun h => by rw [(bI_f c_14)] at h; exact absurd h (by decide))]
          exact zs_vret dX9_next_143 rfl ⟨rfl, by rw [e]; rfl⟩
        · refine zs_iconst (v := nI 4) dX9_next_118 (by decide) ?_
          refine zs_goto (tgt := 123) dX9_next_119 (by decide) ?_
          refine zs_put 0 dX9_next_123 zf_RX9_46 rfl (Nat.le_of_ble_eq_true rfl) (zPv_i _) ?_
          show zS _ _ _ _ _ _ [(x, .inr (8, [.ref b, .int (nI n), .int (nI (min n L)), .int (bI (decide (L < n))), .int (nI 4), .int (nI Q), .int (nI τ.2.2.1), .int (nI τ.2.2.2.1), .null, .int (nI fa), .int (nI pl), .int tk])), (b, .inl (0, 740, .inl (nF bt)))]
          refine zs_aload_n dX9_next_126 rfl rfl ?_
          refine zs_aload_n dX9_next_127 rfl rfl ?_
          refine zs_get 0 dX9_next_128 zf_RX9_7 rfl (v := .ref b) rfl ?_
          refine zs_iload_n dX9_next_131 rfl ?_
          refine zs_iald 1 dX9_next_132 rfl (vp_in_nI (by omega) (by omega)) ?_
          refine zs_as (y := nI (bt Q)) (by rw [nI_c (n := Q) (by omega)]; rfl) ?_
          refine zs_put 0 dX9_next_133 zf_RX9_62 rfl (Nat.le_of_ble_eq_true rfl) (zPv_i _) ?_
          show zS _ _ _ _ _ _ [(x, .inr (8, [.ref b, .int (nI n), .int (nI (min n L)), .int (bI (decide (L < n))), .int (nI 4), .int (nI Q), .int (nI τ.2.2.1), .int (nI (bt Q)), .null, .int (nI fa), .int (nI pl), .int tk])), (b, .inl (0, 740, .inl (nF bt)))]
          refine zs_aload_n dX9_next_136 rfl rfl ?_
          refine zs_iload_n dX9_next_137 rfl ?_
          refine zs_iconst (v := nI 1) dX9_next_138 (by decide) ?_
          refine zs_iadd dX9_next_139 ?_
          refine zs_as (y := nI (Q + 1)) (nI_add _ _) ?_
          refine zs_put 0 dX9_next_140 zf_RX9_30 rfl (Nat.le_of_ble_eq_true rfl) (zPv_i _) ?_
          show zS _ _ _ _ _ _ [(x, .inr (8, [.ref b, .int (nI n), .int (nI (min n L)), .int (bI (decide (L < n))), .int (nI 4), .int (nI Q), .int (nI (Q + 1)), .int (nI (bt Q)), .null, .int (nI fa), .int (nI pl), .int tk])), (b, .inl (0, 740, .inl (nF bt)))]
          have e : nxt bt n L τ = (4, Q, Q + 1, bt Q, none) := by rw [nxt, hQ, lAt, if_neg (show ¬ min n L ≤ Q by omega), if_neg (fun h => by rw [(bI_f c_2)] at h; exact absurd h (by decide)), if_neg (fun h => by rw [(bI_f c_8)] at h; exact absurd h (by decide)), if_pos (bI_t c_14)]
          exact zs_vret dX9_next_143 rfl ⟨rfl, by rw [e]; rfl⟩
  · have c_1 : ¬ (Q < (min n L)) := by have hc := c_1; rw [nI_lt' (by omega) (by omega)] at hc; exact hc
    refine zs_aload_n dX9_next_54 rfl rfl ?_
    refine zs_iconst (v := nI 0) dX9_next_55 (by decide) ?_
    refine zs_put 0 dX9_next_56 zf_RX9_46 rfl (Nat.le_of_ble_eq_true rfl) (zPv_i _) ?_
    show zS _ _ _ _ _ _ [(x, .inr (8, [.ref b, .int (nI n), .int (nI (min n L)), .int (bI (decide (L < n))), .int (nI 0), .int (nI τ.2.1), .int (nI τ.2.2.1), .int (nI τ.2.2.2.1), .null, .int (nI fa), .int (nI pl), .int tk])), (b, .inl (0, 740, .inl (nF bt)))]
    refine zs_aload_n dX9_next_59 rfl rfl ?_
    refine zs_aload_n dX9_next_60 rfl rfl ?_
    refine zs_get 0 dX9_next_61 zf_RX9_23 rfl (v := .int (nI (min n L))) rfl ?_
    refine zs_put 0 dX9_next_64 zf_RX9_49 rfl (Nat.le_of_ble_eq_true rfl) (zPv_i _) ?_
    show zS _ _ _ _ _ _ [(x, .inr (8, [.ref b, .int (nI n), .int (nI (min n L)), .int (bI (decide (L < n))), .int (nI 0), .int (nI (min n L)), .int (nI τ.2.2.1), .int (nI τ.2.2.2.1), .null, .int (nI fa), .int (nI pl), .int tk])), (b, .inl (0, 740, .inl (nF bt)))]
    refine zs_aload_n dX9_next_67 rfl rfl ?_
    refine zs_aload_n dX9_next_68 rfl rfl ?_
    refine zs_get 0 dX9_next_69 zf_RX9_23 rfl (v := .int (nI (min n L))) rfl ?_
    refine zs_put 0 dX9_next_72 zf_RX9_30 rfl (Nat.le_of_ble_eq_true rfl) (zPv_i _) ?_
    show zS _ _ _ _ _ _ [(x, .inr (8, [.ref b, .int (nI n), .int (nI (min n L)), .int (bI (decide (L < n))), .int (nI 0), .int (nI (min n L)), .int (nI (min n L)), .int (nI τ.2.2.2.1), .null, .int (nI fa), .int (nI pl), .int tk])), (b, .inl (0, 740, .inl (nF bt)))]
    have e : nxt bt n L τ = (0, min n L, min n L, τ.2.2.2.1, none) := by rw [nxt, hQ, lAt, if_pos (show min n L ≤ Q by omega)]
    exact zs_vret dX9_next_75 rfl ⟨rfl, by rw [e]; rfl⟩
theorem dX9_takeSign_0 : decode cX9_takeSign 0 = .ok (.aload_n 0, 1) := by decide +kernel
theorem dX9_takeSign_1 : decode cX9_takeSign 1 = .ok (.iload_n 1, 1) := by decide +kernel
theorem dX9_takeSign_2 : decode cX9_takeSign 2 = .ok (.invokevirtual 74, 3) := by decide +kernel
theorem dX9_takeSign_5 : decode cX9_takeSign 5 = .ok (.ifCond .ne 9, 3) := by decide +kernel
theorem dX9_takeSign_8 : decode cX9_takeSign 8 = .ok (.aload_n 0, 1) := by decide +kernel
theorem dX9_takeSign_9 : decode cX9_takeSign 9 = .ok (.iconst 1, 1) := by decide +kernel
theorem dX9_takeSign_10 : decode cX9_takeSign 10 = .ok (.invokevirtual 77, 3) := by decide +kernel
theorem dX9_takeSign_13 : decode cX9_takeSign 13 = .ok (.ireturn, 1) := by decide +kernel
theorem dX9_takeSign_14 : decode cX9_takeSign 14 = .ok (.aload_n 0, 1) := by decide +kernel
theorem dX9_takeSign_15 : decode cX9_takeSign 15 = .ok (.invokevirtual 39, 3) := by decide +kernel
theorem dX9_takeSign_18 : decode cX9_takeSign 18 = .ok (.iconst 1, 1) := by decide +kernel
theorem dX9_takeSign_19 : decode cX9_takeSign 19 = .ok (.ireturn, 1) := by decide +kernel
set_option maxRecDepth 100000 in
theorem s_takeSign (l : Launch) (dd : Nat) (x b n L : Nat) (bt : Nat → Nat) (τ : zTk) (pl : Nat) (tk : Int32) (c : Nat) (hd : 3 ≤ dd) (hn : n ≤ 740) (hL : L ≤ 740) (hbt : ∀ j, bt j < 256) (hτ : tOK τ) (hc : c < 256) : zSp l mX9_takeSign dd 0 0 [.ref x, .int (nI c)] [(x, .inr (8, fTx b n L τ 0 pl tk)), (b, .inl (0, 740, .inl (nF bt)))] (fun r K' => (tAt τ c = true ∧ r = some (.int 1) ∧ K' = [(x, .inr (8, fTx b n L (nxt bt n L τ) 0 pl tk))] ++ [(b, .inl (0, 740, .inl (nF bt)))]) ∨ (tAt τ c = false ∧ r = some (.int 0) ∧ K' = [(x, .inr (8, fTx b n L τ 1 τ.2.1 tk))] ++ [(b, .inl (0, 740, .inl (nF bt)))])) := by
  refine zSp.of (by decide) (Nat.le_of_ble_eq_true rfl) (fun h0 => ?_)
  show zS _ 0 0 0 [(0, .ref x), (1, .int (nI c))] [] [(x, .inr (8, fTx b n L τ 0 pl tk)), (b, .inl (0, 740, .inl (nF bt)))]
  refine zs_aload_n dX9_takeSign_0 rfl rfl ?_
  refine zs_iload_n dX9_takeSign_1 rfl ?_
  refine zs_callV (M := mX9_isAt) (As := [.int (nI c)]) (st := []) (Kc := [(x, .inr (8, fTx b n L τ 0 pl tk))]) (Kr := [(b, .inl (0, 740, .inl (nF bt)))]) [0] [1] 0 dX9_takeSign_2 zl_RX9_74 kX9_isAt rfl rfl rfl rfl rfl (by decide) rfl rfl (show dd - 1 + 1 ≤ dd by omega) (Nat.zero_le _) (Nat.zero_le _) (Nat.le_of_ble_eq_true rfl) (s_isAt l (dd - 1) x b n L τ 0 pl tk c hτ (by omega)) (fun r K1 hr => ?_)
  obtain ⟨rfl, rfl⟩ := hr
  refine zs_K (K' := [(x, .inr (8, fTx b n L τ 0 pl tk)), (b, .inl (0, 740, .inl (nF bt)))]) [1, 0] rfl (by decide) ?_
  refine zs_if_ne (tgt := 14) dX9_takeSign_5 (by decide) (fun c_1 => ?_) (fun c_1 => ?_)
  · refine zs_aload_n dX9_takeSign_14 rfl rfl ?_
    refine zs_callV (M := mX9_next) (As := []) (st := []) (Kc := [(x, .inr (8, fTx b n L τ 0 pl tk)), (b, .inl (0, 740, .inl (nF bt)))]) (Kr := []) [0, 1] [] 0 dX9_takeSign_15 zl_RX9_39 kX9_next rfl rfl rfl rfl rfl (by decide) rfl rfl (show dd - 1 + 1 ≤ dd by omega) (Nat.zero_le _) (Nat.zero_le _) (Nat.le_of_ble_eq_true rfl) (s_next l (dd - 1) x b n L bt τ 0 pl tk (by omega) hn hL hbt (hτ).2.2.1) (fun r K1 hr => ?_)
    obtain ⟨rfl, rfl⟩ := hr
    refine zs_K (K' := [(x, .inr (8, fTx b n L (nxt bt n L τ) 0 pl tk)), (b, .inl (0, 740, .inl (nF bt)))]) [0, 1] rfl (by decide) ?_
    refine zs_iconst (v := nI 1) dX9_takeSign_18 (by decide) ?_
    exact zs_zret dX9_takeSign_19 rfl (by first | exact Or.inl rfl | exact Or.inr rfl) (Or.inl ⟨(bI_t c_1), rfl, rfl⟩)
  · refine zs_aload_n dX9_takeSign_8 rfl rfl ?_
    refine zs_iconst (v := nI 1) dX9_takeSign_9 (by decide) ?_
    refine zs_callV (M := mX9_refuse) (As := [.int (nI 1)]) (st := []) (Kc := [(x, .inr (8, fTx b n L τ 0 pl tk))]) (Kr := [(b, .inl (0, 740, .inl (nF bt)))]) [0] [1] 0 dX9_takeSign_10 zl_RX9_77 kX9_refuse rfl rfl rfl rfl rfl (by decide) rfl rfl (show dd - 1 + 1 ≤ dd by omega) (Nat.zero_le _) (Nat.zero_le _) (Nat.le_of_ble_eq_true rfl) (s_refuse l (dd - 1) x b n L τ pl 1 tk) (fun r K1 hr => ?_)
    obtain ⟨rfl, rfl⟩ := hr
    refine zs_K (K' := [(x, .inr (8, fTx b n L τ 1 τ.2.1 tk)), (b, .inl (0, 740, .inl (nF bt)))]) [1, 0] rfl (by decide) ?_
    exact zs_zret dX9_takeSign_13 rfl (by first | exact Or.inl rfl | exact Or.inr rfl) (Or.inr ⟨(bI_f c_1), rfl, rfl⟩)
theorem dX9_takeNumber_0 : decode cX9_takeNumber 0 = .ok (.aload_n 0, 1) := by decide +kernel
theorem dX9_takeNumber_1 : decode cX9_takeNumber 1 = .ok (.getfield 46, 3) := by decide +kernel
theorem dX9_takeNumber_4 : decode cX9_takeNumber 4 = .ok (.iconst 3, 1) := by decide +kernel
theorem dX9_takeNumber_5 : decode cX9_takeNumber 5 = .ok (.if_icmp .eq 9, 3) := by decide +kernel
theorem dX9_takeNumber_8 : decode cX9_takeNumber 8 = .ok (.aload_n 0, 1) := by decide +kernel
theorem dX9_takeNumber_9 : decode cX9_takeNumber 9 = .ok (.iconst 1, 1) := by decide +kernel
theorem dX9_takeNumber_10 : decode cX9_takeNumber 10 = .ok (.invokevirtual 77, 3) := by decide +kernel
theorem dX9_takeNumber_13 : decode cX9_takeNumber 13 = .ok (.ireturn, 1) := by decide +kernel
theorem dX9_takeNumber_14 : decode cX9_takeNumber 14 = .ok (.aload_n 0, 1) := by decide +kernel
theorem dX9_takeNumber_15 : decode cX9_takeNumber 15 = .ok (.getfield 62, 3) := by decide +kernel
theorem dX9_takeNumber_18 : decode cX9_takeNumber 18 = .ok (.iload_n 1, 1) := by decide +kernel
theorem dX9_takeNumber_19 : decode cX9_takeNumber 19 = .ok (.if_icmp .lt 11, 3) := by decide +kernel
theorem dX9_takeNumber_22 : decode cX9_takeNumber 22 = .ok (.aload_n 0, 1) := by decide +kernel
theorem dX9_takeNumber_23 : decode cX9_takeNumber 23 = .ok (.getfield 62, 3) := by decide +kernel
theorem dX9_takeNumber_26 : decode cX9_takeNumber 26 = .ok (.iload_n 2, 1) := by decide +kernel
theorem dX9_takeNumber_27 : decode cX9_takeNumber 27 = .ok (.if_icmp .le 9, 3) := by decide +kernel
theorem dX9_takeNumber_30 : decode cX9_takeNumber 30 = .ok (.aload_n 0, 1) := by decide +kernel
theorem dX9_takeNumber_31 : decode cX9_takeNumber 31 = .ok (.iconst 2, 1) := by decide +kernel
theorem dX9_takeNumber_32 : decode cX9_takeNumber 32 = .ok (.invokevirtual 77, 3) := by decide +kernel
theorem dX9_takeNumber_35 : decode cX9_takeNumber 35 = .ok (.ireturn, 1) := by decide +kernel
theorem dX9_takeNumber_36 : decode cX9_takeNumber 36 = .ok (.aload_n 0, 1) := by decide +kernel
theorem dX9_takeNumber_37 : decode cX9_takeNumber 37 = .ok (.aload_n 0, 1) := by decide +kernel
theorem dX9_takeNumber_38 : decode cX9_takeNumber 38 = .ok (.getfield 62, 3) := by decide +kernel
theorem dX9_takeNumber_41 : decode cX9_takeNumber 41 = .ok (.putfield 80, 3) := by decide +kernel
theorem dX9_takeNumber_44 : decode cX9_takeNumber 44 = .ok (.aload_n 0, 1) := by decide +kernel
theorem dX9_takeNumber_45 : decode cX9_takeNumber 45 = .ok (.invokevirtual 39, 3) := by decide +kernel
theorem dX9_takeNumber_48 : decode cX9_takeNumber 48 = .ok (.iconst 1, 1) := by decide +kernel
theorem dX9_takeNumber_49 : decode cX9_takeNumber 49 = .ok (.ireturn, 1) := by decide +kernel
/-- what a number wanted from lo to hi finds: its fault, or none -/
def tNu (τ : zTk) (lo hi : Nat) : Nat := if τ.1 = 3 then (if τ.2.2.2.1 < lo then 2 else if hi < τ.2.2.2.1 then 2 else 0) else 1
theorem tNu_r {τ : zTk} {lo hi : Nat} (h : tNu τ lo hi = 0) : τ.1 = 3 ∧ lo ≤ τ.2.2.2.1 ∧ τ.2.2.2.1 ≤ hi := by
  unfold tNu at h
  split at h
  · split at h
    · exact absurd h (by decide)
    · split at h
      · exact absurd h (by decide)
      · rename_i h1 h2 h3
        exact ⟨h1, by omega, by omega⟩
  · exact absurd h (by decide)
theorem tNu_2 (τ : zTk) (lo hi : Nat) : tNu τ lo hi ≤ 2 := by
  unfold tNu
  split
  · split
    · exact Nat.le_refl _
    · split
      · exact Nat.le_refl _
      · exact Nat.zero_le _
  · decide
set_option maxRecDepth 100000 in
theorem s_takeNumber (l : Launch) (dd : Nat) (x b n L : Nat) (bt : Nat → Nat) (τ : zTk) (pl : Nat) (tk : Int32) (lo hi : Nat) (hd : 3 ≤ dd) (hn : n ≤ 740) (hL : L ≤ 740) (hbt : ∀ j, bt j < 256) (hτ : tOK τ) (hlo : lo ≤ 99999999) (hhi : hi < 2147483648) : zSp l mX9_takeNumber dd 0 0 [.ref x, .int (nI lo), .int (nI hi)] [(x, .inr (8, fTx b n L τ 0 pl tk)), (b, .inl (0, 740, .inl (nF bt)))] (fun r K' => (tNu τ lo hi = 0 ∧ r = some (.int 1) ∧ K' = [(x, .inr (8, fTx b n L (nxt bt n L τ) 0 pl (nI τ.2.2.2.1)))] ++ [(b, .inl (0, 740, .inl (nF bt)))]) ∨ (¬ tNu τ lo hi = 0 ∧ r = some (.int 0) ∧ K' = [(x, .inr (8, fTx b n L τ (tNu τ lo hi) τ.2.1 tk))] ++ [(b, .inl (0, 740, .inl (nF bt)))])) := by
  refine zSp.of (by decide) (Nat.le_of_ble_eq_true rfl) (fun h0 => ?_)
  show zS _ 0 0 0 [(0, .ref x), (1, .int (nI lo)), (2, .int (nI hi))] [] [(x, .inr (8, fTx b n L τ 0 pl tk)), (b, .inl (0, 740, .inl (nF bt)))]
  have hk4 := hτ.1
  refine zs_aload_n dX9_takeNumber_0 rfl rfl ?_
  refine zs_get 0 dX9_takeNumber_1 zf_RX9_46 rfl (v := .int (nI τ.1)) rfl ?_
  refine zs_iconst (v := nI 3) dX9_takeNumber_4 (by decide) ?_
  refine zs_icmp_eq (tgt := 14) dX9_takeNumber_5 (by decide) (fun c_1 => ?_) (fun c_1 => ?_)
  · have c_1 : τ.1 = 3 := by have hc := c_1; rw [nI_eq' (by omega) (by omega)] at hc; exact hc
    have hv := hτ.2.2.2.2.1 c_1
    refine zs_aload_n dX9_takeNumber_14 rfl rfl ?_
    refine zs_get 0 dX9_takeNumber_15 zf_RX9_62 rfl (v := .int (nI τ.2.2.2.1)) rfl ?_
    refine zs_iload_n dX9_takeNumber_18 rfl ?_
    refine zs_icmp_lt (tgt := 30) dX9_takeNumber_19 (by decide) (fun c_2 => ?_) (fun c_2 => ?_)
    · have c_2 : τ.2.2.2.1 < lo := by have hc := c_2; rw [nI_lt' (by omega) (by omega)] at hc; exact hc
      refine zs_aload_n dX9_takeNumber_30 rfl rfl ?_
      refine zs_iconst (v := nI 2) dX9_takeNumber_31 (by decide) ?_
      refine zs_callV (M := mX9_refuse) (As := [.int (nI 2)]) (st := []) (Kc := [(x, .inr (8, fTx b n L τ 0 pl tk))]) (Kr := [(b, .inl (0, 740, .inl (nF bt)))]) [0] [1] 0 dX9_takeNumber_32 zl_RX9_77 kX9_refuse rfl rfl rfl rfl rfl (by decide) rfl rfl (show dd - 1 + 1 ≤ dd by omega) (Nat.zero_le _) (Nat.zero_le _) (Nat.le_of_ble_eq_true rfl) (s_refuse l (dd - 1) x b n L τ pl 2 tk) (fun r K1 hr => ?_)
      obtain ⟨rfl, rfl⟩ := hr
      refine zs_K (K' := [(x, .inr (8, fTx b n L τ 2 τ.2.1 tk)), (b, .inl (0, 740, .inl (nF bt)))]) [1, 0] rfl (by decide) ?_
      have e : tNu τ lo hi = 2 := by rw [tNu, if_pos c_1, if_pos c_2]
      exact zs_zret dX9_takeNumber_35 rfl (Or.inl rfl) (Or.inr ⟨by rw [e]; decide, rfl, by rw [e]; rfl⟩)
    · have c_2 : ¬ (τ.2.2.2.1 < lo) := by have hc := c_2; rw [nI_lt' (by omega) (by omega)] at hc; exact hc
      refine zs_aload_n dX9_takeNumber_22 rfl rfl ?_
      refine zs_get 0 dX9_takeNumber_23 zf_RX9_62 rfl (v := .int (nI τ.2.2.2.1)) rfl ?_
      refine zs_iload_n dX9_takeNumber_26 rfl ?_
      refine zs_icmp_le (tgt := 36) dX9_takeNumber_27 (by decide) (fun c_3 => ?_) (fun c_3 => ?_)
      · have c_3 : τ.2.2.2.1 ≤ hi := by have hc := c_3; rw [nI_le' (by omega) (by omega)] at hc; exact hc
        refine zs_aload_n dX9_takeNumber_36 rfl rfl ?_
        refine zs_aload_n dX9_takeNumber_37 rfl rfl ?_
        refine zs_get 0 dX9_takeNumber_38 zf_RX9_62 rfl (v := .int (nI τ.2.2.2.1)) rfl ?_
        refine zs_put 0 dX9_takeNumber_41 zf_RX9_80 rfl (Nat.le_of_ble_eq_true rfl) (zPv_i _) ?_
        show zS _ _ _ _ _ _ [(x, .inr (8, fTx b n L τ 0 pl (nI τ.2.2.2.1))), (b, .inl (0, 740, .inl (nF bt)))]
        refine zs_aload_n dX9_takeNumber_44 rfl rfl ?_
        refine zs_callV (M := mX9_next) (As := []) (st := []) (Kc := [(x, .inr (8, fTx b n L τ 0 pl (nI τ.2.2.2.1))), (b, .inl (0, 740, .inl (nF bt)))]) (Kr := []) [0, 1] [] 0 dX9_takeNumber_45 zl_RX9_39 kX9_next rfl rfl rfl rfl rfl (by decide) rfl rfl (show dd - 1 + 1 ≤ dd by omega) (Nat.zero_le _) (Nat.zero_le _) (Nat.le_of_ble_eq_true rfl) (s_next l (dd - 1) x b n L bt τ 0 pl (nI τ.2.2.2.1) (by omega) hn hL hbt (hτ).2.2.1) (fun r K1 hr => ?_)
        obtain ⟨rfl, rfl⟩ := hr
        refine zs_K (K' := [(x, .inr (8, fTx b n L (nxt bt n L τ) 0 pl (nI τ.2.2.2.1))), (b, .inl (0, 740, .inl (nF bt)))]) [0, 1] rfl (by decide) ?_
        refine zs_iconst (v := nI 1) dX9_takeNumber_48 (by decide) ?_
        exact zs_zret dX9_takeNumber_49 rfl (Or.inr rfl) (Or.inl ⟨by rw [tNu, if_pos c_1, if_neg c_2, if_neg (show ¬ hi < τ.2.2.2.1 by omega)], rfl, rfl⟩)
      · have c_3 : ¬ (τ.2.2.2.1 ≤ hi) := by have hc := c_3; rw [nI_le' (by omega) (by omega)] at hc; exact hc
        refine zs_aload_n dX9_takeNumber_30 rfl rfl ?_
        refine zs_iconst (v := nI 2) dX9_takeNumber_31 (by decide) ?_
        refine zs_callV (M := mX9_refuse) (As := [.int (nI 2)]) (st := []) (Kc := [(x, .inr (8, fTx b n L τ 0 pl tk))]) (Kr := [(b, .inl (0, 740, .inl (nF bt)))]) [0] [1] 0 dX9_takeNumber_32 zl_RX9_77 kX9_refuse rfl rfl rfl rfl rfl (by decide) rfl rfl (show dd - 1 + 1 ≤ dd by omega) (Nat.zero_le _) (Nat.zero_le _) (Nat.le_of_ble_eq_true rfl) (s_refuse l (dd - 1) x b n L τ pl 2 tk) (fun r K1 hr => ?_)
        obtain ⟨rfl, rfl⟩ := hr
        refine zs_K (K' := [(x, .inr (8, fTx b n L τ 2 τ.2.1 tk)), (b, .inl (0, 740, .inl (nF bt)))]) [1, 0] rfl (by decide) ?_
        have e : tNu τ lo hi = 2 := by rw [tNu, if_pos c_1, if_neg c_2, if_pos (show hi < τ.2.2.2.1 by omega)]
        exact zs_zret dX9_takeNumber_35 rfl (Or.inl rfl) (Or.inr ⟨by rw [e]; decide, rfl, by rw [e]; rfl⟩)
  · have c_1 : ¬ (τ.1 = 3) := by have hc := c_1; rw [nI_eq' (by omega) (by omega)] at hc; exact hc
    refine zs_aload_n dX9_takeNumber_8 rfl rfl ?_
    refine zs_iconst (v := nI 1) dX9_takeNumber_9 (by decide) ?_
    refine zs_callV (M := mX9_refuse) (As := [.int (nI 1)]) (st := []) (Kc := [(x, .inr (8, fTx b n L τ 0 pl tk))]) (Kr := [(b, .inl (0, 740, .inl (nF bt)))]) [0] [1] 0 dX9_takeNumber_10 zl_RX9_77 kX9_refuse rfl rfl rfl rfl rfl (by decide) rfl rfl (show dd - 1 + 1 ≤ dd by omega) (Nat.zero_le _) (Nat.zero_le _) (Nat.le_of_ble_eq_true rfl) (s_refuse l (dd - 1) x b n L τ pl 1 tk) (fun r K1 hr => ?_)
    obtain ⟨rfl, rfl⟩ := hr
    refine zs_K (K' := [(x, .inr (8, fTx b n L τ 1 τ.2.1 tk)), (b, .inl (0, 740, .inl (nF bt)))]) [1, 0] rfl (by decide) ?_
    have e : tNu τ lo hi = 1 := by rw [tNu, if_neg c_1]
    exact zs_zret dX9_takeNumber_13 rfl (Or.inl rfl) (Or.inr ⟨by rw [e]; decide, rfl, by rw [e]; rfl⟩)
theorem dX9_open_0 : decode cX9_open 0 = .ok (.aload_n 0, 1) := by decide +kernel
theorem dX9_open_1 : decode cX9_open 1 = .ok (.aload_n 1, 1) := by decide +kernel
theorem dX9_open_2 : decode cX9_open 2 = .ok (.putfield 7, 3) := by decide +kernel
theorem dX9_open_5 : decode cX9_open 5 = .ok (.aload_n 0, 1) := by decide +kernel
theorem dX9_open_6 : decode cX9_open 6 = .ok (.iload_n 2, 1) := by decide +kernel
theorem dX9_open_7 : decode cX9_open 7 = .ok (.aload_n 1, 1) := by decide +kernel
theorem dX9_open_8 : decode cX9_open 8 = .ok (.arraylength, 1) := by decide +kernel
theorem dX9_open_9 : decode cX9_open 9 = .ok (.invokestatic 13, 3) := by decide +kernel
theorem dX9_open_12 : decode cX9_open 12 = .ok (.putfield 19, 3) := by decide +kernel
theorem dX9_open_15 : decode cX9_open 15 = .ok (.aload_n 0, 1) := by decide +kernel
theorem dX9_open_16 : decode cX9_open 16 = .ok (.aload_n 0, 1) := by decide +kernel
theorem dX9_open_17 : decode cX9_open 17 = .ok (.getfield 19, 3) := by decide +kernel
theorem dX9_open_20 : decode cX9_open 20 = .ok (.iload_n 3, 1) := by decide +kernel
theorem dX9_open_21 : decode cX9_open 21 = .ok (.invokestatic 13, 3) := by decide +kernel
theorem dX9_open_24 : decode cX9_open 24 = .ok (.putfield 23, 3) := by decide +kernel
theorem dX9_open_27 : decode cX9_open 27 = .ok (.aload_n 0, 1) := by decide +kernel
theorem dX9_open_28 : decode cX9_open 28 = .ok (.aload_n 0, 1) := by decide +kernel
theorem dX9_open_29 : decode cX9_open 29 = .ok (.getfield 19, 3) := by decide +kernel
theorem dX9_open_32 : decode cX9_open 32 = .ok (.iload_n 3, 1) := by decide +kernel
theorem dX9_open_33 : decode cX9_open 33 = .ok (.if_icmp .le 7, 3) := by decide +kernel
theorem dX9_open_36 : decode cX9_open 36 = .ok (.iconst 1, 1) := by decide +kernel
theorem dX9_open_37 : decode cX9_open 37 = .ok (.goto 4, 3) := by decide +kernel
theorem dX9_open_40 : decode cX9_open 40 = .ok (.iconst 0, 1) := by decide +kernel
theorem dX9_open_41 : decode cX9_open 41 = .ok (.putfield 26, 3) := by decide +kernel
theorem dX9_open_44 : decode cX9_open 44 = .ok (.aload_n 0, 1) := by decide +kernel
theorem dX9_open_45 : decode cX9_open 45 = .ok (.iconst 0, 1) := by decide +kernel
theorem dX9_open_46 : decode cX9_open 46 = .ok (.putfield 30, 3) := by decide +kernel
theorem dX9_open_49 : decode cX9_open 49 = .ok (.aload_n 0, 1) := by decide +kernel
theorem dX9_open_50 : decode cX9_open 50 = .ok (.iconst 0, 1) := by decide +kernel
theorem dX9_open_51 : decode cX9_open 51 = .ok (.putfield 33, 3) := by decide +kernel
theorem dX9_open_54 : decode cX9_open 54 = .ok (.aload_n 0, 1) := by decide +kernel
theorem dX9_open_55 : decode cX9_open 55 = .ok (.iconst 0, 1) := by decide +kernel
theorem dX9_open_56 : decode cX9_open 56 = .ok (.putfield 36, 3) := by decide +kernel
theorem dX9_open_59 : decode cX9_open 59 = .ok (.aload_n 0, 1) := by decide +kernel
theorem dX9_open_60 : decode cX9_open 60 = .ok (.invokevirtual 39, 3) := by decide +kernel
theorem dX9_open_63 : decode cX9_open 63 = .ok (.return_, 1) := by decide +kernel
set_option maxRecDepth 100000 in
theorem s_open (l : Launch) (dd : Nat) (x b b0 n L n0 L0 : Nat) (bt : Nat → Nat) (τ : zTk) (fa pl : Nat) (tk : Int32) (hd : 3 ≤ dd) (hn : n ≤ 740) (hL : L ≤ 740) (hbt : ∀ j, bt j < 256) : zSp l mX9_open dd 0 0 [.ref x, .ref b, .int (nI n), .int (nI L)] [(x, .inr (8, fTx b0 n0 L0 τ fa pl tk)), (b, .inl (0, 740, .inl (nF bt)))] (fun r K' => r = none ∧ K' = [(x, .inr (8, fTx b n L (nxt bt n L (0, 0, 0, τ.2.2.2.1, none)) 0 0 tk))] ++ [(b, .inl (0, 740, .inl (nF bt)))]) := by
  refine zSp.of (by decide) (Nat.le_of_ble_eq_true rfl) (fun h0 => ?_)
  show zS _ 0 0 0 [(0, .ref x), (1, .ref b), (2, .int (nI n)), (3, .int (nI L))] [] [(x, .inr (8, fTx b0 n0 L0 τ fa pl tk)), (b, .inl (0, 740, .inl (nF bt)))]
  refine zs_aload_n dX9_open_0 rfl rfl ?_
  refine zs_aload_n dX9_open_1 rfl rfl ?_
  refine zs_put 0 dX9_open_2 zf_RX9_7 rfl (Nat.le_of_ble_eq_true rfl) (zPv_a rfl) ?_
  show zS _ _ _ _ _ _ [(x, .inr (8, [.ref b, .int (nI n0), .int (nI (min n0 L0)), .int (bI (decide (L0 < n0))), .int (nI τ.1), .int (nI τ.2.1), .int (nI τ.2.2.1), .int (nI τ.2.2.2.1), (wV τ.2.2.2.2), .int (nI fa), .int (nI pl), .int tk])), (b, .inl (0, 740, .inl (nF bt)))]
  refine zs_aload_n dX9_open_5 rfl rfl ?_
  refine zs_iload_n dX9_open_6 rfl ?_
  refine zs_aload_n dX9_open_7 rfl rfl ?_
  refine zs_alen (v := (nI 740)) 1 dX9_open_8 rfl (by decide) rfl ?_
  refine zs_mmin dX9_open_9 zl_RX9_13 zmmin1 zmath2 zmmin3 (show 1 ≤ dd by omega) (Nat.le_of_ble_eq_true rfl) ?_
  refine zs_as (y := nI n) (by rw [nI_min (h := n) (w := 740) (by omega) (by omega), Nat.min_eq_left hn]) ?_
  refine zs_put 0 dX9_open_12 zf_RX9_19 rfl (Nat.le_of_ble_eq_true rfl) (zPv_i _) ?_
  show zS _ _ _ _ _ _ [(x, .inr (8, [.ref b, .int (nI n), .int (nI (min n0 L0)), .int (bI (decide (L0 < n0))), .int (nI τ.1), .int (nI τ.2.1), .int (nI τ.2.2.1), .int (nI τ.2.2.2.1), (wV τ.2.2.2.2), .int (nI fa), .int (nI pl), .int tk])), (b, .inl (0, 740, .inl (nF bt)))]
  refine zs_aload_n dX9_open_15 rfl rfl ?_
  refine zs_aload_n dX9_open_16 rfl rfl ?_
  refine zs_get 0 dX9_open_17 zf_RX9_19 rfl (v := .int (nI n)) rfl ?_
  refine zs_iload_n dX9_open_20 rfl ?_
  refine zs_mmin dX9_open_21 zl_RX9_13 zmmin1 zmath2 zmmin3 (show 1 ≤ dd by omega) (Nat.le_of_ble_eq_true rfl) ?_
  refine zs_as (y := nI (min n L)) (nI_min (by omega) (by omega)) ?_
  refine zs_put 0 dX9_open_24 zf_RX9_23 rfl (Nat.le_of_ble_eq_true rfl) (zPv_i _) ?_
  show zS _ _ _ _ _ _ [(x, .inr (8, [.ref b, .int (nI n), .int (nI (min n L)), .int (bI (decide (L0 < n0))), .int (nI τ.1), .int (nI τ.2.1), .int (nI τ.2.2.1), .int (nI τ.2.2.2.1), (wV τ.2.2.2.2), .int (nI fa), .int (nI pl), .int tk])), (b, .inl (0, 740, .inl (nF bt)))]
  refine zs_aload_n dX9_open_27 rfl rfl ?_
  refine zs_aload_n dX9_open_28 rfl rfl ?_
  refine zs_get 0 dX9_open_29 zf_RX9_19 rfl (v := .int (nI n)) rfl ?_
  refine zs_iload_n dX9_open_32 rfl ?_
  refine zs_icmp_le (tgt := 40) dX9_open_33 (by decide) (fun c_1 => ?_) (fun c_1 => ?_)
  · have c_1 : n ≤ L := by have hc := c_1; rw [nI_le' (by omega) (by omega)] at hc; exact hc
    refine zs_iconst (v := nI 0) dX9_open_40 (by decide) ?_
    refine zs_as (y := bI (decide (L < n))) (by rw [decide_eq_false (show ¬ L < n by omega)]; rfl) ?_
    refine zs_put 0 dX9_open_41 zf_RX9_26 rfl (Nat.le_of_ble_eq_true rfl) (zPv_z (by unfold bI; split <;> first | exact Or.inl rfl | exact Or.inr rfl)) ?_
    show zS _ _ _ _ _ _ [(x, .inr (8, [.ref b, .int (nI n), .int (nI (min n L)), .int (bI (decide (L < n))), .int (nI τ.1), .int (nI τ.2.1), .int (nI τ.2.2.1), .int (nI τ.2.2.2.1), (wV τ.2.2.2.2), .int (nI fa), .int (nI pl), .int tk])), (b, .inl (0, 740, .inl (nF bt)))]
    refine zs_aload_n dX9_open_44 rfl rfl ?_
    refine zs_iconst (v := nI 0) dX9_open_45 (by decide) ?_
    refine zs_put 0 dX9_open_46 zf_RX9_30 rfl (Nat.le_of_ble_eq_true rfl) (zPv_i _) ?_
    show zS _ _ _ _ _ _ [(x, .inr (8, [.ref b, .int (nI n), .int (nI (min n L)), .int (bI (decide (L < n))), .int (nI τ.1), .int (nI τ.2.1), .int (nI 0), .int (nI τ.2.2.2.1), (wV τ.2.2.2.2), .int (nI fa), .int (nI pl), .int tk])), (b, .inl (0, 740, .inl (nF bt)))]
    refine zs_aload_n dX9_open_49 rfl rfl ?_
    refine zs_iconst (v := nI 0) dX9_open_50 (by decide) ?_
    refine zs_put 0 dX9_open_51 zf_RX9_33 rfl (Nat.le_of_ble_eq_true rfl) (zPv_i _) ?_
    show zS _ _ _ _ _ _ [(x, .inr (8, [.ref b, .int (nI n), .int (nI (min n L)), .int (bI (decide (L < n))), .int (nI τ.1), .int (nI τ.2.1), .int (nI 0), .int (nI τ.2.2.2.1), (wV τ.2.2.2.2), .int (nI 0), .int (nI pl), .int tk])), (b, .inl (0, 740, .inl (nF bt)))]
    refine zs_aload_n dX9_open_54 rfl rfl ?_
    refine zs_iconst (v := nI 0) dX9_open_55 (by decide) ?_
    refine zs_put 0 dX9_open_56 zf_RX9_36 rfl (Nat.le_of_ble_eq_true rfl) (zPv_i _) ?_
    show zS _ _ _ _ _ _ [(x, .inr (8, [.ref b, .int (nI n), .int (nI (min n L)), .int (bI (decide (L < n))), .int (nI τ.1), .int (nI τ.2.1), .int (nI 0), .int (nI τ.2.2.2.1), (wV τ.2.2.2.2), .int (nI 0), .int (nI 0), .int tk])), (b, .inl (0, 740, .inl (nF bt)))]
    refine zs_aload_n dX9_open_59 rfl rfl ?_
    refine zs_callV (M := mX9_next) (As := []) (st := []) (Kc := [(x, .inr (8, [.ref b, .int (nI n), .int (nI (min n L)), .int (bI (decide (L < n))), .int (nI τ.1), .int (nI τ.2.1), .int (nI 0), .int (nI τ.2.2.2.1), (wV τ.2.2.2.2), .int (nI 0), .int (nI 0), .int tk])), (b, .inl (0, 740, .inl (nF bt)))]) (Kr := []) [0, 1] [] 0 dX9_open_60 zl_RX9_39 kX9_next rfl rfl rfl rfl rfl (by decide) rfl rfl (show dd - 1 + 1 ≤ dd by omega) (Nat.zero_le _) (Nat.zero_le _) (Nat.le_of_ble_eq_true rfl) (s_next l (dd - 1) x b n L bt (τ.1, τ.2.1, 0, τ.2.2.2.1, τ.2.2.2.2) 0 0 tk (by omega) hn hL hbt (Nat.zero_le _)) (fun r K1 hr => ?_)
    obtain ⟨rfl, rfl⟩ := hr
    refine zs_K (K' := [(x, .inr (8, fTx b n L (nxt bt n L (τ.1, τ.2.1, 0, τ.2.2.2.1, τ.2.2.2.2)) 0 0 tk)), (b, .inl (0, 740, .inl (nF bt)))]) [0, 1] rfl (by decide) ?_
    exact zs_vret dX9_open_63 rfl ⟨rfl, rfl⟩
  · have c_1 : ¬ (n ≤ L) := by have hc := c_1; rw [nI_le' (by omega) (by omega)] at hc; exact hc
    refine zs_iconst (v := nI 1) dX9_open_36 (by decide) ?_
    refine zs_goto (tgt := 41) dX9_open_37 (by decide) ?_
    refine zs_as (y := bI (decide (L < n))) (by rw [decide_eq_true (show L < n by omega)]; rfl) ?_
    refine zs_put 0 dX9_open_41 zf_RX9_26 rfl (Nat.le_of_ble_eq_true rfl) (zPv_z (by unfold bI; split <;> first | exact Or.inl rfl | exact Or.inr rfl)) ?_
    show zS _ _ _ _ _ _ [(x, .inr (8, [.ref b, .int (nI n), .int (nI (min n L)), .int (bI (decide (L < n))), .int (nI τ.1), .int (nI τ.2.1), .int (nI τ.2.2.1), .int (nI τ.2.2.2.1), (wV τ.2.2.2.2), .int (nI fa), .int (nI pl), .int tk])), (b, .inl (0, 740, .inl (nF bt)))]
    refine zs_aload_n dX9_open_44 rfl rfl ?_
    refine zs_iconst (v := nI 0) dX9_open_45 (by decide) ?_
    refine zs_put 0 dX9_open_46 zf_RX9_30 rfl (Nat.le_of_ble_eq_true rfl) (zPv_i _) ?_
    show zS _ _ _ _ _ _ [(x, .inr (8, [.ref b, .int (nI n), .int (nI (min n L)), .int (bI (decide (L < n))), .int (nI τ.1), .int (nI τ.2.1), .int (nI 0), .int (nI τ.2.2.2.1), (wV τ.2.2.2.2), .int (nI fa), .int (nI pl), .int tk])), (b, .inl (0, 740, .inl (nF bt)))]
    refine zs_aload_n dX9_open_49 rfl rfl ?_
    refine zs_iconst (v := nI 0) dX9_open_50 (by decide) ?_
    refine zs_put 0 dX9_open_51 zf_RX9_33 rfl (Nat.le_of_ble_eq_true rfl) (zPv_i _) ?_
    show zS _ _ _ _ _ _ [(x, .inr (8, [.ref b, .int (nI n), .int (nI (min n L)), .int (bI (decide (L < n))), .int (nI τ.1), .int (nI τ.2.1), .int (nI 0), .int (nI τ.2.2.2.1), (wV τ.2.2.2.2), .int (nI 0), .int (nI pl), .int tk])), (b, .inl (0, 740, .inl (nF bt)))]
    refine zs_aload_n dX9_open_54 rfl rfl ?_
    refine zs_iconst (v := nI 0) dX9_open_55 (by decide) ?_
    refine zs_put 0 dX9_open_56 zf_RX9_36 rfl (Nat.le_of_ble_eq_true rfl) (zPv_i _) ?_
    show zS _ _ _ _ _ _ [(x, .inr (8, [.ref b, .int (nI n), .int (nI (min n L)), .int (bI (decide (L < n))), .int (nI τ.1), .int (nI τ.2.1), .int (nI 0), .int (nI τ.2.2.2.1), (wV τ.2.2.2.2), .int (nI 0), .int (nI 0), .int tk])), (b, .inl (0, 740, .inl (nF bt)))]
    refine zs_aload_n dX9_open_59 rfl rfl ?_
    refine zs_callV (M := mX9_next) (As := []) (st := []) (Kc := [(x, .inr (8, [.ref b, .int (nI n), .int (nI (min n L)), .int (bI (decide (L < n))), .int (nI τ.1), .int (nI τ.2.1), .int (nI 0), .int (nI τ.2.2.2.1), (wV τ.2.2.2.2), .int (nI 0), .int (nI 0), .int tk])), (b, .inl (0, 740, .inl (nF bt)))]) (Kr := []) [0, 1] [] 0 dX9_open_60 zl_RX9_39 kX9_next rfl rfl rfl rfl rfl (by decide) rfl rfl (show dd - 1 + 1 ≤ dd by omega) (Nat.zero_le _) (Nat.zero_le _) (Nat.le_of_ble_eq_true rfl) (s_next l (dd - 1) x b n L bt (τ.1, τ.2.1, 0, τ.2.2.2.1, τ.2.2.2.2) 0 0 tk (by omega) hn hL hbt (Nat.zero_le _)) (fun r K1 hr => ?_)
    obtain ⟨rfl, rfl⟩ := hr
    refine zs_K (K' := [(x, .inr (8, fTx b n L (nxt bt n L (τ.1, τ.2.1, 0, τ.2.2.2.1, τ.2.2.2.2)) 0 0 tk)), (b, .inl (0, 740, .inl (nF bt)))]) [0, 1] rfl (by decide) ?_
    exact zs_vret dX9_open_63 rfl ⟨rfl, rfl⟩
theorem dX9_init_0 : decode cX9_init 0 = .ok (.aload_n 0, 1) := by decide +kernel
theorem dX9_init_1 : decode cX9_init 1 = .ok (.invokespecial 1, 3) := by decide +kernel
theorem dX9_init_4 : decode cX9_init 4 = .ok (.aload_n 0, 1) := by decide +kernel
theorem dX9_init_5 : decode cX9_init 5 = .ok (.iconst 0, 1) := by decide +kernel
theorem dX9_init_6 : decode cX9_init 6 = .ok (.newarray .int, 2) := by decide +kernel
theorem dX9_init_8 : decode cX9_init 8 = .ok (.putfield 7, 3) := by decide +kernel
theorem dX9_init_11 : decode cX9_init 11 = .ok (.return_, 1) := by decide +kernel
set_option maxRecDepth 100000 in
theorem s_TextInit (l : Launch) (dd : Nat) (t : Nat) (hd : 1 ≤ dd) : zSp l mX9_init dd 1 0 [.ref t] [(t, .inr (8, [.null, .int 0, .int 0, .int 0, .int 0, .int 0, .int 0, .int 0, .null, .int 0, .int 0, .int 0]))] (fun r K' => r = none ∧ ∃ ar : Nat → Nat, K' = [(t, .inr (8, fTx (ar 1) 0 0 (0, 0, 0, 0, none) 0 0 0)), (ar 1, .inl (0, 0, .inl z0))]) := by
  refine zSp.of (by decide) (Nat.le_of_ble_eq_true rfl) (fun h0 => ?_)
  show zS _ 1 0 0 [(0, .ref t)] [] [(t, .inr (8, [.null, .int 0, .int 0, .int 0, .int 0, .int 0, .int 0, .int 0, .null, .int 0, .int 0, .int 0]))]
  refine zs_aload_n dX9_init_0 rfl rfl ?_
  refine zs_objInit dX9_init_1 zo_RX9 (show 1 ≤ dd by omega) (Nat.le_of_ble_eq_true rfl) ?_
  refine zs_aload_n dX9_init_4 rfl rfl ?_
  refine zs_iconst (v := 0) dX9_init_5 (by decide) ?_
  refine zs_newa_int (N := 0) dX9_init_6 (by decide) (by decide) (by decide) (by first | omega | (simp only [List.length_cons, List.length_nil]; omega)) (by first | omega | (simp only [List.length_cons, List.length_nil]; omega)) (fun q_1 => ?_)
  show zS _ _ _ _ _ _ [(t, .inr (8, [.null, .int 0, .int 0, .int 0, .int 0, .int 0, .int 0, .int 0, .null, .int 0, .int 0, .int 0])), (q_1, .inl (0, 0, .inl (fun _ => 0)))]
  refine zs_put 0 dX9_init_8 zf_RX9_7 rfl (Nat.le_of_ble_eq_true rfl) (zPv_a rfl) ?_
  show zS _ _ _ _ _ _ [(t, .inr (8, [.ref q_1, .int 0, .int 0, .int 0, .int 0, .int 0, .int 0, .int 0, .null, .int 0, .int 0, .int 0])), (q_1, .inl (0, 0, .inl (fun _ => 0)))]
  exact zs_vret dX9_init_11 rfl ⟨rfl, (fun j => [0, q_1].getD j 0), rfl⟩
