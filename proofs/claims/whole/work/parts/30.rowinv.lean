/-! ===== what stays true of a row: the pails are as many as ever ===== -/
def nSum (f : Nat → Nat) : Nat → Nat
  | 0 => 0
  | n + 1 => nSum f n + f n
theorem nSum_un {f : Nat → Nat} {k x : Nat} : ∀ n, n ≤ k → nSum (un f k x) n = nSum f n
  | 0, _ => rfl
  | n + 1, h => by
    simp only [nSum]
    rw [nSum_un n (by omega), un_n (by omega)]
theorem nSum_u {f : Nat → Nat} {k x : Nat} : ∀ n, k < n → nSum (un f k x) n + f k = nSum f n + x
  | 0, h => absurd h (by omega)
  | n + 1, h => by
    simp only [nSum]
    by_cases e : k = n
    · subst e
      rw [nSum_un k (Nat.le_refl _), un_s]
      omega
    · have := nSum_u (f := f) (k := k) (x := x) n (by omega)
      rw [un_n (show n ≠ k by omega)]
      omega
theorem nSum_le {f : Nat → Nat} {k : Nat} : ∀ n, k < n → f k ≤ nSum f n
  | 0, h => absurd h (by omega)
  | n + 1, h => by
    simp only [nSum]
    by_cases e : k = n
    · subst e
      omega
    · have := nSum_le (f := f) (k := k) n (by omega)
      omega
theorem nSum_c {f g : Nat → Nat} : ∀ n, (∀ j, j < n → f j = g j) → nSum f n = nSum g n
  | 0, _ => rfl
  | n + 1, h => by
    simp only [nSum]
    rw [nSum_c n (fun j hj => h j (by omega)), h n (by omega)]
theorem nSum_0 : ∀ n, nSum (fun _ => 0) n = 0
  | 0 => rfl
  | n + 1 => by simp only [nSum, nSum_0 n]
/-- busy or not -/
def bz (f : Nat → Nat) : Nat → Nat := fun p => if f p = 0 then 0 else 1
theorem bz_u (f : Nat → Nat) (k x : Nat) : bz (un f k x) = un (bz f) k (if x = 0 then 0 else 1) := by
  funext j
  unfold bz un
  by_cases h : j = k
  · simp only [if_pos h]
  · simp only [if_neg h]
/-- all the pails: empty, coming, standing, in hands -/
def cPails (s : zRs) : Nat := s.1 13 + nSum (s.2 10) 100 + nSum (s.2 8) (s.1 1) + nSum (bz (s.2 3)) (s.1 1)
/-- a row's numbers in tick t, the places from k on done: P pails -/
def cIn (P t k : Nat) (s : zRs) : Prop :=
  (2 ≤ s.1 1 ∧ s.1 1 ≤ 12) ∧
  (∀ p, p < 12 → s.2 1 p < 12 ∧ s.2 2 p ≤ 100 ∧ s.2 3 p ≤ 200 ∧ s.2 4 p ≤ 20 ∧ s.2 5 p ≤ 3600 ∧ s.2 7 p < 30 ∧ s.2 8 p ≤ 30 ∧ s.2 9 p ≤ 30) ∧
  (∀ q, q < 360 → s.2 6 q ≤ 20) ∧ s.1 12 ≤ t ∧ s.1 14 ≤ 9999 ∧
  (∀ p, p < s.1 1 → s.2 5 p ≤ (if p < k then t - 1 else t)) ∧ (∀ p, p < s.1 1 → 1 ≤ s.2 2 p) ∧ cPails s = P
theorem cIn.cI {P t k : Nat} {s : zRs} (h : cIn P t k s) (hP : P ≤ 30) (ht : t ≤ 3600) : cI 1000000 s := by
  obtain ⟨h1, h2, h3, h4, h5, h6, h7, h8⟩ := h
  refine ⟨⟨by omega, h1.2⟩, fun p hp => ?_, h3, by omega, ?_, by omega⟩
  · obtain ⟨a1, a2, a3, a4, a5, a6, a7, a8⟩ := h2 p hp
    exact ⟨a1, by omega, by omega, a4, by omega, by omega, a7, a8⟩
  · unfold cPails at h8
    omega
theorem cPa_pails {P t k back spill : Nat} {s : zRs} (h : cIn P t (k + 1) s) (hP : P ≤ 30) (ht : 1 ≤ t ∧ t ≤ 3600) (hk : k < s.1 1) : cIn P t k (cPa back spill s k) := by
  obtain ⟨h1, h2, h3, h4, h5, h6, h7, h8⟩ := h
  have hkk := h2 k (by omega)
  have h6k := h6 k hk
  rw [if_pos (by omega)] at h6k
  unfold cPa
  by_cases c1 : s.2 3 k = 0
  · rw [if_pos c1]
    refine ⟨h1, h2, h3, h4, h5, fun p hp => ?_, h7, h8⟩
    have := h6 p hp
    split at this <;> split <;> omega
  · rw [if_neg c1]
    by_cases c2 : s.2 3 k - 1 = 0
    · rw [if_pos c2]
      unfold cFin
      have hbz : bz (s.2 3) k = 1 := if_neg c1
      have hb1 := nSum_u (f := bz (s.2 3)) (k := k) (x := 0) (s.1 1) hk
      have hbz2 : bz (un (s.2 3) k (s.2 3 k - 1)) = un (bz (s.2 3)) k 0 := by rw [bz_u, if_pos c2]
      by_cases c3 : k = (cDec s k).1 1 - 1
      · rw [if_pos c3]
        refine ⟨h1, fun p hp => ?_, h3, h4, h5, fun p hp => ?_, h7, ?_⟩
        · obtain ⟨a1, a2, a3, a4, a5, a6, a7, a8⟩ := h2 p hp
          exact ⟨a1, a2, un_le a3 (by omega), a4, un_le a5 (by show s.2 5 k + 1 ≤ 3600; omega), a6, a7, a8⟩
        · show un (s.2 5) k (s.2 5 k + 1) p ≤ _
          by_cases e : p = k
          · rw [e, un_s, if_neg (by omega)]; omega
          · rw [un_n e]
            have := h6 p hp
            split at this <;> split <;> omega
        · unfold cPails at h8 ⊢
          have hc := nSum_u (f := s.2 10) (k := (s.1 12 + back) % 100) (x := s.2 10 ((s.1 12 + back) % 100) + 1) 100 (by omega)
          show s.1 13 + nSum (un (s.2 10) ((s.1 12 + back) % 100) (s.2 10 ((s.1 12 + back) % 100) + 1)) 100 + nSum (s.2 8) (s.1 1) + nSum (bz (un (s.2 3) k (s.2 3 k - 1))) (s.1 1) = P
          rw [hbz2]
          omega
      · rw [if_neg c3]
        have c3' : k + 1 < s.1 1 := by
          have : ¬ k = s.1 1 - 1 := c3
          omega
        have hst := nSum_le (f := s.2 8) (k := k + 1) (s.1 1) c3'
        have hst30 : s.2 8 (k + 1) < 30 := by
          unfold cPails at h8
          omega
        rw [if_neg (show ¬ 30 ≤ (cDec s k).2 8 (k + 1) from by show ¬ 30 ≤ s.2 8 (k + 1); omega)]
        refine ⟨h1, fun p hp => ?_, fun q hq => ?_, h4, h5, fun p hp => ?_, h7, ?_⟩
        · obtain ⟨a1, a2, a3, a4, a5, a6, a7, a8⟩ := h2 p hp
          exact ⟨a1, a2, un_le a3 (by omega), a4, un_le a5 (by show s.2 5 k + 1 ≤ 3600; omega), a6, un_le a7 (by show s.2 8 (k + 1) + 1 ≤ 30; omega), a8⟩
        · exact un_le (h3 q hq) (Nat.le_trans (Nat.sub_le _ _) hkk.2.2.2.1)
        · show un (s.2 5) k (s.2 5 k + 1) p ≤ _
          by_cases e : p = k
          · rw [e, un_s, if_neg (by omega)]; omega
          · rw [un_n e]
            have := h6 p hp
            split at this <;> split <;> omega
        · unfold cPails at h8 ⊢
          have hc := nSum_u (f := s.2 8) (k := k + 1) (x := s.2 8 (k + 1) + 1) (s.1 1) c3'
          show s.1 13 + nSum (s.2 10) 100 + nSum (un (s.2 8) (k + 1) (s.2 8 (k + 1) + 1)) (s.1 1) + nSum (bz (un (s.2 3) k (s.2 3 k - 1))) (s.1 1) = P
          rw [hbz2]
          omega
    · rw [if_neg c2]
      refine ⟨h1, fun p hp => ?_, h3, h4, h5, fun p hp => ?_, h7, ?_⟩
      · obtain ⟨a1, a2, a3, a4⟩ := h2 p hp
        exact ⟨a1, a2, un_le a3 (by omega), a4⟩
      · have := h6 p hp
        show s.2 5 p ≤ _
        split at this <;> split <;> omega
      · unfold cPails at h8 ⊢
        have hb1 := nSum_u (f := bz (s.2 3)) (k := k) (x := 1) (s.1 1) hk
        have hbz : bz (s.2 3) k = 1 := if_neg c1
        show s.1 13 + nSum (s.2 10) 100 + nSum (s.2 8) (s.1 1) + nSum (bz (un (s.2 3) k (s.2 3 k - 1))) (s.1 1) = P
        rw [bz_u, if_neg c2]
        omega
theorem cSta_pails {P t k hold : Nat} {pww : Nat → Nat} {s : zRs} (h : cIn P t k s) (hP : P ≤ 30) (hh : hold ≤ 20) (hk : k < s.1 1) (h0 : s.2 3 k = 0) : cIn P t k (cSta hold pww s k) := by
  obtain ⟨h1, h2, h3, h4, h5, h6, h7, h8⟩ := h
  have hkk := h2 k (by omega)
  have h7k := h7 k hk
  have hbz : bz (s.2 3) k = 0 := if_pos h0
  have hb1 := nSum_u (f := bz (s.2 3)) (k := k) (x := 1) (s.1 1) hk
  have hlf : cLf pww s k ≤ 200 ∧ ¬ cLf pww s k = 0 := by
    unfold cLf
    split <;> omega
  unfold cSta
  by_cases c0 : k = 0
  · rw [if_pos c0]
    split
    · exact ⟨h1, h2, h3, h4, h5, h6, h7, h8⟩
    · split
      · exact ⟨h1, h2, h3, h4, h5, h6, h7, h8⟩
      · refine ⟨h1, fun p hp => ?_, h3, h4, Nat.le_trans (Nat.sub_le _ _) h5, h6, h7, ?_⟩
        · obtain ⟨a1, a2, a3, a4, a5⟩ := h2 p hp
          exact ⟨a1, a2, un_le a3 hlf.1, un_le a4 (Nat.le_trans (Nat.min_le_left _ _) hh), a5⟩
        · unfold cPails at h8 ⊢
          show s.1 13 - 1 + nSum (s.2 10) 100 + nSum (s.2 8) (s.1 1) + nSum (bz (un (s.2 3) k (cLf pww s k))) (s.1 1) = P
          rw [bz_u, if_neg hlf.2]
          omega
  · rw [if_neg c0]
    split
    · exact ⟨h1, h2, h3, h4, h5, h6, h7, h8⟩
    · have hq : k * 30 + s.2 7 k < 360 := by omega
      refine ⟨h1, fun p hp => ?_, h3, h4, h5, h6, h7, ?_⟩
      · obtain ⟨a1, a2, a3, a4, a5, a6, a7, a8⟩ := h2 p hp
        exact ⟨a1, a2, un_le a3 hlf.1, un_le a4 (h3 _ hq), a5, un_lt a6 (by omega), un_le a7 (by omega), a8⟩
      · unfold cPails at h8 ⊢
        have hc := nSum_u (f := s.2 8) (k := k) (x := s.2 8 k - 1) (s.1 1) hk
        show s.1 13 + nSum (s.2 10) 100 + nSum (un (s.2 8) k (s.2 8 k - 1)) (s.1 1) + nSum (bz (un (s.2 3) k (cLf pww s k))) (s.1 1) = P
        rw [bz_u, if_neg hlf.2]
        omega
theorem cPl_pails {P t k back spill hold : Nat} {pww : Nat → Nat} {s : zRs} (h : cIn P t (k + 1) s) (hP : P ≤ 30) (ht : 1 ≤ t ∧ t ≤ 3600) (hh : hold ≤ 20) (hk : k < s.1 1) : cIn P t k (cPl back spill hold pww s k) := by
  have h1 := cPa_pails (back := back) (spill := spill) h hP ht hk
  unfold cPl
  split
  · rename_i h0
    exact cSta_pails h1 hP hh (by rw [cPa_m]; exact hk) h0
  · exact h1
/-- at the end of t ticks -/
def cJ (P t : Nat) (s : zRs) : Prop := cIn P t 0 s ∧ s.1 12 = t
theorem cT0_pails {P t : Nat} {s : zRs} (h : cJ P t s) : cIn P (t + 1) (s.1 1) (cT0 s) := by
  obtain ⟨⟨h1, h2, h3, h4, h5, h6, h7, h8⟩, ht⟩ := h
  refine ⟨h1, h2, h3, by show s.1 12 + 1 ≤ t + 1; omega, h5, fun p hp => ?_, h7, ?_⟩
  · rw [if_pos (show p < s.1 1 from hp)]
    have := h6 p hp
    rw [if_neg (by omega)] at this
    exact this
  · unfold cPails at h8 ⊢
    have hc := nSum_u (f := s.2 10) (k := (s.1 12 + 1) % 100) (x := 0) 100 (by omega)
    show s.1 13 + s.2 10 ((s.1 12 + 1) % 100) + nSum (un (s.2 10) ((s.1 12 + 1) % 100) 0) 100 + nSum (s.2 8) (s.1 1) + nSum (bz (s.2 3)) (s.1 1) = P
    omega
theorem cMo_le {s : zRs} {b : Nat} (h8 : ∀ p, p < 12 → s.2 8 p ≤ b) (h9 : ∀ p, p < 12 → s.2 9 p ≤ b) : ∀ k, k ≤ 12 → ∀ p, p < 12 → cMo s k p ≤ b
  | 0, _, p, hp => h9 p hp
  | k + 1, hk, p, hp => by
    simp only [cMo]
    split
    · exact h9 p hp
    · exact un_le (cMo_le h8 h9 k (by omega) p hp) (Nat.max_le.mpr ⟨h9 k (by omega), h8 k (by omega)⟩)
theorem cDn_12 (back spill hold : Nat) (pww : Nat → Nat) : ∀ (k : Nat) (s : zRs), (cDn back spill hold pww k s).1 12 = s.1 12
  | 0, _ => rfl
  | k + 1, s => by
    rw [cDn, cDn_12 back spill hold pww k]
    unfold cPl cPa cSta cFin
    repeat' split
    all_goals rfl
theorem cTick_pails {P t back spill hold : Nat} {pww : Nat → Nat} {s : zRs} (h : cJ P t s) (hP : P ≤ 30) (ht : t + 1 ≤ 3600) (hh : hold ≤ 20) : cJ P (t + 1) (cTick back spill hold pww s) := by
  have hm : (cT0 s).1 1 = s.1 1 := rfl
  have h1 := cDn_inv (back := back) (spill := spill) (hold := hold) (pww := pww) (Inv := fun k s' => cIn P (t + 1) k s') (fun s' p hs hp => cPl_pails hs hP ⟨by omega, ht⟩ hh hp) (s.1 1) (cT0 s) (by rw [hm]; exact Nat.le_refl _) (cT0_pails h)
  obtain ⟨a1, a2, a3, a4, a5, a6, a7, a8⟩ := h1
  refine ⟨⟨a1, fun p hp => ?_, a3, a4, a5, a6, a7, a8⟩, ?_⟩
  · obtain ⟨b1, b2, b3, b4, b5, b6, b7, b8⟩ := a2 p hp
    exact ⟨b1, b2, b3, b4, b5, b6, b7, cMo_le (fun p hp => (a2 p hp).2.2.2.2.2.2.1) (fun p hp => (a2 p hp).2.2.2.2.2.2.2) _ a1.2 p hp⟩
  · show (cDn back spill hold pww (s.1 1) (cT0 s)).1 12 = t + 1
    rw [cDn_12]
    show s.1 12 + 1 = t + 1
    rw [h.2]
theorem cWork_pails {P t back spill hold : Nat} {pww : Nat → Nat} {s : zRs} (h : cJ P t s) (hP : P ≤ 30) (hh : hold ≤ 20) : ∀ n, t + n ≤ 3600 → cJ P (t + n) (cWork back spill hold pww n s)
  | 0, _ => h
  | n + 1, hn => cTick_pails (cWork_pails h hP hh n (by omega)) hP (by omega) hh
/-- what a row's numbers keep when another row begins -/
def cW (s : zRs) : Prop := (∀ p, p < 12 → s.2 1 p < 12 ∧ s.2 2 p ≤ 100 ∧ s.2 3 p ≤ 200 ∧ s.2 4 p ≤ 20 ∧ s.2 5 p ≤ 3600 ∧ s.2 7 p < 30 ∧ s.2 8 p ≤ 30 ∧ s.2 9 p ≤ 30) ∧ (∀ q, q < 360 → s.2 6 q ≤ 20)
theorem cIn.w {P t k : Nat} {s : zRs} (h : cIn P t k s) : cW s := ⟨h.2.1, h.2.2.1⟩
theorem nCl_le {f g : Nat → Nat} {n b j : Nat} (h1 : j < n → f j ≤ b) (h2 : g j ≤ b) : nCl f g n j ≤ b := by
  unfold nCl
  split
  · rename_i h
    exact h1 h
  · exact h2
theorem nTime_1 {Y hdd : Nat → Nat} {m p n : Nat} (hh : 1 ≤ hdd m) : 1 ≤ nTime Y hdd m p n := by
  unfold nTime
  split
  · omega
  · split <;> omega
theorem cBeg_J {Y hdd ff : Nat → Nat} {first n w : Nat} {s : zRs} (h : cW s) (hn : 2 ≤ n ∧ n ≤ 12) (hff : ∀ i, i < n → ff (first + i) < 12) (hY5 : Y 5 ≤ 99) (hY8 : Y 8 ≤ 30) (hY12 : Y 12 ≤ 9) (hhd : ∀ i, i < n → 1 ≤ hdd (ff (first + i)) ∧ hdd (ff (first + i)) ≤ 9) (hw : w ≤ 9999) : cJ (Y 6) 0 (cBeg Y hdd ff first n w s) := by
  obtain ⟨h1, h2⟩ := h
  refine ⟨⟨hn, fun p hp => ?_, h2, Nat.zero_le _, hw, fun p hp => ?_, fun p hp => ?_, ?_⟩, rfl⟩
  · obtain ⟨a1, a2, a3, a4, a5, a6, a7, a8⟩ := h1 p hp
    show nCl (fun i => ff (first + i)) (s.2 1) n p < 12 ∧ nCl (fun i => nTime Y hdd (ff (first + i)) i n) (s.2 2) n p ≤ 100 ∧ nCl (fun _ => 0) (s.2 3) n p ≤ 200 ∧ nCl (fun _ => 0) (s.2 4) n p ≤ 20 ∧ nCl (fun _ => 0) (s.2 5) n p ≤ 3600 ∧ nCl (fun _ => 0) (s.2 7) n p < 30 ∧ nCl (fun _ => 0) (s.2 8) n p ≤ 30 ∧ nCl (fun _ => 0) (s.2 9) n p ≤ 30
    refine ⟨?_, nCl_le (fun hj => nTime_le hY5 hY8 hY12 hn.1 (hhd p hj).2) a2, nCl_le (fun _ => Nat.zero_le _) a3, nCl_le (fun _ => Nat.zero_le _) a4, nCl_le (fun _ => Nat.zero_le _) a5, ?_, nCl_le (fun _ => Nat.zero_le _) a7, nCl_le (fun _ => Nat.zero_le _) a8⟩
    · exact Nat.lt_succ_of_le (nCl_le (b := 11) (fun hj => Nat.le_of_lt_succ (hff p hj)) (Nat.le_of_lt_succ a1))
    · exact Nat.lt_succ_of_le (nCl_le (b := 29) (fun _ => Nat.zero_le _) (Nat.le_of_lt_succ a6))
  · show nCl (fun _ => 0) (s.2 5) n p ≤ _
    rw [nCl_s (show p < n from hp)]
    exact Nat.zero_le _
  · show 1 ≤ nCl (fun i => nTime Y hdd (ff (first + i)) i n) (s.2 2) n p
    rw [nCl_s (show p < n from hp)]
    exact nTime_1 (hhd p hp).1
  · show Y 6 + nSum (nCl (fun _ => 0) (s.2 10) 100) 100 + nSum (nCl (fun _ => 0) (s.2 8) n) n + nSum (bz (nCl (fun _ => 0) (s.2 3) n)) n = Y 6
    rw [nSum_c (g := fun _ => 0) 100 (fun j hj => nCl_s hj), nSum_c (f := nCl _ (s.2 8) n) (g := fun _ => 0) n (fun j hj => nCl_s hj), nSum_c (f := bz _) (g := fun _ => 0) n (fun j hj => by unfold bz; rw [nCl_s hj]; rfl), nSum_0, nSum_0]
    omega
