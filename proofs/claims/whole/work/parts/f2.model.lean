/-! ===== the reference: a night, what is meant ===== -/
/-- from s to s': what is in the well and what was drawn make up the same; no less is thrown -/
def cD (s s' : zRs) : Prop := s'.1 14 + s'.1 16 = s.1 14 + s.1 16 ∧ s.1 15 ≤ s'.1 15
theorem cD_r {s : zRs} : cD s s := ⟨rfl, Nat.le_refl _⟩
theorem cD_t {a b c : zRs} (h1 : cD a b) (h2 : cD b c) : cD a c := ⟨h2.1.trans h1.1, Nat.le_trans h1.2 h2.2⟩
theorem cD_dec {s : zRs} {p : Nat} : cD s (cDec s p) := ⟨rfl, Nat.le_refl _⟩
theorem cD_fin {back spill : Nat} {s : zRs} {p : Nat} : cD s (cFin back spill s p) := by
  unfold cFin
  split
  · exact ⟨rfl, Nat.le_add_right _ _⟩
  · split
    · exact ⟨rfl, Nat.le_refl _⟩
    · exact ⟨rfl, Nat.le_refl _⟩
theorem cD_sta {hold : Nat} {pww : Nat → Nat} {s : zRs} {p : Nat} : cD s (cSta hold pww s p) := by
  unfold cSta
  split
  · split
    · exact cD_r
    · split
      · exact cD_r
      · refine ⟨?_, Nat.le_refl _⟩
        show s.1 14 - min hold (s.1 14) + (s.1 16 + min hold (s.1 14)) = s.1 14 + s.1 16
        have := Nat.min_le_right hold (s.1 14)
        omega
  · split
    · exact cD_r
    · exact ⟨rfl, Nat.le_refl _⟩
theorem cD_pa {back spill : Nat} {s : zRs} {p : Nat} : cD s (cPa back spill s p) := by
  unfold cPa
  split
  · exact cD_r
  · split
    · exact cD_t cD_dec cD_fin
    · exact cD_dec
theorem cD_pl {back spill hold : Nat} {pww : Nat → Nat} {s : zRs} {p : Nat} : cD s (cPl back spill hold pww s p) := by
  unfold cPl
  split
  · exact cD_t cD_pa cD_sta
  · exact cD_pa
theorem cD_dn {back spill hold : Nat} {pww : Nat → Nat} : ∀ (k : Nat) (s : zRs), cD s (cDn back spill hold pww k s)
  | 0, _ => cD_r
  | k + 1, s => cD_t cD_pl (cD_dn k (cPl back spill hold pww s k))
theorem cD_tick {back spill hold : Nat} {pww : Nat → Nat} {s : zRs} : cD s (cTick back spill hold pww s) := by
  have h : cD s (cDn back spill hold pww (s.1 1) (cT0 s)) := cD_t (b := cT0 s) ⟨rfl, Nat.le_refl _⟩ (cD_dn _ _)
  exact h
theorem cD_work {back spill hold : Nat} {pww : Nat → Nat} {s : zRs} : ∀ n, cD s (cWork back spill hold pww n s)
  | 0 => cD_r
  | n + 1 => cD_t (cD_work n) cD_tick
/-- from s to s': by how much more is thrown -/
def rD (b : Nat) (s s' : zRs) : Prop := s.1 8 ≤ s'.1 8 ∧ s'.1 8 ≤ s.1 8 + b
theorem rD_fin {s : zRs} {i : Nat} (h : rI s) (hi : i < 12) : rD 11 s (rFin s i) := by
  unfold rFin
  split
  · exact ⟨Nat.le_refl _, Nat.le_add_right _ _⟩
  · split
    · have h4 := (h.2.1 i hi).2.2.2
      show s.1 8 ≤ s.1 8 + nUp (s.2 4 i) 2 ∧ s.1 8 + nUp (s.2 4 i) 2 ≤ s.1 8 + 11
      have : nUp (s.2 4 i) 2 ≤ 11 := by unfold nUp; omega
      omega
    · exact ⟨Nat.le_refl _, Nat.le_add_right _ _⟩
theorem rD_a {s : zRs} {i : Nat} (h : rI s) (hi : i < 12) : rD 11 s (rA s i) := by
  unfold rA
  split
  · exact ⟨Nat.le_refl _, Nat.le_add_right _ _⟩
  · split
    · exact rD_fin (s := rDec s i) (rI_dec h hi) hi
    · exact ⟨Nat.le_refl _, Nat.le_add_right _ _⟩
theorem rB_8 {hold draw : Nat} {s : zRs} {i : Nat} : (rB hold draw s i).1 8 = s.1 8 := by
  unfold rB
  split
  · split
    · split
      · rfl
      · rfl
    · rfl
  · rfl
theorem rD_tk {hold draw : Nat} {s : zRs} {i : Nat} (h : rI s) (hi : i < 12) : rD 11 s (rTk hold draw s i) := by
  unfold rTk rD
  rw [rB_8]
  exact rD_a h hi
theorem rD_pl {hold draw : Nat} {s : zRs} (h : rI s) (hh : hold ≤ 20) (hdr : draw ≤ 1000) : ∀ k, k ≤ 12 → rD (11 * k) s (rPl hold draw s k)
  | 0, _ => ⟨Nat.le_refl _, Nat.le_refl _⟩
  | k + 1, hk => by
    have h1 := rD_pl h hh hdr k (by omega)
    have h2 := rD_tk (hold := hold) (draw := draw) (rI_pl h hh hdr k (by omega)) (show k < 12 by omega)
    have e : rPl hold draw s (k + 1) = rTk hold draw (rPl hold draw s k) k := rfl
    unfold rD at h1 h2 ⊢
    rw [e]
    omega
theorem rD_work {hold draw : Nat} {s : zRs} (h : rI s) (hh : hold ≤ 20) (hdr : draw ≤ 1000) : ∀ k, rD (132 * k) s (rWork hold draw s k)
  | 0 => ⟨Nat.le_refl _, Nat.le_refl _⟩
  | k + 1 => by
    have h1 := rD_work h hh hdr k
    have hk := rI_work h hh hdr k
    have h2 := rD_pl (hold := hold) (draw := draw) hk hh hdr _ hk.1
    have h3 := Nat.mul_le_mul_left 11 hk.1
    have e : rWork hold draw s (k + 1) = rPl hold draw (rWork hold draw s k) ((rWork hold draw s k).1 1) := rfl
    unfold rD at h1 h2 ⊢
    rw [e]
    omega
/-- the night's state against the reference's team, t ticks and no more since the first -/
def sQ (D : zYd) (t : Nat) (N : zNi) (M : zRs) : Prop := (M.1 35 = N.2.2.1 ∧ N.1 ≤ 2 ∧ N.2.2.1 ≤ 9999) ∧ cW N.2.2.2.1 ∧ rI N.2.2.2.2.1 ∧
  (N.1 = 1 → tR D N.2.2.2.1 M ∧ (∃ k, k ≤ t ∧ cJ (D.1 6) k N.2.2.2.1) ∧ N.2.2.2.1.1 14 + N.2.2.2.1.1 16 ≤ 9999) ∧ (N.1 = 2 → uR D N.2.2.2.2.1 M)
/-- after some ticks of the team at hand -/
def sTk (D : zYd) (N : zNi) (M0 M : zRs) (k : Nat) : Prop :=
  (N.1 = 0 → M.1 35 = M0.1 35 ∧ M.1 39 = M0.1 39) ∧ (N.1 = 1 → tR D (cWork (D.1 11) (D.1 10) (D.1 7) D.2.2.2.2.2.1 k N.2.2.2.1) M) ∧ (N.1 = 2 → uR D (rWork (D.1 7) (D.1 8) N.2.2.2.2.1 k) M)
/-- what is thrown in a minute, by the reference -/
theorem sTk_60 {D : zYd} {t : Nat} {N : zNi} {M0 M : zRs} (hD : yI D) (h : sQ D t N M0) (ht : t + 60 ≤ 3600) (hT : sTk D N M0 M 60) : ∃ u, u ≤ 9999 ∧ M.1 39 = M0.1 39 + u ∧ (nWrk D.1 D.2.2.2.2.2.1 N).1 = nI u ∧ sQ D (t + 60) (nWrk D.1 D.2.2.2.2.2.1 N).2 M := by
  obtain ⟨⟨h1, h2, h3⟩, hW, hI, hr, hu⟩ := h
  have hP := hD.2.2.2.2.2.2.2.2.2.2.1.2
  have h7 := hD.2.2.2.2.2.2.2.2.2.2.2.1.2
  have h8 := hD.2.2.2.2.2.2.2.2.2.2.2.2.1.2
  have hN : N.1 = 0 ∨ N.1 = 1 ∨ N.1 = 2 := by omega
  unfold nWrk
  rcases hN with e | e | e
  · obtain ⟨e1, e2⟩ := hT.1 e
    rw [if_neg (by omega), if_neg (by omega)]
    exact ⟨0, by omega, e2, rfl, ⟨e1.trans h1, h2, h3⟩, hW, hI, fun q => absurd q (by show ¬ N.1 = 1; omega), fun q => absurd q (by show ¬ N.1 = 2; omega)⟩
  · obtain ⟨g1, ⟨k, hk, hJ⟩, g3⟩ := hr e
    have g4 := hT.2.1 e
    have hcd := cD_work (back := D.1 11) (spill := D.1 10) (hold := D.1 7) (pww := D.2.2.2.2.2.1) (s := N.2.2.2.1) 60
    have hJ2 := cWork_pails (back := D.1 11) (spill := D.1 10) (pww := D.2.2.2.2.2.1) hJ hP h7 60 (by omega)
    have e39 : M0.1 39 = N.2.2.2.1.1 15 := g1.1.2.2.2.2.1
    have f39 := g4.1.2.2.2.2.1
    have f42 := g4.1.2.2.2.2.2.2.2
    have f35 := g4.1.2.1
    have ft := g4.2.2.2.1
    rw [if_pos e]
    generalize hc : cWork (D.1 11) (D.1 10) (D.1 7) D.2.2.2.2.2.1 60 N.2.2.2.1 = c at g4 hcd hJ2 f39 f42 f35
    have b1 : c.1 14 + c.1 16 ≤ 9999 := by rw [hcd.1]; exact g3
    have b2 : c.1 15 ≤ c.1 16 := by omega
    have b3 := hcd.2
    refine ⟨c.1 15 - N.2.2.2.1.1 15, by omega, by omega, by rw [nI_sub b3], ⟨f35, h2, by show c.1 14 ≤ 9999; omega⟩, hJ2.1.w, hI, fun _ => ⟨g4, ⟨k + 60, by omega, hJ2⟩, b1⟩, fun q => absurd q (by show ¬ N.1 = 2; omega)⟩
  · have g1 := hu e
    have g4 := hT.2.2 e
    have hrd := rD_work (hold := D.1 7) (draw := D.1 8) (s := N.2.2.2.2.1) hI h7 (by omega) 60
    have hI2 := rI_work (hold := D.1 7) (draw := D.1 8) (s := N.2.2.2.2.1) hI h7 (by omega) 60
    have e39 : M0.1 39 = N.2.2.2.2.1.1 8 := g1.1.2.2.1
    have f39 := g4.1.2.2.1
    have f35 := g4.1.2.1
    have f7 := g4.2.2.2.1.1
    rw [if_neg (by omega), if_pos e]
    generalize hc : rWork (D.1 7) (D.1 8) N.2.2.2.2.1 60 = c at g4 hrd hI2 f39 f35 f7
    have b3 := hrd.1
    have b4 := hrd.2
    refine ⟨c.1 8 - N.2.2.2.2.1.1 8, by omega, by omega, by rw [nI_sub b3], ⟨f35, h2, by show c.1 7 ≤ 9999; exact f7⟩, hW, hI2, fun q => absurd q (by show ¬ N.1 = 1; omega), fun _ => g4⟩
theorem sTk_0 {D : zYd} {t : Nat} {N : zNi} {M : zRs} (h : sQ D t N M) : sTk D N M M 0 := ⟨fun _ => ⟨rfl, rfl⟩, fun e => (h.2.2.2.1 e).1, fun e => h.2.2.2.2 e⟩
/-- a plan's minutes do not go back; its aims may be told -/
def pSo (P : zPl) : Prop := ∀ i j, i ≤ j → j < P.1 → P.2.1 i ≤ P.2.1 j
def pAi (D : zYd) (P : zPl) : Prop := ∀ k, k < P.1 → P.2.2.1 k = 3 → pTold (nI (D.1 14)) (nI (D.1 15)) (nI (P.2.2.2.1 k)) = true
