/-! ===== PailRow.Row: a tick, many ticks ===== -/
def cDec (s : zRs) (p : Nat) : zRs := (s.1, uu s.2 3 (un (s.2 3) p (s.2 3 p - 1)))
theorem cI_up {B B' : Nat} {s : zRs} (h : cI B s) (hB : B ≤ B') : cI B' s := ⟨h.1, fun p hp => by have := h.2.1 p hp; omega, h.2.2⟩
theorem un_le {f : Nat → Nat} {k x b j : Nat} (h : f j ≤ b) (hx : x ≤ b) : un f k x j ≤ b := by
  unfold un
  split
  · exact hx
  · exact h
theorem un_lt {f : Nat → Nat} {k x b j : Nat} (h : f j < b) (hx : x < b) : un f k x j < b := by
  unfold un
  split
  · exact hx
  · exact h
theorem un_s (f : Nat → Nat) (k x : Nat) : un f k x k = x := if_pos rfl
theorem un_n {f : Nat → Nat} {k x j : Nat} (h : j ≠ k) : un f k x j = f j := if_neg h
theorem cI_dec {B p : Nat} {s : zRs} (h : cI B s) (hp : p < 12) : cI B (cDec s p) := by
  obtain ⟨h1, h2, h3⟩ := h
  refine ⟨h1, fun q hq => ?_, h3⟩
  obtain ⟨a1, a2, a3, a4⟩ := h2 q hq
  have b3 := (h2 p hp).2.2.1
  exact ⟨a1, a2, un_le a3 (by omega), a4⟩
theorem cI_fin {B p back spill : Nat} {s : zRs} (h : cI B s) (hp : p < s.1 1) : cI (B + 1) (cFin back spill s p) := by
  obtain ⟨⟨h0, h1⟩, h2, h3, h4⟩ := h
  have hpp := h2 p (by omega)
  unfold cFin
  split
  · refine ⟨⟨h0, h1⟩, fun q hq => ?_, h3, h4⟩
    obtain ⟨a1, a2, a3, a4, a5, a6⟩ := h2 q hq
    exact ⟨a1, a2, a3, a4, un_le (by omega) (by omega), a6⟩
  · split
    · refine ⟨⟨h0, h1⟩, fun q hq => ?_, h3, h4⟩
      obtain ⟨a1, a2, a3, a4, a5, a6⟩ := h2 q hq
      exact ⟨a1, a2, a3, a4, un_le (by omega) (by omega), a6⟩
    · rename_i h30
      refine ⟨⟨h0, h1⟩, fun q hq => ?_, fun q hq => ?_, h4⟩
      · obtain ⟨a1, a2, a3, a4, a5, a6, a7, a8⟩ := h2 q hq
        exact ⟨a1, a2, a3, a4, un_le (by omega) (by omega), a6, un_le a7 (by omega), a8⟩
      · exact un_le (h3 q hq) (by have := hpp.2.2.2.1; omega)
/-- the pails that come back -/
def cT0 (s : zRs) : zRs := (un (un s.1 12 (s.1 12 + 1)) 13 (s.1 13 + s.2 10 ((s.1 12 + 1) % 100)), uu s.2 10 (un (s.2 10) ((s.1 12 + 1) % 100) 0))
/-- a place in a tick -/
def cPa (back spill : Nat) (s : zRs) (p : Nat) : zRs := if s.2 3 p = 0 then s else if s.2 3 p - 1 = 0 then cFin back spill (cDec s p) p else cDec s p
def cPl (back spill hold : Nat) (pww : Nat → Nat) (s : zRs) (p : Nat) : zRs := if (cPa back spill s p).2 3 p = 0 then cSta hold pww (cPa back spill s p) p else cPa back spill s p
/-- the places below k, the last first -/
def cDn (back spill hold : Nat) (pww : Nat → Nat) : Nat → zRs → zRs
  | 0, s => s
  | k + 1, s => cDn back spill hold pww k (cPl back spill hold pww s k)
def cMo (s : zRs) : Nat → (Nat → Nat)
  | 0 => s.2 9
  | k + 1 => if k = 0 then s.2 9 else un (cMo s k) k (max (s.2 9 k) (s.2 8 k))
def cTick (back spill hold : Nat) (pww : Nat → Nat) (s : zRs) : zRs :=
  let d := cDn back spill hold pww (s.1 1) (cT0 s)
  (d.1, uu d.2 9 (cMo d (d.1 1)))
theorem cMo_ge (s : zRs) : ∀ k j, k ≤ j → cMo s k j = s.2 9 j
  | 0, j, _ => rfl
  | k + 1, j, h => by
    simp only [cMo]
    split
    · rfl
    · rw [un_n (by omega)]
      exact cMo_ge s k j (by omega)
theorem cFin_m (back spill p : Nat) (s : zRs) : (cFin back spill s p).1 1 = s.1 1 := by
  unfold cFin
  split
  · rfl
  · split <;> rfl
theorem cSta_m (hold p : Nat) (pww : Nat → Nat) (s : zRs) : (cSta hold pww s p).1 1 = s.1 1 := by
  unfold cSta
  split
  · split
    · rfl
    · split <;> rfl
  · split <;> rfl
theorem cPa_m (back spill p : Nat) (s : zRs) : (cPa back spill s p).1 1 = s.1 1 := by
  unfold cPa
  split
  · rfl
  · split
    · rw [cFin_m]; rfl
    · rfl
theorem cPl_m (back spill hold p : Nat) (pww : Nat → Nat) (s : zRs) : (cPl back spill hold pww s p).1 1 = s.1 1 := by
  unfold cPl
  split
  · rw [cSta_m, cPa_m]
  · rw [cPa_m]
theorem cDn_m (back spill hold : Nat) (pww : Nat → Nat) : ∀ (k : Nat) (s : zRs), (cDn back spill hold pww k s).1 1 = s.1 1
  | 0, _ => rfl
  | k + 1, s => by rw [cDn, cDn_m back spill hold pww k, cPl_m]
theorem cI_pa {B p back spill : Nat} {s : zRs} (h : cI B s) (hp : p < s.1 1) : cI (B + 1) (cPa back spill s p) := by
  have := h.1.2
  unfold cPa
  split
  · exact cI_up h (by omega)
  · split
    · exact cI_fin (cI_dec h (by omega)) hp
    · exact cI_up (cI_dec h (by omega)) (by omega)
theorem dX5_workTick_0 : decode cX5_workTick 0 = .ok (.aload_n 0, 1) := by decide +kernel
theorem dX5_workTick_1 : decode cX5_workTick 1 = .ok (.dup, 1) := by decide +kernel
theorem dX5_workTick_2 : decode cX5_workTick 2 = .ok (.getfield 62, 3) := by decide +kernel
theorem dX5_workTick_5 : decode cX5_workTick 5 = .ok (.iconst 1, 1) := by decide +kernel
theorem dX5_workTick_6 : decode cX5_workTick 6 = .ok (.iadd, 1) := by decide +kernel
theorem dX5_workTick_7 : decode cX5_workTick 7 = .ok (.putfield 62, 3) := by decide +kernel
theorem dX5_workTick_10 : decode cX5_workTick 10 = .ok (.aload_n 0, 1) := by decide +kernel
theorem dX5_workTick_11 : decode cX5_workTick 11 = .ok (.dup, 1) := by decide +kernel
theorem dX5_workTick_12 : decode cX5_workTick 12 = .ok (.getfield 68, 3) := by decide +kernel
theorem dX5_workTick_15 : decode cX5_workTick 15 = .ok (.aload_n 0, 1) := by decide +kernel
theorem dX5_workTick_16 : decode cX5_workTick 16 = .ok (.getfield 39, 3) := by decide +kernel
theorem dX5_workTick_19 : decode cX5_workTick 19 = .ok (.aload_n 0, 1) := by decide +kernel
theorem dX5_workTick_20 : decode cX5_workTick 20 = .ok (.getfield 62, 3) := by decide +kernel
theorem dX5_workTick_23 : decode cX5_workTick 23 = .ok (.bipush 100, 2) := by decide +kernel
theorem dX5_workTick_25 : decode cX5_workTick 25 = .ok (.irem, 1) := by decide +kernel
theorem dX5_workTick_26 : decode cX5_workTick 26 = .ok (.iaload, 1) := by decide +kernel
theorem dX5_workTick_27 : decode cX5_workTick 27 = .ok (.iadd, 1) := by decide +kernel
theorem dX5_workTick_28 : decode cX5_workTick 28 = .ok (.putfield 68, 3) := by decide +kernel
theorem dX5_workTick_31 : decode cX5_workTick 31 = .ok (.aload_n 0, 1) := by decide +kernel
theorem dX5_workTick_32 : decode cX5_workTick 32 = .ok (.getfield 39, 3) := by decide +kernel
theorem dX5_workTick_35 : decode cX5_workTick 35 = .ok (.aload_n 0, 1) := by decide +kernel
theorem dX5_workTick_36 : decode cX5_workTick 36 = .ok (.getfield 62, 3) := by decide +kernel
theorem dX5_workTick_39 : decode cX5_workTick 39 = .ok (.bipush 100, 2) := by decide +kernel
theorem dX5_workTick_41 : decode cX5_workTick 41 = .ok (.irem, 1) := by decide +kernel
theorem dX5_workTick_42 : decode cX5_workTick 42 = .ok (.iconst 0, 1) := by decide +kernel
theorem dX5_workTick_43 : decode cX5_workTick 43 = .ok (.iastore, 1) := by decide +kernel
theorem dX5_workTick_44 : decode cX5_workTick 44 = .ok (.aload_n 0, 1) := by decide +kernel
theorem dX5_workTick_45 : decode cX5_workTick 45 = .ok (.getfield 52, 3) := by decide +kernel
theorem dX5_workTick_48 : decode cX5_workTick 48 = .ok (.iconst 1, 1) := by decide +kernel
theorem dX5_workTick_49 : decode cX5_workTick 49 = .ok (.isub, 1) := by decide +kernel
theorem dX5_workTick_50 : decode cX5_workTick 50 = .ok (.istore_n 1, 1) := by decide +kernel
theorem dX5_workTick_51 : decode cX5_workTick 51 = .ok (.iload_n 1, 1) := by decide +kernel
theorem dX5_workTick_52 : decode cX5_workTick 52 = .ok (.ifCond .lt 56, 3) := by decide +kernel
theorem dX5_workTick_55 : decode cX5_workTick 55 = .ok (.aload_n 0, 1) := by decide +kernel
theorem dX5_workTick_56 : decode cX5_workTick 56 = .ok (.getfield 18, 3) := by decide +kernel
theorem dX5_workTick_59 : decode cX5_workTick 59 = .ok (.iload_n 1, 1) := by decide +kernel
theorem dX5_workTick_60 : decode cX5_workTick 60 = .ok (.iaload, 1) := by decide +kernel
theorem dX5_workTick_61 : decode cX5_workTick 61 = .ok (.ifCond .le 27, 3) := by decide +kernel
theorem dX5_workTick_64 : decode cX5_workTick 64 = .ok (.aload_n 0, 1) := by decide +kernel
theorem dX5_workTick_65 : decode cX5_workTick 65 = .ok (.getfield 18, 3) := by decide +kernel
theorem dX5_workTick_68 : decode cX5_workTick 68 = .ok (.iload_n 1, 1) := by decide +kernel
theorem dX5_workTick_69 : decode cX5_workTick 69 = .ok (.dup2, 1) := by decide +kernel
theorem dX5_workTick_70 : decode cX5_workTick 70 = .ok (.iaload, 1) := by decide +kernel
theorem dX5_workTick_71 : decode cX5_workTick 71 = .ok (.iconst 1, 1) := by decide +kernel
theorem dX5_workTick_72 : decode cX5_workTick 72 = .ok (.isub, 1) := by decide +kernel
theorem dX5_workTick_73 : decode cX5_workTick 73 = .ok (.iastore, 1) := by decide +kernel
theorem dX5_workTick_74 : decode cX5_workTick 74 = .ok (.aload_n 0, 1) := by decide +kernel
theorem dX5_workTick_75 : decode cX5_workTick 75 = .ok (.getfield 18, 3) := by decide +kernel
theorem dX5_workTick_78 : decode cX5_workTick 78 = .ok (.iload_n 1, 1) := by decide +kernel
theorem dX5_workTick_79 : decode cX5_workTick 79 = .ok (.iaload, 1) := by decide +kernel
theorem dX5_workTick_80 : decode cX5_workTick 80 = .ok (.ifCond .ne 8, 3) := by decide +kernel
theorem dX5_workTick_83 : decode cX5_workTick 83 = .ok (.aload_n 0, 1) := by decide +kernel
theorem dX5_workTick_84 : decode cX5_workTick 84 = .ok (.iload_n 1, 1) := by decide +kernel
theorem dX5_workTick_85 : decode cX5_workTick 85 = .ok (.invokevirtual 89, 3) := by decide +kernel
theorem dX5_workTick_88 : decode cX5_workTick 88 = .ok (.aload_n 0, 1) := by decide +kernel
theorem dX5_workTick_89 : decode cX5_workTick 89 = .ok (.getfield 18, 3) := by decide +kernel
theorem dX5_workTick_92 : decode cX5_workTick 92 = .ok (.iload_n 1, 1) := by decide +kernel
theorem dX5_workTick_93 : decode cX5_workTick 93 = .ok (.iaload, 1) := by decide +kernel
theorem dX5_workTick_94 : decode cX5_workTick 94 = .ok (.ifCond .ne 8, 3) := by decide +kernel
theorem dX5_workTick_97 : decode cX5_workTick 97 = .ok (.aload_n 0, 1) := by decide +kernel
theorem dX5_workTick_98 : decode cX5_workTick 98 = .ok (.iload_n 1, 1) := by decide +kernel
theorem dX5_workTick_99 : decode cX5_workTick 99 = .ok (.invokevirtual 93, 3) := by decide +kernel
theorem dX5_workTick_102 : decode cX5_workTick 102 = .ok (.iinc 1 (-1), 3) := by decide +kernel
theorem dX5_workTick_105 : decode cX5_workTick 105 = .ok (.goto (-54), 3) := by decide +kernel
theorem dX5_workTick_108 : decode cX5_workTick 108 = .ok (.iconst 1, 1) := by decide +kernel
theorem dX5_workTick_109 : decode cX5_workTick 109 = .ok (.istore_n 1, 1) := by decide +kernel
theorem dX5_workTick_110 : decode cX5_workTick 110 = .ok (.iload_n 1, 1) := by decide +kernel
theorem dX5_workTick_111 : decode cX5_workTick 111 = .ok (.aload_n 0, 1) := by decide +kernel
theorem dX5_workTick_112 : decode cX5_workTick 112 = .ok (.getfield 52, 3) := by decide +kernel
theorem dX5_workTick_115 : decode cX5_workTick 115 = .ok (.if_icmp .ge 30, 3) := by decide +kernel
theorem dX5_workTick_118 : decode cX5_workTick 118 = .ok (.aload_n 0, 1) := by decide +kernel
theorem dX5_workTick_119 : decode cX5_workTick 119 = .ok (.getfield 36, 3) := by decide +kernel
theorem dX5_workTick_122 : decode cX5_workTick 122 = .ok (.iload_n 1, 1) := by decide +kernel
theorem dX5_workTick_123 : decode cX5_workTick 123 = .ok (.aload_n 0, 1) := by decide +kernel
theorem dX5_workTick_124 : decode cX5_workTick 124 = .ok (.getfield 36, 3) := by decide +kernel
theorem dX5_workTick_127 : decode cX5_workTick 127 = .ok (.iload_n 1, 1) := by decide +kernel
theorem dX5_workTick_128 : decode cX5_workTick 128 = .ok (.iaload, 1) := by decide +kernel
theorem dX5_workTick_129 : decode cX5_workTick 129 = .ok (.aload_n 0, 1) := by decide +kernel
theorem dX5_workTick_130 : decode cX5_workTick 130 = .ok (.getfield 33, 3) := by decide +kernel
theorem dX5_workTick_133 : decode cX5_workTick 133 = .ok (.iload_n 1, 1) := by decide +kernel
theorem dX5_workTick_134 : decode cX5_workTick 134 = .ok (.iaload, 1) := by decide +kernel
theorem dX5_workTick_135 : decode cX5_workTick 135 = .ok (.invokestatic 96, 3) := by decide +kernel
theorem dX5_workTick_138 : decode cX5_workTick 138 = .ok (.iastore, 1) := by decide +kernel
theorem dX5_workTick_139 : decode cX5_workTick 139 = .ok (.iinc 1 1, 3) := by decide +kernel
theorem dX5_workTick_142 : decode cX5_workTick 142 = .ok (.goto (-32), 3) := by decide +kernel
theorem dX5_workTick_145 : decode cX5_workTick 145 = .ok (.return_, 1) := by decide +kernel
