/-! ===== the reference: a team, its pails and men ===== -/
/-- the reference's numbers, the team's told by s -/
def mg (g : Nat → Int32) (s : Nat → Nat) : Nat → Int32 := fun k => if 33 ≤ k ∧ k ≤ 42 ∧ k ≠ 34 then nI (s k) else g k
/-- the team's cells: the object, the yard that stands, the team's arrays -/
abbrev kTm (mo : Nat) (e : Nat → Nat) (g : Nat → Int32) (w : Int64) (nw : Nat → Int32) (s : zRs) : zK := [(mo, .inr (11, fMo e (mg g s.1) w)), ((e 14), .inl (0, 800, .inl nw)), ((e 24), .inl (0, 12, .inl (nF (s.2 24)))), ((e 25), .inl (0, 12, .inl (nF (s.2 25)))), ((e 26), .inl (0, 12, .inl (nF (s.2 26)))), ((e 27), .inl (0, 12, .inl (nF (s.2 27)))), ((e 28), .inl (0, 360, .inl (nF (s.2 28)))), ((e 29), .inl (0, 12, .inl (nF (s.2 29)))), ((e 30), .inl (0, 12, .inl (nF (s.2 30)))), ((e 31), .inl (0, 30, .inl (nF (s.2 31)))), ((e 32), .inl (0, 12, .inl (nF (s.2 32))))]
/-- what a man draws -/
def tV (hold : Nat) (s : zRs) : Nat := if s.1 35 < hold then s.1 35 else hold
def tmDr (hold : Nat) (s : zRs) : zRs := (un (un s.1 35 (s.1 35 - tV hold s)) 42 (s.1 42 + tV hold s), s.2)
def tmPu (s : zRs) (p x : Nat) : zRs := (s.1, uu (uu s.2 28 (un (s.2 28) (30 * p + s.2 29 p) x)) 29 (un (s.2 29) p (s.2 29 p + 1)))
/-- k places from the a-th on, each from the next -/
def shf (f : Nat → Nat) (a k : Nat) : Nat → Nat := fun j => if a ≤ j ∧ j < a + k then f (j + 1) else f j
theorem shf_0 (f : Nat → Nat) (a : Nat) : shf f a 0 = f := by funext j; exact if_neg (by omega)
theorem shf_u {f : Nat → Nat} {a k v : Nat} (h : v = f (a + k + 1)) : un (shf f a k) (a + k) v = shf f a (k + 1) := by
  funext j
  unfold un shf
  by_cases h1 : j = a + k
  · rw [if_pos h1, if_pos (by omega), h, h1]
  · rw [if_neg h1]
    by_cases h2 : a ≤ j ∧ j < a + k
    · rw [if_pos h2, if_pos (by omega)]
    · rw [if_neg h2, if_neg (by omega)]
theorem shf_at {f : Nat → Nat} {a k : Nat} : shf f a k (a + k + 1) = f (a + k + 1) := if_neg (by omega)
def tmSh (s : zRs) (p : Nat) : zRs := (s.1, uu (uu s.2 28 (shf (s.2 28) (30 * p) (s.2 29 p - 1))) 29 (un (s.2 29) p (s.2 29 p - 1)))
def tmLd (s : zRs) (p v : Nat) : zRs := (s.1, uu s.2 26 (un (s.2 26) p v))
def tmFi (back spill : Nat) (s : zRs) (p : Nat) : zRs :=
  if p = s.1 33 - 1 then (un (un (un s.1 38 (s.1 38 + 1)) 39 (s.1 39 + s.2 26 p)) 41 (s.1 41 + 1), uu (uu (uu s.2 26 (un (s.2 26) p 0)) 27 (un (s.2 27) p (s.2 27 p + 1))) 31 (un (s.2 31) (s.1 38) (s.1 36 + back)))
  else tmLd (tmPu (un s.1 40 (s.1 40 + s.2 26 p * spill / 100), uu s.2 27 (un (s.2 27) p (s.2 27 p + 1))) (p + 1) (s.2 26 p - s.2 26 p * spill / 100)) p 0
/-- how long, by what is done -/
def tmLf (D : zYd) (s : zRs) (p : Nat) : Nat := nTime D.1 D.2.2.2.1 (s.2 24 p) p (s.1 33) * (if s.2 27 p < 10 * D.2.2.2.2.2.1 (s.2 24 p) then 1 else 2)
def tmRs (s : zRs) (p v : Nat) : zRs := (s.1, uu s.2 25 (un (s.2 25) p v))
def tmTa (D : zYd) (s : zRs) (p : Nat) : zRs :=
  if p = 0 then (if s.1 37 = 0 then s else if s.1 35 = 0 then s else tmRs (tmLd (tmDr (D.1 7) (un s.1 37 (s.1 37 - 1), s.2)) 0 (tV (D.1 7) s)) p (tmLf D s p))
  else if s.2 29 p = 0 then s else tmRs (tmLd (tmSh s p) p (s.2 28 (30 * p))) p (tmLf D s p)
theorem dX13_draws_0 : decode cX13_draws 0 = .ok (.aload_n 0, 1) := by decide +kernel
theorem dX13_draws_1 : decode cX13_draws 1 = .ok (.getfield 334, 3) := by decide +kernel
theorem dX13_draws_4 : decode cX13_draws 4 = .ok (.aload_n 0, 1) := by decide +kernel
theorem dX13_draws_5 : decode cX13_draws 5 = .ok (.getfield 13, 3) := by decide +kernel
theorem dX13_draws_8 : decode cX13_draws 8 = .ok (.iconst 3, 1) := by decide +kernel
theorem dX13_draws_9 : decode cX13_draws 9 = .ok (.iaload, 1) := by decide +kernel
theorem dX13_draws_10 : decode cX13_draws 10 = .ok (.if_icmp .ge 10, 3) := by decide +kernel
theorem dX13_draws_13 : decode cX13_draws 13 = .ok (.aload_n 0, 1) := by decide +kernel
theorem dX13_draws_14 : decode cX13_draws 14 = .ok (.getfield 334, 3) := by decide +kernel
theorem dX13_draws_17 : decode cX13_draws 17 = .ok (.goto 9, 3) := by decide +kernel
theorem dX13_draws_20 : decode cX13_draws 20 = .ok (.aload_n 0, 1) := by decide +kernel
theorem dX13_draws_21 : decode cX13_draws 21 = .ok (.getfield 13, 3) := by decide +kernel
theorem dX13_draws_24 : decode cX13_draws 24 = .ok (.iconst 3, 1) := by decide +kernel
theorem dX13_draws_25 : decode cX13_draws 25 = .ok (.iaload, 1) := by decide +kernel
theorem dX13_draws_26 : decode cX13_draws 26 = .ok (.istore_n 1, 1) := by decide +kernel
theorem dX13_draws_27 : decode cX13_draws 27 = .ok (.aload_n 0, 1) := by decide +kernel
theorem dX13_draws_28 : decode cX13_draws 28 = .ok (.dup, 1) := by decide +kernel
theorem dX13_draws_29 : decode cX13_draws 29 = .ok (.getfield 334, 3) := by decide +kernel
theorem dX13_draws_32 : decode cX13_draws 32 = .ok (.iload_n 1, 1) := by decide +kernel
theorem dX13_draws_33 : decode cX13_draws 33 = .ok (.isub, 1) := by decide +kernel
theorem dX13_draws_34 : decode cX13_draws 34 = .ok (.putfield 334, 3) := by decide +kernel
theorem dX13_draws_37 : decode cX13_draws 37 = .ok (.aload_n 0, 1) := by decide +kernel
theorem dX13_draws_38 : decode cX13_draws 38 = .ok (.dup, 1) := by decide +kernel
theorem dX13_draws_39 : decode cX13_draws 39 = .ok (.getfield 325, 3) := by decide +kernel
theorem dX13_draws_42 : decode cX13_draws 42 = .ok (.iload_n 1, 1) := by decide +kernel
theorem dX13_draws_43 : decode cX13_draws 43 = .ok (.iadd, 1) := by decide +kernel
theorem dX13_draws_44 : decode cX13_draws 44 = .ok (.putfield 325, 3) := by decide +kernel
theorem dX13_draws_47 : decode cX13_draws 47 = .ok (.iload_n 1, 1) := by decide +kernel
theorem dX13_draws_48 : decode cX13_draws 48 = .ok (.ireturn, 1) := by decide +kernel
theorem dX13_push_0 : decode cX13_push 0 = .ok (.aload_n 0, 1) := by decide +kernel
theorem dX13_push_1 : decode cX13_push 1 = .ok (.getfield 51, 3) := by decide +kernel
theorem dX13_push_4 : decode cX13_push 4 = .ok (.bipush 30, 2) := by decide +kernel
theorem dX13_push_6 : decode cX13_push 6 = .ok (.iload_n 1, 1) := by decide +kernel
theorem dX13_push_7 : decode cX13_push 7 = .ok (.imul, 1) := by decide +kernel
theorem dX13_push_8 : decode cX13_push 8 = .ok (.aload_n 0, 1) := by decide +kernel
theorem dX13_push_9 : decode cX13_push 9 = .ok (.getfield 54, 3) := by decide +kernel
theorem dX13_push_12 : decode cX13_push 12 = .ok (.iload_n 1, 1) := by decide +kernel
theorem dX13_push_13 : decode cX13_push 13 = .ok (.iaload, 1) := by decide +kernel
theorem dX13_push_14 : decode cX13_push 14 = .ok (.iadd, 1) := by decide +kernel
theorem dX13_push_15 : decode cX13_push 15 = .ok (.iload_n 2, 1) := by decide +kernel
theorem dX13_push_16 : decode cX13_push 16 = .ok (.iastore, 1) := by decide +kernel
theorem dX13_push_17 : decode cX13_push 17 = .ok (.aload_n 0, 1) := by decide +kernel
theorem dX13_push_18 : decode cX13_push 18 = .ok (.getfield 54, 3) := by decide +kernel
theorem dX13_push_21 : decode cX13_push 21 = .ok (.iload_n 1, 1) := by decide +kernel
theorem dX13_push_22 : decode cX13_push 22 = .ok (.dup2, 1) := by decide +kernel
theorem dX13_push_23 : decode cX13_push 23 = .ok (.iaload, 1) := by decide +kernel
theorem dX13_push_24 : decode cX13_push 24 = .ok (.iconst 1, 1) := by decide +kernel
theorem dX13_push_25 : decode cX13_push 25 = .ok (.iadd, 1) := by decide +kernel
theorem dX13_push_26 : decode cX13_push 26 = .ok (.iastore, 1) := by decide +kernel
theorem dX13_push_27 : decode cX13_push 27 = .ok (.return_, 1) := by decide +kernel
theorem dX13_shift_0 : decode cX13_shift 0 = .ok (.aload_n 0, 1) := by decide +kernel
theorem dX13_shift_1 : decode cX13_shift 1 = .ok (.getfield 51, 3) := by decide +kernel
theorem dX13_shift_4 : decode cX13_shift 4 = .ok (.bipush 30, 2) := by decide +kernel
theorem dX13_shift_6 : decode cX13_shift 6 = .ok (.iload_n 1, 1) := by decide +kernel
theorem dX13_shift_7 : decode cX13_shift 7 = .ok (.imul, 1) := by decide +kernel
theorem dX13_shift_8 : decode cX13_shift 8 = .ok (.iaload, 1) := by decide +kernel
theorem dX13_shift_9 : decode cX13_shift 9 = .ok (.istore_n 2, 1) := by decide +kernel
theorem dX13_shift_10 : decode cX13_shift 10 = .ok (.aload_n 0, 1) := by decide +kernel
theorem dX13_shift_11 : decode cX13_shift 11 = .ok (.getfield 54, 3) := by decide +kernel
theorem dX13_shift_14 : decode cX13_shift 14 = .ok (.iload_n 1, 1) := by decide +kernel
theorem dX13_shift_15 : decode cX13_shift 15 = .ok (.dup2, 1) := by decide +kernel
theorem dX13_shift_16 : decode cX13_shift 16 = .ok (.iaload, 1) := by decide +kernel
theorem dX13_shift_17 : decode cX13_shift 17 = .ok (.iconst 1, 1) := by decide +kernel
theorem dX13_shift_18 : decode cX13_shift 18 = .ok (.isub, 1) := by decide +kernel
theorem dX13_shift_19 : decode cX13_shift 19 = .ok (.iastore, 1) := by decide +kernel
theorem dX13_shift_20 : decode cX13_shift 20 = .ok (.iconst 0, 1) := by decide +kernel
theorem dX13_shift_21 : decode cX13_shift 21 = .ok (.istore_n 3, 1) := by decide +kernel
theorem dX13_shift_22 : decode cX13_shift 22 = .ok (.iload_n 3, 1) := by decide +kernel
theorem dX13_shift_23 : decode cX13_shift 23 = .ok (.aload_n 0, 1) := by decide +kernel
theorem dX13_shift_24 : decode cX13_shift 24 = .ok (.getfield 54, 3) := by decide +kernel
theorem dX13_shift_27 : decode cX13_shift 27 = .ok (.iload_n 1, 1) := by decide +kernel
theorem dX13_shift_28 : decode cX13_shift 28 = .ok (.iaload, 1) := by decide +kernel
theorem dX13_shift_29 : decode cX13_shift 29 = .ok (.if_icmp .ge 33, 3) := by decide +kernel
theorem dX13_shift_32 : decode cX13_shift 32 = .ok (.aload_n 0, 1) := by decide +kernel
theorem dX13_shift_33 : decode cX13_shift 33 = .ok (.getfield 51, 3) := by decide +kernel
theorem dX13_shift_36 : decode cX13_shift 36 = .ok (.bipush 30, 2) := by decide +kernel
theorem dX13_shift_38 : decode cX13_shift 38 = .ok (.iload_n 1, 1) := by decide +kernel
theorem dX13_shift_39 : decode cX13_shift 39 = .ok (.imul, 1) := by decide +kernel
theorem dX13_shift_40 : decode cX13_shift 40 = .ok (.iload_n 3, 1) := by decide +kernel
theorem dX13_shift_41 : decode cX13_shift 41 = .ok (.iadd, 1) := by decide +kernel
theorem dX13_shift_42 : decode cX13_shift 42 = .ok (.aload_n 0, 1) := by decide +kernel
theorem dX13_shift_43 : decode cX13_shift 43 = .ok (.getfield 51, 3) := by decide +kernel
theorem dX13_shift_46 : decode cX13_shift 46 = .ok (.bipush 30, 2) := by decide +kernel
theorem dX13_shift_48 : decode cX13_shift 48 = .ok (.iload_n 1, 1) := by decide +kernel
theorem dX13_shift_49 : decode cX13_shift 49 = .ok (.imul, 1) := by decide +kernel
theorem dX13_shift_50 : decode cX13_shift 50 = .ok (.iload_n 3, 1) := by decide +kernel
theorem dX13_shift_51 : decode cX13_shift 51 = .ok (.iadd, 1) := by decide +kernel
theorem dX13_shift_52 : decode cX13_shift 52 = .ok (.iconst 1, 1) := by decide +kernel
theorem dX13_shift_53 : decode cX13_shift 53 = .ok (.iadd, 1) := by decide +kernel
theorem dX13_shift_54 : decode cX13_shift 54 = .ok (.iaload, 1) := by decide +kernel
theorem dX13_shift_55 : decode cX13_shift 55 = .ok (.iastore, 1) := by decide +kernel
theorem dX13_shift_56 : decode cX13_shift 56 = .ok (.iinc 3 1, 3) := by decide +kernel
theorem dX13_shift_59 : decode cX13_shift 59 = .ok (.goto (-37), 3) := by decide +kernel
theorem dX13_shift_62 : decode cX13_shift 62 = .ok (.iload_n 2, 1) := by decide +kernel
theorem dX13_shift_63 : decode cX13_shift 63 = .ok (.ireturn, 1) := by decide +kernel
theorem dX13_finishes_0 : decode cX13_finishes 0 = .ok (.aload_n 0, 1) := by decide +kernel
theorem dX13_finishes_1 : decode cX13_finishes 1 = .ok (.getfield 48, 3) := by decide +kernel
theorem dX13_finishes_4 : decode cX13_finishes 4 = .ok (.iload_n 1, 1) := by decide +kernel
theorem dX13_finishes_5 : decode cX13_finishes 5 = .ok (.dup2, 1) := by decide +kernel
theorem dX13_finishes_6 : decode cX13_finishes 6 = .ok (.iaload, 1) := by decide +kernel
theorem dX13_finishes_7 : decode cX13_finishes 7 = .ok (.iconst 1, 1) := by decide +kernel
theorem dX13_finishes_8 : decode cX13_finishes 8 = .ok (.iadd, 1) := by decide +kernel
theorem dX13_finishes_9 : decode cX13_finishes 9 = .ok (.iastore, 1) := by decide +kernel
theorem dX13_finishes_10 : decode cX13_finishes 10 = .ok (.iload_n 1, 1) := by decide +kernel
theorem dX13_finishes_11 : decode cX13_finishes 11 = .ok (.aload_n 0, 1) := by decide +kernel
theorem dX13_finishes_12 : decode cX13_finishes 12 = .ok (.getfield 304, 3) := by decide +kernel
theorem dX13_finishes_15 : decode cX13_finishes 15 = .ok (.iconst 1, 1) := by decide +kernel
theorem dX13_finishes_16 : decode cX13_finishes 16 = .ok (.isub, 1) := by decide +kernel
theorem dX13_finishes_17 : decode cX13_finishes 17 = .ok (.if_icmp .ne 62, 3) := by decide +kernel
theorem dX13_finishes_20 : decode cX13_finishes 20 = .ok (.aload_n 0, 1) := by decide +kernel
theorem dX13_finishes_21 : decode cX13_finishes 21 = .ok (.dup, 1) := by decide +kernel
theorem dX13_finishes_22 : decode cX13_finishes 22 = .ok (.getfield 316, 3) := by decide +kernel
theorem dX13_finishes_25 : decode cX13_finishes 25 = .ok (.aload_n 0, 1) := by decide +kernel
theorem dX13_finishes_26 : decode cX13_finishes 26 = .ok (.getfield 45, 3) := by decide +kernel
theorem dX13_finishes_29 : decode cX13_finishes 29 = .ok (.iload_n 1, 1) := by decide +kernel
theorem dX13_finishes_30 : decode cX13_finishes 30 = .ok (.iaload, 1) := by decide +kernel
theorem dX13_finishes_31 : decode cX13_finishes 31 = .ok (.iadd, 1) := by decide +kernel
theorem dX13_finishes_32 : decode cX13_finishes 32 = .ok (.putfield 316, 3) := by decide +kernel
theorem dX13_finishes_35 : decode cX13_finishes 35 = .ok (.aload_n 0, 1) := by decide +kernel
theorem dX13_finishes_36 : decode cX13_finishes 36 = .ok (.dup, 1) := by decide +kernel
theorem dX13_finishes_37 : decode cX13_finishes 37 = .ok (.getfield 322, 3) := by decide +kernel
theorem dX13_finishes_40 : decode cX13_finishes 40 = .ok (.iconst 1, 1) := by decide +kernel
theorem dX13_finishes_41 : decode cX13_finishes 41 = .ok (.iadd, 1) := by decide +kernel
theorem dX13_finishes_42 : decode cX13_finishes 42 = .ok (.putfield 322, 3) := by decide +kernel
theorem dX13_finishes_45 : decode cX13_finishes 45 = .ok (.aload_n 0, 1) := by decide +kernel
theorem dX13_finishes_46 : decode cX13_finishes 46 = .ok (.getfield 60, 3) := by decide +kernel
theorem dX13_finishes_49 : decode cX13_finishes 49 = .ok (.aload_n 0, 1) := by decide +kernel
theorem dX13_finishes_50 : decode cX13_finishes 50 = .ok (.getfield 313, 3) := by decide +kernel
theorem dX13_finishes_53 : decode cX13_finishes 53 = .ok (.aload_n 0, 1) := by decide +kernel
theorem dX13_finishes_54 : decode cX13_finishes 54 = .ok (.getfield 307, 3) := by decide +kernel
theorem dX13_finishes_57 : decode cX13_finishes 57 = .ok (.aload_n 0, 1) := by decide +kernel
theorem dX13_finishes_58 : decode cX13_finishes 58 = .ok (.getfield 13, 3) := by decide +kernel
theorem dX13_finishes_61 : decode cX13_finishes 61 = .ok (.bipush 7, 2) := by decide +kernel
theorem dX13_finishes_63 : decode cX13_finishes 63 = .ok (.iaload, 1) := by decide +kernel
theorem dX13_finishes_64 : decode cX13_finishes 64 = .ok (.iadd, 1) := by decide +kernel
theorem dX13_finishes_65 : decode cX13_finishes 65 = .ok (.iastore, 1) := by decide +kernel
theorem dX13_finishes_66 : decode cX13_finishes 66 = .ok (.aload_n 0, 1) := by decide +kernel
theorem dX13_finishes_67 : decode cX13_finishes 67 = .ok (.dup, 1) := by decide +kernel
theorem dX13_finishes_68 : decode cX13_finishes 68 = .ok (.getfield 313, 3) := by decide +kernel
theorem dX13_finishes_71 : decode cX13_finishes 71 = .ok (.iconst 1, 1) := by decide +kernel
theorem dX13_finishes_72 : decode cX13_finishes 72 = .ok (.iadd, 1) := by decide +kernel
theorem dX13_finishes_73 : decode cX13_finishes 73 = .ok (.putfield 313, 3) := by decide +kernel
theorem dX13_finishes_76 : decode cX13_finishes 76 = .ok (.goto 46, 3) := by decide +kernel
theorem dX13_finishes_79 : decode cX13_finishes 79 = .ok (.aload_n 0, 1) := by decide +kernel
theorem dX13_finishes_80 : decode cX13_finishes 80 = .ok (.getfield 45, 3) := by decide +kernel
theorem dX13_finishes_83 : decode cX13_finishes 83 = .ok (.iload_n 1, 1) := by decide +kernel
theorem dX13_finishes_84 : decode cX13_finishes 84 = .ok (.iaload, 1) := by decide +kernel
theorem dX13_finishes_85 : decode cX13_finishes 85 = .ok (.aload_n 0, 1) := by decide +kernel
theorem dX13_finishes_86 : decode cX13_finishes 86 = .ok (.getfield 13, 3) := by decide +kernel
theorem dX13_finishes_89 : decode cX13_finishes 89 = .ok (.bipush 6, 2) := by decide +kernel
theorem dX13_finishes_91 : decode cX13_finishes 91 = .ok (.iaload, 1) := by decide +kernel
theorem dX13_finishes_92 : decode cX13_finishes 92 = .ok (.imul, 1) := by decide +kernel
theorem dX13_finishes_93 : decode cX13_finishes 93 = .ok (.bipush 100, 2) := by decide +kernel
theorem dX13_finishes_95 : decode cX13_finishes 95 = .ok (.idiv, 1) := by decide +kernel
theorem dX13_finishes_96 : decode cX13_finishes 96 = .ok (.istore_n 2, 1) := by decide +kernel
theorem dX13_finishes_97 : decode cX13_finishes 97 = .ok (.aload_n 0, 1) := by decide +kernel
theorem dX13_finishes_98 : decode cX13_finishes 98 = .ok (.dup, 1) := by decide +kernel
theorem dX13_finishes_99 : decode cX13_finishes 99 = .ok (.getfield 319, 3) := by decide +kernel
theorem dX13_finishes_102 : decode cX13_finishes 102 = .ok (.iload_n 2, 1) := by decide +kernel
theorem dX13_finishes_103 : decode cX13_finishes 103 = .ok (.iadd, 1) := by decide +kernel
theorem dX13_finishes_104 : decode cX13_finishes 104 = .ok (.putfield 319, 3) := by decide +kernel
theorem dX13_finishes_107 : decode cX13_finishes 107 = .ok (.aload_n 0, 1) := by decide +kernel
theorem dX13_finishes_108 : decode cX13_finishes 108 = .ok (.iload_n 1, 1) := by decide +kernel
theorem dX13_finishes_109 : decode cX13_finishes 109 = .ok (.iconst 1, 1) := by decide +kernel
theorem dX13_finishes_110 : decode cX13_finishes 110 = .ok (.iadd, 1) := by decide +kernel
theorem dX13_finishes_111 : decode cX13_finishes 111 = .ok (.aload_n 0, 1) := by decide +kernel
theorem dX13_finishes_112 : decode cX13_finishes 112 = .ok (.getfield 45, 3) := by decide +kernel
theorem dX13_finishes_115 : decode cX13_finishes 115 = .ok (.iload_n 1, 1) := by decide +kernel
theorem dX13_finishes_116 : decode cX13_finishes 116 = .ok (.iaload, 1) := by decide +kernel
theorem dX13_finishes_117 : decode cX13_finishes 117 = .ok (.iload_n 2, 1) := by decide +kernel
theorem dX13_finishes_118 : decode cX13_finishes 118 = .ok (.isub, 1) := by decide +kernel
theorem dX13_finishes_119 : decode cX13_finishes 119 = .ok (.invokevirtual 337, 3) := by decide +kernel
theorem dX13_finishes_122 : decode cX13_finishes 122 = .ok (.aload_n 0, 1) := by decide +kernel
theorem dX13_finishes_123 : decode cX13_finishes 123 = .ok (.getfield 45, 3) := by decide +kernel
theorem dX13_finishes_126 : decode cX13_finishes 126 = .ok (.iload_n 1, 1) := by decide +kernel
theorem dX13_finishes_127 : decode cX13_finishes 127 = .ok (.iconst 0, 1) := by decide +kernel
theorem dX13_finishes_128 : decode cX13_finishes 128 = .ok (.iastore, 1) := by decide +kernel
theorem dX13_finishes_129 : decode cX13_finishes 129 = .ok (.return_, 1) := by decide +kernel
theorem dX13_takesUp_0 : decode cX13_takesUp 0 = .ok (.iload_n 1, 1) := by decide +kernel
theorem dX13_takesUp_1 : decode cX13_takesUp 1 = .ok (.ifCond .ne 20, 3) := by decide +kernel
theorem dX13_takesUp_4 : decode cX13_takesUp 4 = .ok (.aload_n 0, 1) := by decide +kernel
theorem dX13_takesUp_5 : decode cX13_takesUp 5 = .ok (.getfield 310, 3) := by decide +kernel
theorem dX13_takesUp_8 : decode cX13_takesUp 8 = .ok (.ifCond .eq 22, 3) := by decide +kernel
theorem dX13_takesUp_11 : decode cX13_takesUp 11 = .ok (.aload_n 0, 1) := by decide +kernel
theorem dX13_takesUp_12 : decode cX13_takesUp 12 = .ok (.getfield 334, 3) := by decide +kernel
theorem dX13_takesUp_15 : decode cX13_takesUp 15 = .ok (.ifCond .ne 16, 3) := by decide +kernel
theorem dX13_takesUp_18 : decode cX13_takesUp 18 = .ok (.goto 12, 3) := by decide +kernel
theorem dX13_takesUp_21 : decode cX13_takesUp 21 = .ok (.aload_n 0, 1) := by decide +kernel
theorem dX13_takesUp_22 : decode cX13_takesUp 22 = .ok (.getfield 54, 3) := by decide +kernel
theorem dX13_takesUp_25 : decode cX13_takesUp 25 = .ok (.iload_n 1, 1) := by decide +kernel
theorem dX13_takesUp_26 : decode cX13_takesUp 26 = .ok (.iaload, 1) := by decide +kernel
theorem dX13_takesUp_27 : decode cX13_takesUp 27 = .ok (.ifCond .ne 4, 3) := by decide +kernel
theorem dX13_takesUp_30 : decode cX13_takesUp 30 = .ok (.return_, 1) := by decide +kernel
theorem dX13_takesUp_31 : decode cX13_takesUp 31 = .ok (.iload_n 1, 1) := by decide +kernel
theorem dX13_takesUp_32 : decode cX13_takesUp 32 = .ok (.ifCond .ne 26, 3) := by decide +kernel
theorem dX13_takesUp_35 : decode cX13_takesUp 35 = .ok (.aload_n 0, 1) := by decide +kernel
theorem dX13_takesUp_36 : decode cX13_takesUp 36 = .ok (.dup, 1) := by decide +kernel
theorem dX13_takesUp_37 : decode cX13_takesUp 37 = .ok (.getfield 310, 3) := by decide +kernel
theorem dX13_takesUp_40 : decode cX13_takesUp 40 = .ok (.iconst 1, 1) := by decide +kernel
theorem dX13_takesUp_41 : decode cX13_takesUp 41 = .ok (.isub, 1) := by decide +kernel
theorem dX13_takesUp_42 : decode cX13_takesUp 42 = .ok (.putfield 310, 3) := by decide +kernel
theorem dX13_takesUp_45 : decode cX13_takesUp 45 = .ok (.aload_n 0, 1) := by decide +kernel
theorem dX13_takesUp_46 : decode cX13_takesUp 46 = .ok (.getfield 45, 3) := by decide +kernel
theorem dX13_takesUp_49 : decode cX13_takesUp 49 = .ok (.iconst 0, 1) := by decide +kernel
theorem dX13_takesUp_50 : decode cX13_takesUp 50 = .ok (.aload_n 0, 1) := by decide +kernel
theorem dX13_takesUp_51 : decode cX13_takesUp 51 = .ok (.invokevirtual 341, 3) := by decide +kernel
theorem dX13_takesUp_54 : decode cX13_takesUp 54 = .ok (.iastore, 1) := by decide +kernel
theorem dX13_takesUp_55 : decode cX13_takesUp 55 = .ok (.goto 14, 3) := by decide +kernel
theorem dX13_takesUp_58 : decode cX13_takesUp 58 = .ok (.aload_n 0, 1) := by decide +kernel
theorem dX13_takesUp_59 : decode cX13_takesUp 59 = .ok (.getfield 45, 3) := by decide +kernel
theorem dX13_takesUp_62 : decode cX13_takesUp 62 = .ok (.iload_n 1, 1) := by decide +kernel
theorem dX13_takesUp_63 : decode cX13_takesUp 63 = .ok (.aload_n 0, 1) := by decide +kernel
theorem dX13_takesUp_64 : decode cX13_takesUp 64 = .ok (.iload_n 1, 1) := by decide +kernel
theorem dX13_takesUp_65 : decode cX13_takesUp 65 = .ok (.invokevirtual 344, 3) := by decide +kernel
theorem dX13_takesUp_68 : decode cX13_takesUp 68 = .ok (.iastore, 1) := by decide +kernel
theorem dX13_takesUp_69 : decode cX13_takesUp 69 = .ok (.aload_n 0, 1) := by decide +kernel
theorem dX13_takesUp_70 : decode cX13_takesUp 70 = .ok (.getfield 39, 3) := by decide +kernel
theorem dX13_takesUp_73 : decode cX13_takesUp 73 = .ok (.iload_n 1, 1) := by decide +kernel
theorem dX13_takesUp_74 : decode cX13_takesUp 74 = .ok (.iaload, 1) := by decide +kernel
theorem dX13_takesUp_75 : decode cX13_takesUp 75 = .ok (.istore_n 2, 1) := by decide +kernel
theorem dX13_takesUp_76 : decode cX13_takesUp 76 = .ok (.aload_n 0, 1) := by decide +kernel
theorem dX13_takesUp_77 : decode cX13_takesUp 77 = .ok (.getfield 42, 3) := by decide +kernel
theorem dX13_takesUp_80 : decode cX13_takesUp 80 = .ok (.iload_n 1, 1) := by decide +kernel
theorem dX13_takesUp_81 : decode cX13_takesUp 81 = .ok (.aload_n 0, 1) := by decide +kernel
theorem dX13_takesUp_82 : decode cX13_takesUp 82 = .ok (.iload_n 1, 1) := by decide +kernel
theorem dX13_takesUp_83 : decode cX13_takesUp 83 = .ok (.aload_n 0, 1) := by decide +kernel
theorem dX13_takesUp_84 : decode cX13_takesUp 84 = .ok (.getfield 304, 3) := by decide +kernel
theorem dX13_takesUp_87 : decode cX13_takesUp 87 = .ok (.iload_n 2, 1) := by decide +kernel
theorem dX13_takesUp_88 : decode cX13_takesUp 88 = .ok (.invokevirtual 347, 3) := by decide +kernel
theorem dX13_takesUp_91 : decode cX13_takesUp 91 = .ok (.aload_n 0, 1) := by decide +kernel
theorem dX13_takesUp_92 : decode cX13_takesUp 92 = .ok (.getfield 48, 3) := by decide +kernel
theorem dX13_takesUp_95 : decode cX13_takesUp 95 = .ok (.iload_n 1, 1) := by decide +kernel
theorem dX13_takesUp_96 : decode cX13_takesUp 96 = .ok (.iaload, 1) := by decide +kernel
theorem dX13_takesUp_97 : decode cX13_takesUp 97 = .ok (.bipush 10, 2) := by decide +kernel
theorem dX13_takesUp_99 : decode cX13_takesUp 99 = .ok (.aload_n 0, 1) := by decide +kernel
theorem dX13_takesUp_100 : decode cX13_takesUp 100 = .ok (.iload_n 2, 1) := by decide +kernel
theorem dX13_takesUp_101 : decode cX13_takesUp 101 = .ok (.iconst 2, 1) := by decide +kernel
theorem dX13_takesUp_102 : decode cX13_takesUp 102 = .ok (.invokevirtual 294, 3) := by decide +kernel
theorem dX13_takesUp_105 : decode cX13_takesUp 105 = .ok (.imul, 1) := by decide +kernel
theorem dX13_takesUp_106 : decode cX13_takesUp 106 = .ok (.if_icmp .lt 7, 3) := by decide +kernel
theorem dX13_takesUp_109 : decode cX13_takesUp 109 = .ok (.iconst 2, 1) := by decide +kernel
theorem dX13_takesUp_110 : decode cX13_takesUp 110 = .ok (.goto 4, 3) := by decide +kernel
theorem dX13_takesUp_113 : decode cX13_takesUp 113 = .ok (.iconst 1, 1) := by decide +kernel
theorem dX13_takesUp_114 : decode cX13_takesUp 114 = .ok (.imul, 1) := by decide +kernel
theorem dX13_takesUp_115 : decode cX13_takesUp 115 = .ok (.iastore, 1) := by decide +kernel
theorem dX13_takesUp_116 : decode cX13_takesUp 116 = .ok (.return_, 1) := by decide +kernel
theorem dX13_start_0 : decode cX13_start 0 = .ok (.aload_n 0, 1) := by decide +kernel
theorem dX13_start_1 : decode cX13_start 1 = .ok (.iload_n 1, 1) := by decide +kernel
theorem dX13_start_2 : decode cX13_start 2 = .ok (.putfield 301, 3) := by decide +kernel
theorem dX13_start_5 : decode cX13_start 5 = .ok (.aload_n 0, 1) := by decide +kernel
theorem dX13_start_6 : decode cX13_start 6 = .ok (.iload_n 2, 1) := by decide +kernel
theorem dX13_start_7 : decode cX13_start 7 = .ok (.putfield 304, 3) := by decide +kernel
theorem dX13_start_10 : decode cX13_start 10 = .ok (.aload_n 0, 1) := by decide +kernel
theorem dX13_start_11 : decode cX13_start 11 = .ok (.iconst 0, 1) := by decide +kernel
theorem dX13_start_12 : decode cX13_start 12 = .ok (.putfield 307, 3) := by decide +kernel
theorem dX13_start_15 : decode cX13_start 15 = .ok (.aload_n 0, 1) := by decide +kernel
theorem dX13_start_16 : decode cX13_start 16 = .ok (.aload_n 0, 1) := by decide +kernel
theorem dX13_start_17 : decode cX13_start 17 = .ok (.getfield 13, 3) := by decide +kernel
theorem dX13_start_20 : decode cX13_start 20 = .ok (.iconst 2, 1) := by decide +kernel
theorem dX13_start_21 : decode cX13_start 21 = .ok (.iaload, 1) := by decide +kernel
theorem dX13_start_22 : decode cX13_start 22 = .ok (.putfield 310, 3) := by decide +kernel
theorem dX13_start_25 : decode cX13_start 25 = .ok (.aload_n 0, 1) := by decide +kernel
theorem dX13_start_26 : decode cX13_start 26 = .ok (.iconst 0, 1) := by decide +kernel
theorem dX13_start_27 : decode cX13_start 27 = .ok (.putfield 313, 3) := by decide +kernel
theorem dX13_start_30 : decode cX13_start 30 = .ok (.aload_n 0, 1) := by decide +kernel
theorem dX13_start_31 : decode cX13_start 31 = .ok (.iconst 0, 1) := by decide +kernel
theorem dX13_start_32 : decode cX13_start 32 = .ok (.putfield 316, 3) := by decide +kernel
theorem dX13_start_35 : decode cX13_start 35 = .ok (.aload_n 0, 1) := by decide +kernel
theorem dX13_start_36 : decode cX13_start 36 = .ok (.iconst 0, 1) := by decide +kernel
theorem dX13_start_37 : decode cX13_start 37 = .ok (.putfield 319, 3) := by decide +kernel
theorem dX13_start_40 : decode cX13_start 40 = .ok (.aload_n 0, 1) := by decide +kernel
theorem dX13_start_41 : decode cX13_start 41 = .ok (.iconst 0, 1) := by decide +kernel
theorem dX13_start_42 : decode cX13_start 42 = .ok (.putfield 322, 3) := by decide +kernel
theorem dX13_start_45 : decode cX13_start 45 = .ok (.aload_n 0, 1) := by decide +kernel
theorem dX13_start_46 : decode cX13_start 46 = .ok (.iconst 0, 1) := by decide +kernel
theorem dX13_start_47 : decode cX13_start 47 = .ok (.putfield 325, 3) := by decide +kernel
theorem dX13_start_50 : decode cX13_start 50 = .ok (.iconst 0, 1) := by decide +kernel
theorem dX13_start_51 : decode cX13_start 51 = .ok (.istore_n 3, 1) := by decide +kernel
theorem dX13_start_52 : decode cX13_start 52 = .ok (.iload_n 3, 1) := by decide +kernel
theorem dX13_start_53 : decode cX13_start 53 = .ok (.bipush 12, 2) := by decide +kernel
theorem dX13_start_55 : decode cX13_start 55 = .ok (.if_icmp .ge 51, 3) := by decide +kernel
theorem dX13_start_58 : decode cX13_start 58 = .ok (.aload_n 0, 1) := by decide +kernel
theorem dX13_start_59 : decode cX13_start 59 = .ok (.getfield 42, 3) := by decide +kernel
theorem dX13_start_62 : decode cX13_start 62 = .ok (.iload_n 3, 1) := by decide +kernel
theorem dX13_start_63 : decode cX13_start 63 = .ok (.iconst 0, 1) := by decide +kernel
theorem dX13_start_64 : decode cX13_start 64 = .ok (.iastore, 1) := by decide +kernel
theorem dX13_start_65 : decode cX13_start 65 = .ok (.aload_n 0, 1) := by decide +kernel
theorem dX13_start_66 : decode cX13_start 66 = .ok (.getfield 45, 3) := by decide +kernel
theorem dX13_start_69 : decode cX13_start 69 = .ok (.iload_n 3, 1) := by decide +kernel
theorem dX13_start_70 : decode cX13_start 70 = .ok (.iconst 0, 1) := by decide +kernel
theorem dX13_start_71 : decode cX13_start 71 = .ok (.iastore, 1) := by decide +kernel
theorem dX13_start_72 : decode cX13_start 72 = .ok (.aload_n 0, 1) := by decide +kernel
theorem dX13_start_73 : decode cX13_start 73 = .ok (.getfield 48, 3) := by decide +kernel
theorem dX13_start_76 : decode cX13_start 76 = .ok (.iload_n 3, 1) := by decide +kernel
theorem dX13_start_77 : decode cX13_start 77 = .ok (.iconst 0, 1) := by decide +kernel
theorem dX13_start_78 : decode cX13_start 78 = .ok (.iastore, 1) := by decide +kernel
theorem dX13_start_79 : decode cX13_start 79 = .ok (.aload_n 0, 1) := by decide +kernel
theorem dX13_start_80 : decode cX13_start 80 = .ok (.getfield 54, 3) := by decide +kernel
theorem dX13_start_83 : decode cX13_start 83 = .ok (.iload_n 3, 1) := by decide +kernel
theorem dX13_start_84 : decode cX13_start 84 = .ok (.iconst 0, 1) := by decide +kernel
theorem dX13_start_85 : decode cX13_start 85 = .ok (.iastore, 1) := by decide +kernel
theorem dX13_start_86 : decode cX13_start 86 = .ok (.aload_n 0, 1) := by decide +kernel
theorem dX13_start_87 : decode cX13_start 87 = .ok (.getfield 57, 3) := by decide +kernel
theorem dX13_start_90 : decode cX13_start 90 = .ok (.iload_n 3, 1) := by decide +kernel
theorem dX13_start_91 : decode cX13_start 91 = .ok (.iconst 0, 1) := by decide +kernel
theorem dX13_start_92 : decode cX13_start 92 = .ok (.iastore, 1) := by decide +kernel
theorem dX13_start_93 : decode cX13_start 93 = .ok (.aload_n 0, 1) := by decide +kernel
theorem dX13_start_94 : decode cX13_start 94 = .ok (.getfield 63, 3) := by decide +kernel
theorem dX13_start_97 : decode cX13_start 97 = .ok (.iload_n 3, 1) := by decide +kernel
theorem dX13_start_98 : decode cX13_start 98 = .ok (.iconst 0, 1) := by decide +kernel
theorem dX13_start_99 : decode cX13_start 99 = .ok (.iastore, 1) := by decide +kernel
theorem dX13_start_100 : decode cX13_start 100 = .ok (.iinc 3 1, 3) := by decide +kernel
theorem dX13_start_103 : decode cX13_start 103 = .ok (.goto (-51), 3) := by decide +kernel
theorem dX13_start_106 : decode cX13_start 106 = .ok (.iload_n 1, 1) := by decide +kernel
theorem dX13_start_107 : decode cX13_start 107 = .ok (.iconst 2, 1) := by decide +kernel
theorem dX13_start_108 : decode cX13_start 108 = .ok (.if_icmp .ne 26, 3) := by decide +kernel
theorem dX13_start_111 : decode cX13_start 111 = .ok (.aload_n 0, 1) := by decide +kernel
theorem dX13_start_112 : decode cX13_start 112 = .ok (.getfield 304, 3) := by decide +kernel
theorem dX13_start_115 : decode cX13_start 115 = .ok (.aload_n 0, 1) := by decide +kernel
theorem dX13_start_116 : decode cX13_start 116 = .ok (.getfield 13, 3) := by decide +kernel
theorem dX13_start_119 : decode cX13_start 119 = .ok (.iconst 2, 1) := by decide +kernel
theorem dX13_start_120 : decode cX13_start 120 = .ok (.iaload, 1) := by decide +kernel
theorem dX13_start_121 : decode cX13_start 121 = .ok (.if_icmp .le 13, 3) := by decide +kernel
theorem dX13_start_124 : decode cX13_start 124 = .ok (.aload_n 0, 1) := by decide +kernel
theorem dX13_start_125 : decode cX13_start 125 = .ok (.aload_n 0, 1) := by decide +kernel
theorem dX13_start_126 : decode cX13_start 126 = .ok (.getfield 13, 3) := by decide +kernel
theorem dX13_start_129 : decode cX13_start 129 = .ok (.iconst 2, 1) := by decide +kernel
theorem dX13_start_130 : decode cX13_start 130 = .ok (.iaload, 1) := by decide +kernel
theorem dX13_start_131 : decode cX13_start 131 = .ok (.putfield 304, 3) := by decide +kernel
theorem dX13_start_134 : decode cX13_start 134 = .ok (.return_, 1) := by decide +kernel
set_option maxRecDepth 100000 in
theorem s_tDraws (l : Launch) (dd : Nat) (mo : Nat) (e : Nat → Nat) (g : Nat → Int32) (w : Int64) (nw : Nat → Int32) (D : zYd) (s : zRs) (hR : yR D nw) (hD : yI D) (hw : s.1 35 ≤ 9999) : zSp l mX13_draws dd 0 0 [.ref mo] [(mo, .inr (11, fMo e (mg g s.1) w)), ((e 14), .inl (0, 800, .inl nw)), ((e 24), .inl (0, 12, .inl (nF (s.2 24)))), ((e 25), .inl (0, 12, .inl (nF (s.2 25)))), ((e 26), .inl (0, 12, .inl (nF (s.2 26)))), ((e 27), .inl (0, 12, .inl (nF (s.2 27)))), ((e 28), .inl (0, 360, .inl (nF (s.2 28)))), ((e 29), .inl (0, 12, .inl (nF (s.2 29)))), ((e 30), .inl (0, 12, .inl (nF (s.2 30)))), ((e 31), .inl (0, 30, .inl (nF (s.2 31)))), ((e 32), .inl (0, 12, .inl (nF (s.2 32))))] (fun r K' => r = some (.int (nI (tV (D.1 7) s))) ∧ K' = kTm mo e g w nw (tmDr (D.1 7) s)) := by
  refine zSp.of (by decide) (Nat.le_of_ble_eq_true rfl) (fun h0 => ?_)
  show zS _ 0 0 0 [(0, .ref mo)] [] [(mo, .inr (11, fMo e (mg g s.1) w)), ((e 14), .inl (0, 800, .inl nw)), ((e 24), .inl (0, 12, .inl (nF (s.2 24)))), ((e 25), .inl (0, 12, .inl (nF (s.2 25)))), ((e 26), .inl (0, 12, .inl (nF (s.2 26)))), ((e 27), .inl (0, 12, .inl (nF (s.2 27)))), ((e 28), .inl (0, 360, .inl (nF (s.2 28)))), ((e 29), .inl (0, 12, .inl (nF (s.2 29)))), ((e 30), .inl (0, 12, .inl (nF (s.2 30)))), ((e 31), .inl (0, 30, .inl (nF (s.2 31)))), ((e 32), .inl (0, 12, .inl (nF (s.2 32))))]
  have hD0 := hD.1
  have hC8 := hD.2.1
  have h5 := hD.2.2.2.2.2.2.2.2.2.1
  have h6 := hD.2.2.2.2.2.2.2.2.2.2.1
  have h7 := hD.2.2.2.2.2.2.2.2.2.2.2.1
  have h8 := hD.2.2.2.2.2.2.2.2.2.2.2.2.1
  have h9 := hD.2.2.2.2.2.2.2.2.2.2.2.2.2.1
  have h10 := hD.2.2.2.2.2.2.2.2.2.2.2.2.2.2.1
  have h11 := hD.2.2.2.2.2.2.2.2.2.2.2.2.2.2.2.1
  have h12 := hD.2.2.2.2.2.2.2.2.2.2.2.2.2.2.2.2.1
  refine zs_aload_n dX13_draws_0 rfl rfl ?_
  refine zs_get 0 dX13_draws_1 zf_RX13_334 rfl (v := .int (nI (s.1 35))) rfl ?_
  refine zs_aload_n dX13_draws_4 rfl rfl ?_
  refine zs_get 0 dX13_draws_5 zf_RX13_13 rfl (v := .ref (e 14)) rfl ?_
  refine zs_iconst (v := nI 3) dX13_draws_8 (by decide) ?_
  refine zs_iald 1 dX13_draws_9 rfl (vp_in_nI (by omega) (by omega)) ?_
  refine zs_as (y := nI (D.1 7)) (by rw [nI_c (n := 3) (by omega)]; exact hR.2.2.2.1) ?_
  refine zs_icmp_ge (tgt := 20) dX13_draws_10 (by decide) (fun c_1 => ?_) (fun c_1 => ?_)
  · have c_1 : (D.1 7) ≤ (s.1 35) := by have hc := c_1; rw [nI_le' (by omega) (by omega)] at hc; exact hc
    refine zs_aload_n dX13_draws_20 rfl rfl ?_
    refine zs_get 0 dX13_draws_21 zf_RX13_13 rfl (v := .ref (e 14)) rfl ?_
    refine zs_iconst (v := nI 3) dX13_draws_24 (by decide) ?_
    refine zs_iald 1 dX13_draws_25 rfl (vp_in_nI (by omega) (by omega)) ?_
    refine zs_as (y := nI (D.1 7)) (by rw [nI_c (n := 3) (by omega)]; exact hR.2.2.2.1) ?_
    refine zs_istore_n (lv' := [(1, .int (nI (D.1 7))), (0, .ref mo)]) dX13_draws_26 (Nat.le_of_ble_eq_true rfl) rfl ?_
    refine zs_aload_n dX13_draws_27 rfl rfl ?_
    refine zs_dup dX13_draws_28 rfl ?_
    refine zs_get 0 dX13_draws_29 zf_RX13_334 rfl (v := .int (nI (s.1 35))) rfl ?_
    refine zs_iload_n dX13_draws_32 rfl ?_
    refine zs_isub dX13_draws_33 ?_
    refine zs_as (y := nI ((s.1 35) - (D.1 7))) (nI_sub (by omega)) ?_
    refine zs_put 0 dX13_draws_34 zf_RX13_334 rfl (Nat.le_of_ble_eq_true rfl) (zPv_i _) ?_
    show zS _ _ _ _ _ _ [(mo, .inr (11, fMo e (mg g (un s.1 35 ((s.1 35) - (D.1 7)))) w)), ((e 14), .inl (0, 800, .inl nw)), ((e 24), .inl (0, 12, .inl (nF (s.2 24)))), ((e 25), .inl (0, 12, .inl (nF (s.2 25)))), ((e 26), .inl (0, 12, .inl (nF (s.2 26)))), ((e 27), .inl (0, 12, .inl (nF (s.2 27)))), ((e 28), .inl (0, 360, .inl (nF (s.2 28)))), ((e 29), .inl (0, 12, .inl (nF (s.2 29)))), ((e 30), .inl (0, 12, .inl (nF (s.2 30)))), ((e 31), .inl (0, 30, .inl (nF (s.2 31)))), ((e 32), .inl (0, 12, .inl (nF (s.2 32))))]
    refine zs_aload_n dX13_draws_37 rfl rfl ?_
    refine zs_dup dX13_draws_38 rfl ?_
    refine zs_get 0 dX13_draws_39 zf_RX13_325 rfl (v := .int (nI (s.1 42))) rfl ?_
    refine zs_iload_n dX13_draws_42 rfl ?_
    refine zs_iadd dX13_draws_43 ?_
    refine zs_as (y := nI ((s.1 42) + (D.1 7))) (nI_add _ _) ?_
    refine zs_put 0 dX13_draws_44 zf_RX13_325 rfl (Nat.le_of_ble_eq_true rfl) (zPv_i _) ?_
    show zS _ _ _ _ _ _ [(mo, .inr (11, fMo e (mg g (un (un s.1 35 ((s.1 35) - (D.1 7))) 42 ((s.1 42) + (D.1 7)))) w)), ((e 14), .inl (0, 800, .inl nw)), ((e 24), .inl (0, 12, .inl (nF (s.2 24)))), ((e 25), .inl (0, 12, .inl (nF (s.2 25)))), ((e 26), .inl (0, 12, .inl (nF (s.2 26)))), ((e 27), .inl (0, 12, .inl (nF (s.2 27)))), ((e 28), .inl (0, 360, .inl (nF (s.2 28)))), ((e 29), .inl (0, 12, .inl (nF (s.2 29)))), ((e 30), .inl (0, 12, .inl (nF (s.2 30)))), ((e 31), .inl (0, 30, .inl (nF (s.2 31)))), ((e 32), .inl (0, 12, .inl (nF (s.2 32))))]
    refine zs_iload_n dX13_draws_47 rfl ?_
    exact zs_iret dX13_draws_48 rfl ⟨by rw [tV, if_neg (show ¬ s.1 35 < D.1 7 by omega)], by rw [tmDr, tV, if_neg (show ¬ s.1 35 < D.1 7 by omega)]⟩
  · have c_1 : ¬ ((D.1 7) ≤ (s.1 35)) := by have hc := c_1; rw [nI_le' (by omega) (by omega)] at hc; exact hc
    refine zs_aload_n dX13_draws_13 rfl rfl ?_
    refine zs_get 0 dX13_draws_14 zf_RX13_334 rfl (v := .int (nI (s.1 35))) rfl ?_
    refine zs_goto (tgt := 26) dX13_draws_17 (by decide) ?_
    refine zs_istore_n (lv' := [(1, .int (nI (s.1 35))), (0, .ref mo)]) dX13_draws_26 (Nat.le_of_ble_eq_true rfl) rfl ?_
    refine zs_aload_n dX13_draws_27 rfl rfl ?_
    refine zs_dup dX13_draws_28 rfl ?_
    refine zs_get 0 dX13_draws_29 zf_RX13_334 rfl (v := .int (nI (s.1 35))) rfl ?_
    refine zs_iload_n dX13_draws_32 rfl ?_
    refine zs_isub dX13_draws_33 ?_
    refine zs_as (y := nI ((s.1 35) - (s.1 35))) (nI_sub (by omega)) ?_
    refine zs_put 0 dX13_draws_34 zf_RX13_334 rfl (Nat.le_of_ble_eq_true rfl) (zPv_i _) ?_
    show zS _ _ _ _ _ _ [(mo, .inr (11, fMo e (mg g (un s.1 35 ((s.1 35) - (s.1 35)))) w)), ((e 14), .inl (0, 800, .inl nw)), ((e 24), .inl (0, 12, .inl (nF (s.2 24)))), ((e 25), .inl (0, 12, .inl (nF (s.2 25)))), ((e 26), .inl (0, 12, .inl (nF (s.2 26)))), ((e 27), .inl (0, 12, .inl (nF (s.2 27)))), ((e 28), .inl (0, 360, .inl (nF (s.2 28)))), ((e 29), .inl (0, 12, .inl (nF (s.2 29)))), ((e 30), .inl (0, 12, .inl (nF (s.2 30)))), ((e 31), .inl (0, 30, .inl (nF (s.2 31)))), ((e 32), .inl (0, 12, .inl (nF (s.2 32))))]
    refine zs_aload_n dX13_draws_37 rfl rfl ?_
    refine zs_dup dX13_draws_38 rfl ?_
    refine zs_get 0 dX13_draws_39 zf_RX13_325 rfl (v := .int (nI (s.1 42))) rfl ?_
    refine zs_iload_n dX13_draws_42 rfl ?_
    refine zs_iadd dX13_draws_43 ?_
    refine zs_as (y := nI ((s.1 42) + (s.1 35))) (nI_add _ _) ?_
    refine zs_put 0 dX13_draws_44 zf_RX13_325 rfl (Nat.le_of_ble_eq_true rfl) (zPv_i _) ?_
    show zS _ _ _ _ _ _ [(mo, .inr (11, fMo e (mg g (un (un s.1 35 ((s.1 35) - (s.1 35))) 42 ((s.1 42) + (s.1 35)))) w)), ((e 14), .inl (0, 800, .inl nw)), ((e 24), .inl (0, 12, .inl (nF (s.2 24)))), ((e 25), .inl (0, 12, .inl (nF (s.2 25)))), ((e 26), .inl (0, 12, .inl (nF (s.2 26)))), ((e 27), .inl (0, 12, .inl (nF (s.2 27)))), ((e 28), .inl (0, 360, .inl (nF (s.2 28)))), ((e 29), .inl (0, 12, .inl (nF (s.2 29)))), ((e 30), .inl (0, 12, .inl (nF (s.2 30)))), ((e 31), .inl (0, 30, .inl (nF (s.2 31)))), ((e 32), .inl (0, 12, .inl (nF (s.2 32))))]
    refine zs_iload_n dX13_draws_47 rfl ?_
    exact zs_iret dX13_draws_48 rfl ⟨by rw [tV, if_pos (show s.1 35 < D.1 7 by omega)], by rw [tmDr, tV, if_pos (show s.1 35 < D.1 7 by omega)]⟩
set_option maxRecDepth 100000 in
theorem s_tPush (l : Launch) (dd : Nat) (mo : Nat) (e : Nat → Nat) (g : Nat → Int32) (w : Int64) (nw : Nat → Int32) (D : zYd) (s : zRs) (p x : Nat) (hp : p < 12) (hw : s.2 29 p < 30) : zSp l mX13_push dd 0 0 [.ref mo, .int (nI p), .int (nI x)] [(mo, .inr (11, fMo e (mg g s.1) w)), ((e 14), .inl (0, 800, .inl nw)), ((e 24), .inl (0, 12, .inl (nF (s.2 24)))), ((e 25), .inl (0, 12, .inl (nF (s.2 25)))), ((e 26), .inl (0, 12, .inl (nF (s.2 26)))), ((e 27), .inl (0, 12, .inl (nF (s.2 27)))), ((e 28), .inl (0, 360, .inl (nF (s.2 28)))), ((e 29), .inl (0, 12, .inl (nF (s.2 29)))), ((e 30), .inl (0, 12, .inl (nF (s.2 30)))), ((e 31), .inl (0, 30, .inl (nF (s.2 31)))), ((e 32), .inl (0, 12, .inl (nF (s.2 32))))] (fun r K' => r = none ∧ K' = kTm mo e g w nw (tmPu s p x)) := by
  refine zSp.of (by decide) (Nat.le_of_ble_eq_true rfl) (fun h0 => ?_)
  show zS _ 0 0 0 [(0, .ref mo), (1, .int (nI p)), (2, .int (nI x))] [] [(mo, .inr (11, fMo e (mg g s.1) w)), ((e 14), .inl (0, 800, .inl nw)), ((e 24), .inl (0, 12, .inl (nF (s.2 24)))), ((e 25), .inl (0, 12, .inl (nF (s.2 25)))), ((e 26), .inl (0, 12, .inl (nF (s.2 26)))), ((e 27), .inl (0, 12, .inl (nF (s.2 27)))), ((e 28), .inl (0, 360, .inl (nF (s.2 28)))), ((e 29), .inl (0, 12, .inl (nF (s.2 29)))), ((e 30), .inl (0, 12, .inl (nF (s.2 30)))), ((e 31), .inl (0, 30, .inl (nF (s.2 31)))), ((e 32), .inl (0, 12, .inl (nF (s.2 32))))]
  refine zs_aload_n dX13_push_0 rfl rfl ?_
  refine zs_get 0 dX13_push_1 zf_RX13_51 rfl (v := .ref (e 28)) rfl ?_
  refine zs_bipush (v := nI 30) dX13_push_4 (by decide) ?_
  refine zs_iload_n dX13_push_6 rfl ?_
  refine zs_imul dX13_push_7 ?_
  refine zs_as (y := nI (30 * p)) (nI_mul _ _) ?_
  refine zs_aload_n dX13_push_8 rfl rfl ?_
  refine zs_get 0 dX13_push_9 zf_RX13_54 rfl (v := .ref (e 29)) rfl ?_
  refine zs_iload_n dX13_push_12 rfl ?_
  refine zs_iald 7 dX13_push_13 rfl (vp_in_nI (by omega) (by omega)) ?_
  refine zs_as (y := nI ((s.2 29) p)) (by rw [nI_c (n := p) (by omega)]; rfl) ?_
  refine zs_iadd dX13_push_14 ?_
  refine zs_as (y := nI ((30 * p) + ((s.2 29) p))) (nI_add _ _) ?_
  refine zs_iload_n dX13_push_15 rfl ?_
  refine zs_iast 6 dX13_push_16 rfl (vp_in_nI (by omega) (by omega)) ?_
  rw [nI_c (n := (30 * p) + ((s.2 29) p)) (by omega), nF_u]
  show zS _ _ _ _ _ _ [(mo, .inr (11, fMo e (mg g s.1) w)), ((e 14), .inl (0, 800, .inl nw)), ((e 24), .inl (0, 12, .inl (nF (s.2 24)))), ((e 25), .inl (0, 12, .inl (nF (s.2 25)))), ((e 26), .inl (0, 12, .inl (nF (s.2 26)))), ((e 27), .inl (0, 12, .inl (nF (s.2 27)))), ((e 28), .inl (0, 360, .inl (nF (un (s.2 28) ((30 * p) + ((s.2 29) p)) x)))), ((e 29), .inl (0, 12, .inl (nF (s.2 29)))), ((e 30), .inl (0, 12, .inl (nF (s.2 30)))), ((e 31), .inl (0, 30, .inl (nF (s.2 31)))), ((e 32), .inl (0, 12, .inl (nF (s.2 32))))]
  refine zs_aload_n dX13_push_17 rfl rfl ?_
  refine zs_get 0 dX13_push_18 zf_RX13_54 rfl (v := .ref (e 29)) rfl ?_
  refine zs_iload_n dX13_push_21 rfl ?_
  refine zs_dup2 dX13_push_22 rfl rfl ?_
  refine zs_iald 7 dX13_push_23 rfl (vp_in_nI (by omega) (by omega)) ?_
  refine zs_as (y := nI ((s.2 29) p)) (by rw [nI_c (n := p) (by omega)]; rfl) ?_
  refine zs_iconst (v := nI 1) dX13_push_24 (by decide) ?_
  refine zs_iadd dX13_push_25 ?_
  refine zs_as (y := nI (((s.2 29) p) + 1)) (nI_add _ _) ?_
  refine zs_iast 7 dX13_push_26 rfl (vp_in_nI (by omega) (by omega)) ?_
  rw [nI_c (n := p) (by omega), nF_u]
  show zS _ _ _ _ _ _ [(mo, .inr (11, fMo e (mg g s.1) w)), ((e 14), .inl (0, 800, .inl nw)), ((e 24), .inl (0, 12, .inl (nF (s.2 24)))), ((e 25), .inl (0, 12, .inl (nF (s.2 25)))), ((e 26), .inl (0, 12, .inl (nF (s.2 26)))), ((e 27), .inl (0, 12, .inl (nF (s.2 27)))), ((e 28), .inl (0, 360, .inl (nF (un (s.2 28) ((30 * p) + ((s.2 29) p)) x)))), ((e 29), .inl (0, 12, .inl (nF (un (s.2 29) p (((s.2 29) p) + 1))))), ((e 30), .inl (0, 12, .inl (nF (s.2 30)))), ((e 31), .inl (0, 30, .inl (nF (s.2 31)))), ((e 32), .inl (0, 12, .inl (nF (s.2 32))))]
  exact zs_vret dX13_push_27 rfl ⟨rfl, rfl⟩
set_option maxRecDepth 100000 in
theorem lp_tsh {l : Launch} {dd : Nat} {Po : zPo} {K0 : zK} {h0 : List va_E} {Xo : zK → Prop} {Gc : zG → Prop} (mo : Nat) (e : Nat → Nat) (g : Nat → Int32) (w : Int64) (nw : Nat → Int32) (D : zYd) (s : zRs) (p : Nat) (hp : p < 12) (hw : s.2 29 p ≤ 30) (hw1 : 1 ≤ s.2 29 p)
    (hk : zS (l, mX13_shift, dd, Po, K0, h0, Xo, Gc) 0 0 62 [(0, .ref mo), (1, .int (nI p)), (2, .int (nI (s.2 28 (30 * p))))] [] [(mo, .inr (11, fMo e (mg g s.1) w)), ((e 14), .inl (0, 800, .inl nw)), ((e 24), .inl (0, 12, .inl (nF (s.2 24)))), ((e 25), .inl (0, 12, .inl (nF (s.2 25)))), ((e 26), .inl (0, 12, .inl (nF (s.2 26)))), ((e 27), .inl (0, 12, .inl (nF (s.2 27)))), ((e 28), .inl (0, 360, .inl (nF (shf (s.2 28) (30 * p) (s.2 29 p - 1))))), ((e 29), .inl (0, 12, .inl (nF (un (s.2 29) p (s.2 29 p - 1))))), ((e 30), .inl (0, 12, .inl (nF (s.2 30)))), ((e 31), .inl (0, 30, .inl (nF (s.2 31)))), ((e 32), .inl (0, 12, .inl (nF (s.2 32))))]) :
    ∀ (m i : Nat) , i + m = (s.2 29 p - 1) → zS (l, mX13_shift, dd, Po, K0, h0, Xo, Gc) 0 0 22 [(0, .ref mo), (1, .int (nI p)), (2, .int (nI (s.2 28 (30 * p)))), (3, .int (nI i))] [] [(mo, .inr (11, fMo e (mg g s.1) w)), ((e 14), .inl (0, 800, .inl nw)), ((e 24), .inl (0, 12, .inl (nF (s.2 24)))), ((e 25), .inl (0, 12, .inl (nF (s.2 25)))), ((e 26), .inl (0, 12, .inl (nF (s.2 26)))), ((e 27), .inl (0, 12, .inl (nF (s.2 27)))), ((e 28), .inl (0, 360, .inl (nF (shf (s.2 28) (30 * p) i)))), ((e 29), .inl (0, 12, .inl (nF (un (s.2 29) p (s.2 29 p - 1))))), ((e 30), .inl (0, 12, .inl (nF (s.2 30)))), ((e 31), .inl (0, 30, .inl (nF (s.2 31)))), ((e 32), .inl (0, 12, .inl (nF (s.2 32))))] := by
  intro m
  induction m with
  | zero =>
    intro i hi
    refine zs_iload_n dX13_shift_22 rfl ?_
    refine zs_aload_n dX13_shift_23 rfl rfl ?_
    refine zs_get 0 dX13_shift_24 zf_RX13_54 rfl (v := .ref (e 29)) rfl ?_
    refine zs_iload_n dX13_shift_27 rfl ?_
    refine zs_iald 7 dX13_shift_28 rfl (vp_in_nI (by omega) (by omega)) ?_
    refine zs_as (y := nI (s.2 29 p - 1)) (by rw [nI_c (n := p) (by omega)]; exact congrArg nI (if_pos rfl)) ?_
    refine zs_icmp_ge (tgt := 62) dX13_shift_29 (by decide) (fun c_1 => ?_) (fun c_1 => (c_1 (by rw [show i = (s.2 29 p - 1) by omega]; exact Int32.le_refl _) : False).elim)
    rw [show i = (s.2 29 p - 1) by omega]
    refine zs_lv [0, 1, 2] rfl ?_
    exact hk
  | succ m ih =>
    intro i hi
    refine zs_iload_n dX13_shift_22 rfl ?_
    refine zs_aload_n dX13_shift_23 rfl rfl ?_
    refine zs_get 0 dX13_shift_24 zf_RX13_54 rfl (v := .ref (e 29)) rfl ?_
    refine zs_iload_n dX13_shift_27 rfl ?_
    refine zs_iald 7 dX13_shift_28 rfl (vp_in_nI (by omega) (by omega)) ?_
    refine zs_as (y := nI (s.2 29 p - 1)) (by rw [nI_c (n := p) (by omega)]; exact congrArg nI (if_pos rfl)) ?_
    refine zs_icmp_ge (tgt := 62) dX13_shift_29 (by decide) (fun c_1 => (nI_ge (show i < (s.2 29 p - 1) by omega) (by omega) c_1 : False).elim) (fun c_1 => ?_)
    refine zs_aload_n dX13_shift_32 rfl rfl ?_
    refine zs_get 0 dX13_shift_33 zf_RX13_51 rfl (v := .ref (e 28)) rfl ?_
    refine zs_bipush (v := nI 30) dX13_shift_36 (by decide) ?_
    refine zs_iload_n dX13_shift_38 rfl ?_
    refine zs_imul dX13_shift_39 ?_
    refine zs_as (y := nI (30 * p)) (nI_mul _ _) ?_
    refine zs_iload_n dX13_shift_40 rfl ?_
    refine zs_iadd dX13_shift_41 ?_
    refine zs_as (y := nI ((30 * p) + i)) (nI_add _ _) ?_
    refine zs_aload_n dX13_shift_42 rfl rfl ?_
    refine zs_get 0 dX13_shift_43 zf_RX13_51 rfl (v := .ref (e 28)) rfl ?_
    refine zs_bipush (v := nI 30) dX13_shift_46 (by decide) ?_
    refine zs_iload_n dX13_shift_48 rfl ?_
    refine zs_imul dX13_shift_49 ?_
    refine zs_as (y := nI (30 * p)) (nI_mul _ _) ?_
    refine zs_iload_n dX13_shift_50 rfl ?_
    refine zs_iadd dX13_shift_51 ?_
    refine zs_as (y := nI ((30 * p) + i)) (nI_add _ _) ?_
    refine zs_iconst (v := nI 1) dX13_shift_52 (by decide) ?_
    refine zs_iadd dX13_shift_53 ?_
    refine zs_as (y := nI (((30 * p) + i) + 1)) (nI_add _ _) ?_
    refine zs_iald 6 dX13_shift_54 rfl (vp_in_nI (by omega) (by omega)) ?_
    refine zs_as (y := nI ((shf (s.2 28) (30 * p) i) (((30 * p) + i) + 1))) (by rw [nI_c (n := ((30 * p) + i) + 1) (by omega)]; rfl) ?_
    refine zs_iast 6 dX13_shift_55 rfl (vp_in_nI (by omega) (by omega)) ?_
    rw [nI_c (n := (30 * p) + i) (by omega), nF_u]
    rw [show 30 * p + i + 1 = 30 * p + i + 1 from rfl, shf_at, shf_u (f := s.2 28) (a := 30 * p) (k := i) rfl]
    show zS _ _ _ _ _ _ [(mo, .inr (11, fMo e (mg g s.1) w)), ((e 14), .inl (0, 800, .inl nw)), ((e 24), .inl (0, 12, .inl (nF (s.2 24)))), ((e 25), .inl (0, 12, .inl (nF (s.2 25)))), ((e 26), .inl (0, 12, .inl (nF (s.2 26)))), ((e 27), .inl (0, 12, .inl (nF (s.2 27)))), ((e 28), .inl (0, 360, .inl (nF (shf (s.2 28) (30 * p) (i + 1))))), ((e 29), .inl (0, 12, .inl (nF (un (s.2 29) p (s.2 29 p - 1))))), ((e 30), .inl (0, 12, .inl (nF (s.2 30)))), ((e 31), .inl (0, 30, .inl (nF (s.2 31)))), ((e 32), .inl (0, 12, .inl (nF (s.2 32))))]
    refine zs_iinc (v := (nI (i + 1))) (lv' := [(3, .int (nI (i + 1))), (0, .ref mo), (1, .int (nI p)), (2, .int (nI (s.2 28 (30 * p))))]) dX13_shift_56 rfl (nI_add _ 1) (Nat.le_of_ble_eq_true rfl) rfl ?_
    refine zs_goto (tgt := 22) dX13_shift_59 (by decide) ?_
    refine zs_lv [1, 2, 3, 0] rfl ?_
    exact ih (i + 1) (by omega)
set_option maxRecDepth 100000 in
theorem s_tShift (l : Launch) (dd : Nat) (mo : Nat) (e : Nat → Nat) (g : Nat → Int32) (w : Int64) (nw : Nat → Int32) (D : zYd) (s : zRs) (p : Nat) (hp : p < 12) (hw : s.2 29 p ≤ 30) (hw1 : 1 ≤ s.2 29 p) : zSp l mX13_shift dd 0 0 [.ref mo, .int (nI p)] [(mo, .inr (11, fMo e (mg g s.1) w)), ((e 14), .inl (0, 800, .inl nw)), ((e 24), .inl (0, 12, .inl (nF (s.2 24)))), ((e 25), .inl (0, 12, .inl (nF (s.2 25)))), ((e 26), .inl (0, 12, .inl (nF (s.2 26)))), ((e 27), .inl (0, 12, .inl (nF (s.2 27)))), ((e 28), .inl (0, 360, .inl (nF (s.2 28)))), ((e 29), .inl (0, 12, .inl (nF (s.2 29)))), ((e 30), .inl (0, 12, .inl (nF (s.2 30)))), ((e 31), .inl (0, 30, .inl (nF (s.2 31)))), ((e 32), .inl (0, 12, .inl (nF (s.2 32))))] (fun r K' => r = some (.int (nI (s.2 28 (30 * p)))) ∧ K' = kTm mo e g w nw (tmSh s p)) := by
  refine zSp.of (by decide) (Nat.le_of_ble_eq_true rfl) (fun h0 => ?_)
  show zS _ 0 0 0 [(0, .ref mo), (1, .int (nI p))] [] [(mo, .inr (11, fMo e (mg g s.1) w)), ((e 14), .inl (0, 800, .inl nw)), ((e 24), .inl (0, 12, .inl (nF (s.2 24)))), ((e 25), .inl (0, 12, .inl (nF (s.2 25)))), ((e 26), .inl (0, 12, .inl (nF (s.2 26)))), ((e 27), .inl (0, 12, .inl (nF (s.2 27)))), ((e 28), .inl (0, 360, .inl (nF (s.2 28)))), ((e 29), .inl (0, 12, .inl (nF (s.2 29)))), ((e 30), .inl (0, 12, .inl (nF (s.2 30)))), ((e 31), .inl (0, 30, .inl (nF (s.2 31)))), ((e 32), .inl (0, 12, .inl (nF (s.2 32))))]
  refine zs_aload_n dX13_shift_0 rfl rfl ?_
  refine zs_get 0 dX13_shift_1 zf_RX13_51 rfl (v := .ref (e 28)) rfl ?_
  refine zs_bipush (v := nI 30) dX13_shift_4 (by decide) ?_
  refine zs_iload_n dX13_shift_6 rfl ?_
  refine zs_imul dX13_shift_7 ?_
  refine zs_as (y := nI (30 * p)) (nI_mul _ _) ?_
  refine zs_iald 6 dX13_shift_8 rfl (vp_in_nI (by omega) (by omega)) ?_
  refine zs_as (y := nI ((s.2 28) (30 * p))) (by rw [nI_c (n := 30 * p) (by omega)]; rfl) ?_
  refine zs_istore_n (lv' := [(2, .int (nI ((s.2 28) (30 * p)))), (0, .ref mo), (1, .int (nI p))]) dX13_shift_9 (Nat.le_of_ble_eq_true rfl) rfl ?_
  refine zs_aload_n dX13_shift_10 rfl rfl ?_
  refine zs_get 0 dX13_shift_11 zf_RX13_54 rfl (v := .ref (e 29)) rfl ?_
  refine zs_iload_n dX13_shift_14 rfl ?_
  refine zs_dup2 dX13_shift_15 rfl rfl ?_
  refine zs_iald 7 dX13_shift_16 rfl (vp_in_nI (by omega) (by omega)) ?_
  refine zs_as (y := nI ((s.2 29) p)) (by rw [nI_c (n := p) (by omega)]; rfl) ?_
  refine zs_iconst (v := nI 1) dX13_shift_17 (by decide) ?_
  refine zs_isub dX13_shift_18 ?_
  refine zs_as (y := nI (((s.2 29) p) - 1)) (nI_sub (by omega)) ?_
  refine zs_iast 7 dX13_shift_19 rfl (vp_in_nI (by omega) (by omega)) ?_
  rw [nI_c (n := p) (by omega), nF_u]
  show zS _ _ _ _ _ _ [(mo, .inr (11, fMo e (mg g s.1) w)), ((e 14), .inl (0, 800, .inl nw)), ((e 24), .inl (0, 12, .inl (nF (s.2 24)))), ((e 25), .inl (0, 12, .inl (nF (s.2 25)))), ((e 26), .inl (0, 12, .inl (nF (s.2 26)))), ((e 27), .inl (0, 12, .inl (nF (s.2 27)))), ((e 28), .inl (0, 360, .inl (nF (s.2 28)))), ((e 29), .inl (0, 12, .inl (nF (un (s.2 29) p (((s.2 29) p) - 1))))), ((e 30), .inl (0, 12, .inl (nF (s.2 30)))), ((e 31), .inl (0, 30, .inl (nF (s.2 31)))), ((e 32), .inl (0, 12, .inl (nF (s.2 32))))]
  refine zs_iconst (v := nI 0) dX13_shift_20 (by decide) ?_
  refine zs_istore_n (lv' := [(3, .int (nI 0)), (2, .int (nI ((s.2 28) (30 * p)))), (0, .ref mo), (1, .int (nI p))]) dX13_shift_21 (Nat.le_of_ble_eq_true rfl) rfl ?_
  refine zs_lv [2, 3, 1, 0] rfl ?_
  refine zs_eq (K' := [(mo, .inr (11, fMo e (mg g s.1) w)), ((e 14), .inl (0, 800, .inl nw)), ((e 24), .inl (0, 12, .inl (nF (s.2 24)))), ((e 25), .inl (0, 12, .inl (nF (s.2 25)))), ((e 26), .inl (0, 12, .inl (nF (s.2 26)))), ((e 27), .inl (0, 12, .inl (nF (s.2 27)))), ((e 28), .inl (0, 360, .inl (nF (shf (s.2 28) (30 * p) 0)))), ((e 29), .inl (0, 12, .inl (nF (un (s.2 29) p (s.2 29 p - 1))))), ((e 30), .inl (0, 12, .inl (nF (s.2 30)))), ((e 31), .inl (0, 30, .inl (nF (s.2 31)))), ((e 32), .inl (0, 12, .inl (nF (s.2 32))))]) (by rw [shf_0]) ?_
  refine lp_tsh mo e g w nw D s p hp hw hw1 ?_ (s.2 29 p - 1) 0 (by omega)
  refine zs_iload_n dX13_shift_62 rfl ?_
  exact zs_iret dX13_shift_63 rfl ⟨rfl, rfl⟩
set_option maxRecDepth 100000 in
theorem s_tFin (l : Launch) (dd : Nat) (mo : Nat) (e : Nat → Nat) (g : Nat → Int32) (w : Int64) (nw : Nat → Int32) (D : zYd) (s : zRs) (p : Nat) (hR : yR D nw) (hD : yI D) (hd : 1 ≤ dd) (hp : p < s.1 33) (hn : s.1 33 ≤ 12) (ha : s.1 38 < 30) (hld : s.2 26 p ≤ 20) (hw : p + 1 < s.1 33 → s.2 29 (p + 1) < 30) (hdn : s.2 27 p ≤ 1000000) : zSp l mX13_finishes dd 0 0 [.ref mo, .int (nI p)] [(mo, .inr (11, fMo e (mg g s.1) w)), ((e 14), .inl (0, 800, .inl nw)), ((e 24), .inl (0, 12, .inl (nF (s.2 24)))), ((e 25), .inl (0, 12, .inl (nF (s.2 25)))), ((e 26), .inl (0, 12, .inl (nF (s.2 26)))), ((e 27), .inl (0, 12, .inl (nF (s.2 27)))), ((e 28), .inl (0, 360, .inl (nF (s.2 28)))), ((e 29), .inl (0, 12, .inl (nF (s.2 29)))), ((e 30), .inl (0, 12, .inl (nF (s.2 30)))), ((e 31), .inl (0, 30, .inl (nF (s.2 31)))), ((e 32), .inl (0, 12, .inl (nF (s.2 32))))] (fun r K' => r = none ∧ K' = kTm mo e g w nw (tmFi (D.1 11) (D.1 10) s p)) := by
  refine zSp.of (by decide) (Nat.le_of_ble_eq_true rfl) (fun h0 => ?_)
  show zS _ 0 0 0 [(0, .ref mo), (1, .int (nI p))] [] [(mo, .inr (11, fMo e (mg g s.1) w)), ((e 14), .inl (0, 800, .inl nw)), ((e 24), .inl (0, 12, .inl (nF (s.2 24)))), ((e 25), .inl (0, 12, .inl (nF (s.2 25)))), ((e 26), .inl (0, 12, .inl (nF (s.2 26)))), ((e 27), .inl (0, 12, .inl (nF (s.2 27)))), ((e 28), .inl (0, 360, .inl (nF (s.2 28)))), ((e 29), .inl (0, 12, .inl (nF (s.2 29)))), ((e 30), .inl (0, 12, .inl (nF (s.2 30)))), ((e 31), .inl (0, 30, .inl (nF (s.2 31)))), ((e 32), .inl (0, 12, .inl (nF (s.2 32))))]
  have hD0 := hD.1
  have hC8 := hD.2.1
  have h5 := hD.2.2.2.2.2.2.2.2.2.1
  have h6 := hD.2.2.2.2.2.2.2.2.2.2.1
  have h7 := hD.2.2.2.2.2.2.2.2.2.2.2.1
  have h8 := hD.2.2.2.2.2.2.2.2.2.2.2.2.1
  have h9 := hD.2.2.2.2.2.2.2.2.2.2.2.2.2.1
  have h10 := hD.2.2.2.2.2.2.2.2.2.2.2.2.2.2.1
  have h11 := hD.2.2.2.2.2.2.2.2.2.2.2.2.2.2.2.1
  have h12 := hD.2.2.2.2.2.2.2.2.2.2.2.2.2.2.2.2.1
  have hls : s.2 26 p * D.1 10 ≤ 20 * 99 := Nat.mul_le_mul hld h10
  have hls2 : s.2 26 p * D.1 10 / 100 ≤ s.2 26 p := by
    have h1 : s.2 26 p * D.1 10 ≤ s.2 26 p * 100 := Nat.mul_le_mul_left _ (by omega)
    omega
  refine zs_aload_n dX13_finishes_0 rfl rfl ?_
  refine zs_get 0 dX13_finishes_1 zf_RX13_48 rfl (v := .ref (e 27)) rfl ?_
  refine zs_iload_n dX13_finishes_4 rfl ?_
  refine zs_dup2 dX13_finishes_5 rfl rfl ?_
  refine zs_iald 5 dX13_finishes_6 rfl (vp_in_nI (by omega) (by omega)) ?_
  refine zs_as (y := nI ((s.2 27) p)) (by rw [nI_c (n := p) (by omega)]; rfl) ?_
  refine zs_iconst (v := nI 1) dX13_finishes_7 (by decide) ?_
  refine zs_iadd dX13_finishes_8 ?_
  refine zs_as (y := nI (((s.2 27) p) + 1)) (nI_add _ _) ?_
  refine zs_iast 5 dX13_finishes_9 rfl (vp_in_nI (by omega) (by omega)) ?_
  rw [nI_c (n := p) (by omega), nF_u]
  show zS _ _ _ _ _ _ [(mo, .inr (11, fMo e (mg g s.1) w)), ((e 14), .inl (0, 800, .inl nw)), ((e 24), .inl (0, 12, .inl (nF (s.2 24)))), ((e 25), .inl (0, 12, .inl (nF (s.2 25)))), ((e 26), .inl (0, 12, .inl (nF (s.2 26)))), ((e 27), .inl (0, 12, .inl (nF (un (s.2 27) p (((s.2 27) p) + 1))))), ((e 28), .inl (0, 360, .inl (nF (s.2 28)))), ((e 29), .inl (0, 12, .inl (nF (s.2 29)))), ((e 30), .inl (0, 12, .inl (nF (s.2 30)))), ((e 31), .inl (0, 30, .inl (nF (s.2 31)))), ((e 32), .inl (0, 12, .inl (nF (s.2 32))))]
  refine zs_iload_n dX13_finishes_10 rfl ?_
  refine zs_aload_n dX13_finishes_11 rfl rfl ?_
  refine zs_get 0 dX13_finishes_12 zf_RX13_304 rfl (v := .int (nI (s.1 33))) rfl ?_
  refine zs_iconst (v := nI 1) dX13_finishes_15 (by decide) ?_
  refine zs_isub dX13_finishes_16 ?_
  refine zs_as (y := nI ((s.1 33) - 1)) (nI_sub (by omega)) ?_
  refine zs_icmp_ne (tgt := 79) dX13_finishes_17 (by decide) (fun c_1 => ?_) (fun c_1 => ?_)
  · have c_1 : ¬ (p = ((s.1 33) - 1)) := by have hc := c_1; rw [nI_eq' (by omega) (by omega)] at hc; exact hc
    have hw := hw (by omega)
    refine zs_aload_n dX13_finishes_79 rfl rfl ?_
    refine zs_get 0 dX13_finishes_80 zf_RX13_45 rfl (v := .ref (e 26)) rfl ?_
    refine zs_iload_n dX13_finishes_83 rfl ?_
    refine zs_iald 4 dX13_finishes_84 rfl (vp_in_nI (by omega) (by omega)) ?_
    refine zs_as (y := nI ((s.2 26) p)) (by rw [nI_c (n := p) (by omega)]; rfl) ?_
    refine zs_aload_n dX13_finishes_85 rfl rfl ?_
    refine zs_get 0 dX13_finishes_86 zf_RX13_13 rfl (v := .ref (e 14)) rfl ?_
    refine zs_bipush (v := nI 6) dX13_finishes_89 (by decide) ?_
    refine zs_iald 1 dX13_finishes_91 rfl (vp_in_nI (by omega) (by omega)) ?_
    refine zs_as (y := nI (D.1 10)) (by rw [nI_c (n := 6) (by omega)]; exact hR.2.2.2.2.2.2.1) ?_
    refine zs_imul dX13_finishes_92 ?_
    refine zs_as (y := nI (((s.2 26) p) * (D.1 10))) (nI_mul _ _) ?_
    refine zs_bipush (v := nI 100) dX13_finishes_93 (by decide) ?_
    refine zs_idiv dX13_finishes_95 (fun hz => by rw [show (0 : Int32) = nI 0 from rfl, nI_eq' (by omega) (by omega)] at hz; omega) ?_
    refine zs_as (y := nI ((((s.2 26) p) * (D.1 10)) / 100)) (nI_div (by omega) (by omega) (by omega)) ?_
    refine zs_istore_n (lv' := [(2, .int (nI ((((s.2 26) p) * (D.1 10)) / 100))), (0, .ref mo), (1, .int (nI p))]) dX13_finishes_96 (Nat.le_of_ble_eq_true rfl) rfl ?_
    refine zs_aload_n dX13_finishes_97 rfl rfl ?_
    refine zs_dup dX13_finishes_98 rfl ?_
    refine zs_get 0 dX13_finishes_99 zf_RX13_319 rfl (v := .int (nI (s.1 40))) rfl ?_
    refine zs_iload_n dX13_finishes_102 rfl ?_
    refine zs_iadd dX13_finishes_103 ?_
    refine zs_as (y := nI ((s.1 40) + ((((s.2 26) p) * (D.1 10)) / 100))) (nI_add _ _) ?_
    refine zs_put 0 dX13_finishes_104 zf_RX13_319 rfl (Nat.le_of_ble_eq_true rfl) (zPv_i _) ?_
    show zS _ _ _ _ _ _ [(mo, .inr (11, fMo e (mg g (un s.1 40 ((s.1 40) + ((((s.2 26) p) * (D.1 10)) / 100)))) w)), ((e 14), .inl (0, 800, .inl nw)), ((e 24), .inl (0, 12, .inl (nF (s.2 24)))), ((e 25), .inl (0, 12, .inl (nF (s.2 25)))), ((e 26), .inl (0, 12, .inl (nF (s.2 26)))), ((e 27), .inl (0, 12, .inl (nF (un (s.2 27) p (((s.2 27) p) + 1))))), ((e 28), .inl (0, 360, .inl (nF (s.2 28)))), ((e 29), .inl (0, 12, .inl (nF (s.2 29)))), ((e 30), .inl (0, 12, .inl (nF (s.2 30)))), ((e 31), .inl (0, 30, .inl (nF (s.2 31)))), ((e 32), .inl (0, 12, .inl (nF (s.2 32))))]
    refine zs_aload_n dX13_finishes_107 rfl rfl ?_
    refine zs_iload_n dX13_finishes_108 rfl ?_
    refine zs_iconst (v := nI 1) dX13_finishes_109 (by decide) ?_
    refine zs_iadd dX13_finishes_110 ?_
    refine zs_as (y := nI (p + 1)) (nI_add _ _) ?_
    refine zs_aload_n dX13_finishes_111 rfl rfl ?_
    refine zs_get 0 dX13_finishes_112 zf_RX13_45 rfl (v := .ref (e 26)) rfl ?_
    refine zs_iload_n dX13_finishes_115 rfl ?_
    refine zs_iald 4 dX13_finishes_116 rfl (vp_in_nI (by omega) (by omega)) ?_
    refine zs_as (y := nI ((s.2 26) p)) (by rw [nI_c (n := p) (by omega)]; rfl) ?_
    refine zs_iload_n dX13_finishes_117 rfl ?_
    refine zs_isub dX13_finishes_118 ?_
    refine zs_as (y := nI (((s.2 26) p) - ((((s.2 26) p) * (D.1 10)) / 100))) (nI_sub (by omega)) ?_
    refine zs_callV (M := mX13_push) (As := [.int (nI (p + 1)), .int (nI (((s.2 26) p) - ((((s.2 26) p) * (D.1 10)) / 100)))]) (st := []) (Kc := [(mo, .inr (11, fMo e (mg g (un s.1 40 ((s.1 40) + ((((s.2 26) p) * (D.1 10)) / 100)))) w)), ((e 14), .inl (0, 800, .inl nw)), ((e 24), .inl (0, 12, .inl (nF (s.2 24)))), ((e 25), .inl (0, 12, .inl (nF (s.2 25)))), ((e 26), .inl (0, 12, .inl (nF (s.2 26)))), ((e 27), .inl (0, 12, .inl (nF (un (s.2 27) p (((s.2 27) p) + 1))))), ((e 28), .inl (0, 360, .inl (nF (s.2 28)))), ((e 29), .inl (0, 12, .inl (nF (s.2 29)))), ((e 30), .inl (0, 12, .inl (nF (s.2 30)))), ((e 31), .inl (0, 30, .inl (nF (s.2 31)))), ((e 32), .inl (0, 12, .inl (nF (s.2 32))))]) (Kr := []) [0, 1, 2, 3, 4, 5, 6, 7, 8, 9, 10] [] 0 dX13_finishes_119 zl_RX13_337 kX13_push rfl rfl rfl rfl rfl (by decide) rfl rfl (show dd - 1 + 1 ≤ dd by omega) (Nat.zero_le _) (Nat.zero_le _) (Nat.le_of_ble_eq_true rfl) (s_tPush l (dd - 1) mo e g w nw D ((un s.1 40 ((s.1 40) + ((((s.2 26) p) * (D.1 10)) / 100))), (uu s.2 27 (un (s.2 27) p (((s.2 27) p) + 1)))) (p + 1) (((s.2 26) p) - ((((s.2 26) p) * (D.1 10)) / 100)) (by omega) hw) (fun r K1 hr => ?_)
    obtain ⟨rfl, rfl⟩ := hr
    refine zs_K (K' := [(mo, .inr (11, fMo e (mg g ((tmPu ((un s.1 40 ((s.1 40) + ((((s.2 26) p) * (D.1 10)) / 100))), (uu s.2 27 (un (s.2 27) p (((s.2 27) p) + 1)))) (p + 1) (((s.2 26) p) - ((((s.2 26) p) * (D.1 10)) / 100))).1)) w)), ((e 14), .inl (0, 800, .inl nw)), ((e 24), .inl (0, 12, .inl (nF ((tmPu ((un s.1 40 ((s.1 40) + ((((s.2 26) p) * (D.1 10)) / 100))), (uu s.2 27 (un (s.2 27) p (((s.2 27) p) + 1)))) (p + 1) (((s.2 26) p) - ((((s.2 26) p) * (D.1 10)) / 100))).2 24)))), ((e 25), .inl (0, 12, .inl (nF ((tmPu ((un s.1 40 ((s.1 40) + ((((s.2 26) p) * (D.1 10)) / 100))), (uu s.2 27 (un (s.2 27) p (((s.2 27) p) + 1)))) (p + 1) (((s.2 26) p) - ((((s.2 26) p) * (D.1 10)) / 100))).2 25)))), ((e 26), .inl (0, 12, .inl (nF ((tmPu ((un s.1 40 ((s.1 40) + ((((s.2 26) p) * (D.1 10)) / 100))), (uu s.2 27 (un (s.2 27) p (((s.2 27) p) + 1)))) (p + 1) (((s.2 26) p) - ((((s.2 26) p) * (D.1 10)) / 100))).2 26)))), ((e 27), .inl (0, 12, .inl (nF ((tmPu ((un s.1 40 ((s.1 40) + ((((s.2 26) p) * (D.1 10)) / 100))), (uu s.2 27 (un (s.2 27) p (((s.2 27) p) + 1)))) (p + 1) (((s.2 26) p) - ((((s.2 26) p) * (D.1 10)) / 100))).2 27)))), ((e 28), .inl (0, 360, .inl (nF ((tmPu ((un s.1 40 ((s.1 40) + ((((s.2 26) p) * (D.1 10)) / 100))), (uu s.2 27 (un (s.2 27) p (((s.2 27) p) + 1)))) (p + 1) (((s.2 26) p) - ((((s.2 26) p) * (D.1 10)) / 100))).2 28)))), ((e 29), .inl (0, 12, .inl (nF ((tmPu ((un s.1 40 ((s.1 40) + ((((s.2 26) p) * (D.1 10)) / 100))), (uu s.2 27 (un (s.2 27) p (((s.2 27) p) + 1)))) (p + 1) (((s.2 26) p) - ((((s.2 26) p) * (D.1 10)) / 100))).2 29)))), ((e 30), .inl (0, 12, .inl (nF ((tmPu ((un s.1 40 ((s.1 40) + ((((s.2 26) p) * (D.1 10)) / 100))), (uu s.2 27 (un (s.2 27) p (((s.2 27) p) + 1)))) (p + 1) (((s.2 26) p) - ((((s.2 26) p) * (D.1 10)) / 100))).2 30)))), ((e 31), .inl (0, 30, .inl (nF ((tmPu ((un s.1 40 ((s.1 40) + ((((s.2 26) p) * (D.1 10)) / 100))), (uu s.2 27 (un (s.2 27) p (((s.2 27) p) + 1)))) (p + 1) (((s.2 26) p) - ((((s.2 26) p) * (D.1 10)) / 100))).2 31)))), ((e 32), .inl (0, 12, .inl (nF ((tmPu ((un s.1 40 ((s.1 40) + ((((s.2 26) p) * (D.1 10)) / 100))), (uu s.2 27 (un (s.2 27) p (((s.2 27) p) + 1)))) (p + 1) (((s.2 26) p) - ((((s.2 26) p) * (D.1 10)) / 100))).2 32))))]) [0, 1, 2, 3, 4, 5, 6, 7, 8, 9, 10] rfl (by decide) ?_
    refine zs_aload_n dX13_finishes_122 rfl rfl ?_
    refine zs_get 0 dX13_finishes_123 zf_RX13_45 rfl (v := .ref (e 26)) rfl ?_
    refine zs_iload_n dX13_finishes_126 rfl ?_
    refine zs_iconst (v := nI 0) dX13_finishes_127 (by decide) ?_
    refine zs_iast 4 dX13_finishes_128 rfl (vp_in_nI (by omega) (by omega)) ?_
    rw [nI_c (n := p) (by omega), nF_u]
    show zS _ _ _ _ _ _ [(mo, .inr (11, fMo e (mg g ((tmPu ((un s.1 40 ((s.1 40) + ((((s.2 26) p) * (D.1 10)) / 100))), (uu s.2 27 (un (s.2 27) p (((s.2 27) p) + 1)))) (p + 1) (((s.2 26) p) - ((((s.2 26) p) * (D.1 10)) / 100))).1)) w)), ((e 14), .inl (0, 800, .inl nw)), ((e 24), .inl (0, 12, .inl (nF ((tmPu ((un s.1 40 ((s.1 40) + ((((s.2 26) p) * (D.1 10)) / 100))), (uu s.2 27 (un (s.2 27) p (((s.2 27) p) + 1)))) (p + 1) (((s.2 26) p) - ((((s.2 26) p) * (D.1 10)) / 100))).2 24)))), ((e 25), .inl (0, 12, .inl (nF ((tmPu ((un s.1 40 ((s.1 40) + ((((s.2 26) p) * (D.1 10)) / 100))), (uu s.2 27 (un (s.2 27) p (((s.2 27) p) + 1)))) (p + 1) (((s.2 26) p) - ((((s.2 26) p) * (D.1 10)) / 100))).2 25)))), ((e 26), .inl (0, 12, .inl (nF (un ((tmPu ((un s.1 40 ((s.1 40) + ((((s.2 26) p) * (D.1 10)) / 100))), (uu s.2 27 (un (s.2 27) p (((s.2 27) p) + 1)))) (p + 1) (((s.2 26) p) - ((((s.2 26) p) * (D.1 10)) / 100))).2 26) p 0)))), ((e 27), .inl (0, 12, .inl (nF ((tmPu ((un s.1 40 ((s.1 40) + ((((s.2 26) p) * (D.1 10)) / 100))), (uu s.2 27 (un (s.2 27) p (((s.2 27) p) + 1)))) (p + 1) (((s.2 26) p) - ((((s.2 26) p) * (D.1 10)) / 100))).2 27)))), ((e 28), .inl (0, 360, .inl (nF ((tmPu ((un s.1 40 ((s.1 40) + ((((s.2 26) p) * (D.1 10)) / 100))), (uu s.2 27 (un (s.2 27) p (((s.2 27) p) + 1)))) (p + 1) (((s.2 26) p) - ((((s.2 26) p) * (D.1 10)) / 100))).2 28)))), ((e 29), .inl (0, 12, .inl (nF ((tmPu ((un s.1 40 ((s.1 40) + ((((s.2 26) p) * (D.1 10)) / 100))), (uu s.2 27 (un (s.2 27) p (((s.2 27) p) + 1)))) (p + 1) (((s.2 26) p) - ((((s.2 26) p) * (D.1 10)) / 100))).2 29)))), ((e 30), .inl (0, 12, .inl (nF ((tmPu ((un s.1 40 ((s.1 40) + ((((s.2 26) p) * (D.1 10)) / 100))), (uu s.2 27 (un (s.2 27) p (((s.2 27) p) + 1)))) (p + 1) (((s.2 26) p) - ((((s.2 26) p) * (D.1 10)) / 100))).2 30)))), ((e 31), .inl (0, 30, .inl (nF ((tmPu ((un s.1 40 ((s.1 40) + ((((s.2 26) p) * (D.1 10)) / 100))), (uu s.2 27 (un (s.2 27) p (((s.2 27) p) + 1)))) (p + 1) (((s.2 26) p) - ((((s.2 26) p) * (D.1 10)) / 100))).2 31)))), ((e 32), .inl (0, 12, .inl (nF ((tmPu ((un s.1 40 ((s.1 40) + ((((s.2 26) p) * (D.1 10)) / 100))), (uu s.2 27 (un (s.2 27) p (((s.2 27) p) + 1)))) (p + 1) (((s.2 26) p) - ((((s.2 26) p) * (D.1 10)) / 100))).2 32))))]
    exact zs_vret dX13_finishes_129 rfl ⟨rfl, by rw [tmFi, if_neg (show ¬ p = s.1 33 - 1 by omega)]; rfl⟩
  · have c_1 : p = ((s.1 33) - 1) := by have hc := c_1; rw [nI_eq' (by omega) (by omega)] at hc; exact hc
    refine zs_aload_n dX13_finishes_20 rfl rfl ?_
    refine zs_dup dX13_finishes_21 rfl ?_
    refine zs_get 0 dX13_finishes_22 zf_RX13_316 rfl (v := .int (nI (s.1 39))) rfl ?_
    refine zs_aload_n dX13_finishes_25 rfl rfl ?_
    refine zs_get 0 dX13_finishes_26 zf_RX13_45 rfl (v := .ref (e 26)) rfl ?_
    refine zs_iload_n dX13_finishes_29 rfl ?_
    refine zs_iald 4 dX13_finishes_30 rfl (vp_in_nI (by omega) (by omega)) ?_
    refine zs_as (y := nI ((s.2 26) p)) (by rw [nI_c (n := p) (by omega)]; rfl) ?_
    refine zs_iadd dX13_finishes_31 ?_
    refine zs_as (y := nI ((s.1 39) + ((s.2 26) p))) (nI_add _ _) ?_
    refine zs_put 0 dX13_finishes_32 zf_RX13_316 rfl (Nat.le_of_ble_eq_true rfl) (zPv_i _) ?_
    show zS _ _ _ _ _ _ [(mo, .inr (11, fMo e (mg g (un s.1 39 ((s.1 39) + ((s.2 26) p)))) w)), ((e 14), .inl (0, 800, .inl nw)), ((e 24), .inl (0, 12, .inl (nF (s.2 24)))), ((e 25), .inl (0, 12, .inl (nF (s.2 25)))), ((e 26), .inl (0, 12, .inl (nF (s.2 26)))), ((e 27), .inl (0, 12, .inl (nF (un (s.2 27) p (((s.2 27) p) + 1))))), ((e 28), .inl (0, 360, .inl (nF (s.2 28)))), ((e 29), .inl (0, 12, .inl (nF (s.2 29)))), ((e 30), .inl (0, 12, .inl (nF (s.2 30)))), ((e 31), .inl (0, 30, .inl (nF (s.2 31)))), ((e 32), .inl (0, 12, .inl (nF (s.2 32))))]
    refine zs_aload_n dX13_finishes_35 rfl rfl ?_
    refine zs_dup dX13_finishes_36 rfl ?_
    refine zs_get 0 dX13_finishes_37 zf_RX13_322 rfl (v := .int (nI (s.1 41))) rfl ?_
    refine zs_iconst (v := nI 1) dX13_finishes_40 (by decide) ?_
    refine zs_iadd dX13_finishes_41 ?_
    refine zs_as (y := nI ((s.1 41) + 1)) (nI_add _ _) ?_
    refine zs_put 0 dX13_finishes_42 zf_RX13_322 rfl (Nat.le_of_ble_eq_true rfl) (zPv_i _) ?_
    show zS _ _ _ _ _ _ [(mo, .inr (11, fMo e (mg g (un (un s.1 39 ((s.1 39) + ((s.2 26) p))) 41 ((s.1 41) + 1))) w)), ((e 14), .inl (0, 800, .inl nw)), ((e 24), .inl (0, 12, .inl (nF (s.2 24)))), ((e 25), .inl (0, 12, .inl (nF (s.2 25)))), ((e 26), .inl (0, 12, .inl (nF (s.2 26)))), ((e 27), .inl (0, 12, .inl (nF (un (s.2 27) p (((s.2 27) p) + 1))))), ((e 28), .inl (0, 360, .inl (nF (s.2 28)))), ((e 29), .inl (0, 12, .inl (nF (s.2 29)))), ((e 30), .inl (0, 12, .inl (nF (s.2 30)))), ((e 31), .inl (0, 30, .inl (nF (s.2 31)))), ((e 32), .inl (0, 12, .inl (nF (s.2 32))))]
    refine zs_aload_n dX13_finishes_45 rfl rfl ?_
    refine zs_get 0 dX13_finishes_46 zf_RX13_60 rfl (v := .ref (e 31)) rfl ?_
    refine zs_aload_n dX13_finishes_49 rfl rfl ?_
    refine zs_get 0 dX13_finishes_50 zf_RX13_313 rfl (v := .int (nI (s.1 38))) rfl ?_
    refine zs_aload_n dX13_finishes_53 rfl rfl ?_
    refine zs_get 0 dX13_finishes_54 zf_RX13_307 rfl (v := .int (nI (s.1 36))) rfl ?_
    refine zs_aload_n dX13_finishes_57 rfl rfl ?_
    refine zs_get 0 dX13_finishes_58 zf_RX13_13 rfl (v := .ref (e 14)) rfl ?_
    refine zs_bipush (v := nI 7) dX13_finishes_61 (by decide) ?_
    refine zs_iald 1 dX13_finishes_63 rfl (vp_in_nI (by omega) (by omega)) ?_
    refine zs_as (y := nI (D.1 11)) (by rw [nI_c (n := 7) (by omega)]; exact hR.2.2.2.2.2.2.2.1) ?_
    refine zs_iadd dX13_finishes_64 ?_
    refine zs_as (y := nI ((s.1 36) + (D.1 11))) (nI_add _ _) ?_
    refine zs_iast 9 dX13_finishes_65 rfl (vp_in_nI (by omega) (by omega)) ?_
    rw [nI_c (n := s.1 38) (by omega), nF_u]
    show zS _ _ _ _ _ _ [(mo, .inr (11, fMo e (mg g (un (un s.1 39 ((s.1 39) + ((s.2 26) p))) 41 ((s.1 41) + 1))) w)), ((e 14), .inl (0, 800, .inl nw)), ((e 24), .inl (0, 12, .inl (nF (s.2 24)))), ((e 25), .inl (0, 12, .inl (nF (s.2 25)))), ((e 26), .inl (0, 12, .inl (nF (s.2 26)))), ((e 27), .inl (0, 12, .inl (nF (un (s.2 27) p (((s.2 27) p) + 1))))), ((e 28), .inl (0, 360, .inl (nF (s.2 28)))), ((e 29), .inl (0, 12, .inl (nF (s.2 29)))), ((e 30), .inl (0, 12, .inl (nF (s.2 30)))), ((e 31), .inl (0, 30, .inl (nF (un (s.2 31) (s.1 38) ((s.1 36) + (D.1 11)))))), ((e 32), .inl (0, 12, .inl (nF (s.2 32))))]
    refine zs_aload_n dX13_finishes_66 rfl rfl ?_
    refine zs_dup dX13_finishes_67 rfl ?_
    refine zs_get 0 dX13_finishes_68 zf_RX13_313 rfl (v := .int (nI (s.1 38))) rfl ?_
    refine zs_iconst (v := nI 1) dX13_finishes_71 (by decide) ?_
    refine zs_iadd dX13_finishes_72 ?_
    refine zs_as (y := nI ((s.1 38) + 1)) (nI_add _ _) ?_
    refine zs_put 0 dX13_finishes_73 zf_RX13_313 rfl (Nat.le_of_ble_eq_true rfl) (zPv_i _) ?_
    show zS _ _ _ _ _ _ [(mo, .inr (11, fMo e (mg g (un (un (un s.1 38 ((s.1 38) + 1)) 39 ((s.1 39) + ((s.2 26) p))) 41 ((s.1 41) + 1))) w)), ((e 14), .inl (0, 800, .inl nw)), ((e 24), .inl (0, 12, .inl (nF (s.2 24)))), ((e 25), .inl (0, 12, .inl (nF (s.2 25)))), ((e 26), .inl (0, 12, .inl (nF (s.2 26)))), ((e 27), .inl (0, 12, .inl (nF (un (s.2 27) p (((s.2 27) p) + 1))))), ((e 28), .inl (0, 360, .inl (nF (s.2 28)))), ((e 29), .inl (0, 12, .inl (nF (s.2 29)))), ((e 30), .inl (0, 12, .inl (nF (s.2 30)))), ((e 31), .inl (0, 30, .inl (nF (un (s.2 31) (s.1 38) ((s.1 36) + (D.1 11)))))), ((e 32), .inl (0, 12, .inl (nF (s.2 32))))]
    refine zs_goto (tgt := 122) dX13_finishes_76 (by decide) ?_
    refine zs_aload_n dX13_finishes_122 rfl rfl ?_
    refine zs_get 0 dX13_finishes_123 zf_RX13_45 rfl (v := .ref (e 26)) rfl ?_
    refine zs_iload_n dX13_finishes_126 rfl ?_
    refine zs_iconst (v := nI 0) dX13_finishes_127 (by decide) ?_
    refine zs_iast 4 dX13_finishes_128 rfl (vp_in_nI (by omega) (by omega)) ?_
    rw [nI_c (n := p) (by omega), nF_u]
    show zS _ _ _ _ _ _ [(mo, .inr (11, fMo e (mg g (un (un (un s.1 38 ((s.1 38) + 1)) 39 ((s.1 39) + ((s.2 26) p))) 41 ((s.1 41) + 1))) w)), ((e 14), .inl (0, 800, .inl nw)), ((e 24), .inl (0, 12, .inl (nF (s.2 24)))), ((e 25), .inl (0, 12, .inl (nF (s.2 25)))), ((e 26), .inl (0, 12, .inl (nF (un (s.2 26) p 0)))), ((e 27), .inl (0, 12, .inl (nF (un (s.2 27) p (((s.2 27) p) + 1))))), ((e 28), .inl (0, 360, .inl (nF (s.2 28)))), ((e 29), .inl (0, 12, .inl (nF (s.2 29)))), ((e 30), .inl (0, 12, .inl (nF (s.2 30)))), ((e 31), .inl (0, 30, .inl (nF (un (s.2 31) (s.1 38) ((s.1 36) + (D.1 11)))))), ((e 32), .inl (0, 12, .inl (nF (s.2 32))))]
    exact zs_vret dX13_finishes_129 rfl ⟨rfl, by rw [tmFi, if_pos (show p = s.1 33 - 1 by omega)]; rfl⟩
set_option maxRecDepth 100000 in
theorem s_tTake (l : Launch) (dd : Nat) (mo : Nat) (e : Nat → Nat) (g : Nat → Int32) (w : Int64) (nw : Nat → Int32) (D : zYd) (s : zRs) (p : Nat) (hR : yR D nw) (hD : yI D) (hd : 3 ≤ dd) (hp : p < s.1 33) (hn : 2 ≤ s.1 33 ∧ s.1 33 ≤ 12) (hwl : s.1 35 ≤ 9999) (hemp : s.1 37 ≤ 30) (hw : s.2 29 p ≤ 30) (hdn : s.2 27 p ≤ 1000000) (hm : s.2 24 p < D.1 0) : zSp l mX13_takesUp dd 0 0 [.ref mo, .int (nI p)] [(mo, .inr (11, fMo e (mg g s.1) w)), ((e 14), .inl (0, 800, .inl nw)), ((e 24), .inl (0, 12, .inl (nF (s.2 24)))), ((e 25), .inl (0, 12, .inl (nF (s.2 25)))), ((e 26), .inl (0, 12, .inl (nF (s.2 26)))), ((e 27), .inl (0, 12, .inl (nF (s.2 27)))), ((e 28), .inl (0, 360, .inl (nF (s.2 28)))), ((e 29), .inl (0, 12, .inl (nF (s.2 29)))), ((e 30), .inl (0, 12, .inl (nF (s.2 30)))), ((e 31), .inl (0, 30, .inl (nF (s.2 31)))), ((e 32), .inl (0, 12, .inl (nF (s.2 32))))] (fun r K' => r = none ∧ K' = kTm mo e g w nw (tmTa D s p)) := by
  refine zSp.of (by decide) (Nat.le_of_ble_eq_true rfl) (fun h0 => ?_)
  show zS _ 0 0 0 [(0, .ref mo), (1, .int (nI p))] [] [(mo, .inr (11, fMo e (mg g s.1) w)), ((e 14), .inl (0, 800, .inl nw)), ((e 24), .inl (0, 12, .inl (nF (s.2 24)))), ((e 25), .inl (0, 12, .inl (nF (s.2 25)))), ((e 26), .inl (0, 12, .inl (nF (s.2 26)))), ((e 27), .inl (0, 12, .inl (nF (s.2 27)))), ((e 28), .inl (0, 360, .inl (nF (s.2 28)))), ((e 29), .inl (0, 12, .inl (nF (s.2 29)))), ((e 30), .inl (0, 12, .inl (nF (s.2 30)))), ((e 31), .inl (0, 30, .inl (nF (s.2 31)))), ((e 32), .inl (0, 12, .inl (nF (s.2 32))))]
  have hD0 := hD.1
  have hC8 := hD.2.1
  have h5 := hD.2.2.2.2.2.2.2.2.2.1
  have h6 := hD.2.2.2.2.2.2.2.2.2.2.1
  have h7 := hD.2.2.2.2.2.2.2.2.2.2.2.1
  have h8 := hD.2.2.2.2.2.2.2.2.2.2.2.2.1
  have h9 := hD.2.2.2.2.2.2.2.2.2.2.2.2.2.1
  have h10 := hD.2.2.2.2.2.2.2.2.2.2.2.2.2.2.1
  have h11 := hD.2.2.2.2.2.2.2.2.2.2.2.2.2.2.2.1
  have h12 := hD.2.2.2.2.2.2.2.2.2.2.2.2.2.2.2.2.1
  have hpw := (hD.2.2.2.2.2.2.2.1 (s.2 24 p)).2.2
  have hw30 : ¬ s.2 29 p = 0 → 1 ≤ s.2 29 p := fun h => by omega
  refine zs_iload_n dX13_takesUp_0 rfl ?_
  refine zs_if_ne (tgt := 21) dX13_takesUp_1 (by decide) (fun c_1 => ?_) (fun c_1 => ?_)
  · have c_1 : ¬ (p = 0) := by have hc := c_1; rw [show (0 : Int32) = nI 0 from rfl] at hc; rw [nI_eq' (by omega) (by omega)] at hc; exact hc
    refine zs_aload_n dX13_takesUp_21 rfl rfl ?_
    refine zs_get 0 dX13_takesUp_22 zf_RX13_54 rfl (v := .ref (e 29)) rfl ?_
    refine zs_iload_n dX13_takesUp_25 rfl ?_
    refine zs_iald 7 dX13_takesUp_26 rfl (vp_in_nI (by omega) (by omega)) ?_
    refine zs_as (y := nI ((s.2 29) p)) (by rw [nI_c (n := p) (by omega)]; rfl) ?_
    refine zs_if_ne (tgt := 31) dX13_takesUp_27 (by decide) (fun c_2 => ?_) (fun c_2 => ?_)
    · have c_2 : ¬ (((s.2 29) p) = 0) := by have hc := c_2; rw [show (0 : Int32) = nI 0 from rfl] at hc; rw [nI_eq' (by omega) (by omega)] at hc; exact hc
      have hw1 := hw30 c_2
      refine zs_iload_n dX13_takesUp_31 rfl ?_
      refine zs_if_ne (tgt := 58) dX13_takesUp_32 (by decide) (fun c_3 => ?_) (fun c_3 => (by rw [show (0 : Int32) = nI 0 from rfl, nI_eq' (by omega) (by omega)] at c_3; omega : False).elim)
      refine zs_aload_n dX13_takesUp_58 rfl rfl ?_
      refine zs_get 0 dX13_takesUp_59 zf_RX13_45 rfl (v := .ref (e 26)) rfl ?_
      refine zs_iload_n dX13_takesUp_62 rfl ?_
      refine zs_aload_n dX13_takesUp_63 rfl rfl ?_
      refine zs_iload_n dX13_takesUp_64 rfl ?_
      refine zs_callV (M := mX13_shift) (As := [.int (nI p)]) (st := [.int (nI p), .ref (e 26)]) (Kc := [(mo, .inr (11, fMo e (mg g s.1) w)), ((e 14), .inl (0, 800, .inl nw)), ((e 24), .inl (0, 12, .inl (nF (s.2 24)))), ((e 25), .inl (0, 12, .inl (nF (s.2 25)))), ((e 26), .inl (0, 12, .inl (nF (s.2 26)))), ((e 27), .inl (0, 12, .inl (nF (s.2 27)))), ((e 28), .inl (0, 360, .inl (nF (s.2 28)))), ((e 29), .inl (0, 12, .inl (nF (s.2 29)))), ((e 30), .inl (0, 12, .inl (nF (s.2 30)))), ((e 31), .inl (0, 30, .inl (nF (s.2 31)))), ((e 32), .inl (0, 12, .inl (nF (s.2 32))))]) (Kr := []) [0, 1, 2, 3, 4, 5, 6, 7, 8, 9, 10] [] 0 dX13_takesUp_65 zl_RX13_344 kX13_shift rfl rfl rfl rfl rfl (by decide) rfl rfl (show dd - 1 + 1 ≤ dd by omega) (Nat.zero_le _) (Nat.zero_le _) (Nat.le_of_ble_eq_true rfl) (s_tShift l (dd - 1) mo e g w nw D s p (by omega) hw hw1) (fun r K1 hr => ?_)
      obtain ⟨rfl, rfl⟩ := hr
      refine zs_K (K' := [(mo, .inr (11, fMo e (mg g ((tmSh s p).1)) w)), ((e 14), .inl (0, 800, .inl nw)), ((e 24), .inl (0, 12, .inl (nF ((tmSh s p).2 24)))), ((e 25), .inl (0, 12, .inl (nF ((tmSh s p).2 25)))), ((e 26), .inl (0, 12, .inl (nF ((tmSh s p).2 26)))), ((e 27), .inl (0, 12, .inl (nF ((tmSh s p).2 27)))), ((e 28), .inl (0, 360, .inl (nF ((tmSh s p).2 28)))), ((e 29), .inl (0, 12, .inl (nF ((tmSh s p).2 29)))), ((e 30), .inl (0, 12, .inl (nF ((tmSh s p).2 30)))), ((e 31), .inl (0, 30, .inl (nF ((tmSh s p).2 31)))), ((e 32), .inl (0, 12, .inl (nF ((tmSh s p).2 32))))]) [0, 1, 2, 3, 4, 5, 6, 7, 8, 9, 10] rfl (by decide) ?_
      refine zs_iast 4 dX13_takesUp_68 rfl (vp_in_nI (by omega) (by omega)) ?_
      rw [nI_c (n := p) (by omega), nF_u]
      show zS _ _ _ _ _ _ [(mo, .inr (11, fMo e (mg g ((tmSh s p).1)) w)), ((e 14), .inl (0, 800, .inl nw)), ((e 24), .inl (0, 12, .inl (nF ((tmSh s p).2 24)))), ((e 25), .inl (0, 12, .inl (nF ((tmSh s p).2 25)))), ((e 26), .inl (0, 12, .inl (nF (un ((tmSh s p).2 26) p (s.2 28 (30 * p)))))), ((e 27), .inl (0, 12, .inl (nF ((tmSh s p).2 27)))), ((e 28), .inl (0, 360, .inl (nF ((tmSh s p).2 28)))), ((e 29), .inl (0, 12, .inl (nF ((tmSh s p).2 29)))), ((e 30), .inl (0, 12, .inl (nF ((tmSh s p).2 30)))), ((e 31), .inl (0, 30, .inl (nF ((tmSh s p).2 31)))), ((e 32), .inl (0, 12, .inl (nF ((tmSh s p).2 32))))]
      refine zs_aload_n dX13_takesUp_69 rfl rfl ?_
      refine zs_get 0 dX13_takesUp_70 zf_RX13_39 rfl (v := .ref (e 24)) rfl ?_
      refine zs_iload_n dX13_takesUp_73 rfl ?_
      refine zs_iald 2 dX13_takesUp_74 rfl (vp_in_nI (by omega) (by omega)) ?_
      refine zs_as (y := nI (s.2 24 p)) (by rw [nI_c (n := p) (by omega)]; rfl) ?_
      refine zs_istore_n (lv' := [(2, .int (nI (s.2 24 p))), (0, .ref mo), (1, .int (nI p))]) dX13_takesUp_75 (Nat.le_of_ble_eq_true rfl) rfl ?_
      refine zs_aload_n dX13_takesUp_76 rfl rfl ?_
      refine zs_get 0 dX13_takesUp_77 zf_RX13_42 rfl (v := .ref (e 25)) rfl ?_
      refine zs_iload_n dX13_takesUp_80 rfl ?_
      refine zs_aload_n dX13_takesUp_81 rfl rfl ?_
      refine zs_iload_n dX13_takesUp_82 rfl ?_
      refine zs_aload_n dX13_takesUp_83 rfl rfl ?_
      refine zs_get 0 dX13_takesUp_84 zf_RX13_304 rfl (v := .int (nI ((tmSh s p).1 33))) rfl ?_
      refine zs_as (y := nI (s.1 33)) rfl ?_
      refine zs_iload_n dX13_takesUp_87 rfl ?_
      refine zs_callV (M := mX13_timeOf) (As := [.int (nI p), .int (nI (s.1 33)), .int (nI (s.2 24 p))]) (st := [.int (nI p), .ref (e 25)]) (Kc := [(mo, .inr (11, fMo e (mg g ((tmSh s p).1)) w)), ((e 14), .inl (0, 800, .inl nw))]) (Kr := [((e 24), .inl (0, 12, .inl (nF ((tmSh s p).2 24)))), ((e 25), .inl (0, 12, .inl (nF ((tmSh s p).2 25)))), ((e 26), .inl (0, 12, .inl (nF (un ((tmSh s p).2 26) p (s.2 28 (30 * p)))))), ((e 27), .inl (0, 12, .inl (nF ((tmSh s p).2 27)))), ((e 28), .inl (0, 360, .inl (nF ((tmSh s p).2 28)))), ((e 29), .inl (0, 12, .inl (nF ((tmSh s p).2 29)))), ((e 30), .inl (0, 12, .inl (nF ((tmSh s p).2 30)))), ((e 31), .inl (0, 30, .inl (nF ((tmSh s p).2 31)))), ((e 32), .inl (0, 12, .inl (nF ((tmSh s p).2 32))))]) [0, 1] [2, 3, 4, 5, 6, 7, 8, 9, 10] 0 dX13_takesUp_88 zl_RX13_347 kX13_timeOf rfl rfl rfl rfl rfl (by decide) rfl rfl (show dd - 1 + 1 ≤ dd by omega) (Nat.zero_le _) (Nat.zero_le _) (Nat.le_of_ble_eq_true rfl) (s_mTimeOf l (dd - 1) mo e (mg g ((tmSh s p).1)) w nw D p (s.1 33) (s.2 24 p) (by omega) hR hD (by omega) (by omega) hm) (fun r K1 hr => ?_)
      obtain ⟨rfl, rfl⟩ := hr
      refine zs_K (K' := [(mo, .inr (11, fMo e (mg g ((tmSh s p).1)) w)), ((e 14), .inl (0, 800, .inl nw)), ((e 24), .inl (0, 12, .inl (nF ((tmSh s p).2 24)))), ((e 25), .inl (0, 12, .inl (nF ((tmSh s p).2 25)))), ((e 26), .inl (0, 12, .inl (nF (un ((tmSh s p).2 26) p (s.2 28 (30 * p)))))), ((e 27), .inl (0, 12, .inl (nF ((tmSh s p).2 27)))), ((e 28), .inl (0, 360, .inl (nF ((tmSh s p).2 28)))), ((e 29), .inl (0, 12, .inl (nF ((tmSh s p).2 29)))), ((e 30), .inl (0, 12, .inl (nF ((tmSh s p).2 30)))), ((e 31), .inl (0, 30, .inl (nF ((tmSh s p).2 31)))), ((e 32), .inl (0, 12, .inl (nF ((tmSh s p).2 32))))]) [9, 10, 0, 1, 2, 3, 4, 5, 6, 7, 8] rfl (by decide) ?_
      refine zs_aload_n dX13_takesUp_91 rfl rfl ?_
      refine zs_get 0 dX13_takesUp_92 zf_RX13_48 rfl (v := .ref (e 27)) rfl ?_
      refine zs_iload_n dX13_takesUp_95 rfl ?_
      refine zs_iald 5 dX13_takesUp_96 rfl (vp_in_nI (by omega) (by omega)) ?_
      refine zs_as (y := nI (s.2 27 p)) (by rw [nI_c (n := p) (by omega)]; rfl) ?_
      refine zs_bipush (v := nI 10) dX13_takesUp_97 (by decide) ?_
      refine zs_aload_n dX13_takesUp_99 rfl rfl ?_
      refine zs_iload_n dX13_takesUp_100 rfl ?_
      refine zs_iconst (v := nI 2) dX13_takesUp_101 (by decide) ?_
      refine zs_callV (M := mX13_manOf) (As := [.int (nI (s.2 24 p)), .int (nI 2)]) (st := [.int (nI 10), .int (nI (s.2 27 p)), .int (nI (nTime D.1 D.2.2.2.1 (s.2 24 p) p (s.1 33))), .int (nI p), .ref (e 25)]) (Kc := [(mo, .inr (11, fMo e (mg g ((tmSh s p).1)) w)), ((e 14), .inl (0, 800, .inl nw))]) (Kr := [((e 24), .inl (0, 12, .inl (nF ((tmSh s p).2 24)))), ((e 25), .inl (0, 12, .inl (nF ((tmSh s p).2 25)))), ((e 26), .inl (0, 12, .inl (nF (un ((tmSh s p).2 26) p (s.2 28 (30 * p)))))), ((e 27), .inl (0, 12, .inl (nF ((tmSh s p).2 27)))), ((e 28), .inl (0, 360, .inl (nF ((tmSh s p).2 28)))), ((e 29), .inl (0, 12, .inl (nF ((tmSh s p).2 29)))), ((e 30), .inl (0, 12, .inl (nF ((tmSh s p).2 30)))), ((e 31), .inl (0, 30, .inl (nF ((tmSh s p).2 31)))), ((e 32), .inl (0, 12, .inl (nF ((tmSh s p).2 32))))]) [0, 1] [2, 3, 4, 5, 6, 7, 8, 9, 10] 0 dX13_takesUp_102 zl_RX13_294 kX13_manOf rfl rfl rfl rfl rfl (by decide) rfl rfl (show dd - 1 + 1 ≤ dd by omega) (Nat.zero_le _) (Nat.zero_le _) (Nat.le_of_ble_eq_true rfl) (s_mManOf l (dd - 1) mo e (mg g ((tmSh s p).1)) w nw D (s.2 24 p) 2 hR hm hD0 (by decide)) (fun r K1 hr => ?_)
      obtain ⟨rfl, rfl⟩ := hr
      refine zs_K (K' := [(mo, .inr (11, fMo e (mg g ((tmSh s p).1)) w)), ((e 14), .inl (0, 800, .inl nw)), ((e 24), .inl (0, 12, .inl (nF ((tmSh s p).2 24)))), ((e 25), .inl (0, 12, .inl (nF ((tmSh s p).2 25)))), ((e 26), .inl (0, 12, .inl (nF (un ((tmSh s p).2 26) p (s.2 28 (30 * p)))))), ((e 27), .inl (0, 12, .inl (nF ((tmSh s p).2 27)))), ((e 28), .inl (0, 360, .inl (nF ((tmSh s p).2 28)))), ((e 29), .inl (0, 12, .inl (nF ((tmSh s p).2 29)))), ((e 30), .inl (0, 12, .inl (nF ((tmSh s p).2 30)))), ((e 31), .inl (0, 30, .inl (nF ((tmSh s p).2 31)))), ((e 32), .inl (0, 12, .inl (nF ((tmSh s p).2 32))))]) [9, 10, 0, 1, 2, 3, 4, 5, 6, 7, 8] rfl (by decide) ?_
      refine zs_imul dX13_takesUp_105 ?_
      refine zs_as (y := nI (10 * (D.2.2.2.2.2.1 (s.2 24 p)))) (nI_mul _ _) ?_
      refine zs_icmp_lt (tgt := 113) dX13_takesUp_106 (by decide) (fun c_4 => ?_) (fun c_4 => ?_)
      · have c_4 : (s.2 27 p) < (10 * (D.2.2.2.2.2.1 (s.2 24 p))) := by have hc := c_4; rw [nI_lt' (by omega) (by omega)] at hc; exact hc
        refine zs_iconst (v := nI 1) dX13_takesUp_113 (by decide) ?_
        refine zs_imul dX13_takesUp_114 ?_
        refine zs_as (y := nI ((nTime D.1 D.2.2.2.1 (s.2 24 p) p (s.1 33)) * 1)) (nI_mul _ _) ?_
        refine zs_iast 3 dX13_takesUp_115 rfl (vp_in_nI (by omega) (by omega)) ?_
        rw [nI_c (n := p) (by omega), nF_u]
        show zS _ _ _ _ _ _ [(mo, .inr (11, fMo e (mg g ((tmSh s p).1)) w)), ((e 14), .inl (0, 800, .inl nw)), ((e 24), .inl (0, 12, .inl (nF ((tmSh s p).2 24)))), ((e 25), .inl (0, 12, .inl (nF (un ((tmSh s p).2 25) p ((nTime D.1 D.2.2.2.1 (s.2 24 p) p (s.1 33)) * 1))))), ((e 26), .inl (0, 12, .inl (nF (un ((tmSh s p).2 26) p (s.2 28 (30 * p)))))), ((e 27), .inl (0, 12, .inl (nF ((tmSh s p).2 27)))), ((e 28), .inl (0, 360, .inl (nF ((tmSh s p).2 28)))), ((e 29), .inl (0, 12, .inl (nF ((tmSh s p).2 29)))), ((e 30), .inl (0, 12, .inl (nF ((tmSh s p).2 30)))), ((e 31), .inl (0, 30, .inl (nF ((tmSh s p).2 31)))), ((e 32), .inl (0, 12, .inl (nF ((tmSh s p).2 32))))]
        exact zs_vret dX13_takesUp_116 rfl ⟨rfl, by rw [tmTa, if_neg c_1, if_neg c_2, tmLf, if_pos (show s.2 27 p < 10 * D.2.2.2.2.2.1 (s.2 24 p) from c_4)] <;> rfl⟩
      · have c_4 : ¬ ((s.2 27 p) < (10 * (D.2.2.2.2.2.1 (s.2 24 p)))) := by have hc := c_4; rw [nI_lt' (by omega) (by omega)] at hc; exact hc
        refine zs_iconst (v := nI 2) dX13_takesUp_109 (by decide) ?_
        refine zs_goto (tgt := 114) dX13_takesUp_110 (by decide) ?_
        refine zs_imul dX13_takesUp_114 ?_
        refine zs_as (y := nI ((nTime D.1 D.2.2.2.1 (s.2 24 p) p (s.1 33)) * 2)) (nI_mul _ _) ?_
        refine zs_iast 3 dX13_takesUp_115 rfl (vp_in_nI (by omega) (by omega)) ?_
        rw [nI_c (n := p) (by omega), nF_u]
        show zS _ _ _ _ _ _ [(mo, .inr (11, fMo e (mg g ((tmSh s p).1)) w)), ((e 14), .inl (0, 800, .inl nw)), ((e 24), .inl (0, 12, .inl (nF ((tmSh s p).2 24)))), ((e 25), .inl (0, 12, .inl (nF (un ((tmSh s p).2 25) p ((nTime D.1 D.2.2.2.1 (s.2 24 p) p (s.1 33)) * 2))))), ((e 26), .inl (0, 12, .inl (nF (un ((tmSh s p).2 26) p (s.2 28 (30 * p)))))), ((e 27), .inl (0, 12, .inl (nF ((tmSh s p).2 27)))), ((e 28), .inl (0, 360, .inl (nF ((tmSh s p).2 28)))), ((e 29), .inl (0, 12, .inl (nF ((tmSh s p).2 29)))), ((e 30), .inl (0, 12, .inl (nF ((tmSh s p).2 30)))), ((e 31), .inl (0, 30, .inl (nF ((tmSh s p).2 31)))), ((e 32), .inl (0, 12, .inl (nF ((tmSh s p).2 32))))]
        exact zs_vret dX13_takesUp_116 rfl ⟨rfl, by rw [tmTa, if_neg c_1, if_neg c_2, tmLf, if_neg (show ¬ s.2 27 p < 10 * D.2.2.2.2.2.1 (s.2 24 p) by omega)] <;> rfl⟩
    · have c_2 : ((s.2 29) p) = 0 := by have hc := c_2; rw [show (0 : Int32) = nI 0 from rfl] at hc; rw [nI_eq' (by omega) (by omega)] at hc; exact hc
      exact zs_vret dX13_takesUp_30 rfl ⟨rfl, by rw [tmTa, if_neg c_1, if_pos c_2]⟩
  · have c_1 : p = 0 := by have hc := c_1; rw [show (0 : Int32) = nI 0 from rfl] at hc; rw [nI_eq' (by omega) (by omega)] at hc; exact hc
    refine zs_aload_n dX13_takesUp_4 rfl rfl ?_
    refine zs_get 0 dX13_takesUp_5 zf_RX13_310 rfl (v := .int (nI (s.1 37))) rfl ?_
    refine zs_if_eq (tgt := 30) dX13_takesUp_8 (by decide) (fun c_5 => ?_) (fun c_5 => ?_)
    · have c_5 : (s.1 37) = 0 := by have hc := c_5; rw [show (0 : Int32) = nI 0 from rfl] at hc; rw [nI_eq' (by omega) (by omega)] at hc; exact hc
      exact zs_vret dX13_takesUp_30 rfl ⟨rfl, by rw [tmTa, if_pos c_1, if_pos c_5]⟩
    · have c_5 : ¬ ((s.1 37) = 0) := by have hc := c_5; rw [show (0 : Int32) = nI 0 from rfl] at hc; rw [nI_eq' (by omega) (by omega)] at hc; exact hc
      refine zs_aload_n dX13_takesUp_11 rfl rfl ?_
      refine zs_get 0 dX13_takesUp_12 zf_RX13_334 rfl (v := .int (nI (s.1 35))) rfl ?_
      refine zs_if_ne (tgt := 31) dX13_takesUp_15 (by decide) (fun c_6 => ?_) (fun c_6 => ?_)
      · have c_6 : ¬ ((s.1 35) = 0) := by have hc := c_6; rw [show (0 : Int32) = nI 0 from rfl] at hc; rw [nI_eq' (by omega) (by omega)] at hc; exact hc
        refine zs_iload_n dX13_takesUp_31 rfl ?_
        refine zs_if_ne (tgt := 58) dX13_takesUp_32 (by decide) (fun c_7 => (c_7 (by rw [show p = 0 by omega]; rfl) : False).elim) (fun c_7 => ?_)
        refine zs_aload_n dX13_takesUp_35 rfl rfl ?_
        refine zs_dup dX13_takesUp_36 rfl ?_
        refine zs_get 0 dX13_takesUp_37 zf_RX13_310 rfl (v := .int (nI (s.1 37))) rfl ?_
        refine zs_iconst (v := nI 1) dX13_takesUp_40 (by decide) ?_
        refine zs_isub dX13_takesUp_41 ?_
        refine zs_as (y := nI ((s.1 37) - 1)) (nI_sub (by omega)) ?_
        refine zs_put 0 dX13_takesUp_42 zf_RX13_310 rfl (Nat.le_of_ble_eq_true rfl) (zPv_i _) ?_
        show zS _ _ _ _ _ _ [(mo, .inr (11, fMo e (mg g (un s.1 37 ((s.1 37) - 1))) w)), ((e 14), .inl (0, 800, .inl nw)), ((e 24), .inl (0, 12, .inl (nF (s.2 24)))), ((e 25), .inl (0, 12, .inl (nF (s.2 25)))), ((e 26), .inl (0, 12, .inl (nF (s.2 26)))), ((e 27), .inl (0, 12, .inl (nF (s.2 27)))), ((e 28), .inl (0, 360, .inl (nF (s.2 28)))), ((e 29), .inl (0, 12, .inl (nF (s.2 29)))), ((e 30), .inl (0, 12, .inl (nF (s.2 30)))), ((e 31), .inl (0, 30, .inl (nF (s.2 31)))), ((e 32), .inl (0, 12, .inl (nF (s.2 32))))]
        refine zs_aload_n dX13_takesUp_45 rfl rfl ?_
        refine zs_get 0 dX13_takesUp_46 zf_RX13_45 rfl (v := .ref (e 26)) rfl ?_
        refine zs_iconst (v := nI 0) dX13_takesUp_49 (by decide) ?_
        refine zs_aload_n dX13_takesUp_50 rfl rfl ?_
        refine zs_callV (M := mX13_draws) (As := []) (st := [.int (nI 0), .ref (e 26)]) (Kc := [(mo, .inr (11, fMo e (mg g (un s.1 37 ((s.1 37) - 1))) w)), ((e 14), .inl (0, 800, .inl nw)), ((e 24), .inl (0, 12, .inl (nF (s.2 24)))), ((e 25), .inl (0, 12, .inl (nF (s.2 25)))), ((e 26), .inl (0, 12, .inl (nF (s.2 26)))), ((e 27), .inl (0, 12, .inl (nF (s.2 27)))), ((e 28), .inl (0, 360, .inl (nF (s.2 28)))), ((e 29), .inl (0, 12, .inl (nF (s.2 29)))), ((e 30), .inl (0, 12, .inl (nF (s.2 30)))), ((e 31), .inl (0, 30, .inl (nF (s.2 31)))), ((e 32), .inl (0, 12, .inl (nF (s.2 32))))]) (Kr := []) [0, 1, 2, 3, 4, 5, 6, 7, 8, 9, 10] [] 0 dX13_takesUp_51 zl_RX13_341 kX13_draws rfl rfl rfl rfl rfl (by decide) rfl rfl (show dd - 1 + 1 ≤ dd by omega) (Nat.zero_le _) (Nat.zero_le _) (Nat.le_of_ble_eq_true rfl) (s_tDraws l (dd - 1) mo e g w nw D ((un s.1 37 ((s.1 37) - 1)), s.2) hR hD hwl) (fun r K1 hr => ?_)
        obtain ⟨rfl, rfl⟩ := hr
        refine zs_K (K' := [(mo, .inr (11, fMo e (mg g ((tmDr (D.1 7) ((un s.1 37 ((s.1 37) - 1)), s.2)).1)) w)), ((e 14), .inl (0, 800, .inl nw)), ((e 24), .inl (0, 12, .inl (nF ((tmDr (D.1 7) ((un s.1 37 ((s.1 37) - 1)), s.2)).2 24)))), ((e 25), .inl (0, 12, .inl (nF ((tmDr (D.1 7) ((un s.1 37 ((s.1 37) - 1)), s.2)).2 25)))), ((e 26), .inl (0, 12, .inl (nF ((tmDr (D.1 7) ((un s.1 37 ((s.1 37) - 1)), s.2)).2 26)))), ((e 27), .inl (0, 12, .inl (nF ((tmDr (D.1 7) ((un s.1 37 ((s.1 37) - 1)), s.2)).2 27)))), ((e 28), .inl (0, 360, .inl (nF ((tmDr (D.1 7) ((un s.1 37 ((s.1 37) - 1)), s.2)).2 28)))), ((e 29), .inl (0, 12, .inl (nF ((tmDr (D.1 7) ((un s.1 37 ((s.1 37) - 1)), s.2)).2 29)))), ((e 30), .inl (0, 12, .inl (nF ((tmDr (D.1 7) ((un s.1 37 ((s.1 37) - 1)), s.2)).2 30)))), ((e 31), .inl (0, 30, .inl (nF ((tmDr (D.1 7) ((un s.1 37 ((s.1 37) - 1)), s.2)).2 31)))), ((e 32), .inl (0, 12, .inl (nF ((tmDr (D.1 7) ((un s.1 37 ((s.1 37) - 1)), s.2)).2 32))))]) [0, 1, 2, 3, 4, 5, 6, 7, 8, 9, 10] rfl (by decide) ?_
        refine zs_iast 4 dX13_takesUp_54 rfl (vp_in_nI (by omega) (by omega)) ?_
        rw [nI_c (n := 0) (by omega), nF_u]
        show zS _ _ _ _ _ _ [(mo, .inr (11, fMo e (mg g ((tmDr (D.1 7) ((un s.1 37 ((s.1 37) - 1)), s.2)).1)) w)), ((e 14), .inl (0, 800, .inl nw)), ((e 24), .inl (0, 12, .inl (nF ((tmDr (D.1 7) ((un s.1 37 ((s.1 37) - 1)), s.2)).2 24)))), ((e 25), .inl (0, 12, .inl (nF ((tmDr (D.1 7) ((un s.1 37 ((s.1 37) - 1)), s.2)).2 25)))), ((e 26), .inl (0, 12, .inl (nF (un ((tmDr (D.1 7) ((un s.1 37 ((s.1 37) - 1)), s.2)).2 26) 0 (tV (D.1 7) ((un s.1 37 ((s.1 37) - 1)), s.2)))))), ((e 27), .inl (0, 12, .inl (nF ((tmDr (D.1 7) ((un s.1 37 ((s.1 37) - 1)), s.2)).2 27)))), ((e 28), .inl (0, 360, .inl (nF ((tmDr (D.1 7) ((un s.1 37 ((s.1 37) - 1)), s.2)).2 28)))), ((e 29), .inl (0, 12, .inl (nF ((tmDr (D.1 7) ((un s.1 37 ((s.1 37) - 1)), s.2)).2 29)))), ((e 30), .inl (0, 12, .inl (nF ((tmDr (D.1 7) ((un s.1 37 ((s.1 37) - 1)), s.2)).2 30)))), ((e 31), .inl (0, 30, .inl (nF ((tmDr (D.1 7) ((un s.1 37 ((s.1 37) - 1)), s.2)).2 31)))), ((e 32), .inl (0, 12, .inl (nF ((tmDr (D.1 7) ((un s.1 37 ((s.1 37) - 1)), s.2)).2 32))))]
        refine zs_goto (tgt := 69) dX13_takesUp_55 (by decide) ?_
        refine zs_aload_n dX13_takesUp_69 rfl rfl ?_
        refine zs_get 0 dX13_takesUp_70 zf_RX13_39 rfl (v := .ref (e 24)) rfl ?_
        refine zs_iload_n dX13_takesUp_73 rfl ?_
        refine zs_iald 2 dX13_takesUp_74 rfl (vp_in_nI (by omega) (by omega)) ?_
        refine zs_as (y := nI (s.2 24 p)) (by rw [nI_c (n := p) (by omega)]; rfl) ?_
        refine zs_istore_n (lv' := [(2, .int (nI (s.2 24 p))), (0, .ref mo), (1, .int (nI p))]) dX13_takesUp_75 (Nat.le_of_ble_eq_true rfl) rfl ?_
        refine zs_aload_n dX13_takesUp_76 rfl rfl ?_
        refine zs_get 0 dX13_takesUp_77 zf_RX13_42 rfl (v := .ref (e 25)) rfl ?_
        refine zs_iload_n dX13_takesUp_80 rfl ?_
        refine zs_aload_n dX13_takesUp_81 rfl rfl ?_
        refine zs_iload_n dX13_takesUp_82 rfl ?_
        refine zs_aload_n dX13_takesUp_83 rfl rfl ?_
        refine zs_get 0 dX13_takesUp_84 zf_RX13_304 rfl (v := .int (nI ((tmDr (D.1 7) ((un s.1 37 ((s.1 37) - 1)), s.2)).1 33))) rfl ?_
        refine zs_as (y := nI (s.1 33)) rfl ?_
        refine zs_iload_n dX13_takesUp_87 rfl ?_
        refine zs_callV (M := mX13_timeOf) (As := [.int (nI p), .int (nI (s.1 33)), .int (nI (s.2 24 p))]) (st := [.int (nI p), .ref (e 25)]) (Kc := [(mo, .inr (11, fMo e (mg g ((tmDr (D.1 7) ((un s.1 37 ((s.1 37) - 1)), s.2)).1)) w)), ((e 14), .inl (0, 800, .inl nw))]) (Kr := [((e 24), .inl (0, 12, .inl (nF ((tmDr (D.1 7) ((un s.1 37 ((s.1 37) - 1)), s.2)).2 24)))), ((e 25), .inl (0, 12, .inl (nF ((tmDr (D.1 7) ((un s.1 37 ((s.1 37) - 1)), s.2)).2 25)))), ((e 26), .inl (0, 12, .inl (nF (un ((tmDr (D.1 7) ((un s.1 37 ((s.1 37) - 1)), s.2)).2 26) 0 (tV (D.1 7) ((un s.1 37 ((s.1 37) - 1)), s.2)))))), ((e 27), .inl (0, 12, .inl (nF ((tmDr (D.1 7) ((un s.1 37 ((s.1 37) - 1)), s.2)).2 27)))), ((e 28), .inl (0, 360, .inl (nF ((tmDr (D.1 7) ((un s.1 37 ((s.1 37) - 1)), s.2)).2 28)))), ((e 29), .inl (0, 12, .inl (nF ((tmDr (D.1 7) ((un s.1 37 ((s.1 37) - 1)), s.2)).2 29)))), ((e 30), .inl (0, 12, .inl (nF ((tmDr (D.1 7) ((un s.1 37 ((s.1 37) - 1)), s.2)).2 30)))), ((e 31), .inl (0, 30, .inl (nF ((tmDr (D.1 7) ((un s.1 37 ((s.1 37) - 1)), s.2)).2 31)))), ((e 32), .inl (0, 12, .inl (nF ((tmDr (D.1 7) ((un s.1 37 ((s.1 37) - 1)), s.2)).2 32))))]) [0, 1] [2, 3, 4, 5, 6, 7, 8, 9, 10] 0 dX13_takesUp_88 zl_RX13_347 kX13_timeOf rfl rfl rfl rfl rfl (by decide) rfl rfl (show dd - 1 + 1 ≤ dd by omega) (Nat.zero_le _) (Nat.zero_le _) (Nat.le_of_ble_eq_true rfl) (s_mTimeOf l (dd - 1) mo e (mg g ((tmDr (D.1 7) ((un s.1 37 ((s.1 37) - 1)), s.2)).1)) w nw D p (s.1 33) (s.2 24 p) (by omega) hR hD (by omega) (by omega) hm) (fun r K1 hr => ?_)
        obtain ⟨rfl, rfl⟩ := hr
        refine zs_K (K' := [(mo, .inr (11, fMo e (mg g ((tmDr (D.1 7) ((un s.1 37 ((s.1 37) - 1)), s.2)).1)) w)), ((e 14), .inl (0, 800, .inl nw)), ((e 24), .inl (0, 12, .inl (nF ((tmDr (D.1 7) ((un s.1 37 ((s.1 37) - 1)), s.2)).2 24)))), ((e 25), .inl (0, 12, .inl (nF ((tmDr (D.1 7) ((un s.1 37 ((s.1 37) - 1)), s.2)).2 25)))), ((e 26), .inl (0, 12, .inl (nF (un ((tmDr (D.1 7) ((un s.1 37 ((s.1 37) - 1)), s.2)).2 26) 0 (tV (D.1 7) ((un s.1 37 ((s.1 37) - 1)), s.2)))))), ((e 27), .inl (0, 12, .inl (nF ((tmDr (D.1 7) ((un s.1 37 ((s.1 37) - 1)), s.2)).2 27)))), ((e 28), .inl (0, 360, .inl (nF ((tmDr (D.1 7) ((un s.1 37 ((s.1 37) - 1)), s.2)).2 28)))), ((e 29), .inl (0, 12, .inl (nF ((tmDr (D.1 7) ((un s.1 37 ((s.1 37) - 1)), s.2)).2 29)))), ((e 30), .inl (0, 12, .inl (nF ((tmDr (D.1 7) ((un s.1 37 ((s.1 37) - 1)), s.2)).2 30)))), ((e 31), .inl (0, 30, .inl (nF ((tmDr (D.1 7) ((un s.1 37 ((s.1 37) - 1)), s.2)).2 31)))), ((e 32), .inl (0, 12, .inl (nF ((tmDr (D.1 7) ((un s.1 37 ((s.1 37) - 1)), s.2)).2 32))))]) [9, 10, 0, 1, 2, 3, 4, 5, 6, 7, 8] rfl (by decide) ?_
        refine zs_aload_n dX13_takesUp_91 rfl rfl ?_
        refine zs_get 0 dX13_takesUp_92 zf_RX13_48 rfl (v := .ref (e 27)) rfl ?_
        refine zs_iload_n dX13_takesUp_95 rfl ?_
        refine zs_iald 5 dX13_takesUp_96 rfl (vp_in_nI (by omega) (by omega)) ?_
        refine zs_as (y := nI (s.2 27 p)) (by rw [nI_c (n := p) (by omega)]; rfl) ?_
        refine zs_bipush (v := nI 10) dX13_takesUp_97 (by decide) ?_
        refine zs_aload_n dX13_takesUp_99 rfl rfl ?_
        refine zs_iload_n dX13_takesUp_100 rfl ?_
        refine zs_iconst (v := nI 2) dX13_takesUp_101 (by decide) ?_
        refine zs_callV (M := mX13_manOf) (As := [.int (nI (s.2 24 p)), .int (nI 2)]) (st := [.int (nI 10), .int (nI (s.2 27 p)), .int (nI (nTime D.1 D.2.2.2.1 (s.2 24 p) p (s.1 33))), .int (nI p), .ref (e 25)]) (Kc := [(mo, .inr (11, fMo e (mg g ((tmDr (D.1 7) ((un s.1 37 ((s.1 37) - 1)), s.2)).1)) w)), ((e 14), .inl (0, 800, .inl nw))]) (Kr := [((e 24), .inl (0, 12, .inl (nF ((tmDr (D.1 7) ((un s.1 37 ((s.1 37) - 1)), s.2)).2 24)))), ((e 25), .inl (0, 12, .inl (nF ((tmDr (D.1 7) ((un s.1 37 ((s.1 37) - 1)), s.2)).2 25)))), ((e 26), .inl (0, 12, .inl (nF (un ((tmDr (D.1 7) ((un s.1 37 ((s.1 37) - 1)), s.2)).2 26) 0 (tV (D.1 7) ((un s.1 37 ((s.1 37) - 1)), s.2)))))), ((e 27), .inl (0, 12, .inl (nF ((tmDr (D.1 7) ((un s.1 37 ((s.1 37) - 1)), s.2)).2 27)))), ((e 28), .inl (0, 360, .inl (nF ((tmDr (D.1 7) ((un s.1 37 ((s.1 37) - 1)), s.2)).2 28)))), ((e 29), .inl (0, 12, .inl (nF ((tmDr (D.1 7) ((un s.1 37 ((s.1 37) - 1)), s.2)).2 29)))), ((e 30), .inl (0, 12, .inl (nF ((tmDr (D.1 7) ((un s.1 37 ((s.1 37) - 1)), s.2)).2 30)))), ((e 31), .inl (0, 30, .inl (nF ((tmDr (D.1 7) ((un s.1 37 ((s.1 37) - 1)), s.2)).2 31)))), ((e 32), .inl (0, 12, .inl (nF ((tmDr (D.1 7) ((un s.1 37 ((s.1 37) - 1)), s.2)).2 32))))]) [0, 1] [2, 3, 4, 5, 6, 7, 8, 9, 10] 0 dX13_takesUp_102 zl_RX13_294 kX13_manOf rfl rfl rfl rfl rfl (by decide) rfl rfl (show dd - 1 + 1 ≤ dd by omega) (Nat.zero_le _) (Nat.zero_le _) (Nat.le_of_ble_eq_true rfl) (s_mManOf l (dd - 1) mo e (mg g ((tmDr (D.1 7) ((un s.1 37 ((s.1 37) - 1)), s.2)).1)) w nw D (s.2 24 p) 2 hR hm hD0 (by decide)) (fun r K1 hr => ?_)
        obtain ⟨rfl, rfl⟩ := hr
        refine zs_K (K' := [(mo, .inr (11, fMo e (mg g ((tmDr (D.1 7) ((un s.1 37 ((s.1 37) - 1)), s.2)).1)) w)), ((e 14), .inl (0, 800, .inl nw)), ((e 24), .inl (0, 12, .inl (nF ((tmDr (D.1 7) ((un s.1 37 ((s.1 37) - 1)), s.2)).2 24)))), ((e 25), .inl (0, 12, .inl (nF ((tmDr (D.1 7) ((un s.1 37 ((s.1 37) - 1)), s.2)).2 25)))), ((e 26), .inl (0, 12, .inl (nF (un ((tmDr (D.1 7) ((un s.1 37 ((s.1 37) - 1)), s.2)).2 26) 0 (tV (D.1 7) ((un s.1 37 ((s.1 37) - 1)), s.2)))))), ((e 27), .inl (0, 12, .inl (nF ((tmDr (D.1 7) ((un s.1 37 ((s.1 37) - 1)), s.2)).2 27)))), ((e 28), .inl (0, 360, .inl (nF ((tmDr (D.1 7) ((un s.1 37 ((s.1 37) - 1)), s.2)).2 28)))), ((e 29), .inl (0, 12, .inl (nF ((tmDr (D.1 7) ((un s.1 37 ((s.1 37) - 1)), s.2)).2 29)))), ((e 30), .inl (0, 12, .inl (nF ((tmDr (D.1 7) ((un s.1 37 ((s.1 37) - 1)), s.2)).2 30)))), ((e 31), .inl (0, 30, .inl (nF ((tmDr (D.1 7) ((un s.1 37 ((s.1 37) - 1)), s.2)).2 31)))), ((e 32), .inl (0, 12, .inl (nF ((tmDr (D.1 7) ((un s.1 37 ((s.1 37) - 1)), s.2)).2 32))))]) [9, 10, 0, 1, 2, 3, 4, 5, 6, 7, 8] rfl (by decide) ?_
        refine zs_imul dX13_takesUp_105 ?_
        refine zs_as (y := nI (10 * (D.2.2.2.2.2.1 (s.2 24 p)))) (nI_mul _ _) ?_
        refine zs_icmp_lt (tgt := 113) dX13_takesUp_106 (by decide) (fun c_8 => ?_) (fun c_8 => ?_)
        · have c_8 : (s.2 27 p) < (10 * (D.2.2.2.2.2.1 (s.2 24 p))) := by have hc := c_8; rw [nI_lt' (by omega) (by omega)] at hc; exact hc
          refine zs_iconst (v := nI 1) dX13_takesUp_113 (by decide) ?_
          refine zs_imul dX13_takesUp_114 ?_
          refine zs_as (y := nI ((nTime D.1 D.2.2.2.1 (s.2 24 p) p (s.1 33)) * 1)) (nI_mul _ _) ?_
          refine zs_iast 3 dX13_takesUp_115 rfl (vp_in_nI (by omega) (by omega)) ?_
          rw [nI_c (n := p) (by omega), nF_u]
          show zS _ _ _ _ _ _ [(mo, .inr (11, fMo e (mg g ((tmDr (D.1 7) ((un s.1 37 ((s.1 37) - 1)), s.2)).1)) w)), ((e 14), .inl (0, 800, .inl nw)), ((e 24), .inl (0, 12, .inl (nF ((tmDr (D.1 7) ((un s.1 37 ((s.1 37) - 1)), s.2)).2 24)))), ((e 25), .inl (0, 12, .inl (nF (un ((tmDr (D.1 7) ((un s.1 37 ((s.1 37) - 1)), s.2)).2 25) p ((nTime D.1 D.2.2.2.1 (s.2 24 p) p (s.1 33)) * 1))))), ((e 26), .inl (0, 12, .inl (nF (un ((tmDr (D.1 7) ((un s.1 37 ((s.1 37) - 1)), s.2)).2 26) 0 (tV (D.1 7) ((un s.1 37 ((s.1 37) - 1)), s.2)))))), ((e 27), .inl (0, 12, .inl (nF ((tmDr (D.1 7) ((un s.1 37 ((s.1 37) - 1)), s.2)).2 27)))), ((e 28), .inl (0, 360, .inl (nF ((tmDr (D.1 7) ((un s.1 37 ((s.1 37) - 1)), s.2)).2 28)))), ((e 29), .inl (0, 12, .inl (nF ((tmDr (D.1 7) ((un s.1 37 ((s.1 37) - 1)), s.2)).2 29)))), ((e 30), .inl (0, 12, .inl (nF ((tmDr (D.1 7) ((un s.1 37 ((s.1 37) - 1)), s.2)).2 30)))), ((e 31), .inl (0, 30, .inl (nF ((tmDr (D.1 7) ((un s.1 37 ((s.1 37) - 1)), s.2)).2 31)))), ((e 32), .inl (0, 12, .inl (nF ((tmDr (D.1 7) ((un s.1 37 ((s.1 37) - 1)), s.2)).2 32))))]
          exact zs_vret dX13_takesUp_116 rfl ⟨rfl, by rw [tmTa, if_pos c_1, if_neg c_5, if_neg c_6, tmLf, if_pos (show s.2 27 p < 10 * D.2.2.2.2.2.1 (s.2 24 p) from c_8)] <;> rfl⟩
        · have c_8 : ¬ ((s.2 27 p) < (10 * (D.2.2.2.2.2.1 (s.2 24 p)))) := by have hc := c_8; rw [nI_lt' (by omega) (by omega)] at hc; exact hc
          refine zs_iconst (v := nI 2) dX13_takesUp_109 (by decide) ?_
          refine zs_goto (tgt := 114) dX13_takesUp_110 (by decide) ?_
          refine zs_imul dX13_takesUp_114 ?_
          refine zs_as (y := nI ((nTime D.1 D.2.2.2.1 (s.2 24 p) p (s.1 33)) * 2)) (nI_mul _ _) ?_
          refine zs_iast 3 dX13_takesUp_115 rfl (vp_in_nI (by omega) (by omega)) ?_
          rw [nI_c (n := p) (by omega), nF_u]
          show zS _ _ _ _ _ _ [(mo, .inr (11, fMo e (mg g ((tmDr (D.1 7) ((un s.1 37 ((s.1 37) - 1)), s.2)).1)) w)), ((e 14), .inl (0, 800, .inl nw)), ((e 24), .inl (0, 12, .inl (nF ((tmDr (D.1 7) ((un s.1 37 ((s.1 37) - 1)), s.2)).2 24)))), ((e 25), .inl (0, 12, .inl (nF (un ((tmDr (D.1 7) ((un s.1 37 ((s.1 37) - 1)), s.2)).2 25) p ((nTime D.1 D.2.2.2.1 (s.2 24 p) p (s.1 33)) * 2))))), ((e 26), .inl (0, 12, .inl (nF (un ((tmDr (D.1 7) ((un s.1 37 ((s.1 37) - 1)), s.2)).2 26) 0 (tV (D.1 7) ((un s.1 37 ((s.1 37) - 1)), s.2)))))), ((e 27), .inl (0, 12, .inl (nF ((tmDr (D.1 7) ((un s.1 37 ((s.1 37) - 1)), s.2)).2 27)))), ((e 28), .inl (0, 360, .inl (nF ((tmDr (D.1 7) ((un s.1 37 ((s.1 37) - 1)), s.2)).2 28)))), ((e 29), .inl (0, 12, .inl (nF ((tmDr (D.1 7) ((un s.1 37 ((s.1 37) - 1)), s.2)).2 29)))), ((e 30), .inl (0, 12, .inl (nF ((tmDr (D.1 7) ((un s.1 37 ((s.1 37) - 1)), s.2)).2 30)))), ((e 31), .inl (0, 30, .inl (nF ((tmDr (D.1 7) ((un s.1 37 ((s.1 37) - 1)), s.2)).2 31)))), ((e 32), .inl (0, 12, .inl (nF ((tmDr (D.1 7) ((un s.1 37 ((s.1 37) - 1)), s.2)).2 32))))]
          exact zs_vret dX13_takesUp_116 rfl ⟨rfl, by rw [tmTa, if_pos c_1, if_neg c_5, if_neg c_6, tmLf, if_neg (show ¬ s.2 27 p < 10 * D.2.2.2.2.2.1 (s.2 24 p) by omega)] <;> rfl⟩
      · have c_6 : (s.1 35) = 0 := by have hc := c_6; rw [show (0 : Int32) = nI 0 from rfl] at hc; rw [nI_eq' (by omega) (by omega)] at hc; exact hc
        refine zs_goto (tgt := 30) dX13_takesUp_18 (by decide) ?_
        exact zs_vret dX13_takesUp_30 rfl ⟨rfl, by rw [tmTa, if_pos c_1, if_neg c_5, if_pos c_6]⟩
