/-! ===== a fire, minute by minute: what does not hang on the heat left over; PailRow.Fire.copy, burnFor, giveUp ===== -/
def zAg (n : Nat) (f g : Nat → Int32) : Prop := ∀ j, j < n → f j = g j
theorem zAg.u {n : Nat} {f g : Nat → Int32} (h : zAg n f g) (q : Nat) (x : Int32) : zAg n (upd f q (f q + x)) (upd g q (g q + x)) := by
  intro j hj
  simp only [upd]
  split
  · rename_i hq; subst hq; rw [h j hj]
  · exact h j hj
theorem pHs_ag {C R n : Nat} {wi : Int32} {fu f g : Nat → Int32} (y x p : Nat) (h : zAg n f g) : zAg n (pHs C R wi fu y x p f) (pHs C R wi fu y x p g) := by
  unfold pHs
  have h1 : zAg n (if 0 < y then upd f (p - C) (f (p - C) + fu p * pWind wi 0) else f) (if 0 < y then upd g (p - C) (g (p - C) + fu p * pWind wi 0) else g) := by
    split
    · exact h.u _ _
    · exact h
  generalize (if 0 < y then upd f (p - C) (f (p - C) + fu p * pWind wi 0) else f) = f1 at h1 ⊢
  generalize (if 0 < y then upd g (p - C) (g (p - C) + fu p * pWind wi 0) else g) = g1 at h1 ⊢
  have h2 : zAg n (if x + 1 < C then upd f1 (p + 1) (f1 (p + 1) + fu p * pWind wi 1) else f1) (if x + 1 < C then upd g1 (p + 1) (g1 (p + 1) + fu p * pWind wi 1) else g1) := by
    split
    · exact h1.u _ _
    · exact h1
  dsimp only
  generalize (if x + 1 < C then upd f1 (p + 1) (f1 (p + 1) + fu p * pWind wi 1) else f1) = f2 at h2 ⊢
  generalize (if x + 1 < C then upd g1 (p + 1) (g1 (p + 1) + fu p * pWind wi 1) else g1) = g2 at h2 ⊢
  have h3 : zAg n (if y + 1 < R then upd f2 (p + C) (f2 (p + C) + fu p * pWind wi 2) else f2) (if y + 1 < R then upd g2 (p + C) (g2 (p + C) + fu p * pWind wi 2) else g2) := by
    split
    · exact h2.u _ _
    · exact h2
  generalize (if y + 1 < R then upd f2 (p + C) (f2 (p + C) + fu p * pWind wi 2) else f2) = f3 at h3 ⊢
  generalize (if y + 1 < R then upd g2 (p + C) (g2 (p + C) + fu p * pWind wi 2) else g2) = g3 at h3 ⊢
  split
  · exact h3.u _ _
  · exact h3
theorem pHr_ag {C R n : Nat} {wi : Int32} {fu bu f g : Nat → Int32} (y : Nat) (h : zAg n f g) : ∀ x, zAg n (pHr C R wi fu bu y f x) (pHr C R wi fu bu y g x)
  | 0 => h
  | x + 1 => by
    simp only [pHr]
    split
    · exact pHr_ag y h x
    · exact pHs_ag _ _ _ (pHr_ag y h x)
theorem pHt_ag {C R n : Nat} {wi : Int32} {fu bu f g : Nat → Int32} (h : zAg n f g) : ∀ y, zAg n (pHt C R wi fu bu f y) (pHt C R wi fu bu g y)
  | 0 => h
  | y + 1 => by
    simp only [pHt]
    exact pHr_ag y (pHt_ag h y) C
/-- the heat of the cells as they stand -/
def pH0 (C R : Nat) (wi : Int32) (fu bu : Nat → Int32) : Nat → Int32 := pFeel C R wi fu bu (fun _ => 0)
theorem pFeel_ag (C R : Nat) (wi : Int32) (fu bu he : Nat → Int32) : zAg (C * R) (pFeel C R wi fu bu he) (pH0 C R wi fu bu) := by
  unfold pH0 pFeel
  refine pHt_ag (fun j hj => ?_) R
  rw [pClr_at, pClr_at, if_pos hj, if_pos hj]
theorem pBst_ag {bt : Int32 → Int32 → Bool} {f g b c : Nat → Int32} : ∀ {n : Nat}, zAg n f g → zAg n b c → pBst bt f b n = pBst bt g c n
  | 0, _, _ => rfl
  | k + 1, h, hb => by
    have ih : pBst bt f b k = pBst bt g c k := pBst_ag (fun j hj => h j (Nat.lt_succ_of_lt hj)) (fun j hj => hb j (Nat.lt_succ_of_lt hj))
    simp only [pBst, ih, hb k (Nat.lt_succ_self k)]
    split
    · rfl
    · split
      · rfl
      · rename_i j hj
        rw [h k (Nat.lt_succ_self k), h j (Nat.lt_succ_of_lt (pBst_lt hj))]
theorem pHot_ag {fu bu f g : Nat → Int32} {n : Nat} (h : zAg n f g) : pHot fu bu f n = pHot fu bu g n := by
  unfold pHot
  refine pBst_ag h (fun j hj => ?_)
  unfold pFl
  rw [h j hj]
theorem pCl_ag {f g o : Nat → Int32} {n : Nat} (h : zAg n f g) : pCl f o n = pCl g o n := by
  funext j
  simp only [pCl]
  split
  · rename_i hj; exact h j hj
  · rfl
theorem pCnt_ag {f g : Nat → Int32} : ∀ {n : Nat}, zAg n f g → pCnt f n = pCnt g n
  | 0, _ => rfl
  | k + 1, h => by
    simp only [pCnt, h k (Nat.lt_succ_self k), pCnt_ag (fun j hj => h j (Nat.lt_succ_of_lt hj))]
theorem nBu_ag {fu bu f g we : Nat → Int32} {n : Nat} (h : zAg n f g) : zAg n (nBu fu bu f we) (nBu fu bu g we) := by
  intro j hj
  unfold nBu
  rw [h j hj]
/-- fuel, wet, burning of the cells -/
abbrev zFs : Type := (Nat → Int32) × (Nat → Int32) × (Nat → Int32)
def mW (C R : Nat) (s : zFs) (c v : Int32) : Nat → Int32 := pWe (C * R) s.2.1 c v
def mB (C R : Nat) (s : zFs) (c v : Int32) : Nat → Int32 := pBu (C * R) s.1 (mW C R s c v) s.2.2 c
def mN (C R : Nat) (wi : Int32) (s : zFs) (c v : Int32) : Nat → Int32 := nBu s.1 (mB C R s c v) (pH0 C R wi s.1 (mB C R s c v)) (mW C R s c v)
/-- a minute: aimed at place c, v litres -/
def mMin (C R : Nat) (wi : Int32) (s : zFs) (c v : Int32) : zFs := (pCl (nFu s.1 (mB C R s c v)) s.1 (C * R), mW C R s c v, pCl (mN C R wi s c v) (mB C R s c v) (C * R))
/-- what is lost in it, what burns behind it -/
def mLs (C R : Nat) (s : zFs) (c v : Int32) : Int32 := pCnt (mB C R s c v) (C * R)
def mBn (C R : Nat) (wi : Int32) (s : zFs) (c v : Int32) : Int32 := pCnt (mN C R wi s c v) (C * R)
/-- the place of an aim -/
def mAim (C R : Nat) (wi : Int32) (s : zFs) (a : Int32) : Int32 := pAim C (C * R) s.1 s.2.2 (pH0 C R wi s.1 s.2.2) a
theorem pAim_h {C R : Nat} {wi : Int32} {fu bu he : Nat → Int32} {a : Int32} : pAim C (C * R) fu bu (pFeel C R wi fu bu he) a = pAim C (C * R) fu bu (pH0 C R wi fu bu) a := by
  unfold pAim
  rw [pHot_ag (pFeel_ag C R wi fu bu he)]
abbrev kFs (t : Nat) (ad : Nat → Nat) (sc : Nat → Int32) (s : zFs) (he se : Nat → Int32) : zK := kFire t ad sc s.1 s.2.1 s.2.2 he se
abbrev zFh (C R : Nat) (sc : Nat → Int32) : Prop := R ≤ 64 ∧ C * R ≤ 64 ∧ sc 0 = nI C ∧ sc 1 = nI R ∧ sc 2 = nI (C * R)
theorem s_minute (l : Launch) (dd : Nat) (t : Nat) (ad : Nat → Nat) (C R : Nat) (sc : Nat → Int32) (s : zFs) (he se : Nat → Int32) (c v wi : Int32) (hd : 2 ≤ dd) (h : zFh C R sc) (hwi : sc 3 = wi) : zSp l mX2_passMinute dd 0 0 [.ref t, .int c, .int v] (kFs t ad sc s he se) (fun r K' => r = none ∧ ∃ he', K' = kFs t ad (upd (upd sc 9 (mBn C R wi s c v)) 10 (sc 10 + mLs C R s c v)) (mMin C R wi s c v) he' se) := by
  subst hwi
  obtain ⟨h1, h2, h3, h4, h5⟩ := h
  refine (s_passMinute l dd t ad C R sc s.1 s.2.1 s.2.2 he se c v hd h1 h2 h3 h4 h5).weaken (fun r K' hh => ⟨hh.1, pFeel C R (sc 3) s.1 (mB C R s c v) he, ?_⟩)
  rw [hh.2]
  have ha : zAg (C * R) (nBu s.1 (mB C R s c v) (pFeel C R (sc 3) s.1 (mB C R s c v) he) (mW C R s c v)) (mN C R (sc 3) s c v) := nBu_ag (pFeel_ag _ _ _ _ _ _)
  have e1 := pCnt_ag ha
  have e2 := pCl_ag (o := mB C R s c v) ha
  show kFire t ad (upd (upd sc 9 (pCnt (nBu s.1 (mB C R s c v) (pFeel C R (sc 3) s.1 (mB C R s c v) he) (mW C R s c v)) (C * R))) 10 (sc 10 + mLs C R s c v)) (pCl (nFu s.1 (mB C R s c v)) s.1 (C * R)) (mW C R s c v) (pCl (nBu s.1 (mB C R s c v) (pFeel C R (sc 3) s.1 (mB C R s c v) he) (mW C R s c v)) (mB C R s c v) (C * R)) (pFeel C R (sc 3) s.1 (mB C R s c v) he) se = _
  rw [e1, e2]
  rfl
theorem s_aim (l : Launch) (dd : Nat) (t : Nat) (ad : Nat → Nat) (C R : Nat) (sc : Nat → Int32) (s : zFs) (he se : Nat → Int32) (a wi : Int32) (hd : 3 ≤ dd) (h : zFh C R sc) (hwi : sc 3 = wi) : zSp l mX2_aimed dd 0 0 [.ref t, .int a] (kFs t ad sc s he se) (fun r K' => r = some (.int (mAim C R wi s a)) ∧ ∃ he', K' = kFs t ad sc s he' se) := by
  subst hwi
  obtain ⟨h1, h2, h3, h4, h5⟩ := h
  refine (s_aimed l dd t ad C R sc s.1 s.2.1 s.2.2 he se a hd h1 h2 h3 h4 h5).weaken (fun r K' hh => ⟨?_, hh.2⟩)
  rw [hh.1, pAim_h]
  rfl
/-- the fire with an aim, seen late: the cells and what was seen, before each minute -/
def fS (C R : Nat) (wi a v : Int32) (late : Nat) (s0 : zFs) (se0 : Nat → Int32) : Nat → zFs × (Nat → Int32)
  | 0 => (s0, se0)
  | i + 1 => (mMin C R wi (fS C R wi a v late s0 se0 i).1 (upd (fS C R wi a v late s0 se0 i).2 i (mAim C R wi (fS C R wi a v late s0 se0 i).1 a) (i - late)) v, upd (fS C R wi a v late s0 se0 i).2 i (mAim C R wi (fS C R wi a v late s0 se0 i).1 a))
/-- where it is thrown in a minute -/
def fC (C R : Nat) (wi a v : Int32) (late : Nat) (s0 : zFs) (se0 : Nat → Int32) (i : Nat) : Int32 := (fS C R wi a v late s0 se0 (i + 1)).2 (i - late)
def fL (C R : Nat) (wi a v : Int32) (late : Nat) (s0 : zFs) (se0 : Nat → Int32) (l0 : Int32) : Nat → Int32
  | 0 => l0
  | i + 1 => fL C R wi a v late s0 se0 l0 i + mLs C R (fS C R wi a v late s0 se0 i).1 (fC C R wi a v late s0 se0 i) v
def fO (C R : Nat) (wi a v : Int32) (late : Nat) (s0 : zFs) (se0 : Nat → Int32) (o0 : Int32) : Nat → Int32
  | 0 => o0
  | i + 1 => if mBn C R wi (fS C R wi a v late s0 se0 i).1 (fC C R wi a v late s0 se0 i) v = 0 then (if fO C R wi a v late s0 se0 o0 i = -1 then nI (i + 1) else fO C R wi a v late s0 se0 o0 i) else fO C R wi a v late s0 se0 o0 i
def fB (C R : Nat) (wi a v : Int32) (late : Nat) (s0 : zFs) (se0 : Nat → Int32) (b0 : Int32) : Nat → Int32
  | 0 => b0
  | i + 1 => mBn C R wi (fS C R wi a v late s0 se0 i).1 (fC C R wi a v late s0 se0 i) v
theorem nI_max0 {a b : Nat} (ha : a < 2147483648) (hb : b < 2147483648) : (if 0 < nI a - nI b then nI a - nI b else 0) = nI (a - b) := by
  by_cases h : b < a
  · rw [nI_sub (by omega), if_pos]
    rw [zi_lt, nI_t (by omega), Int32.toInt_zero]; omega
  · rw [if_neg, show a - b = 0 by omega]
    · rfl
    · rw [zi_lt, zi_sub (by rw [nI_t ha, nI_t hb]; omega) (by rw [nI_t ha, nI_t hb]; omega), nI_t ha, nI_t hb, Int32.toInt_zero]; omega
theorem dX2_burnFor_0 : decode cX2_burnFor 0 = .ok (.iconst 0, 1) := by decide +kernel
theorem dX2_burnFor_1 : decode cX2_burnFor 1 = .ok (.istore 5, 2) := by decide +kernel
theorem dX2_burnFor_3 : decode cX2_burnFor 3 = .ok (.iload 5, 2) := by decide +kernel
theorem dX2_burnFor_5 : decode cX2_burnFor 5 = .ok (.iload_n 1, 1) := by decide +kernel
theorem dX2_burnFor_6 : decode cX2_burnFor 6 = .ok (.if_icmp .ge 70, 3) := by decide +kernel
theorem dX2_burnFor_9 : decode cX2_burnFor 9 = .ok (.iload 5, 2) := by decide +kernel
theorem dX2_burnFor_11 : decode cX2_burnFor 11 = .ok (.bipush 60, 2) := by decide +kernel
theorem dX2_burnFor_13 : decode cX2_burnFor 13 = .ok (.if_icmp .ge 63, 3) := by decide +kernel
theorem dX2_burnFor_16 : decode cX2_burnFor 16 = .ok (.aload_n 0, 1) := by decide +kernel
theorem dX2_burnFor_17 : decode cX2_burnFor 17 = .ok (.getfield 25, 3) := by decide +kernel
theorem dX2_burnFor_20 : decode cX2_burnFor 20 = .ok (.iload 5, 2) := by decide +kernel
theorem dX2_burnFor_22 : decode cX2_burnFor 22 = .ok (.aload_n 0, 1) := by decide +kernel
theorem dX2_burnFor_23 : decode cX2_burnFor 23 = .ok (.iload_n 3, 1) := by decide +kernel
theorem dX2_burnFor_24 : decode cX2_burnFor 24 = .ok (.invokevirtual 57, 3) := by decide +kernel
theorem dX2_burnFor_27 : decode cX2_burnFor 27 = .ok (.iastore, 1) := by decide +kernel
theorem dX2_burnFor_28 : decode cX2_burnFor 28 = .ok (.aload_n 0, 1) := by decide +kernel
theorem dX2_burnFor_29 : decode cX2_burnFor 29 = .ok (.aload_n 0, 1) := by decide +kernel
theorem dX2_burnFor_30 : decode cX2_burnFor 30 = .ok (.getfield 25, 3) := by decide +kernel
theorem dX2_burnFor_33 : decode cX2_burnFor 33 = .ok (.iconst 0, 1) := by decide +kernel
theorem dX2_burnFor_34 : decode cX2_burnFor 34 = .ok (.iload 5, 2) := by decide +kernel
theorem dX2_burnFor_36 : decode cX2_burnFor 36 = .ok (.iload 4, 2) := by decide +kernel
theorem dX2_burnFor_38 : decode cX2_burnFor 38 = .ok (.isub, 1) := by decide +kernel
theorem dX2_burnFor_39 : decode cX2_burnFor 39 = .ok (.invokestatic 61, 3) := by decide +kernel
theorem dX2_burnFor_42 : decode cX2_burnFor 42 = .ok (.iaload, 1) := by decide +kernel
theorem dX2_burnFor_43 : decode cX2_burnFor 43 = .ok (.iload_n 2, 1) := by decide +kernel
theorem dX2_burnFor_44 : decode cX2_burnFor 44 = .ok (.invokevirtual 67, 3) := by decide +kernel
theorem dX2_burnFor_47 : decode cX2_burnFor 47 = .ok (.aload_n 0, 1) := by decide +kernel
theorem dX2_burnFor_48 : decode cX2_burnFor 48 = .ok (.getfield 49, 3) := by decide +kernel
theorem dX2_burnFor_51 : decode cX2_burnFor 51 = .ok (.ifCond .ne 19, 3) := by decide +kernel
theorem dX2_burnFor_54 : decode cX2_burnFor 54 = .ok (.aload_n 0, 1) := by decide +kernel
theorem dX2_burnFor_55 : decode cX2_burnFor 55 = .ok (.getfield 28, 3) := by decide +kernel
theorem dX2_burnFor_58 : decode cX2_burnFor 58 = .ok (.iconst (-1), 1) := by decide +kernel
theorem dX2_burnFor_59 : decode cX2_burnFor 59 = .ok (.if_icmp .ne 11, 3) := by decide +kernel
theorem dX2_burnFor_62 : decode cX2_burnFor 62 = .ok (.aload_n 0, 1) := by decide +kernel
theorem dX2_burnFor_63 : decode cX2_burnFor 63 = .ok (.iload 5, 2) := by decide +kernel
theorem dX2_burnFor_65 : decode cX2_burnFor 65 = .ok (.iconst 1, 1) := by decide +kernel
theorem dX2_burnFor_66 : decode cX2_burnFor 66 = .ok (.iadd, 1) := by decide +kernel
theorem dX2_burnFor_67 : decode cX2_burnFor 67 = .ok (.putfield 28, 3) := by decide +kernel
theorem dX2_burnFor_70 : decode cX2_burnFor 70 = .ok (.iinc 5 1, 3) := by decide +kernel
theorem dX2_burnFor_73 : decode cX2_burnFor 73 = .ok (.goto (-70), 3) := by decide +kernel
theorem dX2_burnFor_76 : decode cX2_burnFor 76 = .ok (.return_, 1) := by decide +kernel
set_option maxRecDepth 100000 in
theorem lp_burn {l : Launch} {dd : Nat} {Po : zPo} {K0 : zK} {h0 : List va_E} {Xo : zK → Prop} {Gc : zG → Prop} (t : Nat) (ad : Nat → Nat) (C R M late : Nat) (wi a v b0 l0 o0 : Int32) (s0 : zFs) (se0 : Nat → Int32) (hd : 4 ≤ dd) (hM : M ≤ 60) (hla : late ≤ 20)
    (hk : ∀ sc he, zFh C R sc → sc 3 = wi → sc 9 = fB C R wi a v late s0 se0 b0 M → sc 10 = fL C R wi a v late s0 se0 l0 M → sc 11 = fO C R wi a v late s0 se0 o0 M → zS (l, mX2_burnFor, dd, Po, K0, h0, Xo, Gc) 0 0 76 [(0, .ref t), (1, .int (nI M)), (2, .int v), (3, .int a), (4, .int (nI late)), (5, .int (nI M))] [] [(t, .inr (1, fFire ad sc)), (ad 1, .inl (0, 64, .inl (fS C R wi a v late s0 se0 M).1.1)), (ad 2, .inl (0, 64, .inl (fS C R wi a v late s0 se0 M).1.2.1)), (ad 3, .inl (1, 64, .inl (fS C R wi a v late s0 se0 M).1.2.2)), (ad 4, .inl (0, 64, .inl he)), (ad 5, .inl (0, 60, .inl (fS C R wi a v late s0 se0 M).2))]) :
    ∀ (m i : Nat) (sc he : Nat → Int32), i + m = M → zFh C R sc → sc 3 = wi → sc 9 = fB C R wi a v late s0 se0 b0 i → sc 10 = fL C R wi a v late s0 se0 l0 i → sc 11 = fO C R wi a v late s0 se0 o0 i → zS (l, mX2_burnFor, dd, Po, K0, h0, Xo, Gc) 0 0 3 [(0, .ref t), (1, .int (nI M)), (2, .int v), (3, .int a), (4, .int (nI late)), (5, .int (nI i))] [] [(t, .inr (1, fFire ad sc)), (ad 1, .inl (0, 64, .inl (fS C R wi a v late s0 se0 i).1.1)), (ad 2, .inl (0, 64, .inl (fS C R wi a v late s0 se0 i).1.2.1)), (ad 3, .inl (1, 64, .inl (fS C R wi a v late s0 se0 i).1.2.2)), (ad 4, .inl (0, 64, .inl he)), (ad 5, .inl (0, 60, .inl (fS C R wi a v late s0 se0 i).2))] := by
  intro m
  induction m with
  | zero =>
    intro i sc he hi hf hwi h9 h10 h11
    have hin : i = M := by omega
    subst hin
    refine zs_iload dX2_burnFor_3 rfl ?_
    refine zs_iload_n dX2_burnFor_5 rfl ?_
    refine zs_icmp_ge (tgt := 76) dX2_burnFor_6 (by decide) (fun c_1 => ?_) (fun c_1 => (c_1 (Int32.le_refl _) : False).elim)
    exact hk sc he hf hwi h9 h10 h11
  | succ m ih =>
    intro i sc he hi hf hwi h9 h10 h11
    have hil : i < M := by omega
    refine zs_iload dX2_burnFor_3 rfl ?_
    refine zs_iload_n dX2_burnFor_5 rfl ?_
    refine zs_icmp_ge (tgt := 76) dX2_burnFor_6 (by decide) (fun c_1 => (nI_ge hil (by omega) c_1 : False).elim) (fun c_1 => ?_)
    refine zs_iload dX2_burnFor_9 rfl ?_
    refine zs_bipush (v := 60) dX2_burnFor_11 (by decide) ?_
    refine zs_icmp_ge (tgt := 76) dX2_burnFor_13 (by decide) (fun c_2 => (nI_ge (a := i) (b := 60) (by omega) (by omega) c_2 : False).elim) (fun c_2 => ?_)
    refine zs_aload_n dX2_burnFor_16 rfl rfl ?_
    refine zs_get 0 dX2_burnFor_17 zf_RX2_25 rfl (v := .ref (ad 5)) rfl ?_
    refine zs_iload dX2_burnFor_20 rfl ?_
    refine zs_aload_n dX2_burnFor_22 rfl rfl ?_
    refine zs_iload_n dX2_burnFor_23 rfl ?_
    refine zs_callV (M := mX2_aimed) (As := [.int a]) (st := [.int (nI i), .ref (ad 5)]) (Kc := [(t, .inr (1, fFire ad sc)), (ad 1, .inl (0, 64, .inl (fS C R wi a v late s0 se0 i).1.1)), (ad 2, .inl (0, 64, .inl (fS C R wi a v late s0 se0 i).1.2.1)), (ad 3, .inl (1, 64, .inl (fS C R wi a v late s0 se0 i).1.2.2)), (ad 4, .inl (0, 64, .inl he)), (ad 5, .inl (0, 60, .inl (fS C R wi a v late s0 se0 i).2))]) (Kr := []) [0, 1, 2, 3, 4, 5] [] 0 dX2_burnFor_24 zl_RX2_57 kX2_aimed rfl rfl rfl rfl rfl (by decide) rfl rfl (show dd - 1 + 1 ≤ dd by omega) (Nat.zero_le _) (Nat.zero_le _) (Nat.le_of_ble_eq_true rfl) (s_aim l (dd - 1) t ad C R sc (fS C R wi a v late s0 se0 i).1 he (fS C R wi a v late s0 se0 i).2 a wi (by omega) hf hwi) (fun r K1 hr => ?_)
    obtain ⟨rfl, he2, rfl⟩ := hr
    refine zs_K (K' := [(t, .inr (1, fFire ad sc)), (ad 1, .inl (0, 64, .inl (fS C R wi a v late s0 se0 i).1.1)), (ad 2, .inl (0, 64, .inl (fS C R wi a v late s0 se0 i).1.2.1)), (ad 3, .inl (1, 64, .inl (fS C R wi a v late s0 se0 i).1.2.2)), (ad 4, .inl (0, 64, .inl he2)), (ad 5, .inl (0, 60, .inl (fS C R wi a v late s0 se0 i).2))]) [0, 1, 2, 3, 4, 5] rfl (by decide) ?_
    refine zs_iast 5 dX2_burnFor_27 rfl (vp_in_nI (by omega) (by omega)) ?_
    rw [nI_c (n := i) (by omega)]
    show zS _ _ _ _ _ _ [(t, .inr (1, fFire ad sc)), (ad 1, .inl (0, 64, .inl (fS C R wi a v late s0 se0 i).1.1)), (ad 2, .inl (0, 64, .inl (fS C R wi a v late s0 se0 i).1.2.1)), (ad 3, .inl (1, 64, .inl (fS C R wi a v late s0 se0 i).1.2.2)), (ad 4, .inl (0, 64, .inl he2)), (ad 5, .inl (0, 60, .inl (upd ((fS C R wi a v late s0 se0 i).2) i (mAim C R wi (fS C R wi a v late s0 se0 i).1 a))))]
    refine zs_aload_n dX2_burnFor_28 rfl rfl ?_
    refine zs_aload_n dX2_burnFor_29 rfl rfl ?_
    refine zs_get 0 dX2_burnFor_30 zf_RX2_25 rfl (v := .ref (ad 5)) rfl ?_
    refine zs_iconst (v := 0) dX2_burnFor_33 (by decide) ?_
    refine zs_iload dX2_burnFor_34 rfl ?_
    refine zs_iload dX2_burnFor_36 rfl ?_
    refine zs_isub dX2_burnFor_38 ?_
    refine zs_mmax dX2_burnFor_39 zl_RX2_61 zmmax1 zmath2 zmmax3 (show 1 ≤ dd by omega) (Nat.le_of_ble_eq_true rfl) ?_
    refine zs_as (y := nI (i - late)) (nI_max0 (by omega) (by omega)) ?_
    refine zs_iald 5 dX2_burnFor_42 rfl (vp_in_nI (by omega) (by omega)) ?_
    refine zs_as (y := (upd ((fS C R wi a v late s0 se0 i).2) i (mAim C R wi (fS C R wi a v late s0 se0 i).1 a)) (i - late)) (by rw [nI_c (n := i - late) (by omega)]) ?_
    refine zs_iload_n dX2_burnFor_43 rfl ?_
    refine zs_callV (M := mX2_passMinute) (As := [.int ((upd ((fS C R wi a v late s0 se0 i).2) i (mAim C R wi (fS C R wi a v late s0 se0 i).1 a)) (i - late)), .int v]) (st := []) (Kc := [(t, .inr (1, fFire ad sc)), (ad 1, .inl (0, 64, .inl (fS C R wi a v late s0 se0 i).1.1)), (ad 2, .inl (0, 64, .inl (fS C R wi a v late s0 se0 i).1.2.1)), (ad 3, .inl (1, 64, .inl (fS C R wi a v late s0 se0 i).1.2.2)), (ad 4, .inl (0, 64, .inl he2)), (ad 5, .inl (0, 60, .inl (upd ((fS C R wi a v late s0 se0 i).2) i (mAim C R wi (fS C R wi a v late s0 se0 i).1 a))))]) (Kr := []) [0, 1, 2, 3, 4, 5] [] 0 dX2_burnFor_44 zl_RX2_67 kX2_passMinute rfl rfl rfl rfl rfl (by decide) rfl rfl (show dd - 1 + 1 ≤ dd by omega) (Nat.zero_le _) (Nat.zero_le _) (Nat.le_of_ble_eq_true rfl) (s_minute l (dd - 1) t ad C R sc (fS C R wi a v late s0 se0 i).1 he2 (upd ((fS C R wi a v late s0 se0 i).2) i (mAim C R wi (fS C R wi a v late s0 se0 i).1 a)) ((upd ((fS C R wi a v late s0 se0 i).2) i (mAim C R wi (fS C R wi a v late s0 se0 i).1 a)) (i - late)) v wi (by omega) hf hwi) (fun r K1 hr => ?_)
    obtain ⟨rfl, he3, rfl⟩ := hr
    refine zs_K (K' := [(t, .inr (1, fFire ad (upd (upd sc 9 (mBn C R wi (fS C R wi a v late s0 se0 i).1 ((upd ((fS C R wi a v late s0 se0 i).2) i (mAim C R wi (fS C R wi a v late s0 se0 i).1 a)) (i - late)) v)) 10 (sc 10 + mLs C R (fS C R wi a v late s0 se0 i).1 ((upd ((fS C R wi a v late s0 se0 i).2) i (mAim C R wi (fS C R wi a v late s0 se0 i).1 a)) (i - late)) v)))), (ad 1, .inl (0, 64, .inl (mMin C R wi (fS C R wi a v late s0 se0 i).1 ((upd ((fS C R wi a v late s0 se0 i).2) i (mAim C R wi (fS C R wi a v late s0 se0 i).1 a)) (i - late)) v).1)), (ad 2, .inl (0, 64, .inl (mMin C R wi (fS C R wi a v late s0 se0 i).1 ((upd ((fS C R wi a v late s0 se0 i).2) i (mAim C R wi (fS C R wi a v late s0 se0 i).1 a)) (i - late)) v).2.1)), (ad 3, .inl (1, 64, .inl (mMin C R wi (fS C R wi a v late s0 se0 i).1 ((upd ((fS C R wi a v late s0 se0 i).2) i (mAim C R wi (fS C R wi a v late s0 se0 i).1 a)) (i - late)) v).2.2)), (ad 4, .inl (0, 64, .inl he3)), (ad 5, .inl (0, 60, .inl (upd ((fS C R wi a v late s0 se0 i).2) i (mAim C R wi (fS C R wi a v late s0 se0 i).1 a))))]) [0, 1, 2, 3, 4, 5] rfl (by decide) ?_
    refine zs_aload_n dX2_burnFor_47 rfl rfl ?_
    refine zs_get 0 dX2_burnFor_48 zf_RX2_49 rfl (v := .int (mBn C R wi (fS C R wi a v late s0 se0 i).1 ((upd ((fS C R wi a v late s0 se0 i).2) i (mAim C R wi (fS C R wi a v late s0 se0 i).1 a)) (i - late)) v)) rfl ?_
    refine zs_if_ne (tgt := 70) dX2_burnFor_51 (by decide) (fun c_3 => ?_) (fun c_3 => ?_)
    · have b48 := c_3
      refine zs_iinc (v := (nI (i + 1))) (lv' := [(5, .int (nI (i + 1))), (0, .ref t), (1, .int (nI M)), (2, .int v), (3, .int a), (4, .int (nI late))]) dX2_burnFor_70 rfl (nI_s1 i) (Nat.le_of_ble_eq_true rfl) rfl ?_
      refine zs_goto (tgt := 3) dX2_burnFor_73 (by decide) ?_
      refine zs_lv [1, 2, 3, 4, 5, 0] rfl ?_
      refine ih (i + 1) (upd (upd sc 9 (mBn C R wi (fS C R wi a v late s0 se0 i).1 ((upd ((fS C R wi a v late s0 se0 i).2) i (mAim C R wi (fS C R wi a v late s0 se0 i).1 a)) (i - late)) v)) 10 (sc 10 + mLs C R (fS C R wi a v late s0 se0 i).1 ((upd ((fS C R wi a v late s0 se0 i).2) i (mAim C R wi (fS C R wi a v late s0 se0 i).1 a)) (i - late)) v)) he3 (by omega) hf hwi ?_ ?_ ?_
      · rfl
      · show sc 10 + _ = _
        rw [h10]; rfl
      · show sc 11 = _
        rw [h11]
        simp only [fO]
        first
        | rw [if_neg (show ¬ mBn C R wi _ (fC C R wi a v late s0 se0 i) v = 0 from b48)]
        | rw [if_pos (show mBn C R wi _ (fC C R wi a v late s0 se0 i) v = 0 from b48), if_neg (by rw [← h11]; exact b59)]
    · have b48 := c_3
      refine zs_aload_n dX2_burnFor_54 rfl rfl ?_
      refine zs_get 0 dX2_burnFor_55 zf_RX2_28 rfl (v := .int (sc 11)) rfl ?_
      refine zs_iconst (v := (-1)) dX2_burnFor_58 (by decide) ?_
      refine zs_icmp_ne (tgt := 70) dX2_burnFor_59 (by decide) (fun c_4 => ?_) (fun c_4 => ?_)
      · have b59 := c_4
        refine zs_iinc (v := (nI (i + 1))) (lv' := [(5, .int (nI (i + 1))), (0, .ref t), (1, .int (nI M)), (2, .int v), (3, .int a), (4, .int (nI late))]) dX2_burnFor_70 rfl (nI_s1 i) (Nat.le_of_ble_eq_true rfl) rfl ?_
        refine zs_goto (tgt := 3) dX2_burnFor_73 (by decide) ?_
        refine zs_lv [1, 2, 3, 4, 5, 0] rfl ?_
        refine ih (i + 1) (upd (upd sc 9 (mBn C R wi (fS C R wi a v late s0 se0 i).1 ((upd ((fS C R wi a v late s0 se0 i).2) i (mAim C R wi (fS C R wi a v late s0 se0 i).1 a)) (i - late)) v)) 10 (sc 10 + mLs C R (fS C R wi a v late s0 se0 i).1 ((upd ((fS C R wi a v late s0 se0 i).2) i (mAim C R wi (fS C R wi a v late s0 se0 i).1 a)) (i - late)) v)) he3 (by omega) hf hwi ?_ ?_ ?_
        · rfl
        · show sc 10 + _ = _
          rw [h10]; rfl
        · show sc 11 = _
          rw [h11]
          simp only [fO]
          first
          | rw [if_neg (show ¬ mBn C R wi _ (fC C R wi a v late s0 se0 i) v = 0 from b48)]
          | rw [if_pos (show mBn C R wi _ (fC C R wi a v late s0 se0 i) v = 0 from b48), if_neg (by rw [← h11]; exact b59)]
      · have b59 := c_4
        refine zs_aload_n dX2_burnFor_62 rfl rfl ?_
        refine zs_iload dX2_burnFor_63 rfl ?_
        refine zs_iconst (v := 1) dX2_burnFor_65 (by decide) ?_
        refine zs_iadd dX2_burnFor_66 ?_
        refine zs_as (y := nI (i + 1)) (nI_s1 i) ?_
        refine zs_put 0 dX2_burnFor_67 zf_RX2_28 rfl (Nat.le_of_ble_eq_true rfl) (zPv_i _) ?_
        show zS _ _ _ _ _ _ [(t, .inr (1, fFire ad (upd (upd (upd sc 9 (mBn C R wi (fS C R wi a v late s0 se0 i).1 ((upd ((fS C R wi a v late s0 se0 i).2) i (mAim C R wi (fS C R wi a v late s0 se0 i).1 a)) (i - late)) v)) 10 (sc 10 + mLs C R (fS C R wi a v late s0 se0 i).1 ((upd ((fS C R wi a v late s0 se0 i).2) i (mAim C R wi (fS C R wi a v late s0 se0 i).1 a)) (i - late)) v)) 11 (nI (i + 1))))), (ad 1, .inl (0, 64, .inl (mMin C R wi (fS C R wi a v late s0 se0 i).1 ((upd ((fS C R wi a v late s0 se0 i).2) i (mAim C R wi (fS C R wi a v late s0 se0 i).1 a)) (i - late)) v).1)), (ad 2, .inl (0, 64, .inl (mMin C R wi (fS C R wi a v late s0 se0 i).1 ((upd ((fS C R wi a v late s0 se0 i).2) i (mAim C R wi (fS C R wi a v late s0 se0 i).1 a)) (i - late)) v).2.1)), (ad 3, .inl (1, 64, .inl (mMin C R wi (fS C R wi a v late s0 se0 i).1 ((upd ((fS C R wi a v late s0 se0 i).2) i (mAim C R wi (fS C R wi a v late s0 se0 i).1 a)) (i - late)) v).2.2)), (ad 4, .inl (0, 64, .inl he3)), (ad 5, .inl (0, 60, .inl (upd ((fS C R wi a v late s0 se0 i).2) i (mAim C R wi (fS C R wi a v late s0 se0 i).1 a))))]
        refine zs_iinc (v := (nI (i + 1))) (lv' := [(5, .int (nI (i + 1))), (0, .ref t), (1, .int (nI M)), (2, .int v), (3, .int a), (4, .int (nI late))]) dX2_burnFor_70 rfl (nI_s1 i) (Nat.le_of_ble_eq_true rfl) rfl ?_
        refine zs_goto (tgt := 3) dX2_burnFor_73 (by decide) ?_
        refine zs_lv [1, 2, 3, 4, 5, 0] rfl ?_
        refine ih (i + 1) (upd (upd (upd sc 9 (mBn C R wi (fS C R wi a v late s0 se0 i).1 ((upd ((fS C R wi a v late s0 se0 i).2) i (mAim C R wi (fS C R wi a v late s0 se0 i).1 a)) (i - late)) v)) 10 (sc 10 + mLs C R (fS C R wi a v late s0 se0 i).1 ((upd ((fS C R wi a v late s0 se0 i).2) i (mAim C R wi (fS C R wi a v late s0 se0 i).1 a)) (i - late)) v)) 11 (nI (i + 1))) he3 (by omega) hf hwi ?_ ?_ ?_
        · rfl
        · show sc 10 + _ = _
          rw [h10]; rfl
        · show nI (i + 1) = _
          simp only [fO]
          rw [if_pos (show mBn C R wi _ (fC C R wi a v late s0 se0 i) v = 0 from b48), if_pos (by rw [← h11]; exact b59)]
set_option maxRecDepth 100000 in
theorem s_burnFor (l : Launch) (dd : Nat) (t : Nat) (ad : Nat → Nat) (C R M late : Nat) (wi a v : Int32) (s0 : zFs) (sc he se0 : Nat → Int32) (hd : 4 ≤ dd) (hM : M ≤ 60) (hla : late ≤ 20) (hf : zFh C R sc) (hwi : sc 3 = wi) : zSp l mX2_burnFor dd 0 0 [.ref t, .int (nI M), .int v, .int a, .int (nI late)] [(t, .inr (1, fFire ad sc)), (ad 1, .inl (0, 64, .inl (s0.1))), (ad 2, .inl (0, 64, .inl (s0.2.1))), (ad 3, .inl (1, 64, .inl (s0.2.2))), (ad 4, .inl (0, 64, .inl he)), (ad 5, .inl (0, 60, .inl se0))] (fun r K' => r = none ∧ ∃ sc' he', zFh C R sc' ∧ sc' 3 = wi ∧ sc' 9 = fB C R wi a v late s0 se0 (sc 9) M ∧ sc' 10 = fL C R wi a v late s0 se0 (sc 10) M ∧ sc' 11 = fO C R wi a v late s0 se0 (sc 11) M ∧ K' = kFs t ad sc' (fS C R wi a v late s0 se0 M).1 he' (fS C R wi a v late s0 se0 M).2) := by
  refine zSp.of (by decide) (Nat.le_of_ble_eq_true rfl) (fun h0 => ?_)
  show zS _ 0 0 0 [(0, .ref t), (1, .int (nI M)), (2, .int v), (3, .int a), (4, .int (nI late))] [] [(t, .inr (1, fFire ad sc)), (ad 1, .inl (0, 64, .inl (s0.1))), (ad 2, .inl (0, 64, .inl (s0.2.1))), (ad 3, .inl (1, 64, .inl (s0.2.2))), (ad 4, .inl (0, 64, .inl he)), (ad 5, .inl (0, 60, .inl se0))]
  refine zs_iconst (v := 0) dX2_burnFor_0 (by decide) ?_
  refine zs_istore (lv' := [(5, .int 0), (0, .ref t), (1, .int (nI M)), (2, .int v), (3, .int a), (4, .int (nI late))]) dX2_burnFor_1 (Nat.le_of_ble_eq_true rfl) rfl ?_
  refine zs_lv [1, 2, 3, 4, 5, 0] rfl ?_
  refine lp_burn t ad C R M late wi a v (sc 9) (sc 10) (sc 11) s0 se0 hd hM hla (fun sc2 he2 hf2 g3 g9 g10 g11 => ?_) M 0 sc he (by omega) hf hwi rfl rfl rfl
  exact zs_vret dX2_burnFor_76 rfl ⟨rfl, sc2, he2, hf2, g3, g9, g10, g11, rfl⟩
