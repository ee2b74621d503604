/-! ===== what a minute of fire rests on; AimSearch ===== -/
theorem va_cpy_0 (f g : Nat → Int32) (n : Nat) : va_cpy f g 0 0 n = pCl f g n := by
  funext j
  unfold va_cpy pCl
  simp only [Nat.zero_add, Nat.sub_zero, Nat.zero_le, true_and]
def zAgF (n : Nat) (s t : zFs) : Prop := zAg n s.1 t.1 ∧ zAg n s.2.1 t.2.1 ∧ zAg n s.2.2 t.2.2
theorem zAg.rfl' {n : Nat} {f : Nat → Int32} : zAg n f f := fun _ _ => rfl
theorem zAg.symm {n : Nat} {f g : Nat → Int32} (h : zAg n f g) : zAg n g f := fun j hj => (h j hj).symm
theorem pCl_agl (f g : Nat → Int32) (n : Nat) : zAg n (pCl f g n) f := fun j hj => if_pos hj
theorem zAg.cl {n : Nat} {f g o1 o2 : Nat → Int32} (h : zAg n f g) : zAg n (pCl f o1 n) (pCl g o2 n) := fun j hj => by
  unfold pCl
  rw [if_pos hj, if_pos hj]
  exact h j hj
theorem upd_ag {n : Nat} {f g : Nat → Int32} (h : zAg n f g) (q : Nat) {x y : Int32} (hx : q < n → x = y) : zAg n (upd f q x) (upd g q y) := fun j hj => by
  unfold upd
  split
  · rename_i e
    exact hx (e ▸ hj)
  · exact h j hj
theorem zi_in {n : Nat} {c : Int32} (hn : n < 2147483648) (h1 : ¬ c < 0) (h2 : ¬ nI n ≤ c) : c.toNatClampNeg < n := by
  rw [zi_lt, Int32.toInt_zero] at h1
  rw [zi_le, nI_t hn] at h2
  rw [zi_clamp]
  omega
theorem pWe_ag {n : Nat} {f g : Nat → Int32} {c v : Int32} (hn : n < 2147483648) (h : zAg n f g) : zAg n (pWe n f c v) (pWe n g c v) := by
  unfold pWe
  split
  · exact h
  · split
    · exact h
    · rename_i h1 h2
      have hc := zi_in hn h1 h2
      exact upd_ag h _ (fun _ => by rw [h _ hc])
theorem pBu_ag {n : Nat} {fu fu' we we' bu bu' : Nat → Int32} {c : Int32} (hn : n < 2147483648) (hf : zAg n fu fu') (hw : zAg n we we') (hb : zAg n bu bu') : zAg n (pBu n fu we bu c) (pBu n fu' we' bu' c) := by
  unfold pBu
  by_cases h1 : c < 0
  · rw [if_pos h1, if_pos h1]; exact hb
  · rw [if_neg h1, if_neg h1]
    by_cases h2 : nI n ≤ c
    · rw [if_pos h2, if_pos h2]; exact hb
    · rw [if_neg h2, if_neg h2]
      have hc := zi_in hn h1 h2
      rw [hb _ hc, hf _ hc, hw _ hc]
      split
      · exact hb
      · split
        · exact hb
        · exact upd_ag hb _ (fun _ => rfl)
theorem pHr_ag2 {C R : Nat} {wi : Int32} {fu fu' bu bu' : Nat → Int32} (hf : zAg (C * R) fu fu') (hb : zAg (C * R) bu bu') {y : Nat} (hy : y < R) (h : Nat → Int32) : ∀ x, x ≤ C → pHr C R wi fu bu y h x = pHr C R wi fu' bu' y h x
  | 0, _ => rfl
  | x + 1, hx => by
    have hp : y * C + x < C * R := by
      have := Nat.mul_le_mul_right C (show y + 1 ≤ R by omega)
      rw [Nat.add_mul, Nat.mul_comm R C] at this
      omega
    simp only [pHr, pHs, pHr_ag2 hf hb hy h x (by omega), hb _ hp, hf _ hp]
theorem pHt_ag2 {C R : Nat} {wi : Int32} {fu fu' bu bu' : Nat → Int32} (hf : zAg (C * R) fu fu') (hb : zAg (C * R) bu bu') (h : Nat → Int32) : ∀ y, y ≤ R → pHt C R wi fu bu h y = pHt C R wi fu' bu' h y
  | 0, _ => rfl
  | y + 1, hy => by
    simp only [pHt, pHt_ag2 hf hb h y (by omega)]
    exact pHr_ag2 hf hb (by omega) _ C (Nat.le_refl _)
theorem pH0_ag {C R : Nat} {wi : Int32} {fu fu' bu bu' : Nat → Int32} (hf : zAg (C * R) fu fu') (hb : zAg (C * R) bu bu') : pH0 C R wi fu bu = pH0 C R wi fu' bu' := pHt_ag2 hf hb _ R (Nat.le_refl _)
theorem nBu_ag2 {n : Nat} {fu fu' bu bu' he he' we we' : Nat → Int32} (hf : zAg n fu fu') (hb : zAg n bu bu') (hh : zAg n he he') (hw : zAg n we we') : zAg n (nBu fu bu he we) (nBu fu' bu' he' we') := fun j hj => by
  simp only [nBu, hf j hj, hb j hj, hh j hj, hw j hj]
theorem nFu_ag {n : Nat} {fu fu' bu bu' : Nat → Int32} (hf : zAg n fu fu') (hb : zAg n bu bu') : zAg n (nFu fu bu) (nFu fu' bu') := fun j hj => by
  simp only [nFu, hf j hj, hb j hj]
section
variable {C R : Nat} {wi : Int32} {s t : zFs}
theorem mW_ag {c v : Int32} (hn : C * R ≤ 64) (h : zAgF (C * R) s t) : zAg (C * R) (mW C R s c v) (mW C R t c v) := pWe_ag (by omega) h.2.1
theorem mB_ag {c v : Int32} (hn : C * R ≤ 64) (h : zAgF (C * R) s t) : zAg (C * R) (mB C R s c v) (mB C R t c v) := pBu_ag (by omega) h.1 (mW_ag hn h) h.2.2
theorem mN_ag {c v : Int32} (hn : C * R ≤ 64) (h : zAgF (C * R) s t) : zAg (C * R) (mN C R wi s c v) (mN C R wi t c v) := by
  unfold mN
  rw [pH0_ag h.1 (mB_ag hn h)]
  exact nBu_ag2 h.1 (mB_ag hn h) zAg.rfl' (mW_ag hn h)
theorem mMin_ag {c v : Int32} (hn : C * R ≤ 64) (h : zAgF (C * R) s t) : zAgF (C * R) (mMin C R wi s c v) (mMin C R wi t c v) := ⟨(nFu_ag h.1 (mB_ag hn h)).cl, mW_ag hn h, (mN_ag hn h).cl⟩
theorem mLs_ag {c v : Int32} (hn : C * R ≤ 64) (h : zAgF (C * R) s t) : mLs C R s c v = mLs C R t c v := pCnt_ag (mB_ag hn h)
theorem mBn_ag {c v : Int32} (hn : C * R ≤ 64) (h : zAgF (C * R) s t) : mBn C R wi s c v = mBn C R wi t c v := pCnt_ag (mN_ag hn h)
theorem mAim_ag {a : Int32} (h : zAgF (C * R) s t) : mAim C R wi s a = mAim C R wi t a := by
  unfold mAim pAim
  have e1 : pHot s.1 s.2.2 (pH0 C R wi s.1 s.2.2) (C * R) = pHot t.1 t.2.2 (pH0 C R wi t.1 t.2.2) (C * R) := by
    rw [pH0_ag h.1 h.2.2]
    unfold pHot
    exact pBst_ag zAg.rfl' (fun j hj => by simp only [pFl, h.1 j hj, h.2.2 j hj])
  rw [e1, pBst_ag h.1 h.2.2, pBst_ag h.1 h.2.2]
theorem mMin_01 {c v : Int32} : ∀ j, j < C * R → (mMin C R wi s c v).2.2 j = 0 ∨ (mMin C R wi s c v).2.2 j = 1 := fun j hj => by
  show pCl _ _ _ j = 0 ∨ pCl _ _ _ j = 1
  unfold pCl
  rw [if_pos hj]
  unfold mN nBu
  split
  · split
    · exact Or.inl rfl
    · split
      · exact Or.inl rfl
      · exact Or.inr rfl
  · split
    · exact Or.inl rfl
    · exact Or.inr rfl
end
/-! AimSearch -/
/-- a fire, what is lost, what burns -/
abbrev zF1 : Type := zFs × Int32 × Int32
def f1 (C R : Nat) (wi : Int32) (F : zF1) (c v : Int32) : zF1 := (mMin C R wi F.1 c v, F.2.1 + mLs C R F.1 c v, mBn C R wi F.1 c v)
def wgL (C R : Nat) (wi least : Int32) : Nat → zF1 → zF1
  | 0, F => F
  | n + 1, F => if F.2.2 ≤ 0 then F else if least ≤ F.2.1 then F else wgL C R wi least n (f1 C R wi F (-1) 0)
/-- the least, the aims, the best aims -/
abbrev zSs : Type := Int32 × (Nat → Int32) × (Nat → Int32)
def wgh (C R : Nat) (wi : Int32) (M : Nat) (F : zF1) (ss : zSs) : zSs :=
  if ss.1 ≤ (wgL C R wi ss.1 (20 - M) F).2.1 then ss else ((wgL C R wi ss.1 (20 - M) F).2.1, ss.2.1, pCl ss.2.1 ss.2.2 3)
def aOf (c C : Int32) : Int32 := if c = -1 then 0 else if C ≤ 0 then 0 else 100 + c / C * 10 + (c - c / C * C)
def foW (C R : Nat) (wi v : Int32) (next : zF1 → zSs → zSs) (m : Nat) (F : zF1) (c : Int32) (ss : zSs) : zSs := next (f1 C R wi F c v) (ss.1, upd ss.2.1 m (aOf c (nI C)), ss.2.2)
def chL (bu : Nat → Int32) (fo : Int32 → zSs → zSs) (ss : zSs) : Nat → Nat × zSs
  | 0 => (0, ss)
  | i + 1 => if 8 ≤ (chL bu fo ss i).1 then chL bu fo ss i else if bu i = 0 then chL bu fo ss i else ((chL bu fo ss i).1 + 1, fo (nI i) (chL bu fo ss i).2)
def chO (C R : Nat) (wi v : Int32) (M : Nat) (next : zF1 → zSs → zSs) (m : Nat) (F : zF1) (ss : zSs) : zSs :=
  if ss.1 ≤ F.2.1 then ss else if M ≤ m then wgh C R wi M F ss else foW C R wi v next m F (-1) (chL F.1.2.2 (foW C R wi v next m F) ss (C * R)).2
/-- with k of the three minutes left -/
def chA (C R : Nat) (wi v : Int32) (M : Nat) : Nat → zF1 → zSs → zSs
  | 0 => chO C R wi v M (fun _ ss => ss) 3
  | k + 1 => chO C R wi v M (chA C R wi v M k) (2 - k)
theorem wgL_z {C R : Nat} {wi least : Int32} {F : zF1} (h : F.2.2 ≤ 0) : ∀ n, wgL C R wi least n F = F
  | 0 => rfl
  | n + 1 => if_pos h
theorem wgL_y {C R : Nat} {wi least : Int32} {F : zF1} (h : least ≤ F.2.1) : ∀ n, wgL C R wi least n F = F
  | 0 => rfl
  | n + 1 => by simp only [wgL, if_pos h, ite_self]
theorem chL_stop {bu : Nat → Int32} {fo : Int32 → zSs → zSs} {ss : zSs} {i : Nat} (h : 8 ≤ (chL bu fo ss i).1) : ∀ k, chL bu fo ss (i + k) = chL bu fo ss i
  | 0 => rfl
  | k + 1 => by
    show (if 8 ≤ (chL bu fo ss (i + k)).1 then chL bu fo ss (i + k) else _) = _
    rw [chL_stop h k, if_pos h]
theorem chL_8 {bu : Nat → Int32} {fo : Int32 → zSs → zSs} {ss : zSs} : ∀ i, (chL bu fo ss i).1 ≤ 8
  | 0 => by simp only [chL]; omega
  | i + 1 => by
    have := chL_8 (bu := bu) (fo := fo) (ss := ss) i
    simp only [chL]
    split
    · exact this
    · split
      · exact this
      · show (chL bu fo ss i).1 + 1 ≤ 8
        omega
def zAg1 (n : Nat) (F G : zF1) : Prop := zAgF n F.1 G.1 ∧ F.2 = G.2
theorem f1_ag {C R : Nat} {wi : Int32} {F G : zF1} (hn : C * R ≤ 64) (h : zAg1 (C * R) F G) (c v : Int32) : zAg1 (C * R) (f1 C R wi F c v) (f1 C R wi G c v) := ⟨mMin_ag hn h.1, by simp only [f1, mLs_ag hn h.1, mBn_ag hn h.1, h.2]⟩
theorem wgL_ag {C R : Nat} {wi least : Int32} (hn : C * R ≤ 64) : ∀ (n : Nat) {F G : zF1}, zAg1 (C * R) F G → (wgL C R wi least n F).2 = (wgL C R wi least n G).2
  | 0, _, _, h => h.2
  | n + 1, F, G, h => by
    simp only [wgL, h.2]
    split
    · exact h.2
    · split
      · exact h.2
      · exact wgL_ag hn n (f1_ag hn h _ _)
theorem wgh_ag {C R : Nat} {wi : Int32} {M : Nat} {F G : zF1} {ss : zSs} (hn : C * R ≤ 64) (h : zAg1 (C * R) F G) : wgh C R wi M F ss = wgh C R wi M G ss := by
  unfold wgh
  rw [wgL_ag hn _ h]
theorem chL_ag {n : Nat} {b c : Nat → Int32} {fo go : Int32 → zSs → zSs} (hb : zAg n b c) (hf : ∀ x ss, fo x ss = go x ss) (ss : zSs) : ∀ i, i ≤ n → chL b fo ss i = chL c go ss i
  | 0, _ => rfl
  | i + 1, hi => by simp only [chL, chL_ag hb hf ss i (by omega), hb i (by omega), hf]
theorem chO_ag {C R : Nat} {wi v : Int32} {M m : Nat} {next : zF1 → zSs → zSs} {F G : zF1} (hn : C * R ≤ 64) (hx : ∀ F G ss, zAg1 (C * R) F G → next F ss = next G ss) (h : zAg1 (C * R) F G) (ss : zSs) : chO C R wi v M next m F ss = chO C R wi v M next m G ss := by
  have hfo : ∀ c s, foW C R wi v next m F c s = foW C R wi v next m G c s := fun c s => hx _ _ _ (f1_ag hn h c v)
  unfold chO
  rw [wgh_ag hn h, h.2, hfo, chL_ag h.1.2.2 hfo ss _ (Nat.le_refl _)]
theorem chA_ag {C R : Nat} {wi v : Int32} {M : Nat} (hn : C * R ≤ 64) : ∀ k F G ss, zAg1 (C * R) F G → chA C R wi v M k F ss = chA C R wi v M k G ss
  | 0, _, _, ss, h => chO_ag hn (fun _ _ _ _ => rfl) h ss
  | k + 1, _, _, ss, h => chO_ag hn (chA_ag hn k) h ss
/-- a fire's cells, all told: scalars, state, heat -/
abbrev zFc : Type := (Nat → Int32) × zFs × (Nat → Int32)
abbrev zFc.f (X : zFc) : zF1 := (X.2.1, X.1 10, X.1 9)
abbrev kFc (t : Nat) (ad : Nat → Nat) (X : zFc) (se : Nat → Int32) : zK := kFire t ad X.1 X.2.1.1 X.2.1.2.1 X.2.1.2.2 X.2.2 se
def fSr (ar : Nat → Nat) (M : Nat) (v least : Int32) : List Value := [.int (nI M), .int v, .int least, .ref (ar 1), .ref (ar 2), .ref (ar 3)]
abbrev kSr (a : Nat) (ar : Nat → Nat) (T : Nat → Nat) (M : Nat) (v : Int32) (ss : zSs) : zK := [(a, .inr (0, fSr ar M v ss.1)), (ar 1, .inl (4, 4, .inr (.inr (.inr (.inr (fun j => some (T j))))))), (ar 2, .inl (0, 3, .inl ss.2.1)), (ar 3, .inl (0, 3, .inl ss.2.2))]
theorem dX1_weigh_0 : decode cX1_weigh 0 = .ok (.aload_n 0, 1) := by decide +kernel
theorem dX1_weigh_1 : decode cX1_weigh 1 = .ok (.getfield 25, 3) := by decide +kernel
theorem dX1_weigh_4 : decode cX1_weigh 4 = .ok (.istore_n 2, 1) := by decide +kernel
theorem dX1_weigh_5 : decode cX1_weigh 5 = .ok (.iload_n 2, 1) := by decide +kernel
theorem dX1_weigh_6 : decode cX1_weigh 6 = .ok (.bipush 20, 2) := by decide +kernel
theorem dX1_weigh_8 : decode cX1_weigh 8 = .ok (.if_icmp .ge 33, 3) := by decide +kernel
theorem dX1_weigh_11 : decode cX1_weigh 11 = .ok (.aload_n 1, 1) := by decide +kernel
theorem dX1_weigh_12 : decode cX1_weigh 12 = .ok (.getfield 77, 3) := by decide +kernel
theorem dX1_weigh_15 : decode cX1_weigh 15 = .ok (.ifCond .le 26, 3) := by decide +kernel
theorem dX1_weigh_18 : decode cX1_weigh 18 = .ok (.aload_n 1, 1) := by decide +kernel
theorem dX1_weigh_19 : decode cX1_weigh 19 = .ok (.getfield 46, 3) := by decide +kernel
theorem dX1_weigh_22 : decode cX1_weigh 22 = .ok (.aload_n 0, 1) := by decide +kernel
theorem dX1_weigh_23 : decode cX1_weigh 23 = .ok (.getfield 35, 3) := by decide +kernel
theorem dX1_weigh_26 : decode cX1_weigh 26 = .ok (.if_icmp .ge 15, 3) := by decide +kernel
theorem dX1_weigh_29 : decode cX1_weigh 29 = .ok (.aload_n 1, 1) := by decide +kernel
theorem dX1_weigh_30 : decode cX1_weigh 30 = .ok (.iconst (-1), 1) := by decide +kernel
theorem dX1_weigh_31 : decode cX1_weigh 31 = .ok (.iconst 0, 1) := by decide +kernel
theorem dX1_weigh_32 : decode cX1_weigh 32 = .ok (.invokevirtual 67, 3) := by decide +kernel
theorem dX1_weigh_35 : decode cX1_weigh 35 = .ok (.iinc 2 1, 3) := by decide +kernel
theorem dX1_weigh_38 : decode cX1_weigh 38 = .ok (.goto (-33), 3) := by decide +kernel
theorem dX1_weigh_41 : decode cX1_weigh 41 = .ok (.aload_n 1, 1) := by decide +kernel
theorem dX1_weigh_42 : decode cX1_weigh 42 = .ok (.getfield 46, 3) := by decide +kernel
theorem dX1_weigh_45 : decode cX1_weigh 45 = .ok (.aload_n 0, 1) := by decide +kernel
theorem dX1_weigh_46 : decode cX1_weigh 46 = .ok (.getfield 35, 3) := by decide +kernel
theorem dX1_weigh_49 : decode cX1_weigh 49 = .ok (.if_icmp .ge 25, 3) := by decide +kernel
theorem dX1_weigh_52 : decode cX1_weigh 52 = .ok (.aload_n 0, 1) := by decide +kernel
theorem dX1_weigh_53 : decode cX1_weigh 53 = .ok (.aload_n 1, 1) := by decide +kernel
theorem dX1_weigh_54 : decode cX1_weigh 54 = .ok (.getfield 46, 3) := by decide +kernel
theorem dX1_weigh_57 : decode cX1_weigh 57 = .ok (.putfield 35, 3) := by decide +kernel
theorem dX1_weigh_60 : decode cX1_weigh 60 = .ok (.aload_n 0, 1) := by decide +kernel
theorem dX1_weigh_61 : decode cX1_weigh 61 = .ok (.getfield 18, 3) := by decide +kernel
theorem dX1_weigh_64 : decode cX1_weigh 64 = .ok (.iconst 0, 1) := by decide +kernel
theorem dX1_weigh_65 : decode cX1_weigh 65 = .ok (.aload_n 0, 1) := by decide +kernel
theorem dX1_weigh_66 : decode cX1_weigh 66 = .ok (.getfield 22, 3) := by decide +kernel
theorem dX1_weigh_69 : decode cX1_weigh 69 = .ok (.iconst 0, 1) := by decide +kernel
theorem dX1_weigh_70 : decode cX1_weigh 70 = .ok (.iconst 3, 1) := by decide +kernel
theorem dX1_weigh_71 : decode cX1_weigh 71 = .ok (.invokestatic 80, 3) := by decide +kernel
theorem dX1_weigh_74 : decode cX1_weigh 74 = .ok (.return_, 1) := by decide +kernel
set_option maxRecDepth 100000 in
theorem lp_wgh {l : Launch} {dd : Nat} {Po : zPo} {K0 : zK} {h0 : List va_E} {Xo : zK → Prop} {Gc : zG → Prop} (a : Nat) (ar : Nat → Nat) (T : Nat → Nat) (t : Nat) (ad : Nat → Nat) (C R M : Nat) (wi v : Int32) (ss : zSs) (se : Nat → Int32) (hd : 3 ≤ dd) (G : zF1) (hk : ∀ (i : Nat) (sc : Nat → Int32) (s : zFs) (he : Nat → Int32), zFh C R sc → sc 3 = wi → (s, sc 10, sc 9) = G → zS (l, mX1_weigh, dd, Po, K0, h0, Xo, Gc) 0 0 41 [(0, .ref a), (1, .ref t), (2, .int (nI i))] [] [(a, .inr (0, fSr ar M v ss.1)), (ar 2, .inl (0, 3, .inl (ss.2.1))), (ar 3, .inl (0, 3, .inl (ss.2.2))), (t, .inr (1, fFire ad sc)), (ad 1, .inl (0, 64, .inl (s.1))), (ad 2, .inl (0, 64, .inl (s.2.1))), (ad 3, .inl (1, 64, .inl (s.2.2))), (ad 4, .inl (0, 64, .inl he)), (ad 5, .inl (0, 60, .inl se))]) :
    ∀ (m i : Nat) (sc : Nat → Int32) (s : zFs) (he : Nat → Int32), i + m = 20 → zFh C R sc → sc 3 = wi → wgL C R wi ss.1 (20 - i) (s, sc 10, sc 9) = G → zS (l, mX1_weigh, dd, Po, K0, h0, Xo, Gc) 0 0 5 [(0, .ref a), (1, .ref t), (2, .int (nI i))] [] [(a, .inr (0, fSr ar M v ss.1)), (ar 2, .inl (0, 3, .inl (ss.2.1))), (ar 3, .inl (0, 3, .inl (ss.2.2))), (t, .inr (1, fFire ad sc)), (ad 1, .inl (0, 64, .inl (s.1))), (ad 2, .inl (0, 64, .inl (s.2.1))), (ad 3, .inl (1, 64, .inl (s.2.2))), (ad 4, .inl (0, 64, .inl he)), (ad 5, .inl (0, 60, .inl se))] := by
  intro m
  induction m with
  | zero =>
    intro i sc s he hi hfz hwi hG
    have hi20 : 20 - i = 0 := by omega
    refine zs_iload_n dX1_weigh_5 rfl ?_
    refine zs_bipush (v := nI 20) dX1_weigh_6 (by decide) ?_
    refine zs_icmp_ge (tgt := 41) dX1_weigh_8 (by decide) (fun c_1 => ?_) (fun c_1 => (c_1 (by rw [show i = 20 by omega]; exact Int32.le_refl _) : False).elim)
    exact hk i sc s he hfz hwi (by rw [← hG, hi20]; rfl)
  | succ m ih =>
    intro i sc s he hi hfz hwi hG
    have hil : i < 20 := by omega
    refine zs_iload_n dX1_weigh_5 rfl ?_
    refine zs_bipush (v := nI 20) dX1_weigh_6 (by decide) ?_
    refine zs_icmp_ge (tgt := 41) dX1_weigh_8 (by decide) (fun c_1 => (nI_ge hil (by omega) c_1 : False).elim) (fun c_1 => ?_)
    refine zs_aload_n dX1_weigh_11 rfl rfl ?_
    refine zs_get 3 dX1_weigh_12 zf_RX1_77 rfl (v := .int (sc 9)) rfl ?_
    refine zs_if_le (tgt := 41) dX1_weigh_15 (by decide) (fun c_2 => ?_) (fun c_2 => ?_)
    · refine zs_lv [0, 1, 2] rfl ?_
      exact hk i sc s he hfz hwi (by rw [← hG]; exact (wgL_z c_2 (20 - i)).symm)
    · refine zs_aload_n dX1_weigh_18 rfl rfl ?_
      refine zs_get 3 dX1_weigh_19 zf_RX1_46 rfl (v := .int (sc 10)) rfl ?_
      refine zs_aload_n dX1_weigh_22 rfl rfl ?_
      refine zs_get 0 dX1_weigh_23 zf_RX1_35 rfl (v := .int ss.1) rfl ?_
      refine zs_icmp_ge (tgt := 41) dX1_weigh_26 (by decide) (fun c_3 => ?_) (fun c_3 => ?_)
      · have hy := c_3
        refine zs_lv [0, 1, 2] rfl ?_
        exact hk i sc s he hfz hwi (by rw [← hG]; exact (wgL_y hy (20 - i)).symm)
      · refine zs_aload_n dX1_weigh_29 rfl rfl ?_
        refine zs_iconst (v := (-1)) dX1_weigh_30 (by decide) ?_
        refine zs_iconst (v := nI 0) dX1_weigh_31 (by decide) ?_
        refine zs_callV (M := mX2_passMinute) (As := [.int (-1), .int (nI 0)]) (st := []) (Kc := [(t, .inr (1, fFire ad sc)), (ad 1, .inl (0, 64, .inl (s.1))), (ad 2, .inl (0, 64, .inl (s.2.1))), (ad 3, .inl (1, 64, .inl (s.2.2))), (ad 4, .inl (0, 64, .inl he)), (ad 5, .inl (0, 60, .inl se))]) (Kr := [(a, .inr (0, fSr ar M v ss.1)), (ar 2, .inl (0, 3, .inl (ss.2.1))), (ar 3, .inl (0, 3, .inl (ss.2.2)))]) [3, 4, 5, 6, 7, 8] [0, 1, 2] 0 dX1_weigh_32 zl_RX1_67 kX2_passMinute rfl rfl rfl rfl rfl (by decide) rfl rfl (show dd - 1 + 1 ≤ dd by omega) (Nat.zero_le _) (Nat.zero_le _) (Nat.le_of_ble_eq_true rfl) (s_minute l (dd - 1) t ad C R sc s he se (-1) (nI 0) wi (by omega) hfz hwi) (fun r K1 hr => ?_)
        obtain ⟨rfl, he1, rfl⟩ := hr
        refine zs_K (K' := [(a, .inr (0, fSr ar M v ss.1)), (ar 2, .inl (0, 3, .inl (ss.2.1))), (ar 3, .inl (0, 3, .inl (ss.2.2))), (t, .inr (1, fFire ad (upd (upd sc 9 (mBn C R wi s (-1) (nI 0))) 10 (sc 10 + mLs C R s (-1) (nI 0))))), (ad 1, .inl (0, 64, .inl ((mMin C R wi s (-1) (nI 0)).1))), (ad 2, .inl (0, 64, .inl ((mMin C R wi s (-1) (nI 0)).2.1))), (ad 3, .inl (1, 64, .inl ((mMin C R wi s (-1) (nI 0)).2.2))), (ad 4, .inl (0, 64, .inl he1)), (ad 5, .inl (0, 60, .inl se))]) [0, 1, 2, 3, 4, 5, 6, 7, 8] rfl (by decide) ?_
        refine zs_iinc (v := (nI (i + 1))) (lv' := [(2, .int (nI (i + 1))), (0, .ref a), (1, .ref t)]) dX1_weigh_35 rfl (nI_add _ 1) (Nat.le_of_ble_eq_true rfl) rfl ?_
        refine zs_goto (tgt := 5) dX1_weigh_38 (by decide) ?_
        refine zs_lv [1, 2, 0] rfl ?_
        exact ih (i + 1) _ _ _ (by omega) ⟨hfz.1, hfz.2.1, hfz.2.2.1, hfz.2.2.2.1, hfz.2.2.2.2⟩ hwi (by rw [← hG, show 20 - i = (20 - (i + 1)) + 1 by omega]; simp only [wgL]; rw [if_neg (show ¬ sc 9 ≤ 0 from c_2), if_neg (show ¬ ss.1 ≤ sc 10 from c_3)]; rfl)
set_option maxRecDepth 100000 in
theorem s_weigh (l : Launch) (dd : Nat) (a : Nat) (ar : Nat → Nat) (T : Nat → Nat) (t : Nat) (ad : Nat → Nat) (C R M : Nat) (wi v : Int32) (ss : zSs) (se : Nat → Int32) (X : zFc) (hd : 3 ≤ dd) (hM : M ≤ 3) (hfz : zFh C R X.1) (hwi : X.1 3 = wi) : zSp l mX1_weigh dd 0 0 [.ref a, .ref t] [(a, .inr (0, fSr ar M v ss.1)), (ar 2, .inl (0, 3, .inl (ss.2.1))), (ar 3, .inl (0, 3, .inl (ss.2.2))), (t, .inr (1, fFire ad X.1)), (ad 1, .inl (0, 64, .inl (X.2.1.1))), (ad 2, .inl (0, 64, .inl (X.2.1.2.1))), (ad 3, .inl (1, 64, .inl (X.2.1.2.2))), (ad 4, .inl (0, 64, .inl (X.2.2))), (ad 5, .inl (0, 60, .inl se))] (fun r K' => r = none ∧ ∃ X' : zFc, K' = [(a, .inr (0, fSr ar M v (wgh C R wi M X.f ss).1)), (ar 2, .inl (0, 3, .inl (wgh C R wi M X.f ss).2.1)), (ar 3, .inl (0, 3, .inl (wgh C R wi M X.f ss).2.2))] ++ kFc t ad X' se) := by
  refine zSp.of (by decide) (Nat.le_of_ble_eq_true rfl) (fun h0 => ?_)
  show zS _ 0 0 0 [(0, .ref a), (1, .ref t)] [] [(a, .inr (0, fSr ar M v ss.1)), (ar 2, .inl (0, 3, .inl (ss.2.1))), (ar 3, .inl (0, 3, .inl (ss.2.2))), (t, .inr (1, fFire ad X.1)), (ad 1, .inl (0, 64, .inl (X.2.1.1))), (ad 2, .inl (0, 64, .inl (X.2.1.2.1))), (ad 3, .inl (1, 64, .inl (X.2.1.2.2))), (ad 4, .inl (0, 64, .inl (X.2.2))), (ad 5, .inl (0, 60, .inl se))]
  refine zs_aload_n dX1_weigh_0 rfl rfl ?_
  refine zs_get 0 dX1_weigh_1 zf_RX1_25 rfl (v := .int (nI M)) rfl ?_
  refine zs_istore_n (lv' := [(2, .int (nI M)), (0, .ref a), (1, .ref t)]) dX1_weigh_4 (Nat.le_of_ble_eq_true rfl) rfl ?_
  refine zs_lv [1, 2, 0] rfl ?_
  refine lp_wgh a ar T t ad C R M wi v ss se hd (wgL C R wi ss.1 (20 - M) X.f) (fun i sc s he hfz hwi hG => ?_) (20 - M) M X.1 X.2.1 X.2.2 (by omega) hfz hwi rfl
  have hG1 : sc 10 = (wgL C R wi ss.1 (20 - M) X.f).2.1 := congrArg (fun z : zF1 => z.2.1) hG
  refine zs_aload_n dX1_weigh_41 rfl rfl ?_
  refine zs_get 3 dX1_weigh_42 zf_RX1_46 rfl (v := .int (sc 10)) rfl ?_
  refine zs_aload_n dX1_weigh_45 rfl rfl ?_
  refine zs_get 0 dX1_weigh_46 zf_RX1_35 rfl (v := .int ss.1) rfl ?_
  refine zs_icmp_ge (tgt := 74) dX1_weigh_49 (by decide) (fun c_1 => ?_) (fun c_1 => ?_)
  · exact zs_vret dX1_weigh_74 rfl ⟨rfl, (sc, s, he), by rw [wgh, if_pos (by rw [← hG1]; exact c_1)]; rfl⟩
  · refine zs_aload_n dX1_weigh_52 rfl rfl ?_
    refine zs_aload_n dX1_weigh_53 rfl rfl ?_
    refine zs_get 3 dX1_weigh_54 zf_RX1_46 rfl (v := .int (sc 10)) rfl ?_
    refine zs_put 0 dX1_weigh_57 zf_RX1_35 rfl (Nat.le_of_ble_eq_true rfl) (zPv_i _) ?_
    show zS _ _ _ _ _ _ [(a, .inr (0, fSr ar M v (sc 10))), (ar 2, .inl (0, 3, .inl (ss.2.1))), (ar 3, .inl (0, 3, .inl (ss.2.2))), (t, .inr (1, fFire ad sc)), (ad 1, .inl (0, 64, .inl (s.1))), (ad 2, .inl (0, 64, .inl (s.2.1))), (ad 3, .inl (1, 64, .inl (s.2.2))), (ad 4, .inl (0, 64, .inl he)), (ad 5, .inl (0, 60, .inl se))]
    refine zs_aload_n dX1_weigh_60 rfl rfl ?_
    refine zs_get 0 dX1_weigh_61 zf_RX1_18 rfl (v := .ref (ar 2)) rfl ?_
    refine zs_iconst (v := nI 0) dX1_weigh_64 (by decide) ?_
    refine zs_aload_n dX1_weigh_65 rfl rfl ?_
    refine zs_get 0 dX1_weigh_66 zf_RX1_22 rfl (v := .ref (ar 3)) rfl ?_
    refine zs_iconst (v := nI 0) dX1_weigh_69 (by decide) ?_
    refine zs_iconst (v := nI 3) dX1_weigh_70 (by decide) ?_
    refine zs_copy 1 2 dX1_weigh_71 zl_RX1_80 zcpy1 zcpy2 zcpy3 (show 1 ≤ dd by omega) (Nat.le_of_ble_eq_true rfl) rfl rfl (by decide) (by decide) (by decide) (by decide) (by decide) ?_
    show zS _ _ _ _ _ _ [(a, .inr (0, fSr ar M v (sc 10))), (ar 2, .inl (0, 3, .inl (ss.2.1))), (ar 3, .inl (0, 3, .inl (va_cpy (ss.2.1) (ss.2.2) (nI 0).toNatClampNeg (nI 0).toNatClampNeg (nI 3).toNatClampNeg))), (t, .inr (1, fFire ad sc)), (ad 1, .inl (0, 64, .inl (s.1))), (ad 2, .inl (0, 64, .inl (s.2.1))), (ad 3, .inl (1, 64, .inl (s.2.2))), (ad 4, .inl (0, 64, .inl he)), (ad 5, .inl (0, 60, .inl se))]
    rw [show (nI 0).toNatClampNeg = 0 from rfl, show (nI 3).toNatClampNeg = 3 from rfl, va_cpy_0]
    show zS _ _ _ _ _ _ [(a, .inr (0, fSr ar M v (sc 10))), (ar 2, .inl (0, 3, .inl (ss.2.1))), (ar 3, .inl (0, 3, .inl (pCl (ss.2.1) (ss.2.2) 3))), (t, .inr (1, fFire ad sc)), (ad 1, .inl (0, 64, .inl (s.1))), (ad 2, .inl (0, 64, .inl (s.2.1))), (ad 3, .inl (1, 64, .inl (s.2.2))), (ad 4, .inl (0, 64, .inl he)), (ad 5, .inl (0, 60, .inl se))]
    exact zs_vret dX1_weigh_74 rfl ⟨rfl, (sc, s, he), by rw [wgh, if_neg (by rw [← hG1]; exact c_1), ← hG1]; rfl⟩
theorem dX1_aimOf_0 : decode cX1_aimOf 0 = .ok (.iload_n 0, 1) := by decide +kernel
theorem dX1_aimOf_1 : decode cX1_aimOf 1 = .ok (.iconst (-1), 1) := by decide +kernel
theorem dX1_aimOf_2 : decode cX1_aimOf 2 = .ok (.if_icmp .eq 7, 3) := by decide +kernel
theorem dX1_aimOf_5 : decode cX1_aimOf 5 = .ok (.iload_n 1, 1) := by decide +kernel
theorem dX1_aimOf_6 : decode cX1_aimOf 6 = .ok (.ifCond .gt 5, 3) := by decide +kernel
theorem dX1_aimOf_9 : decode cX1_aimOf 9 = .ok (.iconst 0, 1) := by decide +kernel
theorem dX1_aimOf_10 : decode cX1_aimOf 10 = .ok (.ireturn, 1) := by decide +kernel
theorem dX1_aimOf_11 : decode cX1_aimOf 11 = .ok (.bipush 100, 2) := by decide +kernel
theorem dX1_aimOf_13 : decode cX1_aimOf 13 = .ok (.iload_n 0, 1) := by decide +kernel
theorem dX1_aimOf_14 : decode cX1_aimOf 14 = .ok (.iload_n 1, 1) := by decide +kernel
theorem dX1_aimOf_15 : decode cX1_aimOf 15 = .ok (.idiv, 1) := by decide +kernel
theorem dX1_aimOf_16 : decode cX1_aimOf 16 = .ok (.bipush 10, 2) := by decide +kernel
theorem dX1_aimOf_18 : decode cX1_aimOf 18 = .ok (.imul, 1) := by decide +kernel
theorem dX1_aimOf_19 : decode cX1_aimOf 19 = .ok (.iadd, 1) := by decide +kernel
theorem dX1_aimOf_20 : decode cX1_aimOf 20 = .ok (.iload_n 0, 1) := by decide +kernel
theorem dX1_aimOf_21 : decode cX1_aimOf 21 = .ok (.iload_n 1, 1) := by decide +kernel
theorem dX1_aimOf_22 : decode cX1_aimOf 22 = .ok (.irem, 1) := by decide +kernel
theorem dX1_aimOf_23 : decode cX1_aimOf 23 = .ok (.iadd, 1) := by decide +kernel
theorem dX1_aimOf_24 : decode cX1_aimOf 24 = .ok (.ireturn, 1) := by decide +kernel
set_option maxRecDepth 100000 in
theorem s_aimOf (l : Launch) (dd : Nat) (c C : Int32)  : zSp l mX1_aimOf dd 0 0 [.int c, .int C] [] (fun r K' => r = some (.int (aOf c C)) ∧ K' = []) := by
  refine zSp.of (by decide) (Nat.le_of_ble_eq_true rfl) (fun h0 => ?_)
  show zS _ 0 0 0 [(0, .int c), (1, .int C)] [] []
  refine zs_iload_n dX1_aimOf_0 rfl ?_
  refine zs_iconst (v := (-1)) dX1_aimOf_1 (by decide) ?_
  refine zs_icmp_eq (tgt := 9) dX1_aimOf_2 (by decide) (fun c_1 => ?_) (fun c_1 => ?_)
  · refine zs_iconst (v := nI 0) dX1_aimOf_9 (by decide) ?_
    exact zs_iret dX1_aimOf_10 rfl ⟨congrArg (fun z => some (Value.int z)) (by unfold aOf; simp only [if_pos c_1]; try rfl), rfl⟩
  · refine zs_iload_n dX1_aimOf_5 rfl ?_
    refine zs_if_gt (tgt := 11) dX1_aimOf_6 (by decide) (fun c_2 => ?_) (fun c_2 => ?_)
    · refine zs_bipush (v := nI 100) dX1_aimOf_11 (by decide) ?_
      refine zs_iload_n dX1_aimOf_13 rfl ?_
      refine zs_iload_n dX1_aimOf_14 rfl ?_
      refine zs_idiv dX1_aimOf_15 (fun hz => by grind) ?_
      refine zs_bipush (v := nI 10) dX1_aimOf_16 (by decide) ?_
      refine zs_imul dX1_aimOf_18 ?_
      refine zs_iadd dX1_aimOf_19 ?_
      refine zs_iload_n dX1_aimOf_20 rfl ?_
      refine zs_iload_n dX1_aimOf_21 rfl ?_
      refine zs_irem dX1_aimOf_22 (fun hz => by grind) ?_
      refine zs_iadd dX1_aimOf_23 ?_
      exact zs_iret dX1_aimOf_24 rfl ⟨congrArg (fun z => some (Value.int z)) (by unfold aOf; simp only [if_neg c_1, if_neg (Int32.not_le.mpr c_2)]; try rfl), rfl⟩
    · refine zs_iconst (v := nI 0) dX1_aimOf_9 (by decide) ?_
      exact zs_iret dX1_aimOf_10 rfl ⟨congrArg (fun z => some (Value.int z)) (by unfold aOf; simp only [if_neg c_1, if_pos (Int32.not_lt.mp c_2)]; try rfl), rfl⟩
theorem dX1_choose_0 : decode cX1_choose 0 = .ok (.iload_n 1, 1) := by decide +kernel
theorem dX1_choose_1 : decode cX1_choose 1 = .ok (.ifCond .lt 24, 3) := by decide +kernel
theorem dX1_choose_4 : decode cX1_choose 4 = .ok (.iload_n 1, 1) := by decide +kernel
theorem dX1_choose_5 : decode cX1_choose 5 = .ok (.iconst 3, 1) := by decide +kernel
theorem dX1_choose_6 : decode cX1_choose 6 = .ok (.if_icmp .gt 19, 3) := by decide +kernel
theorem dX1_choose_9 : decode cX1_choose 9 = .ok (.aload_n 0, 1) := by decide +kernel
theorem dX1_choose_10 : decode cX1_choose 10 = .ok (.getfield 11, 3) := by decide +kernel
theorem dX1_choose_13 : decode cX1_choose 13 = .ok (.iload_n 1, 1) := by decide +kernel
theorem dX1_choose_14 : decode cX1_choose 14 = .ok (.aaload, 1) := by decide +kernel
theorem dX1_choose_15 : decode cX1_choose 15 = .ok (.getfield 46, 3) := by decide +kernel
theorem dX1_choose_18 : decode cX1_choose 18 = .ok (.aload_n 0, 1) := by decide +kernel
theorem dX1_choose_19 : decode cX1_choose 19 = .ok (.getfield 35, 3) := by decide +kernel
theorem dX1_choose_22 : decode cX1_choose 22 = .ok (.if_icmp .lt 4, 3) := by decide +kernel
theorem dX1_choose_25 : decode cX1_choose 25 = .ok (.return_, 1) := by decide +kernel
theorem dX1_choose_26 : decode cX1_choose 26 = .ok (.aload_n 0, 1) := by decide +kernel
theorem dX1_choose_27 : decode cX1_choose 27 = .ok (.getfield 11, 3) := by decide +kernel
theorem dX1_choose_30 : decode cX1_choose 30 = .ok (.iload_n 1, 1) := by decide +kernel
theorem dX1_choose_31 : decode cX1_choose 31 = .ok (.aaload, 1) := by decide +kernel
theorem dX1_choose_32 : decode cX1_choose 32 = .ok (.astore_n 2, 1) := by decide +kernel
theorem dX1_choose_33 : decode cX1_choose 33 = .ok (.iload_n 1, 1) := by decide +kernel
theorem dX1_choose_34 : decode cX1_choose 34 = .ok (.aload_n 0, 1) := by decide +kernel
theorem dX1_choose_35 : decode cX1_choose 35 = .ok (.getfield 25, 3) := by decide +kernel
theorem dX1_choose_38 : decode cX1_choose 38 = .ok (.if_icmp .lt 9, 3) := by decide +kernel
theorem dX1_choose_41 : decode cX1_choose 41 = .ok (.aload_n 0, 1) := by decide +kernel
theorem dX1_choose_42 : decode cX1_choose 42 = .ok (.aload_n 2, 1) := by decide +kernel
theorem dX1_choose_43 : decode cX1_choose 43 = .ok (.invokevirtual 49, 3) := by decide +kernel
theorem dX1_choose_46 : decode cX1_choose 46 = .ok (.return_, 1) := by decide +kernel
theorem dX1_choose_47 : decode cX1_choose 47 = .ok (.iconst 0, 1) := by decide +kernel
theorem dX1_choose_48 : decode cX1_choose 48 = .ok (.istore_n 3, 1) := by decide +kernel
theorem dX1_choose_49 : decode cX1_choose 49 = .ok (.iconst 0, 1) := by decide +kernel
theorem dX1_choose_50 : decode cX1_choose 50 = .ok (.istore 4, 2) := by decide +kernel
theorem dX1_choose_52 : decode cX1_choose 52 = .ok (.iload 4, 2) := by decide +kernel
theorem dX1_choose_54 : decode cX1_choose 54 = .ok (.aload_n 2, 1) := by decide +kernel
theorem dX1_choose_55 : decode cX1_choose 55 = .ok (.getfield 53, 3) := by decide +kernel
theorem dX1_choose_58 : decode cX1_choose 58 = .ok (.if_icmp .ge 35, 3) := by decide +kernel
theorem dX1_choose_61 : decode cX1_choose 61 = .ok (.iload_n 3, 1) := by decide +kernel
theorem dX1_choose_62 : decode cX1_choose 62 = .ok (.bipush 8, 2) := by decide +kernel
theorem dX1_choose_64 : decode cX1_choose 64 = .ok (.if_icmp .ge 29, 3) := by decide +kernel
theorem dX1_choose_67 : decode cX1_choose 67 = .ok (.aload_n 2, 1) := by decide +kernel
theorem dX1_choose_68 : decode cX1_choose 68 = .ok (.getfield 56, 3) := by decide +kernel
theorem dX1_choose_71 : decode cX1_choose 71 = .ok (.iload 4, 2) := by decide +kernel
theorem dX1_choose_73 : decode cX1_choose 73 = .ok (.baload, 1) := by decide +kernel
theorem dX1_choose_74 : decode cX1_choose 74 = .ok (.ifCond .eq 13, 3) := by decide +kernel
theorem dX1_choose_77 : decode cX1_choose 77 = .ok (.iinc 3 1, 3) := by decide +kernel
theorem dX1_choose_80 : decode cX1_choose 80 = .ok (.aload_n 0, 1) := by decide +kernel
theorem dX1_choose_81 : decode cX1_choose 81 = .ok (.iload_n 1, 1) := by decide +kernel
theorem dX1_choose_82 : decode cX1_choose 82 = .ok (.iload 4, 2) := by decide +kernel
theorem dX1_choose_84 : decode cX1_choose 84 = .ok (.invokevirtual 60, 3) := by decide +kernel
theorem dX1_choose_87 : decode cX1_choose 87 = .ok (.iinc 4 1, 3) := by decide +kernel
theorem dX1_choose_90 : decode cX1_choose 90 = .ok (.goto (-38), 3) := by decide +kernel
theorem dX1_choose_93 : decode cX1_choose 93 = .ok (.aload_n 0, 1) := by decide +kernel
theorem dX1_choose_94 : decode cX1_choose 94 = .ok (.iload_n 1, 1) := by decide +kernel
theorem dX1_choose_95 : decode cX1_choose 95 = .ok (.iconst (-1), 1) := by decide +kernel
theorem dX1_choose_96 : decode cX1_choose 96 = .ok (.invokevirtual 60, 3) := by decide +kernel
theorem dX1_choose_99 : decode cX1_choose 99 = .ok (.return_, 1) := by decide +kernel
theorem dX1_follow_0 : decode cX1_follow 0 = .ok (.aload_n 0, 1) := by decide +kernel
theorem dX1_follow_1 : decode cX1_follow 1 = .ok (.getfield 11, 3) := by decide +kernel
theorem dX1_follow_4 : decode cX1_follow 4 = .ok (.iload_n 1, 1) := by decide +kernel
theorem dX1_follow_5 : decode cX1_follow 5 = .ok (.iconst 1, 1) := by decide +kernel
theorem dX1_follow_6 : decode cX1_follow 6 = .ok (.iadd, 1) := by decide +kernel
theorem dX1_follow_7 : decode cX1_follow 7 = .ok (.aaload, 1) := by decide +kernel
theorem dX1_follow_8 : decode cX1_follow 8 = .ok (.astore_n 3, 1) := by decide +kernel
theorem dX1_follow_9 : decode cX1_follow 9 = .ok (.aload_n 3, 1) := by decide +kernel
theorem dX1_follow_10 : decode cX1_follow 10 = .ok (.aload_n 0, 1) := by decide +kernel
theorem dX1_follow_11 : decode cX1_follow 11 = .ok (.getfield 11, 3) := by decide +kernel
theorem dX1_follow_14 : decode cX1_follow 14 = .ok (.iload_n 1, 1) := by decide +kernel
theorem dX1_follow_15 : decode cX1_follow 15 = .ok (.aaload, 1) := by decide +kernel
theorem dX1_follow_16 : decode cX1_follow 16 = .ok (.invokevirtual 64, 3) := by decide +kernel
theorem dX1_follow_19 : decode cX1_follow 19 = .ok (.aload_n 3, 1) := by decide +kernel
theorem dX1_follow_20 : decode cX1_follow 20 = .ok (.iload_n 2, 1) := by decide +kernel
theorem dX1_follow_21 : decode cX1_follow 21 = .ok (.aload_n 0, 1) := by decide +kernel
theorem dX1_follow_22 : decode cX1_follow 22 = .ok (.getfield 29, 3) := by decide +kernel
theorem dX1_follow_25 : decode cX1_follow 25 = .ok (.invokevirtual 67, 3) := by decide +kernel
theorem dX1_follow_28 : decode cX1_follow 28 = .ok (.aload_n 0, 1) := by decide +kernel
theorem dX1_follow_29 : decode cX1_follow 29 = .ok (.getfield 18, 3) := by decide +kernel
theorem dX1_follow_32 : decode cX1_follow 32 = .ok (.iload_n 1, 1) := by decide +kernel
theorem dX1_follow_33 : decode cX1_follow 33 = .ok (.iload_n 2, 1) := by decide +kernel
theorem dX1_follow_34 : decode cX1_follow 34 = .ok (.aload_n 3, 1) := by decide +kernel
theorem dX1_follow_35 : decode cX1_follow 35 = .ok (.getfield 70, 3) := by decide +kernel
theorem dX1_follow_38 : decode cX1_follow 38 = .ok (.invokestatic 73, 3) := by decide +kernel
theorem dX1_follow_41 : decode cX1_follow 41 = .ok (.iastore, 1) := by decide +kernel
theorem dX1_follow_42 : decode cX1_follow 42 = .ok (.aload_n 0, 1) := by decide +kernel
theorem dX1_follow_43 : decode cX1_follow 43 = .ok (.iload_n 1, 1) := by decide +kernel
theorem dX1_follow_44 : decode cX1_follow 44 = .ok (.iconst 1, 1) := by decide +kernel
theorem dX1_follow_45 : decode cX1_follow 45 = .ok (.iadd, 1) := by decide +kernel
theorem dX1_follow_46 : decode cX1_follow 46 = .ok (.invokevirtual 42, 3) := by decide +kernel
theorem dX1_follow_49 : decode cX1_follow 49 = .ok (.return_, 1) := by decide +kernel
set_option maxRecDepth 100000 in
theorem s_cho3 (l : Launch) (dd : Nat) (a : Nat) (ar : Nat → Nat) (T : Nat → Nat) (AD : Nat → Nat → Nat) (C R M : Nat) (wi v : Int32) (ss : zSs) (SE : Nat → (Nat → Int32)) (X : Nat → zFc) (hd : 4 ≤ dd) (hM : M ≤ 3) (hC : C ≤ 64) (hfz : zFh C R (X 3).1) (hwi : (X 3).1 3 = wi) (h01 : ∀ j, j < C * R → (X 3).2.1.2.2 j = 0 ∨ (X 3).2.1.2.2 j = 1) : zSp l mX1_choose dd 0 0 [.ref a, .int (nI 3)] [(a, .inr (0, fSr ar M v ss.1)), (ar 1, .inl (4, 4, .inr (.inr (.inr (.inr (fun j => some (T j))))))), (ar 2, .inl (0, 3, .inl (ss.2.1))), (ar 3, .inl (0, 3, .inl (ss.2.2))), ((T 3), .inr (1, fFire (AD 3) (X 3).1)), ((AD 3) 1, .inl (0, 64, .inl ((X 3).2.1.1))), ((AD 3) 2, .inl (0, 64, .inl ((X 3).2.1.2.1))), ((AD 3) 3, .inl (1, 64, .inl ((X 3).2.1.2.2))), ((AD 3) 4, .inl (0, 64, .inl ((X 3).2.2))), ((AD 3) 5, .inl (0, 60, .inl (SE 3)))] (fun r K' => r = none ∧ ∃ X' : Nat → zFc, (M ≤ 3 ∨ X' 3 = X 3) ∧ K' = kSr a ar T M v (chA C R wi v M 0 (X 3).f ss) ++ (kFc (T 3) (AD 3) (X' 3) (SE 3))) := by
  refine zSp.of (by decide) (Nat.le_of_ble_eq_true rfl) (fun h0 => ?_)
  show zS _ 0 0 0 [(0, .ref a), (1, .int (nI 3))] [] [(a, .inr (0, fSr ar M v ss.1)), (ar 1, .inl (4, 4, .inr (.inr (.inr (.inr (fun j => some (T j))))))), (ar 2, .inl (0, 3, .inl (ss.2.1))), (ar 3, .inl (0, 3, .inl (ss.2.2))), ((T 3), .inr (1, fFire (AD 3) (X 3).1)), ((AD 3) 1, .inl (0, 64, .inl ((X 3).2.1.1))), ((AD 3) 2, .inl (0, 64, .inl ((X 3).2.1.2.1))), ((AD 3) 3, .inl (1, 64, .inl ((X 3).2.1.2.2))), ((AD 3) 4, .inl (0, 64, .inl ((X 3).2.2))), ((AD 3) 5, .inl (0, 60, .inl (SE 3)))]
  refine zs_iload_n dX1_choose_0 rfl ?_
  refine zs_if_lt (tgt := 25) dX1_choose_1 (by decide) (fun c_1 => (absurd c_1 (by decide) : False).elim) (fun c_1 => ?_)
  refine zs_iload_n dX1_choose_4 rfl ?_
  refine zs_iconst (v := nI 3) dX1_choose_5 (by decide) ?_
  refine zs_icmp_gt (tgt := 25) dX1_choose_6 (by decide) (fun c_2 => (absurd c_2 (by decide) : False).elim) (fun c_2 => ?_)
  refine zs_aload_n dX1_choose_9 rfl rfl ?_
  refine zs_get 0 dX1_choose_10 zf_RX1_11 rfl (v := .ref (ar 1)) rfl ?_
  refine zs_iload_n dX1_choose_13 rfl ?_
  refine zs_aald4 (b := (T 3)) 1 dX1_choose_14 rfl (vp_in_nI (by decide) (by decide)) (congrArg (fun k => some (T k)) (nI_c (n := 3) (by decide))) ?_
  refine zs_get 4 dX1_choose_15 zf_RX1_46 rfl (v := .int ((X 3).1 10)) rfl ?_
  refine zs_aload_n dX1_choose_18 rfl rfl ?_
  refine zs_get 0 dX1_choose_19 zf_RX1_35 rfl (v := .int ss.1) rfl ?_
  refine zs_icmp_lt (tgt := 26) dX1_choose_22 (by decide) (fun c_3 => ?_) (fun c_3 => ?_)
  · refine zs_aload_n dX1_choose_26 rfl rfl ?_
    refine zs_get 0 dX1_choose_27 zf_RX1_11 rfl (v := .ref (ar 1)) rfl ?_
    refine zs_iload_n dX1_choose_30 rfl ?_
    refine zs_aald4 (b := (T 3)) 1 dX1_choose_31 rfl (vp_in_nI (by decide) (by decide)) (congrArg (fun k => some (T k)) (nI_c (n := 3) (by decide))) ?_
    refine zs_astore_n (lv' := [(2, .ref (T 3)), (0, .ref a), (1, .int (nI 3))]) dX1_choose_32 (Nat.le_of_ble_eq_true rfl) rfl rfl ?_
    refine zs_iload_n dX1_choose_33 rfl ?_
    refine zs_aload_n dX1_choose_34 rfl rfl ?_
    refine zs_get 0 dX1_choose_35 zf_RX1_25 rfl (v := .int (nI M)) rfl ?_
    refine zs_icmp_lt (tgt := 47) dX1_choose_38 (by decide) (fun c_4 => (absurd c_4 (by rw [nI_lt' (by decide) (by omega)]; omega) : False).elim) (fun c_4 => ?_)
    refine zs_aload_n dX1_choose_41 rfl rfl ?_
    refine zs_aload_n dX1_choose_42 rfl rfl ?_
    refine zs_callV (M := mX1_weigh) (As := [.ref (T 3)]) (st := []) (Kc := [(a, .inr (0, fSr ar M v ss.1)), (ar 2, .inl (0, 3, .inl (ss.2.1))), (ar 3, .inl (0, 3, .inl (ss.2.2))), ((T 3), .inr (1, fFire (AD 3) (X 3).1)), ((AD 3) 1, .inl (0, 64, .inl ((X 3).2.1.1))), ((AD 3) 2, .inl (0, 64, .inl ((X 3).2.1.2.1))), ((AD 3) 3, .inl (1, 64, .inl ((X 3).2.1.2.2))), ((AD 3) 4, .inl (0, 64, .inl ((X 3).2.2))), ((AD 3) 5, .inl (0, 60, .inl (SE 3)))]) (Kr := [(ar 1, .inl (4, 4, .inr (.inr (.inr (.inr (fun j => some (T j)))))))]) [0, 2, 3, 4, 5, 6, 7, 8, 9] [1] 0 dX1_choose_43 zl_RX1_49 kX1_weigh rfl rfl rfl rfl rfl (by decide) rfl rfl (show dd - 1 + 1 ≤ dd by omega) (Nat.zero_le _) (Nat.zero_le _) (Nat.le_of_ble_eq_true rfl) (s_weigh l (dd - 1) a ar T (T 3) (AD 3) C R M wi v ss (SE 3) (X 3) (by omega) hM hfz hwi) (fun r K1 hr => ?_)
    obtain ⟨rfl, X1, rfl⟩ := hr
    refine zs_K (K' := [(a, .inr (0, fSr ar M v (wgh C R wi M (X 3).f ss).1)), (ar 1, .inl (4, 4, .inr (.inr (.inr (.inr (fun j => some (T j))))))), (ar 2, .inl (0, 3, .inl ((wgh C R wi M (X 3).f ss).2.1))), (ar 3, .inl (0, 3, .inl ((wgh C R wi M (X 3).f ss).2.2))), ((T 3), .inr (1, fFire (AD 3) X1.1)), ((AD 3) 1, .inl (0, 64, .inl (X1.2.1.1))), ((AD 3) 2, .inl (0, 64, .inl (X1.2.1.2.1))), ((AD 3) 3, .inl (1, 64, .inl (X1.2.1.2.2))), ((AD 3) 4, .inl (0, 64, .inl (X1.2.2))), ((AD 3) 5, .inl (0, 60, .inl (SE 3)))]) [1, 0, 2, 3, 4, 5, 6, 7, 8, 9] rfl (by decide) ?_
    exact zs_vret dX1_choose_46 rfl ⟨rfl, fun j => if j = 3 then X1 else X j, Or.inl hM, by rw [show chA C R wi v M 0 (X 3).f ss = wgh C R wi M (X 3).f ss from (if_neg (show ¬ ss.1 ≤ (X 3).1 10 from (Int32.not_le.mpr c_3))).trans (if_pos hM)]; rfl⟩
  · exact zs_vret dX1_choose_25 rfl ⟨rfl, X, Or.inr rfl, by rw [show chA C R wi v M 0 (X 3).f ss = ss from if_pos (show ss.1 ≤ (X 3).1 10 from (Int32.not_lt.mp c_3))]; rfl⟩
set_option maxRecDepth 100000 in
theorem s_fol2 (l : Launch) (dd : Nat) (a : Nat) (ar : Nat → Nat) (T : Nat → Nat) (AD : Nat → Nat → Nat) (C R M : Nat) (wi v : Int32) (ss : zSs) (SE : Nat → (Nat → Int32)) (X : Nat → zFc) (c : Int32) (hd : 5 ≤ dd) (hM : M ≤ 3) (hC : C ≤ 64) (hfz : zFh C R (X 2).1) (hwi : (X 2).1 3 = wi) (h01 : ∀ j, j < C * R → (X 2).2.1.2.2 j = 0 ∨ (X 2).2.1.2.2 j = 1) : zSp l mX1_follow dd 0 0 [.ref a, .int (nI 2), .int c] [(a, .inr (0, fSr ar M v ss.1)), (ar 1, .inl (4, 4, .inr (.inr (.inr (.inr (fun j => some (T j))))))), (ar 2, .inl (0, 3, .inl (ss.2.1))), (ar 3, .inl (0, 3, .inl (ss.2.2))), ((T 2), .inr (1, fFire (AD 2) (X 2).1)), ((AD 2) 1, .inl (0, 64, .inl ((X 2).2.1.1))), ((AD 2) 2, .inl (0, 64, .inl ((X 2).2.1.2.1))), ((AD 2) 3, .inl (1, 64, .inl ((X 2).2.1.2.2))), ((AD 2) 4, .inl (0, 64, .inl ((X 2).2.2))), ((AD 2) 5, .inl (0, 60, .inl (SE 2))), ((T 3), .inr (1, fFire (AD 3) (X 3).1)), ((AD 3) 1, .inl (0, 64, .inl ((X 3).2.1.1))), ((AD 3) 2, .inl (0, 64, .inl ((X 3).2.1.2.1))), ((AD 3) 3, .inl (1, 64, .inl ((X 3).2.1.2.2))), ((AD 3) 4, .inl (0, 64, .inl ((X 3).2.2))), ((AD 3) 5, .inl (0, 60, .inl (SE 3)))] (fun r K' => r = none ∧ ∃ X' : Nat → zFc, X' 2 = X 2 ∧ K' = kSr a ar T M v (foW C R wi v (chA C R wi v M 0) 2 (X 2).f c ss) ++ (kFc (T 2) (AD 2) (X' 2) (SE 2) ++ (kFc (T 3) (AD 3) (X' 3) (SE 3)))) := by
  refine zSp.of (by decide) (Nat.le_of_ble_eq_true rfl) (fun h0 => ?_)
  show zS _ 0 0 0 [(0, .ref a), (1, .int (nI 2)), (2, .int c)] [] [(a, .inr (0, fSr ar M v ss.1)), (ar 1, .inl (4, 4, .inr (.inr (.inr (.inr (fun j => some (T j))))))), (ar 2, .inl (0, 3, .inl (ss.2.1))), (ar 3, .inl (0, 3, .inl (ss.2.2))), ((T 2), .inr (1, fFire (AD 2) (X 2).1)), ((AD 2) 1, .inl (0, 64, .inl ((X 2).2.1.1))), ((AD 2) 2, .inl (0, 64, .inl ((X 2).2.1.2.1))), ((AD 2) 3, .inl (1, 64, .inl ((X 2).2.1.2.2))), ((AD 2) 4, .inl (0, 64, .inl ((X 2).2.2))), ((AD 2) 5, .inl (0, 60, .inl (SE 2))), ((T 3), .inr (1, fFire (AD 3) (X 3).1)), ((AD 3) 1, .inl (0, 64, .inl ((X 3).2.1.1))), ((AD 3) 2, .inl (0, 64, .inl ((X 3).2.1.2.1))), ((AD 3) 3, .inl (1, 64, .inl ((X 3).2.1.2.2))), ((AD 3) 4, .inl (0, 64, .inl ((X 3).2.2))), ((AD 3) 5, .inl (0, 60, .inl (SE 3)))]
  refine zs_aload_n dX1_follow_0 rfl rfl ?_
  refine zs_get 0 dX1_follow_1 zf_RX1_11 rfl (v := .ref (ar 1)) rfl ?_
  refine zs_iload_n dX1_follow_4 rfl ?_
  refine zs_iconst (v := nI 1) dX1_follow_5 (by decide) ?_
  refine zs_iadd dX1_follow_6 ?_
  refine zs_as (y := nI 3) rfl ?_
  refine zs_aald4 (b := (T 3)) 1 dX1_follow_7 rfl (vp_in_nI (by decide) (by decide)) (congrArg (fun k => some (T k)) (nI_c (n := 3) (by decide))) ?_
  refine zs_astore_n (lv' := [(3, .ref (T 3)), (0, .ref a), (1, .int (nI 2)), (2, .int c)]) dX1_follow_8 (Nat.le_of_ble_eq_true rfl) rfl rfl ?_
  refine zs_aload_n dX1_follow_9 rfl rfl ?_
  refine zs_aload_n dX1_follow_10 rfl rfl ?_
  refine zs_get 0 dX1_follow_11 zf_RX1_11 rfl (v := .ref (ar 1)) rfl ?_
  refine zs_iload_n dX1_follow_14 rfl ?_
  refine zs_aald4 (b := (T 2)) 1 dX1_follow_15 rfl (vp_in_nI (by decide) (by decide)) (congrArg (fun k => some (T k)) (nI_c (n := 2) (by decide))) ?_
  refine zs_callV (M := mX2_copy) (As := [.ref (T 2)]) (st := []) (Kc := [((T 3), .inr (1, fFire (AD 3) (X 3).1)), ((AD 3) 1, .inl (0, 64, .inl ((X 3).2.1.1))), ((AD 3) 2, .inl (0, 64, .inl ((X 3).2.1.2.1))), ((AD 3) 3, .inl (1, 64, .inl ((X 3).2.1.2.2))), ((AD 3) 4, .inl (0, 64, .inl ((X 3).2.2))), ((AD 3) 5, .inl (0, 60, .inl (SE 3))), ((T 2), .inr (1, fFire (AD 2) (X 2).1)), ((AD 2) 1, .inl (0, 64, .inl ((X 2).2.1.1))), ((AD 2) 2, .inl (0, 64, .inl ((X 2).2.1.2.1))), ((AD 2) 3, .inl (1, 64, .inl ((X 2).2.1.2.2))), ((AD 2) 4, .inl (0, 64, .inl ((X 2).2.2))), ((AD 2) 5, .inl (0, 60, .inl (SE 2)))]) (Kr := [(a, .inr (0, fSr ar M v ss.1)), (ar 1, .inl (4, 4, .inr (.inr (.inr (.inr (fun j => some (T j))))))), (ar 2, .inl (0, 3, .inl (ss.2.1))), (ar 3, .inl (0, 3, .inl (ss.2.2)))]) [10, 11, 12, 13, 14, 15, 4, 5, 6, 7, 8, 9] [0, 1, 2, 3] 0 dX1_follow_16 zl_RX1_64 kX2_copy rfl rfl rfl rfl rfl (by decide) rfl rfl (show dd - 1 + 1 ≤ dd by omega) (Nat.zero_le _) (Nat.zero_le _) (Nat.le_of_ble_eq_true rfl) (s_copyF l (dd - 1) (T 3) (T 2) (AD 3) (AD 2) (C * R) (X 3).1 (X 2).1 (X 3).2.1.1 (X 3).2.1.2.1 (X 3).2.1.2.2 (X 3).2.2 (SE 3) (X 2).2.1.1 (X 2).2.1.2.1 (X 2).2.1.2.2 (X 2).2.2 (SE 2) hfz.2.1 hfz.2.2.2.2 h01) (fun r K1 hr => ?_)
  obtain ⟨rfl, rfl⟩ := hr
  refine zs_K (K' := [(a, .inr (0, fSr ar M v ss.1)), (ar 1, .inl (4, 4, .inr (.inr (.inr (.inr (fun j => some (T j))))))), (ar 2, .inl (0, 3, .inl (ss.2.1))), (ar 3, .inl (0, 3, .inl (ss.2.2))), ((T 2), .inr (1, fFire (AD 2) (X 2).1)), ((AD 2) 1, .inl (0, 64, .inl ((X 2).2.1.1))), ((AD 2) 2, .inl (0, 64, .inl ((X 2).2.1.2.1))), ((AD 2) 3, .inl (1, 64, .inl ((X 2).2.1.2.2))), ((AD 2) 4, .inl (0, 64, .inl ((X 2).2.2))), ((AD 2) 5, .inl (0, 60, .inl (SE 2))), ((T 3), .inr (1, fFire (AD 3) (upd (upd (upd (upd (upd (upd (upd (X 3).1 0 ((X 2).1 0)) 1 ((X 2).1 1)) 2 ((X 2).1 2)) 3 ((X 2).1 3)) 9 ((X 2).1 9)) 10 ((X 2).1 10)) 11 ((X 2).1 11)))), ((AD 3) 1, .inl (0, 64, .inl (pCl (X 2).2.1.1 (X 3).2.1.1 (C * R)))), ((AD 3) 2, .inl (0, 64, .inl (pCl (X 2).2.1.2.1 (X 3).2.1.2.1 (C * R)))), ((AD 3) 3, .inl (1, 64, .inl (pCl (X 2).2.1.2.2 (X 3).2.1.2.2 (C * R)))), ((AD 3) 4, .inl (0, 64, .inl ((X 3).2.2))), ((AD 3) 5, .inl (0, 60, .inl (SE 3)))]) [0, 1, 2, 3, 10, 11, 12, 13, 14, 15, 4, 5, 6, 7, 8, 9] rfl (by decide) ?_
  refine zs_aload_n dX1_follow_19 rfl rfl ?_
  refine zs_iload_n dX1_follow_20 rfl ?_
  refine zs_aload_n dX1_follow_21 rfl rfl ?_
  refine zs_get 0 dX1_follow_22 zf_RX1_29 rfl (v := .int v) rfl ?_
  refine zs_callV (M := mX2_passMinute) (As := [.int c, .int v]) (st := []) (Kc := [((T 3), .inr (1, fFire (AD 3) (upd (upd (upd (upd (upd (upd (upd (X 3).1 0 ((X 2).1 0)) 1 ((X 2).1 1)) 2 ((X 2).1 2)) 3 ((X 2).1 3)) 9 ((X 2).1 9)) 10 ((X 2).1 10)) 11 ((X 2).1 11)))), ((AD 3) 1, .inl (0, 64, .inl (pCl (X 2).2.1.1 (X 3).2.1.1 (C * R)))), ((AD 3) 2, .inl (0, 64, .inl (pCl (X 2).2.1.2.1 (X 3).2.1.2.1 (C * R)))), ((AD 3) 3, .inl (1, 64, .inl (pCl (X 2).2.1.2.2 (X 3).2.1.2.2 (C * R)))), ((AD 3) 4, .inl (0, 64, .inl ((X 3).2.2))), ((AD 3) 5, .inl (0, 60, .inl (SE 3)))]) (Kr := [(a, .inr (0, fSr ar M v ss.1)), (ar 1, .inl (4, 4, .inr (.inr (.inr (.inr (fun j => some (T j))))))), (ar 2, .inl (0, 3, .inl (ss.2.1))), (ar 3, .inl (0, 3, .inl (ss.2.2))), ((T 2), .inr (1, fFire (AD 2) (X 2).1)), ((AD 2) 1, .inl (0, 64, .inl ((X 2).2.1.1))), ((AD 2) 2, .inl (0, 64, .inl ((X 2).2.1.2.1))), ((AD 2) 3, .inl (1, 64, .inl ((X 2).2.1.2.2))), ((AD 2) 4, .inl (0, 64, .inl ((X 2).2.2))), ((AD 2) 5, .inl (0, 60, .inl (SE 2)))]) [10, 11, 12, 13, 14, 15] [0, 1, 2, 3, 4, 5, 6, 7, 8, 9] 0 dX1_follow_25 zl_RX1_67 kX2_passMinute rfl rfl rfl rfl rfl (by decide) rfl rfl (show dd - 1 + 1 ≤ dd by omega) (Nat.zero_le _) (Nat.zero_le _) (Nat.le_of_ble_eq_true rfl) (s_minute l (dd - 1) (T 3) (AD 3) C R (upd (upd (upd (upd (upd (upd (upd (X 3).1 0 ((X 2).1 0)) 1 ((X 2).1 1)) 2 ((X 2).1 2)) 3 ((X 2).1 3)) 9 ((X 2).1 9)) 10 ((X 2).1 10)) 11 ((X 2).1 11)) (pCl (X 2).2.1.1 (X 3).2.1.1 (C * R), pCl (X 2).2.1.2.1 (X 3).2.1.2.1 (C * R), pCl (X 2).2.1.2.2 (X 3).2.1.2.2 (C * R)) (X 3).2.2 (SE 3) c v wi (by omega) ⟨hfz.1, hfz.2.1, hfz.2.2.1, hfz.2.2.2.1, hfz.2.2.2.2⟩ hwi) (fun r K1 hr => ?_)
  obtain ⟨rfl, he1, rfl⟩ := hr
  refine zs_K (K' := [(a, .inr (0, fSr ar M v ss.1)), (ar 1, .inl (4, 4, .inr (.inr (.inr (.inr (fun j => some (T j))))))), (ar 2, .inl (0, 3, .inl (ss.2.1))), (ar 3, .inl (0, 3, .inl (ss.2.2))), ((T 2), .inr (1, fFire (AD 2) (X 2).1)), ((AD 2) 1, .inl (0, 64, .inl ((X 2).2.1.1))), ((AD 2) 2, .inl (0, 64, .inl ((X 2).2.1.2.1))), ((AD 2) 3, .inl (1, 64, .inl ((X 2).2.1.2.2))), ((AD 2) 4, .inl (0, 64, .inl ((X 2).2.2))), ((AD 2) 5, .inl (0, 60, .inl (SE 2))), ((T 3), .inr (1, fFire (AD 3) (upd (upd (upd (upd (upd (upd (upd (upd (upd (X 3).1 0 ((X 2).1 0)) 1 ((X 2).1 1)) 2 ((X 2).1 2)) 3 ((X 2).1 3)) 9 ((X 2).1 9)) 10 ((X 2).1 10)) 11 ((X 2).1 11)) 9 (mBn C R wi (pCl (X 2).2.1.1 (X 3).2.1.1 (C * R), pCl (X 2).2.1.2.1 (X 3).2.1.2.1 (C * R), pCl (X 2).2.1.2.2 (X 3).2.1.2.2 (C * R)) c v)) 10 ((upd (upd (upd (upd (upd (upd (upd (X 3).1 0 ((X 2).1 0)) 1 ((X 2).1 1)) 2 ((X 2).1 2)) 3 ((X 2).1 3)) 9 ((X 2).1 9)) 10 ((X 2).1 10)) 11 ((X 2).1 11)) 10 + mLs C R (pCl (X 2).2.1.1 (X 3).2.1.1 (C * R), pCl (X 2).2.1.2.1 (X 3).2.1.2.1 (C * R), pCl (X 2).2.1.2.2 (X 3).2.1.2.2 (C * R)) c v)))), ((AD 3) 1, .inl (0, 64, .inl ((mMin C R wi (pCl (X 2).2.1.1 (X 3).2.1.1 (C * R), pCl (X 2).2.1.2.1 (X 3).2.1.2.1 (C * R), pCl (X 2).2.1.2.2 (X 3).2.1.2.2 (C * R)) c v).1))), ((AD 3) 2, .inl (0, 64, .inl ((mMin C R wi (pCl (X 2).2.1.1 (X 3).2.1.1 (C * R), pCl (X 2).2.1.2.1 (X 3).2.1.2.1 (C * R), pCl (X 2).2.1.2.2 (X 3).2.1.2.2 (C * R)) c v).2.1))), ((AD 3) 3, .inl (1, 64, .inl ((mMin C R wi (pCl (X 2).2.1.1 (X 3).2.1.1 (C * R), pCl (X 2).2.1.2.1 (X 3).2.1.2.1 (C * R), pCl (X 2).2.1.2.2 (X 3).2.1.2.2 (C * R)) c v).2.2))), ((AD 3) 4, .inl (0, 64, .inl he1)), ((AD 3) 5, .inl (0, 60, .inl (SE 3)))]) [0, 1, 2, 3, 4, 5, 6, 7, 8, 9, 10, 11, 12, 13, 14, 15] rfl (by decide) ?_
  refine zs_aload_n dX1_follow_28 rfl rfl ?_
  refine zs_get 0 dX1_follow_29 zf_RX1_18 rfl (v := .ref (ar 2)) rfl ?_
  refine zs_iload_n dX1_follow_32 rfl ?_
  refine zs_iload_n dX1_follow_33 rfl ?_
  refine zs_aload_n dX1_follow_34 rfl rfl ?_
  refine zs_get 10 dX1_follow_35 zf_RX1_70 rfl (v := .int ((upd (upd (upd (upd (upd (upd (upd (upd (upd (X 3).1 0 ((X 2).1 0)) 1 ((X 2).1 1)) 2 ((X 2).1 2)) 3 ((X 2).1 3)) 9 ((X 2).1 9)) 10 ((X 2).1 10)) 11 ((X 2).1 11)) 9 (mBn C R wi (pCl (X 2).2.1.1 (X 3).2.1.1 (C * R), pCl (X 2).2.1.2.1 (X 3).2.1.2.1 (C * R), pCl (X 2).2.1.2.2 (X 3).2.1.2.2 (C * R)) c v)) 10 ((upd (upd (upd (upd (upd (upd (upd (X 3).1 0 ((X 2).1 0)) 1 ((X 2).1 1)) 2 ((X 2).1 2)) 3 ((X 2).1 3)) 9 ((X 2).1 9)) 10 ((X 2).1 10)) 11 ((X 2).1 11)) 10 + mLs C R (pCl (X 2).2.1.1 (X 3).2.1.1 (C * R), pCl (X 2).2.1.2.1 (X 3).2.1.2.1 (C * R), pCl (X 2).2.1.2.2 (X 3).2.1.2.2 (C * R)) c v)) 0)) rfl ?_
  refine zs_as (y := nI C) hfz.2.2.1 ?_
  refine zs_callS (M := mX1_aimOf) (As := [.int c, .int (nI C)]) (st := [.int (nI 2), .ref (ar 2)]) (Kc := []) (Kr := [(a, .inr (0, fSr ar M v ss.1)), (ar 1, .inl (4, 4, .inr (.inr (.inr (.inr (fun j => some (T j))))))), (ar 2, .inl (0, 3, .inl (ss.2.1))), (ar 3, .inl (0, 3, .inl (ss.2.2))), ((T 2), .inr (1, fFire (AD 2) (X 2).1)), ((AD 2) 1, .inl (0, 64, .inl ((X 2).2.1.1))), ((AD 2) 2, .inl (0, 64, .inl ((X 2).2.1.2.1))), ((AD 2) 3, .inl (1, 64, .inl ((X 2).2.1.2.2))), ((AD 2) 4, .inl (0, 64, .inl ((X 2).2.2))), ((AD 2) 5, .inl (0, 60, .inl (SE 2))), ((T 3), .inr (1, fFire (AD 3) (upd (upd (upd (upd (upd (upd (upd (upd (upd (X 3).1 0 ((X 2).1 0)) 1 ((X 2).1 1)) 2 ((X 2).1 2)) 3 ((X 2).1 3)) 9 ((X 2).1 9)) 10 ((X 2).1 10)) 11 ((X 2).1 11)) 9 (mBn C R wi (pCl (X 2).2.1.1 (X 3).2.1.1 (C * R), pCl (X 2).2.1.2.1 (X 3).2.1.2.1 (C * R), pCl (X 2).2.1.2.2 (X 3).2.1.2.2 (C * R)) c v)) 10 ((upd (upd (upd (upd (upd (upd (upd (X 3).1 0 ((X 2).1 0)) 1 ((X 2).1 1)) 2 ((X 2).1 2)) 3 ((X 2).1 3)) 9 ((X 2).1 9)) 10 ((X 2).1 10)) 11 ((X 2).1 11)) 10 + mLs C R (pCl (X 2).2.1.1 (X 3).2.1.1 (C * R), pCl (X 2).2.1.2.1 (X 3).2.1.2.1 (C * R), pCl (X 2).2.1.2.2 (X 3).2.1.2.2 (C * R)) c v)))), ((AD 3) 1, .inl (0, 64, .inl ((mMin C R wi (pCl (X 2).2.1.1 (X 3).2.1.1 (C * R), pCl (X 2).2.1.2.1 (X 3).2.1.2.1 (C * R), pCl (X 2).2.1.2.2 (X 3).2.1.2.2 (C * R)) c v).1))), ((AD 3) 2, .inl (0, 64, .inl ((mMin C R wi (pCl (X 2).2.1.1 (X 3).2.1.1 (C * R), pCl (X 2).2.1.2.1 (X 3).2.1.2.1 (C * R), pCl (X 2).2.1.2.2 (X 3).2.1.2.2 (C * R)) c v).2.1))), ((AD 3) 3, .inl (1, 64, .inl ((mMin C R wi (pCl (X 2).2.1.1 (X 3).2.1.1 (C * R), pCl (X 2).2.1.2.1 (X 3).2.1.2.1 (C * R), pCl (X 2).2.1.2.2 (X 3).2.1.2.2 (C * R)) c v).2.2))), ((AD 3) 4, .inl (0, 64, .inl he1)), ((AD 3) 5, .inl (0, 60, .inl (SE 3)))]) [] [0, 1, 2, 3, 4, 5, 6, 7, 8, 9, 10, 11, 12, 13, 14, 15] dX1_follow_38 zl_RX1_73 kX1_aimOf rfl rfl rfl rfl rfl (by decide) (show dd - 1 + 1 ≤ dd by omega) (Nat.zero_le _) (Nat.zero_le _) (Nat.le_of_ble_eq_true rfl) (s_aimOf l (dd - 1) c (nI C)) (fun r K1 hr => ?_)
  obtain ⟨rfl, rfl⟩ := hr
  refine zs_K (K' := [(a, .inr (0, fSr ar M v ss.1)), (ar 1, .inl (4, 4, .inr (.inr (.inr (.inr (fun j => some (T j))))))), (ar 2, .inl (0, 3, .inl (ss.2.1))), (ar 3, .inl (0, 3, .inl (ss.2.2))), ((T 2), .inr (1, fFire (AD 2) (X 2).1)), ((AD 2) 1, .inl (0, 64, .inl ((X 2).2.1.1))), ((AD 2) 2, .inl (0, 64, .inl ((X 2).2.1.2.1))), ((AD 2) 3, .inl (1, 64, .inl ((X 2).2.1.2.2))), ((AD 2) 4, .inl (0, 64, .inl ((X 2).2.2))), ((AD 2) 5, .inl (0, 60, .inl (SE 2))), ((T 3), .inr (1, fFire (AD 3) (upd (upd (upd (upd (upd (upd (upd (upd (upd (X 3).1 0 ((X 2).1 0)) 1 ((X 2).1 1)) 2 ((X 2).1 2)) 3 ((X 2).1 3)) 9 ((X 2).1 9)) 10 ((X 2).1 10)) 11 ((X 2).1 11)) 9 (mBn C R wi (pCl (X 2).2.1.1 (X 3).2.1.1 (C * R), pCl (X 2).2.1.2.1 (X 3).2.1.2.1 (C * R), pCl (X 2).2.1.2.2 (X 3).2.1.2.2 (C * R)) c v)) 10 ((upd (upd (upd (upd (upd (upd (upd (X 3).1 0 ((X 2).1 0)) 1 ((X 2).1 1)) 2 ((X 2).1 2)) 3 ((X 2).1 3)) 9 ((X 2).1 9)) 10 ((X 2).1 10)) 11 ((X 2).1 11)) 10 + mLs C R (pCl (X 2).2.1.1 (X 3).2.1.1 (C * R), pCl (X 2).2.1.2.1 (X 3).2.1.2.1 (C * R), pCl (X 2).2.1.2.2 (X 3).2.1.2.2 (C * R)) c v)))), ((AD 3) 1, .inl (0, 64, .inl ((mMin C R wi (pCl (X 2).2.1.1 (X 3).2.1.1 (C * R), pCl (X 2).2.1.2.1 (X 3).2.1.2.1 (C * R), pCl (X 2).2.1.2.2 (X 3).2.1.2.2 (C * R)) c v).1))), ((AD 3) 2, .inl (0, 64, .inl ((mMin C R wi (pCl (X 2).2.1.1 (X 3).2.1.1 (C * R), pCl (X 2).2.1.2.1 (X 3).2.1.2.1 (C * R), pCl (X 2).2.1.2.2 (X 3).2.1.2.2 (C * R)) c v).2.1))), ((AD 3) 3, .inl (1, 64, .inl ((mMin C R wi (pCl (X 2).2.1.1 (X 3).2.1.1 (C * R), pCl (X 2).2.1.2.1 (X 3).2.1.2.1 (C * R), pCl (X 2).2.1.2.2 (X 3).2.1.2.2 (C * R)) c v).2.2))), ((AD 3) 4, .inl (0, 64, .inl he1)), ((AD 3) 5, .inl (0, 60, .inl (SE 3)))]) [0, 1, 2, 3, 4, 5, 6, 7, 8, 9, 10, 11, 12, 13, 14, 15] rfl (by decide) ?_
  refine zs_iast 2 dX1_follow_41 rfl (vp_in_nI (by omega) (by omega)) ?_
  rw [nI_c (n := 2) (by omega)]
  show zS _ _ _ _ _ _ [(a, .inr (0, fSr ar M v ss.1)), (ar 1, .inl (4, 4, .inr (.inr (.inr (.inr (fun j => some (T j))))))), (ar 2, .inl (0, 3, .inl (upd (ss.2.1) 2 (aOf c (nI C))))), (ar 3, .inl (0, 3, .inl (ss.2.2))), ((T 2), .inr (1, fFire (AD 2) (X 2).1)), ((AD 2) 1, .inl (0, 64, .inl ((X 2).2.1.1))), ((AD 2) 2, .inl (0, 64, .inl ((X 2).2.1.2.1))), ((AD 2) 3, .inl (1, 64, .inl ((X 2).2.1.2.2))), ((AD 2) 4, .inl (0, 64, .inl ((X 2).2.2))), ((AD 2) 5, .inl (0, 60, .inl (SE 2))), ((T 3), .inr (1, fFire (AD 3) (upd (upd (upd (upd (upd (upd (upd (upd (upd (X 3).1 0 ((X 2).1 0)) 1 ((X 2).1 1)) 2 ((X 2).1 2)) 3 ((X 2).1 3)) 9 ((X 2).1 9)) 10 ((X 2).1 10)) 11 ((X 2).1 11)) 9 (mBn C R wi (pCl (X 2).2.1.1 (X 3).2.1.1 (C * R), pCl (X 2).2.1.2.1 (X 3).2.1.2.1 (C * R), pCl (X 2).2.1.2.2 (X 3).2.1.2.2 (C * R)) c v)) 10 ((upd (upd (upd (upd (upd (upd (upd (X 3).1 0 ((X 2).1 0)) 1 ((X 2).1 1)) 2 ((X 2).1 2)) 3 ((X 2).1 3)) 9 ((X 2).1 9)) 10 ((X 2).1 10)) 11 ((X 2).1 11)) 10 + mLs C R (pCl (X 2).2.1.1 (X 3).2.1.1 (C * R), pCl (X 2).2.1.2.1 (X 3).2.1.2.1 (C * R), pCl (X 2).2.1.2.2 (X 3).2.1.2.2 (C * R)) c v)))), ((AD 3) 1, .inl (0, 64, .inl ((mMin C R wi (pCl (X 2).2.1.1 (X 3).2.1.1 (C * R), pCl (X 2).2.1.2.1 (X 3).2.1.2.1 (C * R), pCl (X 2).2.1.2.2 (X 3).2.1.2.2 (C * R)) c v).1))), ((AD 3) 2, .inl (0, 64, .inl ((mMin C R wi (pCl (X 2).2.1.1 (X 3).2.1.1 (C * R), pCl (X 2).2.1.2.1 (X 3).2.1.2.1 (C * R), pCl (X 2).2.1.2.2 (X 3).2.1.2.2 (C * R)) c v).2.1))), ((AD 3) 3, .inl (1, 64, .inl ((mMin C R wi (pCl (X 2).2.1.1 (X 3).2.1.1 (C * R), pCl (X 2).2.1.2.1 (X 3).2.1.2.1 (C * R), pCl (X 2).2.1.2.2 (X 3).2.1.2.2 (C * R)) c v).2.2))), ((AD 3) 4, .inl (0, 64, .inl he1)), ((AD 3) 5, .inl (0, 60, .inl (SE 3)))]
  refine zs_aload_n dX1_follow_42 rfl rfl ?_
  refine zs_iload_n dX1_follow_43 rfl ?_
  refine zs_iconst (v := nI 1) dX1_follow_44 (by decide) ?_
  refine zs_iadd dX1_follow_45 ?_
  refine zs_as (y := nI 3) rfl ?_
  let X2 : Nat → zFc := fun j => if j = 3 then ((upd (upd (upd (upd (upd (upd (upd (upd (upd (X 3).1 0 ((X 2).1 0)) 1 ((X 2).1 1)) 2 ((X 2).1 2)) 3 ((X 2).1 3)) 9 ((X 2).1 9)) 10 ((X 2).1 10)) 11 ((X 2).1 11)) 9 (mBn C R wi (pCl (X 2).2.1.1 (X 3).2.1.1 (C * R), pCl (X 2).2.1.2.1 (X 3).2.1.2.1 (C * R), pCl (X 2).2.1.2.2 (X 3).2.1.2.2 (C * R)) c v)) 10 ((upd (upd (upd (upd (upd (upd (upd (X 3).1 0 ((X 2).1 0)) 1 ((X 2).1 1)) 2 ((X 2).1 2)) 3 ((X 2).1 3)) 9 ((X 2).1 9)) 10 ((X 2).1 10)) 11 ((X 2).1 11)) 10 + mLs C R (pCl (X 2).2.1.1 (X 3).2.1.1 (C * R), pCl (X 2).2.1.2.1 (X 3).2.1.2.1 (C * R), pCl (X 2).2.1.2.2 (X 3).2.1.2.2 (C * R)) c v)), (mMin C R wi (pCl (X 2).2.1.1 (X 3).2.1.1 (C * R), pCl (X 2).2.1.2.1 (X 3).2.1.2.1 (C * R), pCl (X 2).2.1.2.2 (X 3).2.1.2.2 (C * R)) c v), he1) else X j
  have hag : chA C R wi v M 0 (X2 3).f (ss.1, upd ss.2.1 2 (aOf c (nI C)), ss.2.2) = foW C R wi v (chA C R wi v M 0) 2 (X 2).f c ss := chA_ag hfz.2.1 0 _ _ _ (f1_ag (F := ((pCl (X 2).2.1.1 (X 3).2.1.1 (C * R), pCl (X 2).2.1.2.1 (X 3).2.1.2.1 (C * R), pCl (X 2).2.1.2.2 (X 3).2.1.2.2 (C * R)), ((X 2).1 10, (X 2).1 9))) (G := (X 2).f) hfz.2.1 ⟨⟨pCl_agl _ _ _, pCl_agl _ _ _, pCl_agl _ _ _⟩, rfl⟩ c v)
  refine zs_callV (M := mX1_choose) (As := [.int (nI 3)]) (st := []) (Kc := [(a, .inr (0, fSr ar M v ss.1)), (ar 1, .inl (4, 4, .inr (.inr (.inr (.inr (fun j => some (T j))))))), (ar 2, .inl (0, 3, .inl (upd (ss.2.1) 2 (aOf c (nI C))))), (ar 3, .inl (0, 3, .inl (ss.2.2))), ((T 3), .inr (1, fFire (AD 3) (upd (upd (upd (upd (upd (upd (upd (upd (upd (X 3).1 0 ((X 2).1 0)) 1 ((X 2).1 1)) 2 ((X 2).1 2)) 3 ((X 2).1 3)) 9 ((X 2).1 9)) 10 ((X 2).1 10)) 11 ((X 2).1 11)) 9 (mBn C R wi (pCl (X 2).2.1.1 (X 3).2.1.1 (C * R), pCl (X 2).2.1.2.1 (X 3).2.1.2.1 (C * R), pCl (X 2).2.1.2.2 (X 3).2.1.2.2 (C * R)) c v)) 10 ((upd (upd (upd (upd (upd (upd (upd (X 3).1 0 ((X 2).1 0)) 1 ((X 2).1 1)) 2 ((X 2).1 2)) 3 ((X 2).1 3)) 9 ((X 2).1 9)) 10 ((X 2).1 10)) 11 ((X 2).1 11)) 10 + mLs C R (pCl (X 2).2.1.1 (X 3).2.1.1 (C * R), pCl (X 2).2.1.2.1 (X 3).2.1.2.1 (C * R), pCl (X 2).2.1.2.2 (X 3).2.1.2.2 (C * R)) c v)))), ((AD 3) 1, .inl (0, 64, .inl ((mMin C R wi (pCl (X 2).2.1.1 (X 3).2.1.1 (C * R), pCl (X 2).2.1.2.1 (X 3).2.1.2.1 (C * R), pCl (X 2).2.1.2.2 (X 3).2.1.2.2 (C * R)) c v).1))), ((AD 3) 2, .inl (0, 64, .inl ((mMin C R wi (pCl (X 2).2.1.1 (X 3).2.1.1 (C * R), pCl (X 2).2.1.2.1 (X 3).2.1.2.1 (C * R), pCl (X 2).2.1.2.2 (X 3).2.1.2.2 (C * R)) c v).2.1))), ((AD 3) 3, .inl (1, 64, .inl ((mMin C R wi (pCl (X 2).2.1.1 (X 3).2.1.1 (C * R), pCl (X 2).2.1.2.1 (X 3).2.1.2.1 (C * R), pCl (X 2).2.1.2.2 (X 3).2.1.2.2 (C * R)) c v).2.2))), ((AD 3) 4, .inl (0, 64, .inl he1)), ((AD 3) 5, .inl (0, 60, .inl (SE 3)))]) (Kr := [((T 2), .inr (1, fFire (AD 2) (X 2).1)), ((AD 2) 1, .inl (0, 64, .inl ((X 2).2.1.1))), ((AD 2) 2, .inl (0, 64, .inl ((X 2).2.1.2.1))), ((AD 2) 3, .inl (1, 64, .inl ((X 2).2.1.2.2))), ((AD 2) 4, .inl (0, 64, .inl ((X 2).2.2))), ((AD 2) 5, .inl (0, 60, .inl (SE 2)))]) [0, 1, 2, 3, 10, 11, 12, 13, 14, 15] [4, 5, 6, 7, 8, 9] 0 dX1_follow_46 zl_RX1_42 kX1_choose rfl rfl rfl rfl rfl (by decide) rfl rfl (show dd - 1 + 1 ≤ dd by omega) (Nat.zero_le _) (Nat.zero_le _) (Nat.le_of_ble_eq_true rfl) (s_cho3 l (dd - 1) a ar T AD C R M wi v (ss.1, upd ss.2.1 2 (aOf c (nI C)), ss.2.2) SE X2 (by omega) hM hC ⟨hfz.1, hfz.2.1, hfz.2.2.1, hfz.2.2.2.1, hfz.2.2.2.2⟩ hwi mMin_01) (fun r K1 hr => ?_)
  obtain ⟨rfl, X3, _, rfl⟩ := hr
  rw [hag]
  refine zs_K (K' := [(a, .inr (0, fSr ar M v (foW C R wi v (chA C R wi v M 0) 2 (X 2).f c ss).1)), (ar 1, .inl (4, 4, .inr (.inr (.inr (.inr (fun j => some (T j))))))), (ar 2, .inl (0, 3, .inl ((foW C R wi v (chA C R wi v M 0) 2 (X 2).f c ss).2.1))), (ar 3, .inl (0, 3, .inl ((foW C R wi v (chA C R wi v M 0) 2 (X 2).f c ss).2.2))), ((T 2), .inr (1, fFire (AD 2) (X 2).1)), ((AD 2) 1, .inl (0, 64, .inl ((X 2).2.1.1))), ((AD 2) 2, .inl (0, 64, .inl ((X 2).2.1.2.1))), ((AD 2) 3, .inl (1, 64, .inl ((X 2).2.1.2.2))), ((AD 2) 4, .inl (0, 64, .inl ((X 2).2.2))), ((AD 2) 5, .inl (0, 60, .inl (SE 2))), ((T 3), .inr (1, fFire (AD 3) (X3 3).1)), ((AD 3) 1, .inl (0, 64, .inl ((X3 3).2.1.1))), ((AD 3) 2, .inl (0, 64, .inl ((X3 3).2.1.2.1))), ((AD 3) 3, .inl (1, 64, .inl ((X3 3).2.1.2.2))), ((AD 3) 4, .inl (0, 64, .inl ((X3 3).2.2))), ((AD 3) 5, .inl (0, 60, .inl (SE 3)))]) [6, 7, 8, 9, 0, 1, 2, 3, 4, 5, 10, 11, 12, 13, 14, 15] rfl (by decide) ?_
  exact zs_vret dX1_follow_49 rfl ⟨rfl, fun j => if j = 2 then X 2 else X3 j, rfl, rfl⟩
set_option maxRecDepth 100000 in
theorem lp_cho2 {l : Launch} {dd : Nat} {Po : zPo} {K0 : zK} {h0 : List va_E} {Xo : zK → Prop} {Gc : zG → Prop} (a : Nat) (ar : Nat → Nat) (T : Nat → Nat) (AD : Nat → Nat → Nat) (C R M : Nat) (wi v : Int32) (ss : zSs) (SE : Nat → (Nat → Int32)) (X : Nat → zFc) (hd : 6 ≤ dd) (hM : M ≤ 3) (hC : C ≤ 64) (hfz : zFh C R (X 2).1) (hwi : (X 2).1 3 = wi) (h01 : ∀ j, j < C * R → (X 2).2.1.2.2 j = 0 ∨ (X 2).2.1.2.2 j = 1) (hk : ∀ (X1 : Nat → zFc), zS (l, mX1_choose, dd, Po, K0, h0, Xo, Gc) 0 0 93 [(0, .ref a), (1, .int (nI 2))] [] [(a, .inr (0, fSr ar M v (chL (X 2).2.1.2.2 (foW C R wi v (chA C R wi v M 0) 2 (X 2).f) ss (C * R)).2.1)), (ar 1, .inl (4, 4, .inr (.inr (.inr (.inr (fun j => some (T j))))))), (ar 2, .inl (0, 3, .inl ((chL (X 2).2.1.2.2 (foW C R wi v (chA C R wi v M 0) 2 (X 2).f) ss (C * R)).2.2.1))), (ar 3, .inl (0, 3, .inl ((chL (X 2).2.1.2.2 (foW C R wi v (chA C R wi v M 0) 2 (X 2).f) ss (C * R)).2.2.2))), ((T 2), .inr (1, fFire (AD 2) (X 2).1)), ((AD 2) 1, .inl (0, 64, .inl ((X 2).2.1.1))), ((AD 2) 2, .inl (0, 64, .inl ((X 2).2.1.2.1))), ((AD 2) 3, .inl (1, 64, .inl ((X 2).2.1.2.2))), ((AD 2) 4, .inl (0, 64, .inl ((X 2).2.2))), ((AD 2) 5, .inl (0, 60, .inl (SE 2))), ((T 3), .inr (1, fFire (AD 3) (X1 3).1)), ((AD 3) 1, .inl (0, 64, .inl ((X1 3).2.1.1))), ((AD 3) 2, .inl (0, 64, .inl ((X1 3).2.1.2.1))), ((AD 3) 3, .inl (1, 64, .inl ((X1 3).2.1.2.2))), ((AD 3) 4, .inl (0, 64, .inl ((X1 3).2.2))), ((AD 3) 5, .inl (0, 60, .inl (SE 3)))]) :
    ∀ (q i : Nat) (X1 : Nat → zFc), i + q = C * R → zS (l, mX1_choose, dd, Po, K0, h0, Xo, Gc) 0 0 52 [(0, .ref a), (1, .int (nI 2)), (2, .ref (T 2)), (3, .int (nI (chL (X 2).2.1.2.2 (foW C R wi v (chA C R wi v M 0) 2 (X 2).f) ss i).1)), (4, .int (nI i))] [] [(a, .inr (0, fSr ar M v (chL (X 2).2.1.2.2 (foW C R wi v (chA C R wi v M 0) 2 (X 2).f) ss i).2.1)), (ar 1, .inl (4, 4, .inr (.inr (.inr (.inr (fun j => some (T j))))))), (ar 2, .inl (0, 3, .inl ((chL (X 2).2.1.2.2 (foW C R wi v (chA C R wi v M 0) 2 (X 2).f) ss i).2.2.1))), (ar 3, .inl (0, 3, .inl ((chL (X 2).2.1.2.2 (foW C R wi v (chA C R wi v M 0) 2 (X 2).f) ss i).2.2.2))), ((T 2), .inr (1, fFire (AD 2) (X 2).1)), ((AD 2) 1, .inl (0, 64, .inl ((X 2).2.1.1))), ((AD 2) 2, .inl (0, 64, .inl ((X 2).2.1.2.1))), ((AD 2) 3, .inl (1, 64, .inl ((X 2).2.1.2.2))), ((AD 2) 4, .inl (0, 64, .inl ((X 2).2.2))), ((AD 2) 5, .inl (0, 60, .inl (SE 2))), ((T 3), .inr (1, fFire (AD 3) (X1 3).1)), ((AD 3) 1, .inl (0, 64, .inl ((X1 3).2.1.1))), ((AD 3) 2, .inl (0, 64, .inl ((X1 3).2.1.2.1))), ((AD 3) 3, .inl (1, 64, .inl ((X1 3).2.1.2.2))), ((AD 3) 4, .inl (0, 64, .inl ((X1 3).2.2))), ((AD 3) 5, .inl (0, 60, .inl (SE 3)))] := by
  have hCR := hfz.2.1
  intro q
  induction q with
  | zero =>
    intro i X1 hi
    have hin : i = C * R := by omega
    refine zs_iload dX1_choose_52 rfl ?_
    refine zs_aload_n dX1_choose_54 rfl rfl ?_
    refine zs_get 4 dX1_choose_55 zf_RX1_53 rfl (v := .int ((X 2).1 2)) rfl ?_
    refine zs_icmp_ge (tgt := 93) dX1_choose_58 (by decide) (fun c_1 => ?_) (fun c_1 => (c_1 (by show (X 2).1 2 ≤ nI i; rw [hfz.2.2.2.2, hin]; exact Int32.le_refl _) : False).elim)
    refine zs_lv [0, 1] rfl ?_
    have hq := hk X1
    rw [← hin] at hq
    exact hq
  | succ q ih =>
    intro i X1 hi
    have hil : i < C * R := by omega
    have b8 := chL_8 (bu := (X 2).2.1.2.2) (fo := (foW C R wi v (chA C R wi v M 0) 2 (X 2).f)) (ss := ss) i
    refine zs_iload dX1_choose_52 rfl ?_
    refine zs_aload_n dX1_choose_54 rfl rfl ?_
    refine zs_get 4 dX1_choose_55 zf_RX1_53 rfl (v := .int ((X 2).1 2)) rfl ?_
    refine zs_icmp_ge (tgt := 93) dX1_choose_58 (by decide) (fun c_1 => (nI_ge hil (by omega) (hfz.2.2.2.2 ▸ c_1) : False).elim) (fun c_1 => ?_)
    refine zs_iload_n dX1_choose_61 rfl ?_
    refine zs_bipush (v := nI 8) dX1_choose_62 (by decide) ?_
    refine zs_icmp_ge (tgt := 93) dX1_choose_64 (by decide) (fun c_2 => ?_) (fun c_2 => ?_)
    · have c_2 : 8 ≤ ((chL (X 2).2.1.2.2 (foW C R wi v (chA C R wi v M 0) 2 (X 2).f) ss i).1) := by have hc := c_2; rw [nI_le' (by omega) (by omega)] at hc; exact hc
      refine zs_lv [0, 1] rfl ?_
      have hq := hk X1
      have e : C * R = i + (C * R - i) := by omega
      rw [e, chL_stop (show 8 ≤ (chL (X 2).2.1.2.2 (foW C R wi v (chA C R wi v M 0) 2 (X 2).f) ss i).1 from c_2) (C * R - i)] at hq
      exact hq
    · have c_2 : ¬ (8 ≤ ((chL (X 2).2.1.2.2 (foW C R wi v (chA C R wi v M 0) 2 (X 2).f) ss i).1)) := by have hc := c_2; rw [nI_le' (by omega) (by omega)] at hc; exact hc
      refine zs_aload_n dX1_choose_67 rfl rfl ?_
      refine zs_get 4 dX1_choose_68 zf_RX1_56 rfl (v := .ref ((AD 2) 3)) rfl ?_
      refine zs_iload dX1_choose_71 rfl ?_
      refine zs_zald 7 dX1_choose_73 rfl (vp_in_nI (by omega) (by omega)) ?_
      refine zs_as (y := (X 2).2.1.2.2 i) (by rw [nI_c (n := i) (by omega)]) ?_
      refine zs_if_eq (tgt := 87) dX1_choose_74 (by decide) (fun c_3 => ?_) (fun c_3 => ?_)
      · refine zs_iinc (v := (nI (i + 1))) (lv' := [(4, .int (nI (i + 1))), (0, .ref a), (1, .int (nI 2)), (2, .ref (T 2)), (3, .int (nI (chL (X 2).2.1.2.2 (foW C R wi v (chA C R wi v M 0) 2 (X 2).f) ss i).1))]) dX1_choose_87 rfl (nI_add _ 1) (Nat.le_of_ble_eq_true rfl) rfl ?_
        refine zs_goto (tgt := 52) dX1_choose_90 (by decide) ?_
        refine zs_lv [1, 2, 3, 4, 0] rfl ?_
        have hq := ih (i + 1) X1 (by omega)
        rw [show chL (X 2).2.1.2.2 (foW C R wi v (chA C R wi v M 0) 2 (X 2).f) ss (i + 1) = chL (X 2).2.1.2.2 (foW C R wi v (chA C R wi v M 0) 2 (X 2).f) ss i from by simp only [chL]; rw [if_neg (by omega), if_pos c_3]] at hq
        exact hq
      · refine zs_iinc (v := (nI (((chL (X 2).2.1.2.2 (foW C R wi v (chA C R wi v M 0) 2 (X 2).f) ss i).1) + 1))) (lv' := [(3, .int (nI (((chL (X 2).2.1.2.2 (foW C R wi v (chA C R wi v M 0) 2 (X 2).f) ss i).1) + 1))), (0, .ref a), (1, .int (nI 2)), (2, .ref (T 2)), (4, .int (nI i))]) dX1_choose_77 rfl (nI_add _ 1) (Nat.le_of_ble_eq_true rfl) rfl ?_
        refine zs_aload_n dX1_choose_80 rfl rfl ?_
        refine zs_iload_n dX1_choose_81 rfl ?_
        refine zs_iload dX1_choose_82 rfl ?_
        let X2 : Nat → zFc := fun j => if j = 2 then X 2 else X1 j
        refine zs_callV (M := mX1_follow) (As := [.int (nI 2), .int (nI i)]) (st := []) (Kc := [(a, .inr (0, fSr ar M v (chL (X 2).2.1.2.2 (foW C R wi v (chA C R wi v M 0) 2 (X 2).f) ss i).2.1)), (ar 1, .inl (4, 4, .inr (.inr (.inr (.inr (fun j => some (T j))))))), (ar 2, .inl (0, 3, .inl ((chL (X 2).2.1.2.2 (foW C R wi v (chA C R wi v M 0) 2 (X 2).f) ss i).2.2.1))), (ar 3, .inl (0, 3, .inl ((chL (X 2).2.1.2.2 (foW C R wi v (chA C R wi v M 0) 2 (X 2).f) ss i).2.2.2))), ((T 2), .inr (1, fFire (AD 2) (X 2).1)), ((AD 2) 1, .inl (0, 64, .inl ((X 2).2.1.1))), ((AD 2) 2, .inl (0, 64, .inl ((X 2).2.1.2.1))), ((AD 2) 3, .inl (1, 64, .inl ((X 2).2.1.2.2))), ((AD 2) 4, .inl (0, 64, .inl ((X 2).2.2))), ((AD 2) 5, .inl (0, 60, .inl (SE 2))), ((T 3), .inr (1, fFire (AD 3) (X1 3).1)), ((AD 3) 1, .inl (0, 64, .inl ((X1 3).2.1.1))), ((AD 3) 2, .inl (0, 64, .inl ((X1 3).2.1.2.1))), ((AD 3) 3, .inl (1, 64, .inl ((X1 3).2.1.2.2))), ((AD 3) 4, .inl (0, 64, .inl ((X1 3).2.2))), ((AD 3) 5, .inl (0, 60, .inl (SE 3)))]) (Kr := []) [0, 1, 2, 3, 4, 5, 6, 7, 8, 9, 10, 11, 12, 13, 14, 15] [] 0 dX1_choose_84 zl_RX1_60 kX1_follow rfl rfl rfl rfl rfl (by decide) rfl rfl (show dd - 1 + 1 ≤ dd by omega) (Nat.zero_le _) (Nat.zero_le _) (Nat.le_of_ble_eq_true rfl) (s_fol2 l (dd - 1) a ar T AD C R M wi v (chL (X 2).2.1.2.2 (foW C R wi v (chA C R wi v M 0) 2 (X 2).f) ss i).2 SE X2 (nI i) (by omega) hM hC hfz hwi h01) (fun r K1 hr => ?_)
        obtain ⟨rfl, X3, hX3, rfl⟩ := hr
        rw [hX3]
        refine zs_K (K' := [(a, .inr (0, fSr ar M v ((foW C R wi v (chA C R wi v M 0) 2 (X 2).f) (nI i) (chL (X 2).2.1.2.2 (foW C R wi v (chA C R wi v M 0) 2 (X 2).f) ss i).2).1)), (ar 1, .inl (4, 4, .inr (.inr (.inr (.inr (fun j => some (T j))))))), (ar 2, .inl (0, 3, .inl (((foW C R wi v (chA C R wi v M 0) 2 (X 2).f) (nI i) (chL (X 2).2.1.2.2 (foW C R wi v (chA C R wi v M 0) 2 (X 2).f) ss i).2).2.1))), (ar 3, .inl (0, 3, .inl (((foW C R wi v (chA C R wi v M 0) 2 (X 2).f) (nI i) (chL (X 2).2.1.2.2 (foW C R wi v (chA C R wi v M 0) 2 (X 2).f) ss i).2).2.2))), ((T 2), .inr (1, fFire (AD 2) (X 2).1)), ((AD 2) 1, .inl (0, 64, .inl ((X 2).2.1.1))), ((AD 2) 2, .inl (0, 64, .inl ((X 2).2.1.2.1))), ((AD 2) 3, .inl (1, 64, .inl ((X 2).2.1.2.2))), ((AD 2) 4, .inl (0, 64, .inl ((X 2).2.2))), ((AD 2) 5, .inl (0, 60, .inl (SE 2))), ((T 3), .inr (1, fFire (AD 3) (X3 3).1)), ((AD 3) 1, .inl (0, 64, .inl ((X3 3).2.1.1))), ((AD 3) 2, .inl (0, 64, .inl ((X3 3).2.1.2.1))), ((AD 3) 3, .inl (1, 64, .inl ((X3 3).2.1.2.2))), ((AD 3) 4, .inl (0, 64, .inl ((X3 3).2.2))), ((AD 3) 5, .inl (0, 60, .inl (SE 3)))]) [0, 1, 2, 3, 4, 5, 6, 7, 8, 9, 10, 11, 12, 13, 14, 15] rfl (by decide) ?_
        refine zs_iinc (v := (nI (i + 1))) (lv' := [(4, .int (nI (i + 1))), (3, .int (nI (((chL (X 2).2.1.2.2 (foW C R wi v (chA C R wi v M 0) 2 (X 2).f) ss i).1) + 1))), (0, .ref a), (1, .int (nI 2)), (2, .ref (T 2))]) dX1_choose_87 rfl (nI_add _ 1) (Nat.le_of_ble_eq_true rfl) rfl ?_
        refine zs_goto (tgt := 52) dX1_choose_90 (by decide) ?_
        refine zs_lv [2, 3, 4, 1, 0] rfl ?_
        have hq := ih (i + 1) X3 (by omega)
        rw [show chL (X 2).2.1.2.2 (foW C R wi v (chA C R wi v M 0) 2 (X 2).f) ss (i + 1) = ((chL (X 2).2.1.2.2 (foW C R wi v (chA C R wi v M 0) 2 (X 2).f) ss i).1 + 1, (foW C R wi v (chA C R wi v M 0) 2 (X 2).f) (nI i) (chL (X 2).2.1.2.2 (foW C R wi v (chA C R wi v M 0) 2 (X 2).f) ss i).2) from by simp only [chL]; rw [if_neg (by omega), if_neg c_3]] at hq
        exact hq
set_option maxRecDepth 100000 in
theorem s_cho2 (l : Launch) (dd : Nat) (a : Nat) (ar : Nat → Nat) (T : Nat → Nat) (AD : Nat → Nat → Nat) (C R M : Nat) (wi v : Int32) (ss : zSs) (SE : Nat → (Nat → Int32)) (X : Nat → zFc) (hd : 6 ≤ dd) (hM : M ≤ 3) (hC : C ≤ 64) (hfz : zFh C R (X 2).1) (hwi : (X 2).1 3 = wi) (h01 : ∀ j, j < C * R → (X 2).2.1.2.2 j = 0 ∨ (X 2).2.1.2.2 j = 1) : zSp l mX1_choose dd 0 0 [.ref a, .int (nI 2)] [(a, .inr (0, fSr ar M v ss.1)), (ar 1, .inl (4, 4, .inr (.inr (.inr (.inr (fun j => some (T j))))))), (ar 2, .inl (0, 3, .inl (ss.2.1))), (ar 3, .inl (0, 3, .inl (ss.2.2))), ((T 2), .inr (1, fFire (AD 2) (X 2).1)), ((AD 2) 1, .inl (0, 64, .inl ((X 2).2.1.1))), ((AD 2) 2, .inl (0, 64, .inl ((X 2).2.1.2.1))), ((AD 2) 3, .inl (1, 64, .inl ((X 2).2.1.2.2))), ((AD 2) 4, .inl (0, 64, .inl ((X 2).2.2))), ((AD 2) 5, .inl (0, 60, .inl (SE 2))), ((T 3), .inr (1, fFire (AD 3) (X 3).1)), ((AD 3) 1, .inl (0, 64, .inl ((X 3).2.1.1))), ((AD 3) 2, .inl (0, 64, .inl ((X 3).2.1.2.1))), ((AD 3) 3, .inl (1, 64, .inl ((X 3).2.1.2.2))), ((AD 3) 4, .inl (0, 64, .inl ((X 3).2.2))), ((AD 3) 5, .inl (0, 60, .inl (SE 3)))] (fun r K' => r = none ∧ ∃ X' : Nat → zFc, (M ≤ 2 ∨ X' 2 = X 2) ∧ K' = kSr a ar T M v (chA C R wi v M 1 (X 2).f ss) ++ (kFc (T 2) (AD 2) (X' 2) (SE 2) ++ (kFc (T 3) (AD 3) (X' 3) (SE 3)))) := by
  refine zSp.of (by decide) (Nat.le_of_ble_eq_true rfl) (fun h0 => ?_)
  show zS _ 0 0 0 [(0, .ref a), (1, .int (nI 2))] [] [(a, .inr (0, fSr ar M v ss.1)), (ar 1, .inl (4, 4, .inr (.inr (.inr (.inr (fun j => some (T j))))))), (ar 2, .inl (0, 3, .inl (ss.2.1))), (ar 3, .inl (0, 3, .inl (ss.2.2))), ((T 2), .inr (1, fFire (AD 2) (X 2).1)), ((AD 2) 1, .inl (0, 64, .inl ((X 2).2.1.1))), ((AD 2) 2, .inl (0, 64, .inl ((X 2).2.1.2.1))), ((AD 2) 3, .inl (1, 64, .inl ((X 2).2.1.2.2))), ((AD 2) 4, .inl (0, 64, .inl ((X 2).2.2))), ((AD 2) 5, .inl (0, 60, .inl (SE 2))), ((T 3), .inr (1, fFire (AD 3) (X 3).1)), ((AD 3) 1, .inl (0, 64, .inl ((X 3).2.1.1))), ((AD 3) 2, .inl (0, 64, .inl ((X 3).2.1.2.1))), ((AD 3) 3, .inl (1, 64, .inl ((X 3).2.1.2.2))), ((AD 3) 4, .inl (0, 64, .inl ((X 3).2.2))), ((AD 3) 5, .inl (0, 60, .inl (SE 3)))]
  refine zs_iload_n dX1_choose_0 rfl ?_
  refine zs_if_lt (tgt := 25) dX1_choose_1 (by decide) (fun c_1 => (absurd c_1 (by decide) : False).elim) (fun c_1 => ?_)
  refine zs_iload_n dX1_choose_4 rfl ?_
  refine zs_iconst (v := nI 3) dX1_choose_5 (by decide) ?_
  refine zs_icmp_gt (tgt := 25) dX1_choose_6 (by decide) (fun c_2 => (absurd c_2 (by decide) : False).elim) (fun c_2 => ?_)
  refine zs_aload_n dX1_choose_9 rfl rfl ?_
  refine zs_get 0 dX1_choose_10 zf_RX1_11 rfl (v := .ref (ar 1)) rfl ?_
  refine zs_iload_n dX1_choose_13 rfl ?_
  refine zs_aald4 (b := (T 2)) 1 dX1_choose_14 rfl (vp_in_nI (by decide) (by decide)) (congrArg (fun k => some (T k)) (nI_c (n := 2) (by decide))) ?_
  refine zs_get 4 dX1_choose_15 zf_RX1_46 rfl (v := .int ((X 2).1 10)) rfl ?_
  refine zs_aload_n dX1_choose_18 rfl rfl ?_
  refine zs_get 0 dX1_choose_19 zf_RX1_35 rfl (v := .int ss.1) rfl ?_
  refine zs_icmp_lt (tgt := 26) dX1_choose_22 (by decide) (fun c_3 => ?_) (fun c_3 => ?_)
  · refine zs_aload_n dX1_choose_26 rfl rfl ?_
    refine zs_get 0 dX1_choose_27 zf_RX1_11 rfl (v := .ref (ar 1)) rfl ?_
    refine zs_iload_n dX1_choose_30 rfl ?_
    refine zs_aald4 (b := (T 2)) 1 dX1_choose_31 rfl (vp_in_nI (by decide) (by decide)) (congrArg (fun k => some (T k)) (nI_c (n := 2) (by decide))) ?_
    refine zs_astore_n (lv' := [(2, .ref (T 2)), (0, .ref a), (1, .int (nI 2))]) dX1_choose_32 (Nat.le_of_ble_eq_true rfl) rfl rfl ?_
    refine zs_iload_n dX1_choose_33 rfl ?_
    refine zs_aload_n dX1_choose_34 rfl rfl ?_
    refine zs_get 0 dX1_choose_35 zf_RX1_25 rfl (v := .int (nI M)) rfl ?_
    refine zs_icmp_lt (tgt := 47) dX1_choose_38 (by decide) (fun c_4 => ?_) (fun c_4 => ?_)
    · have c_4 : 2 < M := by have hc := c_4; rw [nI_lt' (by omega) (by omega)] at hc; exact hc
      refine zs_iconst (v := nI 0) dX1_choose_47 (by decide) ?_
      refine zs_istore_n (lv' := [(3, .int (nI 0)), (2, .ref (T 2)), (0, .ref a), (1, .int (nI 2))]) dX1_choose_48 (Nat.le_of_ble_eq_true rfl) rfl ?_
      refine zs_iconst (v := nI 0) dX1_choose_49 (by decide) ?_
      refine zs_istore (lv' := [(4, .int (nI 0)), (3, .int (nI 0)), (2, .ref (T 2)), (0, .ref a), (1, .int (nI 2))]) dX1_choose_50 (Nat.le_of_ble_eq_true rfl) rfl ?_
      refine zs_lv [3, 4, 2, 1, 0] rfl ?_
      refine lp_cho2 a ar T AD C R M wi v ss SE X hd hM hC hfz hwi h01 (fun X1 => ?_) (C * R) 0 X (by omega)
      refine zs_aload_n dX1_choose_93 rfl rfl ?_
      refine zs_iload_n dX1_choose_94 rfl ?_
      refine zs_iconst (v := (-1)) dX1_choose_95 (by decide) ?_
      let X2 : Nat → zFc := fun j => if j = 2 then X 2 else X1 j
      refine zs_callV (M := mX1_follow) (As := [.int (nI 2), .int (-1)]) (st := []) (Kc := [(a, .inr (0, fSr ar M v (chL (X 2).2.1.2.2 (foW C R wi v (chA C R wi v M 0) 2 (X 2).f) ss (C * R)).2.1)), (ar 1, .inl (4, 4, .inr (.inr (.inr (.inr (fun j => some (T j))))))), (ar 2, .inl (0, 3, .inl ((chL (X 2).2.1.2.2 (foW C R wi v (chA C R wi v M 0) 2 (X 2).f) ss (C * R)).2.2.1))), (ar 3, .inl (0, 3, .inl ((chL (X 2).2.1.2.2 (foW C R wi v (chA C R wi v M 0) 2 (X 2).f) ss (C * R)).2.2.2))), ((T 2), .inr (1, fFire (AD 2) (X 2).1)), ((AD 2) 1, .inl (0, 64, .inl ((X 2).2.1.1))), ((AD 2) 2, .inl (0, 64, .inl ((X 2).2.1.2.1))), ((AD 2) 3, .inl (1, 64, .inl ((X 2).2.1.2.2))), ((AD 2) 4, .inl (0, 64, .inl ((X 2).2.2))), ((AD 2) 5, .inl (0, 60, .inl (SE 2))), ((T 3), .inr (1, fFire (AD 3) (X1 3).1)), ((AD 3) 1, .inl (0, 64, .inl ((X1 3).2.1.1))), ((AD 3) 2, .inl (0, 64, .inl ((X1 3).2.1.2.1))), ((AD 3) 3, .inl (1, 64, .inl ((X1 3).2.1.2.2))), ((AD 3) 4, .inl (0, 64, .inl ((X1 3).2.2))), ((AD 3) 5, .inl (0, 60, .inl (SE 3)))]) (Kr := []) [0, 1, 2, 3, 4, 5, 6, 7, 8, 9, 10, 11, 12, 13, 14, 15] [] 0 dX1_choose_96 zl_RX1_60 kX1_follow rfl rfl rfl rfl rfl (by decide) rfl rfl (show dd - 1 + 1 ≤ dd by omega) (Nat.zero_le _) (Nat.zero_le _) (Nat.le_of_ble_eq_true rfl) (s_fol2 l (dd - 1) a ar T AD C R M wi v (chL (X 2).2.1.2.2 (foW C R wi v (chA C R wi v M 0) 2 (X 2).f) ss (C * R)).2 SE X2 (-1) (by omega) hM hC hfz hwi h01) (fun r K1 hr => ?_)
      obtain ⟨rfl, X3, hX3, rfl⟩ := hr
      rw [hX3]
      refine zs_K (K' := [(a, .inr (0, fSr ar M v ((foW C R wi v (chA C R wi v M 0) 2 (X 2).f) (-1) (chL (X 2).2.1.2.2 (foW C R wi v (chA C R wi v M 0) 2 (X 2).f) ss (C * R)).2).1)), (ar 1, .inl (4, 4, .inr (.inr (.inr (.inr (fun j => some (T j))))))), (ar 2, .inl (0, 3, .inl (((foW C R wi v (chA C R wi v M 0) 2 (X 2).f) (-1) (chL (X 2).2.1.2.2 (foW C R wi v (chA C R wi v M 0) 2 (X 2).f) ss (C * R)).2).2.1))), (ar 3, .inl (0, 3, .inl (((foW C R wi v (chA C R wi v M 0) 2 (X 2).f) (-1) (chL (X 2).2.1.2.2 (foW C R wi v (chA C R wi v M 0) 2 (X 2).f) ss (C * R)).2).2.2))), ((T 2), .inr (1, fFire (AD 2) (X 2).1)), ((AD 2) 1, .inl (0, 64, .inl ((X 2).2.1.1))), ((AD 2) 2, .inl (0, 64, .inl ((X 2).2.1.2.1))), ((AD 2) 3, .inl (1, 64, .inl ((X 2).2.1.2.2))), ((AD 2) 4, .inl (0, 64, .inl ((X 2).2.2))), ((AD 2) 5, .inl (0, 60, .inl (SE 2))), ((T 3), .inr (1, fFire (AD 3) (X3 3).1)), ((AD 3) 1, .inl (0, 64, .inl ((X3 3).2.1.1))), ((AD 3) 2, .inl (0, 64, .inl ((X3 3).2.1.2.1))), ((AD 3) 3, .inl (1, 64, .inl ((X3 3).2.1.2.2))), ((AD 3) 4, .inl (0, 64, .inl ((X3 3).2.2))), ((AD 3) 5, .inl (0, 60, .inl (SE 3)))]) [0, 1, 2, 3, 4, 5, 6, 7, 8, 9, 10, 11, 12, 13, 14, 15] rfl (by decide) ?_
      exact zs_vret dX1_choose_99 rfl ⟨rfl, fun j => if j = 2 then X 2 else X3 j, Or.inr rfl, by rw [show chA C R wi v M 1 (X 2).f ss = (foW C R wi v (chA C R wi v M 0) 2 (X 2).f) (-1) (chL (X 2).2.1.2.2 (foW C R wi v (chA C R wi v M 0) 2 (X 2).f) ss (C * R)).2 from (if_neg (show ¬ ss.1 ≤ (X 2).1 10 from (Int32.not_le.mpr c_3))).trans (if_neg (show ¬ M ≤ 2 by omega))]; rfl⟩
    · have c_4 : ¬ (2 < M) := by have hc := c_4; rw [nI_lt' (by omega) (by omega)] at hc; exact hc
      refine zs_aload_n dX1_choose_41 rfl rfl ?_
      refine zs_aload_n dX1_choose_42 rfl rfl ?_
      refine zs_callV (M := mX1_weigh) (As := [.ref (T 2)]) (st := []) (Kc := [(a, .inr (0, fSr ar M v ss.1)), (ar 2, .inl (0, 3, .inl (ss.2.1))), (ar 3, .inl (0, 3, .inl (ss.2.2))), ((T 2), .inr (1, fFire (AD 2) (X 2).1)), ((AD 2) 1, .inl (0, 64, .inl ((X 2).2.1.1))), ((AD 2) 2, .inl (0, 64, .inl ((X 2).2.1.2.1))), ((AD 2) 3, .inl (1, 64, .inl ((X 2).2.1.2.2))), ((AD 2) 4, .inl (0, 64, .inl ((X 2).2.2))), ((AD 2) 5, .inl (0, 60, .inl (SE 2)))]) (Kr := [(ar 1, .inl (4, 4, .inr (.inr (.inr (.inr (fun j => some (T j))))))), ((T 3), .inr (1, fFire (AD 3) (X 3).1)), ((AD 3) 1, .inl (0, 64, .inl ((X 3).2.1.1))), ((AD 3) 2, .inl (0, 64, .inl ((X 3).2.1.2.1))), ((AD 3) 3, .inl (1, 64, .inl ((X 3).2.1.2.2))), ((AD 3) 4, .inl (0, 64, .inl ((X 3).2.2))), ((AD 3) 5, .inl (0, 60, .inl (SE 3)))]) [0, 2, 3, 4, 5, 6, 7, 8, 9] [1, 10, 11, 12, 13, 14, 15] 0 dX1_choose_43 zl_RX1_49 kX1_weigh rfl rfl rfl rfl rfl (by decide) rfl rfl (show dd - 1 + 1 ≤ dd by omega) (Nat.zero_le _) (Nat.zero_le _) (Nat.le_of_ble_eq_true rfl) (s_weigh l (dd - 1) a ar T (T 2) (AD 2) C R M wi v ss (SE 2) (X 2) (by omega) hM hfz hwi) (fun r K1 hr => ?_)
      obtain ⟨rfl, X1, rfl⟩ := hr
      refine zs_K (K' := [(a, .inr (0, fSr ar M v (wgh C R wi M (X 2).f ss).1)), (ar 1, .inl (4, 4, .inr (.inr (.inr (.inr (fun j => some (T j))))))), (ar 2, .inl (0, 3, .inl ((wgh C R wi M (X 2).f ss).2.1))), (ar 3, .inl (0, 3, .inl ((wgh C R wi M (X 2).f ss).2.2))), ((T 2), .inr (1, fFire (AD 2) X1.1)), ((AD 2) 1, .inl (0, 64, .inl (X1.2.1.1))), ((AD 2) 2, .inl (0, 64, .inl (X1.2.1.2.1))), ((AD 2) 3, .inl (1, 64, .inl (X1.2.1.2.2))), ((AD 2) 4, .inl (0, 64, .inl (X1.2.2))), ((AD 2) 5, .inl (0, 60, .inl (SE 2))), ((T 3), .inr (1, fFire (AD 3) (X 3).1)), ((AD 3) 1, .inl (0, 64, .inl ((X 3).2.1.1))), ((AD 3) 2, .inl (0, 64, .inl ((X 3).2.1.2.1))), ((AD 3) 3, .inl (1, 64, .inl ((X 3).2.1.2.2))), ((AD 3) 4, .inl (0, 64, .inl ((X 3).2.2))), ((AD 3) 5, .inl (0, 60, .inl (SE 3)))]) [7, 0, 8, 9, 10, 11, 12, 13, 14, 15, 1, 2, 3, 4, 5, 6] rfl (by decide) ?_
      exact zs_vret dX1_choose_46 rfl ⟨rfl, fun j => if j = 2 then X1 else X j, Or.inl (show M ≤ 2 by omega), by rw [show chA C R wi v M 1 (X 2).f ss = wgh C R wi M (X 2).f ss from (if_neg (show ¬ ss.1 ≤ (X 2).1 10 from (Int32.not_le.mpr c_3))).trans (if_pos (show M ≤ 2 by omega))]; rfl⟩
  · exact zs_vret dX1_choose_25 rfl ⟨rfl, X, Or.inr rfl, by rw [show chA C R wi v M 1 (X 2).f ss = ss from if_pos (show ss.1 ≤ (X 2).1 10 from (Int32.not_lt.mp c_3))]; rfl⟩
set_option maxRecDepth 100000 in
theorem s_fol1 (l : Launch) (dd : Nat) (a : Nat) (ar : Nat → Nat) (T : Nat → Nat) (AD : Nat → Nat → Nat) (C R M : Nat) (wi v : Int32) (ss : zSs) (SE : Nat → (Nat → Int32)) (X : Nat → zFc) (c : Int32) (hd : 7 ≤ dd) (hM : M ≤ 3) (hC : C ≤ 64) (hfz : zFh C R (X 1).1) (hwi : (X 1).1 3 = wi) (h01 : ∀ j, j < C * R → (X 1).2.1.2.2 j = 0 ∨ (X 1).2.1.2.2 j = 1) : zSp l mX1_follow dd 0 0 [.ref a, .int (nI 1), .int c] [(a, .inr (0, fSr ar M v ss.1)), (ar 1, .inl (4, 4, .inr (.inr (.inr (.inr (fun j => some (T j))))))), (ar 2, .inl (0, 3, .inl (ss.2.1))), (ar 3, .inl (0, 3, .inl (ss.2.2))), ((T 1), .inr (1, fFire (AD 1) (X 1).1)), ((AD 1) 1, .inl (0, 64, .inl ((X 1).2.1.1))), ((AD 1) 2, .inl (0, 64, .inl ((X 1).2.1.2.1))), ((AD 1) 3, .inl (1, 64, .inl ((X 1).2.1.2.2))), ((AD 1) 4, .inl (0, 64, .inl ((X 1).2.2))), ((AD 1) 5, .inl (0, 60, .inl (SE 1))), ((T 2), .inr (1, fFire (AD 2) (X 2).1)), ((AD 2) 1, .inl (0, 64, .inl ((X 2).2.1.1))), ((AD 2) 2, .inl (0, 64, .inl ((X 2).2.1.2.1))), ((AD 2) 3, .inl (1, 64, .inl ((X 2).2.1.2.2))), ((AD 2) 4, .inl (0, 64, .inl ((X 2).2.2))), ((AD 2) 5, .inl (0, 60, .inl (SE 2))), ((T 3), .inr (1, fFire (AD 3) (X 3).1)), ((AD 3) 1, .inl (0, 64, .inl ((X 3).2.1.1))), ((AD 3) 2, .inl (0, 64, .inl ((X 3).2.1.2.1))), ((AD 3) 3, .inl (1, 64, .inl ((X 3).2.1.2.2))), ((AD 3) 4, .inl (0, 64, .inl ((X 3).2.2))), ((AD 3) 5, .inl (0, 60, .inl (SE 3)))] (fun r K' => r = none ∧ ∃ X' : Nat → zFc, X' 1 = X 1 ∧ K' = kSr a ar T M v (foW C R wi v (chA C R wi v M 1) 1 (X 1).f c ss) ++ (kFc (T 1) (AD 1) (X' 1) (SE 1) ++ (kFc (T 2) (AD 2) (X' 2) (SE 2) ++ (kFc (T 3) (AD 3) (X' 3) (SE 3))))) := by
  refine zSp.of (by decide) (Nat.le_of_ble_eq_true rfl) (fun h0 => ?_)
  show zS _ 0 0 0 [(0, .ref a), (1, .int (nI 1)), (2, .int c)] [] [(a, .inr (0, fSr ar M v ss.1)), (ar 1, .inl (4, 4, .inr (.inr (.inr (.inr (fun j => some (T j))))))), (ar 2, .inl (0, 3, .inl (ss.2.1))), (ar 3, .inl (0, 3, .inl (ss.2.2))), ((T 1), .inr (1, fFire (AD 1) (X 1).1)), ((AD 1) 1, .inl (0, 64, .inl ((X 1).2.1.1))), ((AD 1) 2, .inl (0, 64, .inl ((X 1).2.1.2.1))), ((AD 1) 3, .inl (1, 64, .inl ((X 1).2.1.2.2))), ((AD 1) 4, .inl (0, 64, .inl ((X 1).2.2))), ((AD 1) 5, .inl (0, 60, .inl (SE 1))), ((T 2), .inr (1, fFire (AD 2) (X 2).1)), ((AD 2) 1, .inl (0, 64, .inl ((X 2).2.1.1))), ((AD 2) 2, .inl (0, 64, .inl ((X 2).2.1.2.1))), ((AD 2) 3, .inl (1, 64, .inl ((X 2).2.1.2.2))), ((AD 2) 4, .inl (0, 64, .inl ((X 2).2.2))), ((AD 2) 5, .inl (0, 60, .inl (SE 2))), ((T 3), .inr (1, fFire (AD 3) (X 3).1)), ((AD 3) 1, .inl (0, 64, .inl ((X 3).2.1.1))), ((AD 3) 2, .inl (0, 64, .inl ((X 3).2.1.2.1))), ((AD 3) 3, .inl (1, 64, .inl ((X 3).2.1.2.2))), ((AD 3) 4, .inl (0, 64, .inl ((X 3).2.2))), ((AD 3) 5, .inl (0, 60, .inl (SE 3)))]
  refine zs_aload_n dX1_follow_0 rfl rfl ?_
  refine zs_get 0 dX1_follow_1 zf_RX1_11 rfl (v := .ref (ar 1)) rfl ?_
  refine zs_iload_n dX1_follow_4 rfl ?_
  refine zs_iconst (v := nI 1) dX1_follow_5 (by decide) ?_
  refine zs_iadd dX1_follow_6 ?_
  refine zs_as (y := nI 2) rfl ?_
  refine zs_aald4 (b := (T 2)) 1 dX1_follow_7 rfl (vp_in_nI (by decide) (by decide)) (congrArg (fun k => some (T k)) (nI_c (n := 2) (by decide))) ?_
  refine zs_astore_n (lv' := [(3, .ref (T 2)), (0, .ref a), (1, .int (nI 1)), (2, .int c)]) dX1_follow_8 (Nat.le_of_ble_eq_true rfl) rfl rfl ?_
  refine zs_aload_n dX1_follow_9 rfl rfl ?_
  refine zs_aload_n dX1_follow_10 rfl rfl ?_
  refine zs_get 0 dX1_follow_11 zf_RX1_11 rfl (v := .ref (ar 1)) rfl ?_
  refine zs_iload_n dX1_follow_14 rfl ?_
  refine zs_aald4 (b := (T 1)) 1 dX1_follow_15 rfl (vp_in_nI (by decide) (by decide)) (congrArg (fun k => some (T k)) (nI_c (n := 1) (by decide))) ?_
  refine zs_callV (M := mX2_copy) (As := [.ref (T 1)]) (st := []) (Kc := [((T 2), .inr (1, fFire (AD 2) (X 2).1)), ((AD 2) 1, .inl (0, 64, .inl ((X 2).2.1.1))), ((AD 2) 2, .inl (0, 64, .inl ((X 2).2.1.2.1))), ((AD 2) 3, .inl (1, 64, .inl ((X 2).2.1.2.2))), ((AD 2) 4, .inl (0, 64, .inl ((X 2).2.2))), ((AD 2) 5, .inl (0, 60, .inl (SE 2))), ((T 1), .inr (1, fFire (AD 1) (X 1).1)), ((AD 1) 1, .inl (0, 64, .inl ((X 1).2.1.1))), ((AD 1) 2, .inl (0, 64, .inl ((X 1).2.1.2.1))), ((AD 1) 3, .inl (1, 64, .inl ((X 1).2.1.2.2))), ((AD 1) 4, .inl (0, 64, .inl ((X 1).2.2))), ((AD 1) 5, .inl (0, 60, .inl (SE 1)))]) (Kr := [(a, .inr (0, fSr ar M v ss.1)), (ar 1, .inl (4, 4, .inr (.inr (.inr (.inr (fun j => some (T j))))))), (ar 2, .inl (0, 3, .inl (ss.2.1))), (ar 3, .inl (0, 3, .inl (ss.2.2))), ((T 3), .inr (1, fFire (AD 3) (X 3).1)), ((AD 3) 1, .inl (0, 64, .inl ((X 3).2.1.1))), ((AD 3) 2, .inl (0, 64, .inl ((X 3).2.1.2.1))), ((AD 3) 3, .inl (1, 64, .inl ((X 3).2.1.2.2))), ((AD 3) 4, .inl (0, 64, .inl ((X 3).2.2))), ((AD 3) 5, .inl (0, 60, .inl (SE 3)))]) [10, 11, 12, 13, 14, 15, 4, 5, 6, 7, 8, 9] [0, 1, 2, 3, 16, 17, 18, 19, 20, 21] 0 dX1_follow_16 zl_RX1_64 kX2_copy rfl rfl rfl rfl rfl (by decide) rfl rfl (show dd - 1 + 1 ≤ dd by omega) (Nat.zero_le _) (Nat.zero_le _) (Nat.le_of_ble_eq_true rfl) (s_copyF l (dd - 1) (T 2) (T 1) (AD 2) (AD 1) (C * R) (X 2).1 (X 1).1 (X 2).2.1.1 (X 2).2.1.2.1 (X 2).2.1.2.2 (X 2).2.2 (SE 2) (X 1).2.1.1 (X 1).2.1.2.1 (X 1).2.1.2.2 (X 1).2.2 (SE 1) hfz.2.1 hfz.2.2.2.2 h01) (fun r K1 hr => ?_)
  obtain ⟨rfl, rfl⟩ := hr
  refine zs_K (K' := [(a, .inr (0, fSr ar M v ss.1)), (ar 1, .inl (4, 4, .inr (.inr (.inr (.inr (fun j => some (T j))))))), (ar 2, .inl (0, 3, .inl (ss.2.1))), (ar 3, .inl (0, 3, .inl (ss.2.2))), ((T 1), .inr (1, fFire (AD 1) (X 1).1)), ((AD 1) 1, .inl (0, 64, .inl ((X 1).2.1.1))), ((AD 1) 2, .inl (0, 64, .inl ((X 1).2.1.2.1))), ((AD 1) 3, .inl (1, 64, .inl ((X 1).2.1.2.2))), ((AD 1) 4, .inl (0, 64, .inl ((X 1).2.2))), ((AD 1) 5, .inl (0, 60, .inl (SE 1))), ((T 2), .inr (1, fFire (AD 2) (upd (upd (upd (upd (upd (upd (upd (X 2).1 0 ((X 1).1 0)) 1 ((X 1).1 1)) 2 ((X 1).1 2)) 3 ((X 1).1 3)) 9 ((X 1).1 9)) 10 ((X 1).1 10)) 11 ((X 1).1 11)))), ((AD 2) 1, .inl (0, 64, .inl (pCl (X 1).2.1.1 (X 2).2.1.1 (C * R)))), ((AD 2) 2, .inl (0, 64, .inl (pCl (X 1).2.1.2.1 (X 2).2.1.2.1 (C * R)))), ((AD 2) 3, .inl (1, 64, .inl (pCl (X 1).2.1.2.2 (X 2).2.1.2.2 (C * R)))), ((AD 2) 4, .inl (0, 64, .inl ((X 2).2.2))), ((AD 2) 5, .inl (0, 60, .inl (SE 2))), ((T 3), .inr (1, fFire (AD 3) (X 3).1)), ((AD 3) 1, .inl (0, 64, .inl ((X 3).2.1.1))), ((AD 3) 2, .inl (0, 64, .inl ((X 3).2.1.2.1))), ((AD 3) 3, .inl (1, 64, .inl ((X 3).2.1.2.2))), ((AD 3) 4, .inl (0, 64, .inl ((X 3).2.2))), ((AD 3) 5, .inl (0, 60, .inl (SE 3)))]) [0, 1, 2, 3, 16, 17, 18, 19, 20, 21, 10, 11, 12, 13, 14, 15, 4, 5, 6, 7, 8, 9] rfl (by decide) ?_
  refine zs_aload_n dX1_follow_19 rfl rfl ?_
  refine zs_iload_n dX1_follow_20 rfl ?_
  refine zs_aload_n dX1_follow_21 rfl rfl ?_
  refine zs_get 0 dX1_follow_22 zf_RX1_29 rfl (v := .int v) rfl ?_
  refine zs_callV (M := mX2_passMinute) (As := [.int c, .int v]) (st := []) (Kc := [((T 2), .inr (1, fFire (AD 2) (upd (upd (upd (upd (upd (upd (upd (X 2).1 0 ((X 1).1 0)) 1 ((X 1).1 1)) 2 ((X 1).1 2)) 3 ((X 1).1 3)) 9 ((X 1).1 9)) 10 ((X 1).1 10)) 11 ((X 1).1 11)))), ((AD 2) 1, .inl (0, 64, .inl (pCl (X 1).2.1.1 (X 2).2.1.1 (C * R)))), ((AD 2) 2, .inl (0, 64, .inl (pCl (X 1).2.1.2.1 (X 2).2.1.2.1 (C * R)))), ((AD 2) 3, .inl (1, 64, .inl (pCl (X 1).2.1.2.2 (X 2).2.1.2.2 (C * R)))), ((AD 2) 4, .inl (0, 64, .inl ((X 2).2.2))), ((AD 2) 5, .inl (0, 60, .inl (SE 2)))]) (Kr := [(a, .inr (0, fSr ar M v ss.1)), (ar 1, .inl (4, 4, .inr (.inr (.inr (.inr (fun j => some (T j))))))), (ar 2, .inl (0, 3, .inl (ss.2.1))), (ar 3, .inl (0, 3, .inl (ss.2.2))), ((T 1), .inr (1, fFire (AD 1) (X 1).1)), ((AD 1) 1, .inl (0, 64, .inl ((X 1).2.1.1))), ((AD 1) 2, .inl (0, 64, .inl ((X 1).2.1.2.1))), ((AD 1) 3, .inl (1, 64, .inl ((X 1).2.1.2.2))), ((AD 1) 4, .inl (0, 64, .inl ((X 1).2.2))), ((AD 1) 5, .inl (0, 60, .inl (SE 1))), ((T 3), .inr (1, fFire (AD 3) (X 3).1)), ((AD 3) 1, .inl (0, 64, .inl ((X 3).2.1.1))), ((AD 3) 2, .inl (0, 64, .inl ((X 3).2.1.2.1))), ((AD 3) 3, .inl (1, 64, .inl ((X 3).2.1.2.2))), ((AD 3) 4, .inl (0, 64, .inl ((X 3).2.2))), ((AD 3) 5, .inl (0, 60, .inl (SE 3)))]) [10, 11, 12, 13, 14, 15] [0, 1, 2, 3, 4, 5, 6, 7, 8, 9, 16, 17, 18, 19, 20, 21] 0 dX1_follow_25 zl_RX1_67 kX2_passMinute rfl rfl rfl rfl rfl (by decide) rfl rfl (show dd - 1 + 1 ≤ dd by omega) (Nat.zero_le _) (Nat.zero_le _) (Nat.le_of_ble_eq_true rfl) (s_minute l (dd - 1) (T 2) (AD 2) C R (upd (upd (upd (upd (upd (upd (upd (X 2).1 0 ((X 1).1 0)) 1 ((X 1).1 1)) 2 ((X 1).1 2)) 3 ((X 1).1 3)) 9 ((X 1).1 9)) 10 ((X 1).1 10)) 11 ((X 1).1 11)) (pCl (X 1).2.1.1 (X 2).2.1.1 (C * R), pCl (X 1).2.1.2.1 (X 2).2.1.2.1 (C * R), pCl (X 1).2.1.2.2 (X 2).2.1.2.2 (C * R)) (X 2).2.2 (SE 2) c v wi (by omega) ⟨hfz.1, hfz.2.1, hfz.2.2.1, hfz.2.2.2.1, hfz.2.2.2.2⟩ hwi) (fun r K1 hr => ?_)
  obtain ⟨rfl, he1, rfl⟩ := hr
  refine zs_K (K' := [(a, .inr (0, fSr ar M v ss.1)), (ar 1, .inl (4, 4, .inr (.inr (.inr (.inr (fun j => some (T j))))))), (ar 2, .inl (0, 3, .inl (ss.2.1))), (ar 3, .inl (0, 3, .inl (ss.2.2))), ((T 1), .inr (1, fFire (AD 1) (X 1).1)), ((AD 1) 1, .inl (0, 64, .inl ((X 1).2.1.1))), ((AD 1) 2, .inl (0, 64, .inl ((X 1).2.1.2.1))), ((AD 1) 3, .inl (1, 64, .inl ((X 1).2.1.2.2))), ((AD 1) 4, .inl (0, 64, .inl ((X 1).2.2))), ((AD 1) 5, .inl (0, 60, .inl (SE 1))), ((T 2), .inr (1, fFire (AD 2) (upd (upd (upd (upd (upd (upd (upd (upd (upd (X 2).1 0 ((X 1).1 0)) 1 ((X 1).1 1)) 2 ((X 1).1 2)) 3 ((X 1).1 3)) 9 ((X 1).1 9)) 10 ((X 1).1 10)) 11 ((X 1).1 11)) 9 (mBn C R wi (pCl (X 1).2.1.1 (X 2).2.1.1 (C * R), pCl (X 1).2.1.2.1 (X 2).2.1.2.1 (C * R), pCl (X 1).2.1.2.2 (X 2).2.1.2.2 (C * R)) c v)) 10 ((upd (upd (upd (upd (upd (upd (upd (X 2).1 0 ((X 1).1 0)) 1 ((X 1).1 1)) 2 ((X 1).1 2)) 3 ((X 1).1 3)) 9 ((X 1).1 9)) 10 ((X 1).1 10)) 11 ((X 1).1 11)) 10 + mLs C R (pCl (X 1).2.1.1 (X 2).2.1.1 (C * R), pCl (X 1).2.1.2.1 (X 2).2.1.2.1 (C * R), pCl (X 1).2.1.2.2 (X 2).2.1.2.2 (C * R)) c v)))), ((AD 2) 1, .inl (0, 64, .inl ((mMin C R wi (pCl (X 1).2.1.1 (X 2).2.1.1 (C * R), pCl (X 1).2.1.2.1 (X 2).2.1.2.1 (C * R), pCl (X 1).2.1.2.2 (X 2).2.1.2.2 (C * R)) c v).1))), ((AD 2) 2, .inl (0, 64, .inl ((mMin C R wi (pCl (X 1).2.1.1 (X 2).2.1.1 (C * R), pCl (X 1).2.1.2.1 (X 2).2.1.2.1 (C * R), pCl (X 1).2.1.2.2 (X 2).2.1.2.2 (C * R)) c v).2.1))), ((AD 2) 3, .inl (1, 64, .inl ((mMin C R wi (pCl (X 1).2.1.1 (X 2).2.1.1 (C * R), pCl (X 1).2.1.2.1 (X 2).2.1.2.1 (C * R), pCl (X 1).2.1.2.2 (X 2).2.1.2.2 (C * R)) c v).2.2))), ((AD 2) 4, .inl (0, 64, .inl he1)), ((AD 2) 5, .inl (0, 60, .inl (SE 2))), ((T 3), .inr (1, fFire (AD 3) (X 3).1)), ((AD 3) 1, .inl (0, 64, .inl ((X 3).2.1.1))), ((AD 3) 2, .inl (0, 64, .inl ((X 3).2.1.2.1))), ((AD 3) 3, .inl (1, 64, .inl ((X 3).2.1.2.2))), ((AD 3) 4, .inl (0, 64, .inl ((X 3).2.2))), ((AD 3) 5, .inl (0, 60, .inl (SE 3)))]) [0, 1, 2, 3, 4, 5, 6, 7, 8, 9, 16, 17, 18, 19, 20, 21, 10, 11, 12, 13, 14, 15] rfl (by decide) ?_
  refine zs_aload_n dX1_follow_28 rfl rfl ?_
  refine zs_get 0 dX1_follow_29 zf_RX1_18 rfl (v := .ref (ar 2)) rfl ?_
  refine zs_iload_n dX1_follow_32 rfl ?_
  refine zs_iload_n dX1_follow_33 rfl ?_
  refine zs_aload_n dX1_follow_34 rfl rfl ?_
  refine zs_get 10 dX1_follow_35 zf_RX1_70 rfl (v := .int ((upd (upd (upd (upd (upd (upd (upd (upd (upd (X 2).1 0 ((X 1).1 0)) 1 ((X 1).1 1)) 2 ((X 1).1 2)) 3 ((X 1).1 3)) 9 ((X 1).1 9)) 10 ((X 1).1 10)) 11 ((X 1).1 11)) 9 (mBn C R wi (pCl (X 1).2.1.1 (X 2).2.1.1 (C * R), pCl (X 1).2.1.2.1 (X 2).2.1.2.1 (C * R), pCl (X 1).2.1.2.2 (X 2).2.1.2.2 (C * R)) c v)) 10 ((upd (upd (upd (upd (upd (upd (upd (X 2).1 0 ((X 1).1 0)) 1 ((X 1).1 1)) 2 ((X 1).1 2)) 3 ((X 1).1 3)) 9 ((X 1).1 9)) 10 ((X 1).1 10)) 11 ((X 1).1 11)) 10 + mLs C R (pCl (X 1).2.1.1 (X 2).2.1.1 (C * R), pCl (X 1).2.1.2.1 (X 2).2.1.2.1 (C * R), pCl (X 1).2.1.2.2 (X 2).2.1.2.2 (C * R)) c v)) 0)) rfl ?_
  refine zs_as (y := nI C) hfz.2.2.1 ?_
  refine zs_callS (M := mX1_aimOf) (As := [.int c, .int (nI C)]) (st := [.int (nI 1), .ref (ar 2)]) (Kc := []) (Kr := [(a, .inr (0, fSr ar M v ss.1)), (ar 1, .inl (4, 4, .inr (.inr (.inr (.inr (fun j => some (T j))))))), (ar 2, .inl (0, 3, .inl (ss.2.1))), (ar 3, .inl (0, 3, .inl (ss.2.2))), ((T 1), .inr (1, fFire (AD 1) (X 1).1)), ((AD 1) 1, .inl (0, 64, .inl ((X 1).2.1.1))), ((AD 1) 2, .inl (0, 64, .inl ((X 1).2.1.2.1))), ((AD 1) 3, .inl (1, 64, .inl ((X 1).2.1.2.2))), ((AD 1) 4, .inl (0, 64, .inl ((X 1).2.2))), ((AD 1) 5, .inl (0, 60, .inl (SE 1))), ((T 2), .inr (1, fFire (AD 2) (upd (upd (upd (upd (upd (upd (upd (upd (upd (X 2).1 0 ((X 1).1 0)) 1 ((X 1).1 1)) 2 ((X 1).1 2)) 3 ((X 1).1 3)) 9 ((X 1).1 9)) 10 ((X 1).1 10)) 11 ((X 1).1 11)) 9 (mBn C R wi (pCl (X 1).2.1.1 (X 2).2.1.1 (C * R), pCl (X 1).2.1.2.1 (X 2).2.1.2.1 (C * R), pCl (X 1).2.1.2.2 (X 2).2.1.2.2 (C * R)) c v)) 10 ((upd (upd (upd (upd (upd (upd (upd (X 2).1 0 ((X 1).1 0)) 1 ((X 1).1 1)) 2 ((X 1).1 2)) 3 ((X 1).1 3)) 9 ((X 1).1 9)) 10 ((X 1).1 10)) 11 ((X 1).1 11)) 10 + mLs C R (pCl (X 1).2.1.1 (X 2).2.1.1 (C * R), pCl (X 1).2.1.2.1 (X 2).2.1.2.1 (C * R), pCl (X 1).2.1.2.2 (X 2).2.1.2.2 (C * R)) c v)))), ((AD 2) 1, .inl (0, 64, .inl ((mMin C R wi (pCl (X 1).2.1.1 (X 2).2.1.1 (C * R), pCl (X 1).2.1.2.1 (X 2).2.1.2.1 (C * R), pCl (X 1).2.1.2.2 (X 2).2.1.2.2 (C * R)) c v).1))), ((AD 2) 2, .inl (0, 64, .inl ((mMin C R wi (pCl (X 1).2.1.1 (X 2).2.1.1 (C * R), pCl (X 1).2.1.2.1 (X 2).2.1.2.1 (C * R), pCl (X 1).2.1.2.2 (X 2).2.1.2.2 (C * R)) c v).2.1))), ((AD 2) 3, .inl (1, 64, .inl ((mMin C R wi (pCl (X 1).2.1.1 (X 2).2.1.1 (C * R), pCl (X 1).2.1.2.1 (X 2).2.1.2.1 (C * R), pCl (X 1).2.1.2.2 (X 2).2.1.2.2 (C * R)) c v).2.2))), ((AD 2) 4, .inl (0, 64, .inl he1)), ((AD 2) 5, .inl (0, 60, .inl (SE 2))), ((T 3), .inr (1, fFire (AD 3) (X 3).1)), ((AD 3) 1, .inl (0, 64, .inl ((X 3).2.1.1))), ((AD 3) 2, .inl (0, 64, .inl ((X 3).2.1.2.1))), ((AD 3) 3, .inl (1, 64, .inl ((X 3).2.1.2.2))), ((AD 3) 4, .inl (0, 64, .inl ((X 3).2.2))), ((AD 3) 5, .inl (0, 60, .inl (SE 3)))]) [] [0, 1, 2, 3, 4, 5, 6, 7, 8, 9, 10, 11, 12, 13, 14, 15, 16, 17, 18, 19, 20, 21] dX1_follow_38 zl_RX1_73 kX1_aimOf rfl rfl rfl rfl rfl (by decide) (show dd - 1 + 1 ≤ dd by omega) (Nat.zero_le _) (Nat.zero_le _) (Nat.le_of_ble_eq_true rfl) (s_aimOf l (dd - 1) c (nI C)) (fun r K1 hr => ?_)
  obtain ⟨rfl, rfl⟩ := hr
  refine zs_K (K' := [(a, .inr (0, fSr ar M v ss.1)), (ar 1, .inl (4, 4, .inr (.inr (.inr (.inr (fun j => some (T j))))))), (ar 2, .inl (0, 3, .inl (ss.2.1))), (ar 3, .inl (0, 3, .inl (ss.2.2))), ((T 1), .inr (1, fFire (AD 1) (X 1).1)), ((AD 1) 1, .inl (0, 64, .inl ((X 1).2.1.1))), ((AD 1) 2, .inl (0, 64, .inl ((X 1).2.1.2.1))), ((AD 1) 3, .inl (1, 64, .inl ((X 1).2.1.2.2))), ((AD 1) 4, .inl (0, 64, .inl ((X 1).2.2))), ((AD 1) 5, .inl (0, 60, .inl (SE 1))), ((T 2), .inr (1, fFire (AD 2) (upd (upd (upd (upd (upd (upd (upd (upd (upd (X 2).1 0 ((X 1).1 0)) 1 ((X 1).1 1)) 2 ((X 1).1 2)) 3 ((X 1).1 3)) 9 ((X 1).1 9)) 10 ((X 1).1 10)) 11 ((X 1).1 11)) 9 (mBn C R wi (pCl (X 1).2.1.1 (X 2).2.1.1 (C * R), pCl (X 1).2.1.2.1 (X 2).2.1.2.1 (C * R), pCl (X 1).2.1.2.2 (X 2).2.1.2.2 (C * R)) c v)) 10 ((upd (upd (upd (upd (upd (upd (upd (X 2).1 0 ((X 1).1 0)) 1 ((X 1).1 1)) 2 ((X 1).1 2)) 3 ((X 1).1 3)) 9 ((X 1).1 9)) 10 ((X 1).1 10)) 11 ((X 1).1 11)) 10 + mLs C R (pCl (X 1).2.1.1 (X 2).2.1.1 (C * R), pCl (X 1).2.1.2.1 (X 2).2.1.2.1 (C * R), pCl (X 1).2.1.2.2 (X 2).2.1.2.2 (C * R)) c v)))), ((AD 2) 1, .inl (0, 64, .inl ((mMin C R wi (pCl (X 1).2.1.1 (X 2).2.1.1 (C * R), pCl (X 1).2.1.2.1 (X 2).2.1.2.1 (C * R), pCl (X 1).2.1.2.2 (X 2).2.1.2.2 (C * R)) c v).1))), ((AD 2) 2, .inl (0, 64, .inl ((mMin C R wi (pCl (X 1).2.1.1 (X 2).2.1.1 (C * R), pCl (X 1).2.1.2.1 (X 2).2.1.2.1 (C * R), pCl (X 1).2.1.2.2 (X 2).2.1.2.2 (C * R)) c v).2.1))), ((AD 2) 3, .inl (1, 64, .inl ((mMin C R wi (pCl (X 1).2.1.1 (X 2).2.1.1 (C * R), pCl (X 1).2.1.2.1 (X 2).2.1.2.1 (C * R), pCl (X 1).2.1.2.2 (X 2).2.1.2.2 (C * R)) c v).2.2))), ((AD 2) 4, .inl (0, 64, .inl he1)), ((AD 2) 5, .inl (0, 60, .inl (SE 2))), ((T 3), .inr (1, fFire (AD 3) (X 3).1)), ((AD 3) 1, .inl (0, 64, .inl ((X 3).2.1.1))), ((AD 3) 2, .inl (0, 64, .inl ((X 3).2.1.2.1))), ((AD 3) 3, .inl (1, 64, .inl ((X 3).2.1.2.2))), ((AD 3) 4, .inl (0, 64, .inl ((X 3).2.2))), ((AD 3) 5, .inl (0, 60, .inl (SE 3)))]) [0, 1, 2, 3, 4, 5, 6, 7, 8, 9, 10, 11, 12, 13, 14, 15, 16, 17, 18, 19, 20, 21] rfl (by decide) ?_
  refine zs_iast 2 dX1_follow_41 rfl (vp_in_nI (by omega) (by omega)) ?_
  rw [nI_c (n := 1) (by omega)]
  show zS _ _ _ _ _ _ [(a, .inr (0, fSr ar M v ss.1)), (ar 1, .inl (4, 4, .inr (.inr (.inr (.inr (fun j => some (T j))))))), (ar 2, .inl (0, 3, .inl (upd (ss.2.1) 1 (aOf c (nI C))))), (ar 3, .inl (0, 3, .inl (ss.2.2))), ((T 1), .inr (1, fFire (AD 1) (X 1).1)), ((AD 1) 1, .inl (0, 64, .inl ((X 1).2.1.1))), ((AD 1) 2, .inl (0, 64, .inl ((X 1).2.1.2.1))), ((AD 1) 3, .inl (1, 64, .inl ((X 1).2.1.2.2))), ((AD 1) 4, .inl (0, 64, .inl ((X 1).2.2))), ((AD 1) 5, .inl (0, 60, .inl (SE 1))), ((T 2), .inr (1, fFire (AD 2) (upd (upd (upd (upd (upd (upd (upd (upd (upd (X 2).1 0 ((X 1).1 0)) 1 ((X 1).1 1)) 2 ((X 1).1 2)) 3 ((X 1).1 3)) 9 ((X 1).1 9)) 10 ((X 1).1 10)) 11 ((X 1).1 11)) 9 (mBn C R wi (pCl (X 1).2.1.1 (X 2).2.1.1 (C * R), pCl (X 1).2.1.2.1 (X 2).2.1.2.1 (C * R), pCl (X 1).2.1.2.2 (X 2).2.1.2.2 (C * R)) c v)) 10 ((upd (upd (upd (upd (upd (upd (upd (X 2).1 0 ((X 1).1 0)) 1 ((X 1).1 1)) 2 ((X 1).1 2)) 3 ((X 1).1 3)) 9 ((X 1).1 9)) 10 ((X 1).1 10)) 11 ((X 1).1 11)) 10 + mLs C R (pCl (X 1).2.1.1 (X 2).2.1.1 (C * R), pCl (X 1).2.1.2.1 (X 2).2.1.2.1 (C * R), pCl (X 1).2.1.2.2 (X 2).2.1.2.2 (C * R)) c v)))), ((AD 2) 1, .inl (0, 64, .inl ((mMin C R wi (pCl (X 1).2.1.1 (X 2).2.1.1 (C * R), pCl (X 1).2.1.2.1 (X 2).2.1.2.1 (C * R), pCl (X 1).2.1.2.2 (X 2).2.1.2.2 (C * R)) c v).1))), ((AD 2) 2, .inl (0, 64, .inl ((mMin C R wi (pCl (X 1).2.1.1 (X 2).2.1.1 (C * R), pCl (X 1).2.1.2.1 (X 2).2.1.2.1 (C * R), pCl (X 1).2.1.2.2 (X 2).2.1.2.2 (C * R)) c v).2.1))), ((AD 2) 3, .inl (1, 64, .inl ((mMin C R wi (pCl (X 1).2.1.1 (X 2).2.1.1 (C * R), pCl (X 1).2.1.2.1 (X 2).2.1.2.1 (C * R), pCl (X 1).2.1.2.2 (X 2).2.1.2.2 (C * R)) c v).2.2))), ((AD 2) 4, .inl (0, 64, .inl he1)), ((AD 2) 5, .inl (0, 60, .inl (SE 2))), ((T 3), .inr (1, fFire (AD 3) (X 3).1)), ((AD 3) 1, .inl (0, 64, .inl ((X 3).2.1.1))), ((AD 3) 2, .inl (0, 64, .inl ((X 3).2.1.2.1))), ((AD 3) 3, .inl (1, 64, .inl ((X 3).2.1.2.2))), ((AD 3) 4, .inl (0, 64, .inl ((X 3).2.2))), ((AD 3) 5, .inl (0, 60, .inl (SE 3)))]
  refine zs_aload_n dX1_follow_42 rfl rfl ?_
  refine zs_iload_n dX1_follow_43 rfl ?_
  refine zs_iconst (v := nI 1) dX1_follow_44 (by decide) ?_
  refine zs_iadd dX1_follow_45 ?_
  refine zs_as (y := nI 2) rfl ?_
  let X2 : Nat → zFc := fun j => if j = 2 then ((upd (upd (upd (upd (upd (upd (upd (upd (upd (X 2).1 0 ((X 1).1 0)) 1 ((X 1).1 1)) 2 ((X 1).1 2)) 3 ((X 1).1 3)) 9 ((X 1).1 9)) 10 ((X 1).1 10)) 11 ((X 1).1 11)) 9 (mBn C R wi (pCl (X 1).2.1.1 (X 2).2.1.1 (C * R), pCl (X 1).2.1.2.1 (X 2).2.1.2.1 (C * R), pCl (X 1).2.1.2.2 (X 2).2.1.2.2 (C * R)) c v)) 10 ((upd (upd (upd (upd (upd (upd (upd (X 2).1 0 ((X 1).1 0)) 1 ((X 1).1 1)) 2 ((X 1).1 2)) 3 ((X 1).1 3)) 9 ((X 1).1 9)) 10 ((X 1).1 10)) 11 ((X 1).1 11)) 10 + mLs C R (pCl (X 1).2.1.1 (X 2).2.1.1 (C * R), pCl (X 1).2.1.2.1 (X 2).2.1.2.1 (C * R), pCl (X 1).2.1.2.2 (X 2).2.1.2.2 (C * R)) c v)), (mMin C R wi (pCl (X 1).2.1.1 (X 2).2.1.1 (C * R), pCl (X 1).2.1.2.1 (X 2).2.1.2.1 (C * R), pCl (X 1).2.1.2.2 (X 2).2.1.2.2 (C * R)) c v), he1) else X j
  have hag : chA C R wi v M 1 (X2 2).f (ss.1, upd ss.2.1 1 (aOf c (nI C)), ss.2.2) = foW C R wi v (chA C R wi v M 1) 1 (X 1).f c ss := chA_ag hfz.2.1 1 _ _ _ (f1_ag (F := ((pCl (X 1).2.1.1 (X 2).2.1.1 (C * R), pCl (X 1).2.1.2.1 (X 2).2.1.2.1 (C * R), pCl (X 1).2.1.2.2 (X 2).2.1.2.2 (C * R)), ((X 1).1 10, (X 1).1 9))) (G := (X 1).f) hfz.2.1 ⟨⟨pCl_agl _ _ _, pCl_agl _ _ _, pCl_agl _ _ _⟩, rfl⟩ c v)
  refine zs_callV (M := mX1_choose) (As := [.int (nI 2)]) (st := []) (Kc := [(a, .inr (0, fSr ar M v ss.1)), (ar 1, .inl (4, 4, .inr (.inr (.inr (.inr (fun j => some (T j))))))), (ar 2, .inl (0, 3, .inl (upd (ss.2.1) 1 (aOf c (nI C))))), (ar 3, .inl (0, 3, .inl (ss.2.2))), ((T 2), .inr (1, fFire (AD 2) (upd (upd (upd (upd (upd (upd (upd (upd (upd (X 2).1 0 ((X 1).1 0)) 1 ((X 1).1 1)) 2 ((X 1).1 2)) 3 ((X 1).1 3)) 9 ((X 1).1 9)) 10 ((X 1).1 10)) 11 ((X 1).1 11)) 9 (mBn C R wi (pCl (X 1).2.1.1 (X 2).2.1.1 (C * R), pCl (X 1).2.1.2.1 (X 2).2.1.2.1 (C * R), pCl (X 1).2.1.2.2 (X 2).2.1.2.2 (C * R)) c v)) 10 ((upd (upd (upd (upd (upd (upd (upd (X 2).1 0 ((X 1).1 0)) 1 ((X 1).1 1)) 2 ((X 1).1 2)) 3 ((X 1).1 3)) 9 ((X 1).1 9)) 10 ((X 1).1 10)) 11 ((X 1).1 11)) 10 + mLs C R (pCl (X 1).2.1.1 (X 2).2.1.1 (C * R), pCl (X 1).2.1.2.1 (X 2).2.1.2.1 (C * R), pCl (X 1).2.1.2.2 (X 2).2.1.2.2 (C * R)) c v)))), ((AD 2) 1, .inl (0, 64, .inl ((mMin C R wi (pCl (X 1).2.1.1 (X 2).2.1.1 (C * R), pCl (X 1).2.1.2.1 (X 2).2.1.2.1 (C * R), pCl (X 1).2.1.2.2 (X 2).2.1.2.2 (C * R)) c v).1))), ((AD 2) 2, .inl (0, 64, .inl ((mMin C R wi (pCl (X 1).2.1.1 (X 2).2.1.1 (C * R), pCl (X 1).2.1.2.1 (X 2).2.1.2.1 (C * R), pCl (X 1).2.1.2.2 (X 2).2.1.2.2 (C * R)) c v).2.1))), ((AD 2) 3, .inl (1, 64, .inl ((mMin C R wi (pCl (X 1).2.1.1 (X 2).2.1.1 (C * R), pCl (X 1).2.1.2.1 (X 2).2.1.2.1 (C * R), pCl (X 1).2.1.2.2 (X 2).2.1.2.2 (C * R)) c v).2.2))), ((AD 2) 4, .inl (0, 64, .inl he1)), ((AD 2) 5, .inl (0, 60, .inl (SE 2))), ((T 3), .inr (1, fFire (AD 3) (X 3).1)), ((AD 3) 1, .inl (0, 64, .inl ((X 3).2.1.1))), ((AD 3) 2, .inl (0, 64, .inl ((X 3).2.1.2.1))), ((AD 3) 3, .inl (1, 64, .inl ((X 3).2.1.2.2))), ((AD 3) 4, .inl (0, 64, .inl ((X 3).2.2))), ((AD 3) 5, .inl (0, 60, .inl (SE 3)))]) (Kr := [((T 1), .inr (1, fFire (AD 1) (X 1).1)), ((AD 1) 1, .inl (0, 64, .inl ((X 1).2.1.1))), ((AD 1) 2, .inl (0, 64, .inl ((X 1).2.1.2.1))), ((AD 1) 3, .inl (1, 64, .inl ((X 1).2.1.2.2))), ((AD 1) 4, .inl (0, 64, .inl ((X 1).2.2))), ((AD 1) 5, .inl (0, 60, .inl (SE 1)))]) [0, 1, 2, 3, 10, 11, 12, 13, 14, 15, 16, 17, 18, 19, 20, 21] [4, 5, 6, 7, 8, 9] 0 dX1_follow_46 zl_RX1_42 kX1_choose rfl rfl rfl rfl rfl (by decide) rfl rfl (show dd - 1 + 1 ≤ dd by omega) (Nat.zero_le _) (Nat.zero_le _) (Nat.le_of_ble_eq_true rfl) (s_cho2 l (dd - 1) a ar T AD C R M wi v (ss.1, upd ss.2.1 1 (aOf c (nI C)), ss.2.2) SE X2 (by omega) hM hC ⟨hfz.1, hfz.2.1, hfz.2.2.1, hfz.2.2.2.1, hfz.2.2.2.2⟩ hwi mMin_01) (fun r K1 hr => ?_)
  obtain ⟨rfl, X3, _, rfl⟩ := hr
  rw [hag]
  refine zs_K (K' := [(a, .inr (0, fSr ar M v (foW C R wi v (chA C R wi v M 1) 1 (X 1).f c ss).1)), (ar 1, .inl (4, 4, .inr (.inr (.inr (.inr (fun j => some (T j))))))), (ar 2, .inl (0, 3, .inl ((foW C R wi v (chA C R wi v M 1) 1 (X 1).f c ss).2.1))), (ar 3, .inl (0, 3, .inl ((foW C R wi v (chA C R wi v M 1) 1 (X 1).f c ss).2.2))), ((T 1), .inr (1, fFire (AD 1) (X 1).1)), ((AD 1) 1, .inl (0, 64, .inl ((X 1).2.1.1))), ((AD 1) 2, .inl (0, 64, .inl ((X 1).2.1.2.1))), ((AD 1) 3, .inl (1, 64, .inl ((X 1).2.1.2.2))), ((AD 1) 4, .inl (0, 64, .inl ((X 1).2.2))), ((AD 1) 5, .inl (0, 60, .inl (SE 1))), ((T 2), .inr (1, fFire (AD 2) (X3 2).1)), ((AD 2) 1, .inl (0, 64, .inl ((X3 2).2.1.1))), ((AD 2) 2, .inl (0, 64, .inl ((X3 2).2.1.2.1))), ((AD 2) 3, .inl (1, 64, .inl ((X3 2).2.1.2.2))), ((AD 2) 4, .inl (0, 64, .inl ((X3 2).2.2))), ((AD 2) 5, .inl (0, 60, .inl (SE 2))), ((T 3), .inr (1, fFire (AD 3) (X3 3).1)), ((AD 3) 1, .inl (0, 64, .inl ((X3 3).2.1.1))), ((AD 3) 2, .inl (0, 64, .inl ((X3 3).2.1.2.1))), ((AD 3) 3, .inl (1, 64, .inl ((X3 3).2.1.2.2))), ((AD 3) 4, .inl (0, 64, .inl ((X3 3).2.2))), ((AD 3) 5, .inl (0, 60, .inl (SE 3)))]) [6, 7, 8, 9, 0, 1, 2, 3, 4, 5, 10, 11, 12, 13, 14, 15, 16, 17, 18, 19, 20, 21] rfl (by decide) ?_
  exact zs_vret dX1_follow_49 rfl ⟨rfl, fun j => if j = 1 then X 1 else X3 j, rfl, rfl⟩
set_option maxRecDepth 100000 in
theorem lp_cho1 {l : Launch} {dd : Nat} {Po : zPo} {K0 : zK} {h0 : List va_E} {Xo : zK → Prop} {Gc : zG → Prop} (a : Nat) (ar : Nat → Nat) (T : Nat → Nat) (AD : Nat → Nat → Nat) (C R M : Nat) (wi v : Int32) (ss : zSs) (SE : Nat → (Nat → Int32)) (X : Nat → zFc) (hd : 8 ≤ dd) (hM : M ≤ 3) (hC : C ≤ 64) (hfz : zFh C R (X 1).1) (hwi : (X 1).1 3 = wi) (h01 : ∀ j, j < C * R → (X 1).2.1.2.2 j = 0 ∨ (X 1).2.1.2.2 j = 1) (hk : ∀ (X1 : Nat → zFc), zS (l, mX1_choose, dd, Po, K0, h0, Xo, Gc) 0 0 93 [(0, .ref a), (1, .int (nI 1))] [] [(a, .inr (0, fSr ar M v (chL (X 1).2.1.2.2 (foW C R wi v (chA C R wi v M 1) 1 (X 1).f) ss (C * R)).2.1)), (ar 1, .inl (4, 4, .inr (.inr (.inr (.inr (fun j => some (T j))))))), (ar 2, .inl (0, 3, .inl ((chL (X 1).2.1.2.2 (foW C R wi v (chA C R wi v M 1) 1 (X 1).f) ss (C * R)).2.2.1))), (ar 3, .inl (0, 3, .inl ((chL (X 1).2.1.2.2 (foW C R wi v (chA C R wi v M 1) 1 (X 1).f) ss (C * R)).2.2.2))), ((T 1), .inr (1, fFire (AD 1) (X 1).1)), ((AD 1) 1, .inl (0, 64, .inl ((X 1).2.1.1))), ((AD 1) 2, .inl (0, 64, .inl ((X 1).2.1.2.1))), ((AD 1) 3, .inl (1, 64, .inl ((X 1).2.1.2.2))), ((AD 1) 4, .inl (0, 64, .inl ((X 1).2.2))), ((AD 1) 5, .inl (0, 60, .inl (SE 1))), ((T 2), .inr (1, fFire (AD 2) (X1 2).1)), ((AD 2) 1, .inl (0, 64, .inl ((X1 2).2.1.1))), ((AD 2) 2, .inl (0, 64, .inl ((X1 2).2.1.2.1))), ((AD 2) 3, .inl (1, 64, .inl ((X1 2).2.1.2.2))), ((AD 2) 4, .inl (0, 64, .inl ((X1 2).2.2))), ((AD 2) 5, .inl (0, 60, .inl (SE 2))), ((T 3), .inr (1, fFire (AD 3) (X1 3).1)), ((AD 3) 1, .inl (0, 64, .inl ((X1 3).2.1.1))), ((AD 3) 2, .inl (0, 64, .inl ((X1 3).2.1.2.1))), ((AD 3) 3, .inl (1, 64, .inl ((X1 3).2.1.2.2))), ((AD 3) 4, .inl (0, 64, .inl ((X1 3).2.2))), ((AD 3) 5, .inl (0, 60, .inl (SE 3)))]) :
    ∀ (q i : Nat) (X1 : Nat → zFc), i + q = C * R → zS (l, mX1_choose, dd, Po, K0, h0, Xo, Gc) 0 0 52 [(0, .ref a), (1, .int (nI 1)), (2, .ref (T 1)), (3, .int (nI (chL (X 1).2.1.2.2 (foW C R wi v (chA C R wi v M 1) 1 (X 1).f) ss i).1)), (4, .int (nI i))] [] [(a, .inr (0, fSr ar M v (chL (X 1).2.1.2.2 (foW C R wi v (chA C R wi v M 1) 1 (X 1).f) ss i).2.1)), (ar 1, .inl (4, 4, .inr (.inr (.inr (.inr (fun j => some (T j))))))), (ar 2, .inl (0, 3, .inl ((chL (X 1).2.1.2.2 (foW C R wi v (chA C R wi v M 1) 1 (X 1).f) ss i).2.2.1))), (ar 3, .inl (0, 3, .inl ((chL (X 1).2.1.2.2 (foW C R wi v (chA C R wi v M 1) 1 (X 1).f) ss i).2.2.2))), ((T 1), .inr (1, fFire (AD 1) (X 1).1)), ((AD 1) 1, .inl (0, 64, .inl ((X 1).2.1.1))), ((AD 1) 2, .inl (0, 64, .inl ((X 1).2.1.2.1))), ((AD 1) 3, .inl (1, 64, .inl ((X 1).2.1.2.2))), ((AD 1) 4, .inl (0, 64, .inl ((X 1).2.2))), ((AD 1) 5, .inl (0, 60, .inl (SE 1))), ((T 2), .inr (1, fFire (AD 2) (X1 2).1)), ((AD 2) 1, .inl (0, 64, .inl ((X1 2).2.1.1))), ((AD 2) 2, .inl (0, 64, .inl ((X1 2).2.1.2.1))), ((AD 2) 3, .inl (1, 64, .inl ((X1 2).2.1.2.2))), ((AD 2) 4, .inl (0, 64, .inl ((X1 2).2.2))), ((AD 2) 5, .inl (0, 60, .inl (SE 2))), ((T 3), .inr (1, fFire (AD 3) (X1 3).1)), ((AD 3) 1, .inl (0, 64, .inl ((X1 3).2.1.1))), ((AD 3) 2, .inl (0, 64, .inl ((X1 3).2.1.2.1))), ((AD 3) 3, .inl (1, 64, .inl ((X1 3).2.1.2.2))), ((AD 3) 4, .inl (0, 64, .inl ((X1 3).2.2))), ((AD 3) 5, .inl (0, 60, .inl (SE 3)))] := by
  have hCR := hfz.2.1
  intro q
  induction q with
  | zero =>
    intro i X1 hi
    have hin : i = C * R := by omega
    refine zs_iload dX1_choose_52 rfl ?_
    refine zs_aload_n dX1_choose_54 rfl rfl ?_
    refine zs_get 4 dX1_choose_55 zf_RX1_53 rfl (v := .int ((X 1).1 2)) rfl ?_
    refine zs_icmp_ge (tgt := 93) dX1_choose_58 (by decide) (fun c_1 => ?_) (fun c_1 => (c_1 (by show (X 1).1 2 ≤ nI i; rw [hfz.2.2.2.2, hin]; exact Int32.le_refl _) : False).elim)
    refine zs_lv [0, 1] rfl ?_
    have hq := hk X1
    rw [← hin] at hq
    exact hq
  | succ q ih =>
    intro i X1 hi
    have hil : i < C * R := by omega
    have b8 := chL_8 (bu := (X 1).2.1.2.2) (fo := (foW C R wi v (chA C R wi v M 1) 1 (X 1).f)) (ss := ss) i
    refine zs_iload dX1_choose_52 rfl ?_
    refine zs_aload_n dX1_choose_54 rfl rfl ?_
    refine zs_get 4 dX1_choose_55 zf_RX1_53 rfl (v := .int ((X 1).1 2)) rfl ?_
    refine zs_icmp_ge (tgt := 93) dX1_choose_58 (by decide) (fun c_1 => (nI_ge hil (by omega) (hfz.2.2.2.2 ▸ c_1) : False).elim) (fun c_1 => ?_)
    refine zs_iload_n dX1_choose_61 rfl ?_
    refine zs_bipush (v := nI 8) dX1_choose_62 (by decide) ?_
    refine zs_icmp_ge (tgt := 93) dX1_choose_64 (by decide) (fun c_2 => ?_) (fun c_2 => ?_)
    · have c_2 : 8 ≤ ((chL (X 1).2.1.2.2 (foW C R wi v (chA C R wi v M 1) 1 (X 1).f) ss i).1) := by have hc := c_2; rw [nI_le' (by omega) (by omega)] at hc; exact hc
      refine zs_lv [0, 1] rfl ?_
      have hq := hk X1
      have e : C * R = i + (C * R - i) := by omega
      rw [e, chL_stop (show 8 ≤ (chL (X 1).2.1.2.2 (foW C R wi v (chA C R wi v M 1) 1 (X 1).f) ss i).1 from c_2) (C * R - i)] at hq
      exact hq
    · have c_2 : ¬ (8 ≤ ((chL (X 1).2.1.2.2 (foW C R wi v (chA C R wi v M 1) 1 (X 1).f) ss i).1)) := by have hc := c_2; rw [nI_le' (by omega) (by omega)] at hc; exact hc
      refine zs_aload_n dX1_choose_67 rfl rfl ?_
      refine zs_get 4 dX1_choose_68 zf_RX1_56 rfl (v := .ref ((AD 1) 3)) rfl ?_
      refine zs_iload dX1_choose_71 rfl ?_
      refine zs_zald 7 dX1_choose_73 rfl (vp_in_nI (by omega) (by omega)) ?_
      refine zs_as (y := (X 1).2.1.2.2 i) (by rw [nI_c (n := i) (by omega)]) ?_
      refine zs_if_eq (tgt := 87) dX1_choose_74 (by decide) (fun c_3 => ?_) (fun c_3 => ?_)
      · refine zs_iinc (v := (nI (i + 1))) (lv' := [(4, .int (nI (i + 1))), (0, .ref a), (1, .int (nI 1)), (2, .ref (T 1)), (3, .int (nI (chL (X 1).2.1.2.2 (foW C R wi v (chA C R wi v M 1) 1 (X 1).f) ss i).1))]) dX1_choose_87 rfl (nI_add _ 1) (Nat.le_of_ble_eq_true rfl) rfl ?_
        refine zs_goto (tgt := 52) dX1_choose_90 (by decide) ?_
        refine zs_lv [1, 2, 3, 4, 0] rfl ?_
        have hq := ih (i + 1) X1 (by omega)
        rw [show chL (X 1).2.1.2.2 (foW C R wi v (chA C R wi v M 1) 1 (X 1).f) ss (i + 1) = chL (X 1).2.1.2.2 (foW C R wi v (chA C R wi v M 1) 1 (X 1).f) ss i from by simp only [chL]; rw [if_neg (by omega), if_pos c_3]] at hq
        exact hq
      · refine zs_iinc (v := (nI (((chL (X 1).2.1.2.2 (foW C R wi v (chA C R wi v M 1) 1 (X 1).f) ss i).1) + 1))) (lv' := [(3, .int (nI (((chL (X 1).2.1.2.2 (foW C R wi v (chA C R wi v M 1) 1 (X 1).f) ss i).1) + 1))), (0, .ref a), (1, .int (nI 1)), (2, .ref (T 1)), (4, .int (nI i))]) dX1_choose_77 rfl (nI_add _ 1) (Nat.le_of_ble_eq_true rfl) rfl ?_
        refine zs_aload_n dX1_choose_80 rfl rfl ?_
        refine zs_iload_n dX1_choose_81 rfl ?_
        refine zs_iload dX1_choose_82 rfl ?_
        let X2 : Nat → zFc := fun j => if j = 1 then X 1 else X1 j
        refine zs_callV (M := mX1_follow) (As := [.int (nI 1), .int (nI i)]) (st := []) (Kc := [(a, .inr (0, fSr ar M v (chL (X 1).2.1.2.2 (foW C R wi v (chA C R wi v M 1) 1 (X 1).f) ss i).2.1)), (ar 1, .inl (4, 4, .inr (.inr (.inr (.inr (fun j => some (T j))))))), (ar 2, .inl (0, 3, .inl ((chL (X 1).2.1.2.2 (foW C R wi v (chA C R wi v M 1) 1 (X 1).f) ss i).2.2.1))), (ar 3, .inl (0, 3, .inl ((chL (X 1).2.1.2.2 (foW C R wi v (chA C R wi v M 1) 1 (X 1).f) ss i).2.2.2))), ((T 1), .inr (1, fFire (AD 1) (X 1).1)), ((AD 1) 1, .inl (0, 64, .inl ((X 1).2.1.1))), ((AD 1) 2, .inl (0, 64, .inl ((X 1).2.1.2.1))), ((AD 1) 3, .inl (1, 64, .inl ((X 1).2.1.2.2))), ((AD 1) 4, .inl (0, 64, .inl ((X 1).2.2))), ((AD 1) 5, .inl (0, 60, .inl (SE 1))), ((T 2), .inr (1, fFire (AD 2) (X1 2).1)), ((AD 2) 1, .inl (0, 64, .inl ((X1 2).2.1.1))), ((AD 2) 2, .inl (0, 64, .inl ((X1 2).2.1.2.1))), ((AD 2) 3, .inl (1, 64, .inl ((X1 2).2.1.2.2))), ((AD 2) 4, .inl (0, 64, .inl ((X1 2).2.2))), ((AD 2) 5, .inl (0, 60, .inl (SE 2))), ((T 3), .inr (1, fFire (AD 3) (X1 3).1)), ((AD 3) 1, .inl (0, 64, .inl ((X1 3).2.1.1))), ((AD 3) 2, .inl (0, 64, .inl ((X1 3).2.1.2.1))), ((AD 3) 3, .inl (1, 64, .inl ((X1 3).2.1.2.2))), ((AD 3) 4, .inl (0, 64, .inl ((X1 3).2.2))), ((AD 3) 5, .inl (0, 60, .inl (SE 3)))]) (Kr := []) [0, 1, 2, 3, 4, 5, 6, 7, 8, 9, 10, 11, 12, 13, 14, 15, 16, 17, 18, 19, 20, 21] [] 0 dX1_choose_84 zl_RX1_60 kX1_follow rfl rfl rfl rfl rfl (by decide) rfl rfl (show dd - 1 + 1 ≤ dd by omega) (Nat.zero_le _) (Nat.zero_le _) (Nat.le_of_ble_eq_true rfl) (s_fol1 l (dd - 1) a ar T AD C R M wi v (chL (X 1).2.1.2.2 (foW C R wi v (chA C R wi v M 1) 1 (X 1).f) ss i).2 SE X2 (nI i) (by omega) hM hC hfz hwi h01) (fun r K1 hr => ?_)
        obtain ⟨rfl, X3, hX3, rfl⟩ := hr
        rw [hX3]
        refine zs_K (K' := [(a, .inr (0, fSr ar M v ((foW C R wi v (chA C R wi v M 1) 1 (X 1).f) (nI i) (chL (X 1).2.1.2.2 (foW C R wi v (chA C R wi v M 1) 1 (X 1).f) ss i).2).1)), (ar 1, .inl (4, 4, .inr (.inr (.inr (.inr (fun j => some (T j))))))), (ar 2, .inl (0, 3, .inl (((foW C R wi v (chA C R wi v M 1) 1 (X 1).f) (nI i) (chL (X 1).2.1.2.2 (foW C R wi v (chA C R wi v M 1) 1 (X 1).f) ss i).2).2.1))), (ar 3, .inl (0, 3, .inl (((foW C R wi v (chA C R wi v M 1) 1 (X 1).f) (nI i) (chL (X 1).2.1.2.2 (foW C R wi v (chA C R wi v M 1) 1 (X 1).f) ss i).2).2.2))), ((T 1), .inr (1, fFire (AD 1) (X 1).1)), ((AD 1) 1, .inl (0, 64, .inl ((X 1).2.1.1))), ((AD 1) 2, .inl (0, 64, .inl ((X 1).2.1.2.1))), ((AD 1) 3, .inl (1, 64, .inl ((X 1).2.1.2.2))), ((AD 1) 4, .inl (0, 64, .inl ((X 1).2.2))), ((AD 1) 5, .inl (0, 60, .inl (SE 1))), ((T 2), .inr (1, fFire (AD 2) (X3 2).1)), ((AD 2) 1, .inl (0, 64, .inl ((X3 2).2.1.1))), ((AD 2) 2, .inl (0, 64, .inl ((X3 2).2.1.2.1))), ((AD 2) 3, .inl (1, 64, .inl ((X3 2).2.1.2.2))), ((AD 2) 4, .inl (0, 64, .inl ((X3 2).2.2))), ((AD 2) 5, .inl (0, 60, .inl (SE 2))), ((T 3), .inr (1, fFire (AD 3) (X3 3).1)), ((AD 3) 1, .inl (0, 64, .inl ((X3 3).2.1.1))), ((AD 3) 2, .inl (0, 64, .inl ((X3 3).2.1.2.1))), ((AD 3) 3, .inl (1, 64, .inl ((X3 3).2.1.2.2))), ((AD 3) 4, .inl (0, 64, .inl ((X3 3).2.2))), ((AD 3) 5, .inl (0, 60, .inl (SE 3)))]) [0, 1, 2, 3, 4, 5, 6, 7, 8, 9, 10, 11, 12, 13, 14, 15, 16, 17, 18, 19, 20, 21] rfl (by decide) ?_
        refine zs_iinc (v := (nI (i + 1))) (lv' := [(4, .int (nI (i + 1))), (3, .int (nI (((chL (X 1).2.1.2.2 (foW C R wi v (chA C R wi v M 1) 1 (X 1).f) ss i).1) + 1))), (0, .ref a), (1, .int (nI 1)), (2, .ref (T 1))]) dX1_choose_87 rfl (nI_add _ 1) (Nat.le_of_ble_eq_true rfl) rfl ?_
        refine zs_goto (tgt := 52) dX1_choose_90 (by decide) ?_
        refine zs_lv [2, 3, 4, 1, 0] rfl ?_
        have hq := ih (i + 1) X3 (by omega)
        rw [show chL (X 1).2.1.2.2 (foW C R wi v (chA C R wi v M 1) 1 (X 1).f) ss (i + 1) = ((chL (X 1).2.1.2.2 (foW C R wi v (chA C R wi v M 1) 1 (X 1).f) ss i).1 + 1, (foW C R wi v (chA C R wi v M 1) 1 (X 1).f) (nI i) (chL (X 1).2.1.2.2 (foW C R wi v (chA C R wi v M 1) 1 (X 1).f) ss i).2) from by simp only [chL]; rw [if_neg (by omega), if_neg c_3]] at hq
        exact hq
set_option maxRecDepth 100000 in
theorem s_cho1 (l : Launch) (dd : Nat) (a : Nat) (ar : Nat → Nat) (T : Nat → Nat) (AD : Nat → Nat → Nat) (C R M : Nat) (wi v : Int32) (ss : zSs) (SE : Nat → (Nat → Int32)) (X : Nat → zFc) (hd : 8 ≤ dd) (hM : M ≤ 3) (hC : C ≤ 64) (hfz : zFh C R (X 1).1) (hwi : (X 1).1 3 = wi) (h01 : ∀ j, j < C * R → (X 1).2.1.2.2 j = 0 ∨ (X 1).2.1.2.2 j = 1) : zSp l mX1_choose dd 0 0 [.ref a, .int (nI 1)] [(a, .inr (0, fSr ar M v ss.1)), (ar 1, .inl (4, 4, .inr (.inr (.inr (.inr (fun j => some (T j))))))), (ar 2, .inl (0, 3, .inl (ss.2.1))), (ar 3, .inl (0, 3, .inl (ss.2.2))), ((T 1), .inr (1, fFire (AD 1) (X 1).1)), ((AD 1) 1, .inl (0, 64, .inl ((X 1).2.1.1))), ((AD 1) 2, .inl (0, 64, .inl ((X 1).2.1.2.1))), ((AD 1) 3, .inl (1, 64, .inl ((X 1).2.1.2.2))), ((AD 1) 4, .inl (0, 64, .inl ((X 1).2.2))), ((AD 1) 5, .inl (0, 60, .inl (SE 1))), ((T 2), .inr (1, fFire (AD 2) (X 2).1)), ((AD 2) 1, .inl (0, 64, .inl ((X 2).2.1.1))), ((AD 2) 2, .inl (0, 64, .inl ((X 2).2.1.2.1))), ((AD 2) 3, .inl (1, 64, .inl ((X 2).2.1.2.2))), ((AD 2) 4, .inl (0, 64, .inl ((X 2).2.2))), ((AD 2) 5, .inl (0, 60, .inl (SE 2))), ((T 3), .inr (1, fFire (AD 3) (X 3).1)), ((AD 3) 1, .inl (0, 64, .inl ((X 3).2.1.1))), ((AD 3) 2, .inl (0, 64, .inl ((X 3).2.1.2.1))), ((AD 3) 3, .inl (1, 64, .inl ((X 3).2.1.2.2))), ((AD 3) 4, .inl (0, 64, .inl ((X 3).2.2))), ((AD 3) 5, .inl (0, 60, .inl (SE 3)))] (fun r K' => r = none ∧ ∃ X' : Nat → zFc, (M ≤ 1 ∨ X' 1 = X 1) ∧ K' = kSr a ar T M v (chA C R wi v M 2 (X 1).f ss) ++ (kFc (T 1) (AD 1) (X' 1) (SE 1) ++ (kFc (T 2) (AD 2) (X' 2) (SE 2) ++ (kFc (T 3) (AD 3) (X' 3) (SE 3))))) := by
  refine zSp.of (by decide) (Nat.le_of_ble_eq_true rfl) (fun h0 => ?_)
  show zS _ 0 0 0 [(0, .ref a), (1, .int (nI 1))] [] [(a, .inr (0, fSr ar M v ss.1)), (ar 1, .inl (4, 4, .inr (.inr (.inr (.inr (fun j => some (T j))))))), (ar 2, .inl (0, 3, .inl (ss.2.1))), (ar 3, .inl (0, 3, .inl (ss.2.2))), ((T 1), .inr (1, fFire (AD 1) (X 1).1)), ((AD 1) 1, .inl (0, 64, .inl ((X 1).2.1.1))), ((AD 1) 2, .inl (0, 64, .inl ((X 1).2.1.2.1))), ((AD 1) 3, .inl (1, 64, .inl ((X 1).2.1.2.2))), ((AD 1) 4, .inl (0, 64, .inl ((X 1).2.2))), ((AD 1) 5, .inl (0, 60, .inl (SE 1))), ((T 2), .inr (1, fFire (AD 2) (X 2).1)), ((AD 2) 1, .inl (0, 64, .inl ((X 2).2.1.1))), ((AD 2) 2, .inl (0, 64, .inl ((X 2).2.1.2.1))), ((AD 2) 3, .inl (1, 64, .inl ((X 2).2.1.2.2))), ((AD 2) 4, .inl (0, 64, .inl ((X 2).2.2))), ((AD 2) 5, .inl (0, 60, .inl (SE 2))), ((T 3), .inr (1, fFire (AD 3) (X 3).1)), ((AD 3) 1, .inl (0, 64, .inl ((X 3).2.1.1))), ((AD 3) 2, .inl (0, 64, .inl ((X 3).2.1.2.1))), ((AD 3) 3, .inl (1, 64, .inl ((X 3).2.1.2.2))), ((AD 3) 4, .inl (0, 64, .inl ((X 3).2.2))), ((AD 3) 5, .inl (0, 60, .inl (SE 3)))]
  refine zs_iload_n dX1_choose_0 rfl ?_
  refine zs_if_lt (tgt := 25) dX1_choose_1 (by decide) (fun c_1 => (absurd c_1 (by decide) : False).elim) (fun c_1 => ?_)
  refine zs_iload_n dX1_choose_4 rfl ?_
  refine zs_iconst (v := nI 3) dX1_choose_5 (by decide) ?_
  refine zs_icmp_gt (tgt := 25) dX1_choose_6 (by decide) (fun c_2 => (absurd c_2 (by decide) : False).elim) (fun c_2 => ?_)
  refine zs_aload_n dX1_choose_9 rfl rfl ?_
  refine zs_get 0 dX1_choose_10 zf_RX1_11 rfl (v := .ref (ar 1)) rfl ?_
  refine zs_iload_n dX1_choose_13 rfl ?_
  refine zs_aald4 (b := (T 1)) 1 dX1_choose_14 rfl (vp_in_nI (by decide) (by decide)) (congrArg (fun k => some (T k)) (nI_c (n := 1) (by decide))) ?_
  refine zs_get 4 dX1_choose_15 zf_RX1_46 rfl (v := .int ((X 1).1 10)) rfl ?_
  refine zs_aload_n dX1_choose_18 rfl rfl ?_
  refine zs_get 0 dX1_choose_19 zf_RX1_35 rfl (v := .int ss.1) rfl ?_
  refine zs_icmp_lt (tgt := 26) dX1_choose_22 (by decide) (fun c_3 => ?_) (fun c_3 => ?_)
  · refine zs_aload_n dX1_choose_26 rfl rfl ?_
    refine zs_get 0 dX1_choose_27 zf_RX1_11 rfl (v := .ref (ar 1)) rfl ?_
    refine zs_iload_n dX1_choose_30 rfl ?_
    refine zs_aald4 (b := (T 1)) 1 dX1_choose_31 rfl (vp_in_nI (by decide) (by decide)) (congrArg (fun k => some (T k)) (nI_c (n := 1) (by decide))) ?_
    refine zs_astore_n (lv' := [(2, .ref (T 1)), (0, .ref a), (1, .int (nI 1))]) dX1_choose_32 (Nat.le_of_ble_eq_true rfl) rfl rfl ?_
    refine zs_iload_n dX1_choose_33 rfl ?_
    refine zs_aload_n dX1_choose_34 rfl rfl ?_
    refine zs_get 0 dX1_choose_35 zf_RX1_25 rfl (v := .int (nI M)) rfl ?_
    refine zs_icmp_lt (tgt := 47) dX1_choose_38 (by decide) (fun c_4 => ?_) (fun c_4 => ?_)
    · have c_4 : 1 < M := by have hc := c_4; rw [nI_lt' (by omega) (by omega)] at hc; exact hc
      refine zs_iconst (v := nI 0) dX1_choose_47 (by decide) ?_
      refine zs_istore_n (lv' := [(3, .int (nI 0)), (2, .ref (T 1)), (0, .ref a), (1, .int (nI 1))]) dX1_choose_48 (Nat.le_of_ble_eq_true rfl) rfl ?_
      refine zs_iconst (v := nI 0) dX1_choose_49 (by decide) ?_
      refine zs_istore (lv' := [(4, .int (nI 0)), (3, .int (nI 0)), (2, .ref (T 1)), (0, .ref a), (1, .int (nI 1))]) dX1_choose_50 (Nat.le_of_ble_eq_true rfl) rfl ?_
      refine zs_lv [3, 4, 2, 1, 0] rfl ?_
      refine lp_cho1 a ar T AD C R M wi v ss SE X hd hM hC hfz hwi h01 (fun X1 => ?_) (C * R) 0 X (by omega)
      refine zs_aload_n dX1_choose_93 rfl rfl ?_
      refine zs_iload_n dX1_choose_94 rfl ?_
      refine zs_iconst (v := (-1)) dX1_choose_95 (by decide) ?_
      let X2 : Nat → zFc := fun j => if j = 1 then X 1 else X1 j
      refine zs_callV (M := mX1_follow) (As := [.int (nI 1), .int (-1)]) (st := []) (Kc := [(a, .inr (0, fSr ar M v (chL (X 1).2.1.2.2 (foW C R wi v (chA C R wi v M 1) 1 (X 1).f) ss (C * R)).2.1)), (ar 1, .inl (4, 4, .inr (.inr (.inr (.inr (fun j => some (T j))))))), (ar 2, .inl (0, 3, .inl ((chL (X 1).2.1.2.2 (foW C R wi v (chA C R wi v M 1) 1 (X 1).f) ss (C * R)).2.2.1))), (ar 3, .inl (0, 3, .inl ((chL (X 1).2.1.2.2 (foW C R wi v (chA C R wi v M 1) 1 (X 1).f) ss (C * R)).2.2.2))), ((T 1), .inr (1, fFire (AD 1) (X 1).1)), ((AD 1) 1, .inl (0, 64, .inl ((X 1).2.1.1))), ((AD 1) 2, .inl (0, 64, .inl ((X 1).2.1.2.1))), ((AD 1) 3, .inl (1, 64, .inl ((X 1).2.1.2.2))), ((AD 1) 4, .inl (0, 64, .inl ((X 1).2.2))), ((AD 1) 5, .inl (0, 60, .inl (SE 1))), ((T 2), .inr (1, fFire (AD 2) (X1 2).1)), ((AD 2) 1, .inl (0, 64, .inl ((X1 2).2.1.1))), ((AD 2) 2, .inl (0, 64, .inl ((X1 2).2.1.2.1))), ((AD 2) 3, .inl (1, 64, .inl ((X1 2).2.1.2.2))), ((AD 2) 4, .inl (0, 64, .inl ((X1 2).2.2))), ((AD 2) 5, .inl (0, 60, .inl (SE 2))), ((T 3), .inr (1, fFire (AD 3) (X1 3).1)), ((AD 3) 1, .inl (0, 64, .inl ((X1 3).2.1.1))), ((AD 3) 2, .inl (0, 64, .inl ((X1 3).2.1.2.1))), ((AD 3) 3, .inl (1, 64, .inl ((X1 3).2.1.2.2))), ((AD 3) 4, .inl (0, 64, .inl ((X1 3).2.2))), ((AD 3) 5, .inl (0, 60, .inl (SE 3)))]) (Kr := []) [0, 1, 2, 3, 4, 5, 6, 7, 8, 9, 10, 11, 12, 13, 14, 15, 16, 17, 18, 19, 20, 21] [] 0 dX1_choose_96 zl_RX1_60 kX1_follow rfl rfl rfl rfl rfl (by decide) rfl rfl (show dd - 1 + 1 ≤ dd by omega) (Nat.zero_le _) (Nat.zero_le _) (Nat.le_of_ble_eq_true rfl) (s_fol1 l (dd - 1) a ar T AD C R M wi v (chL (X 1).2.1.2.2 (foW C R wi v (chA C R wi v M 1) 1 (X 1).f) ss (C * R)).2 SE X2 (-1) (by omega) hM hC hfz hwi h01) (fun r K1 hr => ?_)
      obtain ⟨rfl, X3, hX3, rfl⟩ := hr
      rw [hX3]
      refine zs_K (K' := [(a, .inr (0, fSr ar M v ((foW C R wi v (chA C R wi v M 1) 1 (X 1).f) (-1) (chL (X 1).2.1.2.2 (foW C R wi v (chA C R wi v M 1) 1 (X 1).f) ss (C * R)).2).1)), (ar 1, .inl (4, 4, .inr (.inr (.inr (.inr (fun j => some (T j))))))), (ar 2, .inl (0, 3, .inl (((foW C R wi v (chA C R wi v M 1) 1 (X 1).f) (-1) (chL (X 1).2.1.2.2 (foW C R wi v (chA C R wi v M 1) 1 (X 1).f) ss (C * R)).2).2.1))), (ar 3, .inl (0, 3, .inl (((foW C R wi v (chA C R wi v M 1) 1 (X 1).f) (-1) (chL (X 1).2.1.2.2 (foW C R wi v (chA C R wi v M 1) 1 (X 1).f) ss (C * R)).2).2.2))), ((T 1), .inr (1, fFire (AD 1) (X 1).1)), ((AD 1) 1, .inl (0, 64, .inl ((X 1).2.1.1))), ((AD 1) 2, .inl (0, 64, .inl ((X 1).2.1.2.1))), ((AD 1) 3, .inl (1, 64, .inl ((X 1).2.1.2.2))), ((AD 1) 4, .inl (0, 64, .inl ((X 1).2.2))), ((AD 1) 5, .inl (0, 60, .inl (SE 1))), ((T 2), .inr (1, fFire (AD 2) (X3 2).1)), ((AD 2) 1, .inl (0, 64, .inl ((X3 2).2.1.1))), ((AD 2) 2, .inl (0, 64, .inl ((X3 2).2.1.2.1))), ((AD 2) 3, .inl (1, 64, .inl ((X3 2).2.1.2.2))), ((AD 2) 4, .inl (0, 64, .inl ((X3 2).2.2))), ((AD 2) 5, .inl (0, 60, .inl (SE 2))), ((T 3), .inr (1, fFire (AD 3) (X3 3).1)), ((AD 3) 1, .inl (0, 64, .inl ((X3 3).2.1.1))), ((AD 3) 2, .inl (0, 64, .inl ((X3 3).2.1.2.1))), ((AD 3) 3, .inl (1, 64, .inl ((X3 3).2.1.2.2))), ((AD 3) 4, .inl (0, 64, .inl ((X3 3).2.2))), ((AD 3) 5, .inl (0, 60, .inl (SE 3)))]) [0, 1, 2, 3, 4, 5, 6, 7, 8, 9, 10, 11, 12, 13, 14, 15, 16, 17, 18, 19, 20, 21] rfl (by decide) ?_
      exact zs_vret dX1_choose_99 rfl ⟨rfl, fun j => if j = 1 then X 1 else X3 j, Or.inr rfl, by rw [show chA C R wi v M 2 (X 1).f ss = (foW C R wi v (chA C R wi v M 1) 1 (X 1).f) (-1) (chL (X 1).2.1.2.2 (foW C R wi v (chA C R wi v M 1) 1 (X 1).f) ss (C * R)).2 from (if_neg (show ¬ ss.1 ≤ (X 1).1 10 from (Int32.not_le.mpr c_3))).trans (if_neg (show ¬ M ≤ 1 by omega))]; rfl⟩
    · have c_4 : ¬ (1 < M) := by have hc := c_4; rw [nI_lt' (by omega) (by omega)] at hc; exact hc
      refine zs_aload_n dX1_choose_41 rfl rfl ?_
      refine zs_aload_n dX1_choose_42 rfl rfl ?_
      refine zs_callV (M := mX1_weigh) (As := [.ref (T 1)]) (st := []) (Kc := [(a, .inr (0, fSr ar M v ss.1)), (ar 2, .inl (0, 3, .inl (ss.2.1))), (ar 3, .inl (0, 3, .inl (ss.2.2))), ((T 1), .inr (1, fFire (AD 1) (X 1).1)), ((AD 1) 1, .inl (0, 64, .inl ((X 1).2.1.1))), ((AD 1) 2, .inl (0, 64, .inl ((X 1).2.1.2.1))), ((AD 1) 3, .inl (1, 64, .inl ((X 1).2.1.2.2))), ((AD 1) 4, .inl (0, 64, .inl ((X 1).2.2))), ((AD 1) 5, .inl (0, 60, .inl (SE 1)))]) (Kr := [(ar 1, .inl (4, 4, .inr (.inr (.inr (.inr (fun j => some (T j))))))), ((T 2), .inr (1, fFire (AD 2) (X 2).1)), ((AD 2) 1, .inl (0, 64, .inl ((X 2).2.1.1))), ((AD 2) 2, .inl (0, 64, .inl ((X 2).2.1.2.1))), ((AD 2) 3, .inl (1, 64, .inl ((X 2).2.1.2.2))), ((AD 2) 4, .inl (0, 64, .inl ((X 2).2.2))), ((AD 2) 5, .inl (0, 60, .inl (SE 2))), ((T 3), .inr (1, fFire (AD 3) (X 3).1)), ((AD 3) 1, .inl (0, 64, .inl ((X 3).2.1.1))), ((AD 3) 2, .inl (0, 64, .inl ((X 3).2.1.2.1))), ((AD 3) 3, .inl (1, 64, .inl ((X 3).2.1.2.2))), ((AD 3) 4, .inl (0, 64, .inl ((X 3).2.2))), ((AD 3) 5, .inl (0, 60, .inl (SE 3)))]) [0, 2, 3, 4, 5, 6, 7, 8, 9] [1, 10, 11, 12, 13, 14, 15, 16, 17, 18, 19, 20, 21] 0 dX1_choose_43 zl_RX1_49 kX1_weigh rfl rfl rfl rfl rfl (by decide) rfl rfl (show dd - 1 + 1 ≤ dd by omega) (Nat.zero_le _) (Nat.zero_le _) (Nat.le_of_ble_eq_true rfl) (s_weigh l (dd - 1) a ar T (T 1) (AD 1) C R M wi v ss (SE 1) (X 1) (by omega) hM hfz hwi) (fun r K1 hr => ?_)
      obtain ⟨rfl, X1, rfl⟩ := hr
      refine zs_K (K' := [(a, .inr (0, fSr ar M v (wgh C R wi M (X 1).f ss).1)), (ar 1, .inl (4, 4, .inr (.inr (.inr (.inr (fun j => some (T j))))))), (ar 2, .inl (0, 3, .inl ((wgh C R wi M (X 1).f ss).2.1))), (ar 3, .inl (0, 3, .inl ((wgh C R wi M (X 1).f ss).2.2))), ((T 1), .inr (1, fFire (AD 1) X1.1)), ((AD 1) 1, .inl (0, 64, .inl (X1.2.1.1))), ((AD 1) 2, .inl (0, 64, .inl (X1.2.1.2.1))), ((AD 1) 3, .inl (1, 64, .inl (X1.2.1.2.2))), ((AD 1) 4, .inl (0, 64, .inl (X1.2.2))), ((AD 1) 5, .inl (0, 60, .inl (SE 1))), ((T 2), .inr (1, fFire (AD 2) (X 2).1)), ((AD 2) 1, .inl (0, 64, .inl ((X 2).2.1.1))), ((AD 2) 2, .inl (0, 64, .inl ((X 2).2.1.2.1))), ((AD 2) 3, .inl (1, 64, .inl ((X 2).2.1.2.2))), ((AD 2) 4, .inl (0, 64, .inl ((X 2).2.2))), ((AD 2) 5, .inl (0, 60, .inl (SE 2))), ((T 3), .inr (1, fFire (AD 3) (X 3).1)), ((AD 3) 1, .inl (0, 64, .inl ((X 3).2.1.1))), ((AD 3) 2, .inl (0, 64, .inl ((X 3).2.1.2.1))), ((AD 3) 3, .inl (1, 64, .inl ((X 3).2.1.2.2))), ((AD 3) 4, .inl (0, 64, .inl ((X 3).2.2))), ((AD 3) 5, .inl (0, 60, .inl (SE 3)))]) [13, 0, 14, 15, 16, 17, 18, 19, 20, 21, 1, 2, 3, 4, 5, 6, 7, 8, 9, 10, 11, 12] rfl (by decide) ?_
      exact zs_vret dX1_choose_46 rfl ⟨rfl, fun j => if j = 1 then X1 else X j, Or.inl (show M ≤ 1 by omega), by rw [show chA C R wi v M 2 (X 1).f ss = wgh C R wi M (X 1).f ss from (if_neg (show ¬ ss.1 ≤ (X 1).1 10 from (Int32.not_le.mpr c_3))).trans (if_pos (show M ≤ 1 by omega))]; rfl⟩
  · exact zs_vret dX1_choose_25 rfl ⟨rfl, X, Or.inr rfl, by rw [show chA C R wi v M 2 (X 1).f ss = ss from if_pos (show ss.1 ≤ (X 1).1 10 from (Int32.not_lt.mp c_3))]; rfl⟩
set_option maxRecDepth 100000 in
theorem s_fol0 (l : Launch) (dd : Nat) (a : Nat) (ar : Nat → Nat) (T : Nat → Nat) (AD : Nat → Nat → Nat) (C R M : Nat) (wi v : Int32) (ss : zSs) (SE : Nat → (Nat → Int32)) (X : Nat → zFc) (c : Int32) (hd : 9 ≤ dd) (hM : M ≤ 3) (hC : C ≤ 64) (hfz : zFh C R (X 0).1) (hwi : (X 0).1 3 = wi) (h01 : ∀ j, j < C * R → (X 0).2.1.2.2 j = 0 ∨ (X 0).2.1.2.2 j = 1) : zSp l mX1_follow dd 0 0 [.ref a, .int (nI 0), .int c] [(a, .inr (0, fSr ar M v ss.1)), (ar 1, .inl (4, 4, .inr (.inr (.inr (.inr (fun j => some (T j))))))), (ar 2, .inl (0, 3, .inl (ss.2.1))), (ar 3, .inl (0, 3, .inl (ss.2.2))), ((T 0), .inr (1, fFire (AD 0) (X 0).1)), ((AD 0) 1, .inl (0, 64, .inl ((X 0).2.1.1))), ((AD 0) 2, .inl (0, 64, .inl ((X 0).2.1.2.1))), ((AD 0) 3, .inl (1, 64, .inl ((X 0).2.1.2.2))), ((AD 0) 4, .inl (0, 64, .inl ((X 0).2.2))), ((AD 0) 5, .inl (0, 60, .inl (SE 0))), ((T 1), .inr (1, fFire (AD 1) (X 1).1)), ((AD 1) 1, .inl (0, 64, .inl ((X 1).2.1.1))), ((AD 1) 2, .inl (0, 64, .inl ((X 1).2.1.2.1))), ((AD 1) 3, .inl (1, 64, .inl ((X 1).2.1.2.2))), ((AD 1) 4, .inl (0, 64, .inl ((X 1).2.2))), ((AD 1) 5, .inl (0, 60, .inl (SE 1))), ((T 2), .inr (1, fFire (AD 2) (X 2).1)), ((AD 2) 1, .inl (0, 64, .inl ((X 2).2.1.1))), ((AD 2) 2, .inl (0, 64, .inl ((X 2).2.1.2.1))), ((AD 2) 3, .inl (1, 64, .inl ((X 2).2.1.2.2))), ((AD 2) 4, .inl (0, 64, .inl ((X 2).2.2))), ((AD 2) 5, .inl (0, 60, .inl (SE 2))), ((T 3), .inr (1, fFire (AD 3) (X 3).1)), ((AD 3) 1, .inl (0, 64, .inl ((X 3).2.1.1))), ((AD 3) 2, .inl (0, 64, .inl ((X 3).2.1.2.1))), ((AD 3) 3, .inl (1, 64, .inl ((X 3).2.1.2.2))), ((AD 3) 4, .inl (0, 64, .inl ((X 3).2.2))), ((AD 3) 5, .inl (0, 60, .inl (SE 3)))] (fun r K' => r = none ∧ ∃ X' : Nat → zFc, X' 0 = X 0 ∧ K' = kSr a ar T M v (foW C R wi v (chA C R wi v M 2) 0 (X 0).f c ss) ++ (kFc (T 0) (AD 0) (X' 0) (SE 0) ++ (kFc (T 1) (AD 1) (X' 1) (SE 1) ++ (kFc (T 2) (AD 2) (X' 2) (SE 2) ++ (kFc (T 3) (AD 3) (X' 3) (SE 3)))))) := by
  refine zSp.of (by decide) (Nat.le_of_ble_eq_true rfl) (fun h0 => ?_)
  show zS _ 0 0 0 [(0, .ref a), (1, .int (nI 0)), (2, .int c)] [] [(a, .inr (0, fSr ar M v ss.1)), (ar 1, .inl (4, 4, .inr (.inr (.inr (.inr (fun j => some (T j))))))), (ar 2, .inl (0, 3, .inl (ss.2.1))), (ar 3, .inl (0, 3, .inl (ss.2.2))), ((T 0), .inr (1, fFire (AD 0) (X 0).1)), ((AD 0) 1, .inl (0, 64, .inl ((X 0).2.1.1))), ((AD 0) 2, .inl (0, 64, .inl ((X 0).2.1.2.1))), ((AD 0) 3, .inl (1, 64, .inl ((X 0).2.1.2.2))), ((AD 0) 4, .inl (0, 64, .inl ((X 0).2.2))), ((AD 0) 5, .inl (0, 60, .inl (SE 0))), ((T 1), .inr (1, fFire (AD 1) (X 1).1)), ((AD 1) 1, .inl (0, 64, .inl ((X 1).2.1.1))), ((AD 1) 2, .inl (0, 64, .inl ((X 1).2.1.2.1))), ((AD 1) 3, .inl (1, 64, .inl ((X 1).2.1.2.2))), ((AD 1) 4, .inl (0, 64, .inl ((X 1).2.2))), ((AD 1) 5, .inl (0, 60, .inl (SE 1))), ((T 2), .inr (1, fFire (AD 2) (X 2).1)), ((AD 2) 1, .inl (0, 64, .inl ((X 2).2.1.1))), ((AD 2) 2, .inl (0, 64, .inl ((X 2).2.1.2.1))), ((AD 2) 3, .inl (1, 64, .inl ((X 2).2.1.2.2))), ((AD 2) 4, .inl (0, 64, .inl ((X 2).2.2))), ((AD 2) 5, .inl (0, 60, .inl (SE 2))), ((T 3), .inr (1, fFire (AD 3) (X 3).1)), ((AD 3) 1, .inl (0, 64, .inl ((X 3).2.1.1))), ((AD 3) 2, .inl (0, 64, .inl ((X 3).2.1.2.1))), ((AD 3) 3, .inl (1, 64, .inl ((X 3).2.1.2.2))), ((AD 3) 4, .inl (0, 64, .inl ((X 3).2.2))), ((AD 3) 5, .inl (0, 60, .inl (SE 3)))]
  refine zs_aload_n dX1_follow_0 rfl rfl ?_
  refine zs_get 0 dX1_follow_1 zf_RX1_11 rfl (v := .ref (ar 1)) rfl ?_
  refine zs_iload_n dX1_follow_4 rfl ?_
  refine zs_iconst (v := nI 1) dX1_follow_5 (by decide) ?_
  refine zs_iadd dX1_follow_6 ?_
  refine zs_as (y := nI 1) rfl ?_
  refine zs_aald4 (b := (T 1)) 1 dX1_follow_7 rfl (vp_in_nI (by decide) (by decide)) (congrArg (fun k => some (T k)) (nI_c (n := 1) (by decide))) ?_
  refine zs_astore_n (lv' := [(3, .ref (T 1)), (0, .ref a), (1, .int (nI 0)), (2, .int c)]) dX1_follow_8 (Nat.le_of_ble_eq_true rfl) rfl rfl ?_
  refine zs_aload_n dX1_follow_9 rfl rfl ?_
  refine zs_aload_n dX1_follow_10 rfl rfl ?_
  refine zs_get 0 dX1_follow_11 zf_RX1_11 rfl (v := .ref (ar 1)) rfl ?_
  refine zs_iload_n dX1_follow_14 rfl ?_
  refine zs_aald4 (b := (T 0)) 1 dX1_follow_15 rfl (vp_in_nI (by decide) (by decide)) (congrArg (fun k => some (T k)) (nI_c (n := 0) (by decide))) ?_
  refine zs_callV (M := mX2_copy) (As := [.ref (T 0)]) (st := []) (Kc := [((T 1), .inr (1, fFire (AD 1) (X 1).1)), ((AD 1) 1, .inl (0, 64, .inl ((X 1).2.1.1))), ((AD 1) 2, .inl (0, 64, .inl ((X 1).2.1.2.1))), ((AD 1) 3, .inl (1, 64, .inl ((X 1).2.1.2.2))), ((AD 1) 4, .inl (0, 64, .inl ((X 1).2.2))), ((AD 1) 5, .inl (0, 60, .inl (SE 1))), ((T 0), .inr (1, fFire (AD 0) (X 0).1)), ((AD 0) 1, .inl (0, 64, .inl ((X 0).2.1.1))), ((AD 0) 2, .inl (0, 64, .inl ((X 0).2.1.2.1))), ((AD 0) 3, .inl (1, 64, .inl ((X 0).2.1.2.2))), ((AD 0) 4, .inl (0, 64, .inl ((X 0).2.2))), ((AD 0) 5, .inl (0, 60, .inl (SE 0)))]) (Kr := [(a, .inr (0, fSr ar M v ss.1)), (ar 1, .inl (4, 4, .inr (.inr (.inr (.inr (fun j => some (T j))))))), (ar 2, .inl (0, 3, .inl (ss.2.1))), (ar 3, .inl (0, 3, .inl (ss.2.2))), ((T 2), .inr (1, fFire (AD 2) (X 2).1)), ((AD 2) 1, .inl (0, 64, .inl ((X 2).2.1.1))), ((AD 2) 2, .inl (0, 64, .inl ((X 2).2.1.2.1))), ((AD 2) 3, .inl (1, 64, .inl ((X 2).2.1.2.2))), ((AD 2) 4, .inl (0, 64, .inl ((X 2).2.2))), ((AD 2) 5, .inl (0, 60, .inl (SE 2))), ((T 3), .inr (1, fFire (AD 3) (X 3).1)), ((AD 3) 1, .inl (0, 64, .inl ((X 3).2.1.1))), ((AD 3) 2, .inl (0, 64, .inl ((X 3).2.1.2.1))), ((AD 3) 3, .inl (1, 64, .inl ((X 3).2.1.2.2))), ((AD 3) 4, .inl (0, 64, .inl ((X 3).2.2))), ((AD 3) 5, .inl (0, 60, .inl (SE 3)))]) [10, 11, 12, 13, 14, 15, 4, 5, 6, 7, 8, 9] [0, 1, 2, 3, 16, 17, 18, 19, 20, 21, 22, 23, 24, 25, 26, 27] 0 dX1_follow_16 zl_RX1_64 kX2_copy rfl rfl rfl rfl rfl (by decide) rfl rfl (show dd - 1 + 1 ≤ dd by omega) (Nat.zero_le _) (Nat.zero_le _) (Nat.le_of_ble_eq_true rfl) (s_copyF l (dd - 1) (T 1) (T 0) (AD 1) (AD 0) (C * R) (X 1).1 (X 0).1 (X 1).2.1.1 (X 1).2.1.2.1 (X 1).2.1.2.2 (X 1).2.2 (SE 1) (X 0).2.1.1 (X 0).2.1.2.1 (X 0).2.1.2.2 (X 0).2.2 (SE 0) hfz.2.1 hfz.2.2.2.2 h01) (fun r K1 hr => ?_)
  obtain ⟨rfl, rfl⟩ := hr
  refine zs_K (K' := [(a, .inr (0, fSr ar M v ss.1)), (ar 1, .inl (4, 4, .inr (.inr (.inr (.inr (fun j => some (T j))))))), (ar 2, .inl (0, 3, .inl (ss.2.1))), (ar 3, .inl (0, 3, .inl (ss.2.2))), ((T 0), .inr (1, fFire (AD 0) (X 0).1)), ((AD 0) 1, .inl (0, 64, .inl ((X 0).2.1.1))), ((AD 0) 2, .inl (0, 64, .inl ((X 0).2.1.2.1))), ((AD 0) 3, .inl (1, 64, .inl ((X 0).2.1.2.2))), ((AD 0) 4, .inl (0, 64, .inl ((X 0).2.2))), ((AD 0) 5, .inl (0, 60, .inl (SE 0))), ((T 1), .inr (1, fFire (AD 1) (upd (upd (upd (upd (upd (upd (upd (X 1).1 0 ((X 0).1 0)) 1 ((X 0).1 1)) 2 ((X 0).1 2)) 3 ((X 0).1 3)) 9 ((X 0).1 9)) 10 ((X 0).1 10)) 11 ((X 0).1 11)))), ((AD 1) 1, .inl (0, 64, .inl (pCl (X 0).2.1.1 (X 1).2.1.1 (C * R)))), ((AD 1) 2, .inl (0, 64, .inl (pCl (X 0).2.1.2.1 (X 1).2.1.2.1 (C * R)))), ((AD 1) 3, .inl (1, 64, .inl (pCl (X 0).2.1.2.2 (X 1).2.1.2.2 (C * R)))), ((AD 1) 4, .inl (0, 64, .inl ((X 1).2.2))), ((AD 1) 5, .inl (0, 60, .inl (SE 1))), ((T 2), .inr (1, fFire (AD 2) (X 2).1)), ((AD 2) 1, .inl (0, 64, .inl ((X 2).2.1.1))), ((AD 2) 2, .inl (0, 64, .inl ((X 2).2.1.2.1))), ((AD 2) 3, .inl (1, 64, .inl ((X 2).2.1.2.2))), ((AD 2) 4, .inl (0, 64, .inl ((X 2).2.2))), ((AD 2) 5, .inl (0, 60, .inl (SE 2))), ((T 3), .inr (1, fFire (AD 3) (X 3).1)), ((AD 3) 1, .inl (0, 64, .inl ((X 3).2.1.1))), ((AD 3) 2, .inl (0, 64, .inl ((X 3).2.1.2.1))), ((AD 3) 3, .inl (1, 64, .inl ((X 3).2.1.2.2))), ((AD 3) 4, .inl (0, 64, .inl ((X 3).2.2))), ((AD 3) 5, .inl (0, 60, .inl (SE 3)))]) [0, 1, 2, 3, 22, 23, 24, 25, 26, 27, 16, 17, 18, 19, 20, 21, 4, 5, 6, 7, 8, 9, 10, 11, 12, 13, 14, 15] rfl (by decide) ?_
  refine zs_aload_n dX1_follow_19 rfl rfl ?_
  refine zs_iload_n dX1_follow_20 rfl ?_
  refine zs_aload_n dX1_follow_21 rfl rfl ?_
  refine zs_get 0 dX1_follow_22 zf_RX1_29 rfl (v := .int v) rfl ?_
  refine zs_callV (M := mX2_passMinute) (As := [.int c, .int v]) (st := []) (Kc := [((T 1), .inr (1, fFire (AD 1) (upd (upd (upd (upd (upd (upd (upd (X 1).1 0 ((X 0).1 0)) 1 ((X 0).1 1)) 2 ((X 0).1 2)) 3 ((X 0).1 3)) 9 ((X 0).1 9)) 10 ((X 0).1 10)) 11 ((X 0).1 11)))), ((AD 1) 1, .inl (0, 64, .inl (pCl (X 0).2.1.1 (X 1).2.1.1 (C * R)))), ((AD 1) 2, .inl (0, 64, .inl (pCl (X 0).2.1.2.1 (X 1).2.1.2.1 (C * R)))), ((AD 1) 3, .inl (1, 64, .inl (pCl (X 0).2.1.2.2 (X 1).2.1.2.2 (C * R)))), ((AD 1) 4, .inl (0, 64, .inl ((X 1).2.2))), ((AD 1) 5, .inl (0, 60, .inl (SE 1)))]) (Kr := [(a, .inr (0, fSr ar M v ss.1)), (ar 1, .inl (4, 4, .inr (.inr (.inr (.inr (fun j => some (T j))))))), (ar 2, .inl (0, 3, .inl (ss.2.1))), (ar 3, .inl (0, 3, .inl (ss.2.2))), ((T 0), .inr (1, fFire (AD 0) (X 0).1)), ((AD 0) 1, .inl (0, 64, .inl ((X 0).2.1.1))), ((AD 0) 2, .inl (0, 64, .inl ((X 0).2.1.2.1))), ((AD 0) 3, .inl (1, 64, .inl ((X 0).2.1.2.2))), ((AD 0) 4, .inl (0, 64, .inl ((X 0).2.2))), ((AD 0) 5, .inl (0, 60, .inl (SE 0))), ((T 2), .inr (1, fFire (AD 2) (X 2).1)), ((AD 2) 1, .inl (0, 64, .inl ((X 2).2.1.1))), ((AD 2) 2, .inl (0, 64, .inl ((X 2).2.1.2.1))), ((AD 2) 3, .inl (1, 64, .inl ((X 2).2.1.2.2))), ((AD 2) 4, .inl (0, 64, .inl ((X 2).2.2))), ((AD 2) 5, .inl (0, 60, .inl (SE 2))), ((T 3), .inr (1, fFire (AD 3) (X 3).1)), ((AD 3) 1, .inl (0, 64, .inl ((X 3).2.1.1))), ((AD 3) 2, .inl (0, 64, .inl ((X 3).2.1.2.1))), ((AD 3) 3, .inl (1, 64, .inl ((X 3).2.1.2.2))), ((AD 3) 4, .inl (0, 64, .inl ((X 3).2.2))), ((AD 3) 5, .inl (0, 60, .inl (SE 3)))]) [10, 11, 12, 13, 14, 15] [0, 1, 2, 3, 4, 5, 6, 7, 8, 9, 16, 17, 18, 19, 20, 21, 22, 23, 24, 25, 26, 27] 0 dX1_follow_25 zl_RX1_67 kX2_passMinute rfl rfl rfl rfl rfl (by decide) rfl rfl (show dd - 1 + 1 ≤ dd by omega) (Nat.zero_le _) (Nat.zero_le _) (Nat.le_of_ble_eq_true rfl) (s_minute l (dd - 1) (T 1) (AD 1) C R (upd (upd (upd (upd (upd (upd (upd (X 1).1 0 ((X 0).1 0)) 1 ((X 0).1 1)) 2 ((X 0).1 2)) 3 ((X 0).1 3)) 9 ((X 0).1 9)) 10 ((X 0).1 10)) 11 ((X 0).1 11)) (pCl (X 0).2.1.1 (X 1).2.1.1 (C * R), pCl (X 0).2.1.2.1 (X 1).2.1.2.1 (C * R), pCl (X 0).2.1.2.2 (X 1).2.1.2.2 (C * R)) (X 1).2.2 (SE 1) c v wi (by omega) ⟨hfz.1, hfz.2.1, hfz.2.2.1, hfz.2.2.2.1, hfz.2.2.2.2⟩ hwi) (fun r K1 hr => ?_)
  obtain ⟨rfl, he1, rfl⟩ := hr
  refine zs_K (K' := [(a, .inr (0, fSr ar M v ss.1)), (ar 1, .inl (4, 4, .inr (.inr (.inr (.inr (fun j => some (T j))))))), (ar 2, .inl (0, 3, .inl (ss.2.1))), (ar 3, .inl (0, 3, .inl (ss.2.2))), ((T 0), .inr (1, fFire (AD 0) (X 0).1)), ((AD 0) 1, .inl (0, 64, .inl ((X 0).2.1.1))), ((AD 0) 2, .inl (0, 64, .inl ((X 0).2.1.2.1))), ((AD 0) 3, .inl (1, 64, .inl ((X 0).2.1.2.2))), ((AD 0) 4, .inl (0, 64, .inl ((X 0).2.2))), ((AD 0) 5, .inl (0, 60, .inl (SE 0))), ((T 1), .inr (1, fFire (AD 1) (upd (upd (upd (upd (upd (upd (upd (upd (upd (X 1).1 0 ((X 0).1 0)) 1 ((X 0).1 1)) 2 ((X 0).1 2)) 3 ((X 0).1 3)) 9 ((X 0).1 9)) 10 ((X 0).1 10)) 11 ((X 0).1 11)) 9 (mBn C R wi (pCl (X 0).2.1.1 (X 1).2.1.1 (C * R), pCl (X 0).2.1.2.1 (X 1).2.1.2.1 (C * R), pCl (X 0).2.1.2.2 (X 1).2.1.2.2 (C * R)) c v)) 10 ((upd (upd (upd (upd (upd (upd (upd (X 1).1 0 ((X 0).1 0)) 1 ((X 0).1 1)) 2 ((X 0).1 2)) 3 ((X 0).1 3)) 9 ((X 0).1 9)) 10 ((X 0).1 10)) 11 ((X 0).1 11)) 10 + mLs C R (pCl (X 0).2.1.1 (X 1).2.1.1 (C * R), pCl (X 0).2.1.2.1 (X 1).2.1.2.1 (C * R), pCl (X 0).2.1.2.2 (X 1).2.1.2.2 (C * R)) c v)))), ((AD 1) 1, .inl (0, 64, .inl ((mMin C R wi (pCl (X 0).2.1.1 (X 1).2.1.1 (C * R), pCl (X 0).2.1.2.1 (X 1).2.1.2.1 (C * R), pCl (X 0).2.1.2.2 (X 1).2.1.2.2 (C * R)) c v).1))), ((AD 1) 2, .inl (0, 64, .inl ((mMin C R wi (pCl (X 0).2.1.1 (X 1).2.1.1 (C * R), pCl (X 0).2.1.2.1 (X 1).2.1.2.1 (C * R), pCl (X 0).2.1.2.2 (X 1).2.1.2.2 (C * R)) c v).2.1))), ((AD 1) 3, .inl (1, 64, .inl ((mMin C R wi (pCl (X 0).2.1.1 (X 1).2.1.1 (C * R), pCl (X 0).2.1.2.1 (X 1).2.1.2.1 (C * R), pCl (X 0).2.1.2.2 (X 1).2.1.2.2 (C * R)) c v).2.2))), ((AD 1) 4, .inl (0, 64, .inl he1)), ((AD 1) 5, .inl (0, 60, .inl (SE 1))), ((T 2), .inr (1, fFire (AD 2) (X 2).1)), ((AD 2) 1, .inl (0, 64, .inl ((X 2).2.1.1))), ((AD 2) 2, .inl (0, 64, .inl ((X 2).2.1.2.1))), ((AD 2) 3, .inl (1, 64, .inl ((X 2).2.1.2.2))), ((AD 2) 4, .inl (0, 64, .inl ((X 2).2.2))), ((AD 2) 5, .inl (0, 60, .inl (SE 2))), ((T 3), .inr (1, fFire (AD 3) (X 3).1)), ((AD 3) 1, .inl (0, 64, .inl ((X 3).2.1.1))), ((AD 3) 2, .inl (0, 64, .inl ((X 3).2.1.2.1))), ((AD 3) 3, .inl (1, 64, .inl ((X 3).2.1.2.2))), ((AD 3) 4, .inl (0, 64, .inl ((X 3).2.2))), ((AD 3) 5, .inl (0, 60, .inl (SE 3)))]) [0, 1, 2, 3, 4, 5, 6, 7, 8, 9, 22, 23, 24, 25, 26, 27, 10, 11, 12, 13, 14, 15, 16, 17, 18, 19, 20, 21] rfl (by decide) ?_
  refine zs_aload_n dX1_follow_28 rfl rfl ?_
  refine zs_get 0 dX1_follow_29 zf_RX1_18 rfl (v := .ref (ar 2)) rfl ?_
  refine zs_iload_n dX1_follow_32 rfl ?_
  refine zs_iload_n dX1_follow_33 rfl ?_
  refine zs_aload_n dX1_follow_34 rfl rfl ?_
  refine zs_get 10 dX1_follow_35 zf_RX1_70 rfl (v := .int ((upd (upd (upd (upd (upd (upd (upd (upd (upd (X 1).1 0 ((X 0).1 0)) 1 ((X 0).1 1)) 2 ((X 0).1 2)) 3 ((X 0).1 3)) 9 ((X 0).1 9)) 10 ((X 0).1 10)) 11 ((X 0).1 11)) 9 (mBn C R wi (pCl (X 0).2.1.1 (X 1).2.1.1 (C * R), pCl (X 0).2.1.2.1 (X 1).2.1.2.1 (C * R), pCl (X 0).2.1.2.2 (X 1).2.1.2.2 (C * R)) c v)) 10 ((upd (upd (upd (upd (upd (upd (upd (X 1).1 0 ((X 0).1 0)) 1 ((X 0).1 1)) 2 ((X 0).1 2)) 3 ((X 0).1 3)) 9 ((X 0).1 9)) 10 ((X 0).1 10)) 11 ((X 0).1 11)) 10 + mLs C R (pCl (X 0).2.1.1 (X 1).2.1.1 (C * R), pCl (X 0).2.1.2.1 (X 1).2.1.2.1 (C * R), pCl (X 0).2.1.2.2 (X 1).2.1.2.2 (C * R)) c v)) 0)) rfl ?_
  refine zs_as (y := nI C) hfz.2.2.1 ?_
  refine zs_callS (M := mX1_aimOf) (As := [.int c, .int (nI C)]) (st := [.int (nI 0), .ref (ar 2)]) (Kc := []) (Kr := [(a, .inr (0, fSr ar M v ss.1)), (ar 1, .inl (4, 4, .inr (.inr (.inr (.inr (fun j => some (T j))))))), (ar 2, .inl (0, 3, .inl (ss.2.1))), (ar 3, .inl (0, 3, .inl (ss.2.2))), ((T 0), .inr (1, fFire (AD 0) (X 0).1)), ((AD 0) 1, .inl (0, 64, .inl ((X 0).2.1.1))), ((AD 0) 2, .inl (0, 64, .inl ((X 0).2.1.2.1))), ((AD 0) 3, .inl (1, 64, .inl ((X 0).2.1.2.2))), ((AD 0) 4, .inl (0, 64, .inl ((X 0).2.2))), ((AD 0) 5, .inl (0, 60, .inl (SE 0))), ((T 1), .inr (1, fFire (AD 1) (upd (upd (upd (upd (upd (upd (upd (upd (upd (X 1).1 0 ((X 0).1 0)) 1 ((X 0).1 1)) 2 ((X 0).1 2)) 3 ((X 0).1 3)) 9 ((X 0).1 9)) 10 ((X 0).1 10)) 11 ((X 0).1 11)) 9 (mBn C R wi (pCl (X 0).2.1.1 (X 1).2.1.1 (C * R), pCl (X 0).2.1.2.1 (X 1).2.1.2.1 (C * R), pCl (X 0).2.1.2.2 (X 1).2.1.2.2 (C * R)) c v)) 10 ((upd (upd (upd (upd (upd (upd (upd (X 1).1 0 ((X 0).1 0)) 1 ((X 0).1 1)) 2 ((X 0).1 2)) 3 ((X 0).1 3)) 9 ((X 0).1 9)) 10 ((X 0).1 10)) 11 ((X 0).1 11)) 10 + mLs C R (pCl (X 0).2.1.1 (X 1).2.1.1 (C * R), pCl (X 0).2.1.2.1 (X 1).2.1.2.1 (C * R), pCl (X 0).2.1.2.2 (X 1).2.1.2.2 (C * R)) c v)))), ((AD 1) 1, .inl (0, 64, .inl ((mMin C R wi (pCl (X 0).2.1.1 (X 1).2.1.1 (C * R), pCl (X 0).2.1.2.1 (X 1).2.1.2.1 (C * R), pCl (X 0).2.1.2.2 (X 1).2.1.2.2 (C * R)) c v).1))), ((AD 1) 2, .inl (0, 64, .inl ((mMin C R wi (pCl (X 0).2.1.1 (X 1).2.1.1 (C * R), pCl (X 0).2.1.2.1 (X 1).2.1.2.1 (C * R), pCl (X 0).2.1.2.2 (X 1).2.1.2.2 (C * R)) c v).2.1))), ((AD 1) 3, .inl (1, 64, .inl ((mMin C R wi (pCl (X 0).2.1.1 (X 1).2.1.1 (C * R), pCl (X 0).2.1.2.1 (X 1).2.1.2.1 (C * R), pCl (X 0).2.1.2.2 (X 1).2.1.2.2 (C * R)) c v).2.2))), ((AD 1) 4, .inl (0, 64, .inl he1)), ((AD 1) 5, .inl (0, 60, .inl (SE 1))), ((T 2), .inr (1, fFire (AD 2) (X 2).1)), ((AD 2) 1, .inl (0, 64, .inl ((X 2).2.1.1))), ((AD 2) 2, .inl (0, 64, .inl ((X 2).2.1.2.1))), ((AD 2) 3, .inl (1, 64, .inl ((X 2).2.1.2.2))), ((AD 2) 4, .inl (0, 64, .inl ((X 2).2.2))), ((AD 2) 5, .inl (0, 60, .inl (SE 2))), ((T 3), .inr (1, fFire (AD 3) (X 3).1)), ((AD 3) 1, .inl (0, 64, .inl ((X 3).2.1.1))), ((AD 3) 2, .inl (0, 64, .inl ((X 3).2.1.2.1))), ((AD 3) 3, .inl (1, 64, .inl ((X 3).2.1.2.2))), ((AD 3) 4, .inl (0, 64, .inl ((X 3).2.2))), ((AD 3) 5, .inl (0, 60, .inl (SE 3)))]) [] [0, 1, 2, 3, 4, 5, 6, 7, 8, 9, 10, 11, 12, 13, 14, 15, 16, 17, 18, 19, 20, 21, 22, 23, 24, 25, 26, 27] dX1_follow_38 zl_RX1_73 kX1_aimOf rfl rfl rfl rfl rfl (by decide) (show dd - 1 + 1 ≤ dd by omega) (Nat.zero_le _) (Nat.zero_le _) (Nat.le_of_ble_eq_true rfl) (s_aimOf l (dd - 1) c (nI C)) (fun r K1 hr => ?_)
  obtain ⟨rfl, rfl⟩ := hr
  refine zs_K (K' := [(a, .inr (0, fSr ar M v ss.1)), (ar 1, .inl (4, 4, .inr (.inr (.inr (.inr (fun j => some (T j))))))), (ar 2, .inl (0, 3, .inl (ss.2.1))), (ar 3, .inl (0, 3, .inl (ss.2.2))), ((T 0), .inr (1, fFire (AD 0) (X 0).1)), ((AD 0) 1, .inl (0, 64, .inl ((X 0).2.1.1))), ((AD 0) 2, .inl (0, 64, .inl ((X 0).2.1.2.1))), ((AD 0) 3, .inl (1, 64, .inl ((X 0).2.1.2.2))), ((AD 0) 4, .inl (0, 64, .inl ((X 0).2.2))), ((AD 0) 5, .inl (0, 60, .inl (SE 0))), ((T 1), .inr (1, fFire (AD 1) (upd (upd (upd (upd (upd (upd (upd (upd (upd (X 1).1 0 ((X 0).1 0)) 1 ((X 0).1 1)) 2 ((X 0).1 2)) 3 ((X 0).1 3)) 9 ((X 0).1 9)) 10 ((X 0).1 10)) 11 ((X 0).1 11)) 9 (mBn C R wi (pCl (X 0).2.1.1 (X 1).2.1.1 (C * R), pCl (X 0).2.1.2.1 (X 1).2.1.2.1 (C * R), pCl (X 0).2.1.2.2 (X 1).2.1.2.2 (C * R)) c v)) 10 ((upd (upd (upd (upd (upd (upd (upd (X 1).1 0 ((X 0).1 0)) 1 ((X 0).1 1)) 2 ((X 0).1 2)) 3 ((X 0).1 3)) 9 ((X 0).1 9)) 10 ((X 0).1 10)) 11 ((X 0).1 11)) 10 + mLs C R (pCl (X 0).2.1.1 (X 1).2.1.1 (C * R), pCl (X 0).2.1.2.1 (X 1).2.1.2.1 (C * R), pCl (X 0).2.1.2.2 (X 1).2.1.2.2 (C * R)) c v)))), ((AD 1) 1, .inl (0, 64, .inl ((mMin C R wi (pCl (X 0).2.1.1 (X 1).2.1.1 (C * R), pCl (X 0).2.1.2.1 (X 1).2.1.2.1 (C * R), pCl (X 0).2.1.2.2 (X 1).2.1.2.2 (C * R)) c v).1))), ((AD 1) 2, .inl (0, 64, .inl ((mMin C R wi (pCl (X 0).2.1.1 (X 1).2.1.1 (C * R), pCl (X 0).2.1.2.1 (X 1).2.1.2.1 (C * R), pCl (X 0).2.1.2.2 (X 1).2.1.2.2 (C * R)) c v).2.1))), ((AD 1) 3, .inl (1, 64, .inl ((mMin C R wi (pCl (X 0).2.1.1 (X 1).2.1.1 (C * R), pCl (X 0).2.1.2.1 (X 1).2.1.2.1 (C * R), pCl (X 0).2.1.2.2 (X 1).2.1.2.2 (C * R)) c v).2.2))), ((AD 1) 4, .inl (0, 64, .inl he1)), ((AD 1) 5, .inl (0, 60, .inl (SE 1))), ((T 2), .inr (1, fFire (AD 2) (X 2).1)), ((AD 2) 1, .inl (0, 64, .inl ((X 2).2.1.1))), ((AD 2) 2, .inl (0, 64, .inl ((X 2).2.1.2.1))), ((AD 2) 3, .inl (1, 64, .inl ((X 2).2.1.2.2))), ((AD 2) 4, .inl (0, 64, .inl ((X 2).2.2))), ((AD 2) 5, .inl (0, 60, .inl (SE 2))), ((T 3), .inr (1, fFire (AD 3) (X 3).1)), ((AD 3) 1, .inl (0, 64, .inl ((X 3).2.1.1))), ((AD 3) 2, .inl (0, 64, .inl ((X 3).2.1.2.1))), ((AD 3) 3, .inl (1, 64, .inl ((X 3).2.1.2.2))), ((AD 3) 4, .inl (0, 64, .inl ((X 3).2.2))), ((AD 3) 5, .inl (0, 60, .inl (SE 3)))]) [0, 1, 2, 3, 4, 5, 6, 7, 8, 9, 10, 11, 12, 13, 14, 15, 16, 17, 18, 19, 20, 21, 22, 23, 24, 25, 26, 27] rfl (by decide) ?_
  refine zs_iast 2 dX1_follow_41 rfl (vp_in_nI (by omega) (by omega)) ?_
  rw [nI_c (n := 0) (by omega)]
  show zS _ _ _ _ _ _ [(a, .inr (0, fSr ar M v ss.1)), (ar 1, .inl (4, 4, .inr (.inr (.inr (.inr (fun j => some (T j))))))), (ar 2, .inl (0, 3, .inl (upd (ss.2.1) 0 (aOf c (nI C))))), (ar 3, .inl (0, 3, .inl (ss.2.2))), ((T 0), .inr (1, fFire (AD 0) (X 0).1)), ((AD 0) 1, .inl (0, 64, .inl ((X 0).2.1.1))), ((AD 0) 2, .inl (0, 64, .inl ((X 0).2.1.2.1))), ((AD 0) 3, .inl (1, 64, .inl ((X 0).2.1.2.2))), ((AD 0) 4, .inl (0, 64, .inl ((X 0).2.2))), ((AD 0) 5, .inl (0, 60, .inl (SE 0))), ((T 1), .inr (1, fFire (AD 1) (upd (upd (upd (upd (upd (upd (upd (upd (upd (X 1).1 0 ((X 0).1 0)) 1 ((X 0).1 1)) 2 ((X 0).1 2)) 3 ((X 0).1 3)) 9 ((X 0).1 9)) 10 ((X 0).1 10)) 11 ((X 0).1 11)) 9 (mBn C R wi (pCl (X 0).2.1.1 (X 1).2.1.1 (C * R), pCl (X 0).2.1.2.1 (X 1).2.1.2.1 (C * R), pCl (X 0).2.1.2.2 (X 1).2.1.2.2 (C * R)) c v)) 10 ((upd (upd (upd (upd (upd (upd (upd (X 1).1 0 ((X 0).1 0)) 1 ((X 0).1 1)) 2 ((X 0).1 2)) 3 ((X 0).1 3)) 9 ((X 0).1 9)) 10 ((X 0).1 10)) 11 ((X 0).1 11)) 10 + mLs C R (pCl (X 0).2.1.1 (X 1).2.1.1 (C * R), pCl (X 0).2.1.2.1 (X 1).2.1.2.1 (C * R), pCl (X 0).2.1.2.2 (X 1).2.1.2.2 (C * R)) c v)))), ((AD 1) 1, .inl (0, 64, .inl ((mMin C R wi (pCl (X 0).2.1.1 (X 1).2.1.1 (C * R), pCl (X 0).2.1.2.1 (X 1).2.1.2.1 (C * R), pCl (X 0).2.1.2.2 (X 1).2.1.2.2 (C * R)) c v).1))), ((AD 1) 2, .inl (0, 64, .inl ((mMin C R wi (pCl (X 0).2.1.1 (X 1).2.1.1 (C * R), pCl (X 0).2.1.2.1 (X 1).2.1.2.1 (C * R), pCl (X 0).2.1.2.2 (X 1).2.1.2.2 (C * R)) c v).2.1))), ((AD 1) 3, .inl (1, 64, .inl ((mMin C R wi (pCl (X 0).2.1.1 (X 1).2.1.1 (C * R), pCl (X 0).2.1.2.1 (X 1).2.1.2.1 (C * R), pCl (X 0).2.1.2.2 (X 1).2.1.2.2 (C * R)) c v).2.2))), ((AD 1) 4, .inl (0, 64, .inl he1)), ((AD 1) 5, .inl (0, 60, .inl (SE 1))), ((T 2), .inr (1, fFire (AD 2) (X 2).1)), ((AD 2) 1, .inl (0, 64, .inl ((X 2).2.1.1))), ((AD 2) 2, .inl (0, 64, .inl ((X 2).2.1.2.1))), ((AD 2) 3, .inl (1, 64, .inl ((X 2).2.1.2.2))), ((AD 2) 4, .inl (0, 64, .inl ((X 2).2.2))), ((AD 2) 5, .inl (0, 60, .inl (SE 2))), ((T 3), .inr (1, fFire (AD 3) (X 3).1)), ((AD 3) 1, .inl (0, 64, .inl ((X 3).2.1.1))), ((AD 3) 2, .inl (0, 64, .inl ((X 3).2.1.2.1))), ((AD 3) 3, .inl (1, 64, .inl ((X 3).2.1.2.2))), ((AD 3) 4, .inl (0, 64, .inl ((X 3).2.2))), ((AD 3) 5, .inl (0, 60, .inl (SE 3)))]
  refine zs_aload_n dX1_follow_42 rfl rfl ?_
  refine zs_iload_n dX1_follow_43 rfl ?_
  refine zs_iconst (v := nI 1) dX1_follow_44 (by decide) ?_
  refine zs_iadd dX1_follow_45 ?_
  refine zs_as (y := nI 1) rfl ?_
  let X2 : Nat → zFc := fun j => if j = 1 then ((upd (upd (upd (upd (upd (upd (upd (upd (upd (X 1).1 0 ((X 0).1 0)) 1 ((X 0).1 1)) 2 ((X 0).1 2)) 3 ((X 0).1 3)) 9 ((X 0).1 9)) 10 ((X 0).1 10)) 11 ((X 0).1 11)) 9 (mBn C R wi (pCl (X 0).2.1.1 (X 1).2.1.1 (C * R), pCl (X 0).2.1.2.1 (X 1).2.1.2.1 (C * R), pCl (X 0).2.1.2.2 (X 1).2.1.2.2 (C * R)) c v)) 10 ((upd (upd (upd (upd (upd (upd (upd (X 1).1 0 ((X 0).1 0)) 1 ((X 0).1 1)) 2 ((X 0).1 2)) 3 ((X 0).1 3)) 9 ((X 0).1 9)) 10 ((X 0).1 10)) 11 ((X 0).1 11)) 10 + mLs C R (pCl (X 0).2.1.1 (X 1).2.1.1 (C * R), pCl (X 0).2.1.2.1 (X 1).2.1.2.1 (C * R), pCl (X 0).2.1.2.2 (X 1).2.1.2.2 (C * R)) c v)), (mMin C R wi (pCl (X 0).2.1.1 (X 1).2.1.1 (C * R), pCl (X 0).2.1.2.1 (X 1).2.1.2.1 (C * R), pCl (X 0).2.1.2.2 (X 1).2.1.2.2 (C * R)) c v), he1) else X j
  have hag : chA C R wi v M 2 (X2 1).f (ss.1, upd ss.2.1 0 (aOf c (nI C)), ss.2.2) = foW C R wi v (chA C R wi v M 2) 0 (X 0).f c ss := chA_ag hfz.2.1 2 _ _ _ (f1_ag (F := ((pCl (X 0).2.1.1 (X 1).2.1.1 (C * R), pCl (X 0).2.1.2.1 (X 1).2.1.2.1 (C * R), pCl (X 0).2.1.2.2 (X 1).2.1.2.2 (C * R)), ((X 0).1 10, (X 0).1 9))) (G := (X 0).f) hfz.2.1 ⟨⟨pCl_agl _ _ _, pCl_agl _ _ _, pCl_agl _ _ _⟩, rfl⟩ c v)
  refine zs_callV (M := mX1_choose) (As := [.int (nI 1)]) (st := []) (Kc := [(a, .inr (0, fSr ar M v ss.1)), (ar 1, .inl (4, 4, .inr (.inr (.inr (.inr (fun j => some (T j))))))), (ar 2, .inl (0, 3, .inl (upd (ss.2.1) 0 (aOf c (nI C))))), (ar 3, .inl (0, 3, .inl (ss.2.2))), ((T 1), .inr (1, fFire (AD 1) (upd (upd (upd (upd (upd (upd (upd (upd (upd (X 1).1 0 ((X 0).1 0)) 1 ((X 0).1 1)) 2 ((X 0).1 2)) 3 ((X 0).1 3)) 9 ((X 0).1 9)) 10 ((X 0).1 10)) 11 ((X 0).1 11)) 9 (mBn C R wi (pCl (X 0).2.1.1 (X 1).2.1.1 (C * R), pCl (X 0).2.1.2.1 (X 1).2.1.2.1 (C * R), pCl (X 0).2.1.2.2 (X 1).2.1.2.2 (C * R)) c v)) 10 ((upd (upd (upd (upd (upd (upd (upd (X 1).1 0 ((X 0).1 0)) 1 ((X 0).1 1)) 2 ((X 0).1 2)) 3 ((X 0).1 3)) 9 ((X 0).1 9)) 10 ((X 0).1 10)) 11 ((X 0).1 11)) 10 + mLs C R (pCl (X 0).2.1.1 (X 1).2.1.1 (C * R), pCl (X 0).2.1.2.1 (X 1).2.1.2.1 (C * R), pCl (X 0).2.1.2.2 (X 1).2.1.2.2 (C * R)) c v)))), ((AD 1) 1, .inl (0, 64, .inl ((mMin C R wi (pCl (X 0).2.1.1 (X 1).2.1.1 (C * R), pCl (X 0).2.1.2.1 (X 1).2.1.2.1 (C * R), pCl (X 0).2.1.2.2 (X 1).2.1.2.2 (C * R)) c v).1))), ((AD 1) 2, .inl (0, 64, .inl ((mMin C R wi (pCl (X 0).2.1.1 (X 1).2.1.1 (C * R), pCl (X 0).2.1.2.1 (X 1).2.1.2.1 (C * R), pCl (X 0).2.1.2.2 (X 1).2.1.2.2 (C * R)) c v).2.1))), ((AD 1) 3, .inl (1, 64, .inl ((mMin C R wi (pCl (X 0).2.1.1 (X 1).2.1.1 (C * R), pCl (X 0).2.1.2.1 (X 1).2.1.2.1 (C * R), pCl (X 0).2.1.2.2 (X 1).2.1.2.2 (C * R)) c v).2.2))), ((AD 1) 4, .inl (0, 64, .inl he1)), ((AD 1) 5, .inl (0, 60, .inl (SE 1))), ((T 2), .inr (1, fFire (AD 2) (X 2).1)), ((AD 2) 1, .inl (0, 64, .inl ((X 2).2.1.1))), ((AD 2) 2, .inl (0, 64, .inl ((X 2).2.1.2.1))), ((AD 2) 3, .inl (1, 64, .inl ((X 2).2.1.2.2))), ((AD 2) 4, .inl (0, 64, .inl ((X 2).2.2))), ((AD 2) 5, .inl (0, 60, .inl (SE 2))), ((T 3), .inr (1, fFire (AD 3) (X 3).1)), ((AD 3) 1, .inl (0, 64, .inl ((X 3).2.1.1))), ((AD 3) 2, .inl (0, 64, .inl ((X 3).2.1.2.1))), ((AD 3) 3, .inl (1, 64, .inl ((X 3).2.1.2.2))), ((AD 3) 4, .inl (0, 64, .inl ((X 3).2.2))), ((AD 3) 5, .inl (0, 60, .inl (SE 3)))]) (Kr := [((T 0), .inr (1, fFire (AD 0) (X 0).1)), ((AD 0) 1, .inl (0, 64, .inl ((X 0).2.1.1))), ((AD 0) 2, .inl (0, 64, .inl ((X 0).2.1.2.1))), ((AD 0) 3, .inl (1, 64, .inl ((X 0).2.1.2.2))), ((AD 0) 4, .inl (0, 64, .inl ((X 0).2.2))), ((AD 0) 5, .inl (0, 60, .inl (SE 0)))]) [0, 1, 2, 3, 10, 11, 12, 13, 14, 15, 16, 17, 18, 19, 20, 21, 22, 23, 24, 25, 26, 27] [4, 5, 6, 7, 8, 9] 0 dX1_follow_46 zl_RX1_42 kX1_choose rfl rfl rfl rfl rfl (by decide) rfl rfl (show dd - 1 + 1 ≤ dd by omega) (Nat.zero_le _) (Nat.zero_le _) (Nat.le_of_ble_eq_true rfl) (s_cho1 l (dd - 1) a ar T AD C R M wi v (ss.1, upd ss.2.1 0 (aOf c (nI C)), ss.2.2) SE X2 (by omega) hM hC ⟨hfz.1, hfz.2.1, hfz.2.2.1, hfz.2.2.2.1, hfz.2.2.2.2⟩ hwi mMin_01) (fun r K1 hr => ?_)
  obtain ⟨rfl, X3, _, rfl⟩ := hr
  rw [hag]
  refine zs_K (K' := [(a, .inr (0, fSr ar M v (foW C R wi v (chA C R wi v M 2) 0 (X 0).f c ss).1)), (ar 1, .inl (4, 4, .inr (.inr (.inr (.inr (fun j => some (T j))))))), (ar 2, .inl (0, 3, .inl ((foW C R wi v (chA C R wi v M 2) 0 (X 0).f c ss).2.1))), (ar 3, .inl (0, 3, .inl ((foW C R wi v (chA C R wi v M 2) 0 (X 0).f c ss).2.2))), ((T 0), .inr (1, fFire (AD 0) (X 0).1)), ((AD 0) 1, .inl (0, 64, .inl ((X 0).2.1.1))), ((AD 0) 2, .inl (0, 64, .inl ((X 0).2.1.2.1))), ((AD 0) 3, .inl (1, 64, .inl ((X 0).2.1.2.2))), ((AD 0) 4, .inl (0, 64, .inl ((X 0).2.2))), ((AD 0) 5, .inl (0, 60, .inl (SE 0))), ((T 1), .inr (1, fFire (AD 1) (X3 1).1)), ((AD 1) 1, .inl (0, 64, .inl ((X3 1).2.1.1))), ((AD 1) 2, .inl (0, 64, .inl ((X3 1).2.1.2.1))), ((AD 1) 3, .inl (1, 64, .inl ((X3 1).2.1.2.2))), ((AD 1) 4, .inl (0, 64, .inl ((X3 1).2.2))), ((AD 1) 5, .inl (0, 60, .inl (SE 1))), ((T 2), .inr (1, fFire (AD 2) (X3 2).1)), ((AD 2) 1, .inl (0, 64, .inl ((X3 2).2.1.1))), ((AD 2) 2, .inl (0, 64, .inl ((X3 2).2.1.2.1))), ((AD 2) 3, .inl (1, 64, .inl ((X3 2).2.1.2.2))), ((AD 2) 4, .inl (0, 64, .inl ((X3 2).2.2))), ((AD 2) 5, .inl (0, 60, .inl (SE 2))), ((T 3), .inr (1, fFire (AD 3) (X3 3).1)), ((AD 3) 1, .inl (0, 64, .inl ((X3 3).2.1.1))), ((AD 3) 2, .inl (0, 64, .inl ((X3 3).2.1.2.1))), ((AD 3) 3, .inl (1, 64, .inl ((X3 3).2.1.2.2))), ((AD 3) 4, .inl (0, 64, .inl ((X3 3).2.2))), ((AD 3) 5, .inl (0, 60, .inl (SE 3)))]) [6, 7, 8, 9, 0, 1, 2, 3, 4, 5, 10, 11, 12, 13, 14, 15, 16, 17, 18, 19, 20, 21, 22, 23, 24, 25, 26, 27] rfl (by decide) ?_
  exact zs_vret dX1_follow_49 rfl ⟨rfl, fun j => if j = 0 then X 0 else X3 j, rfl, rfl⟩
set_option maxRecDepth 100000 in
theorem lp_cho0 {l : Launch} {dd : Nat} {Po : zPo} {K0 : zK} {h0 : List va_E} {Xo : zK → Prop} {Gc : zG → Prop} (a : Nat) (ar : Nat → Nat) (T : Nat → Nat) (AD : Nat → Nat → Nat) (C R M : Nat) (wi v : Int32) (ss : zSs) (SE : Nat → (Nat → Int32)) (X : Nat → zFc) (hd : 10 ≤ dd) (hM : M ≤ 3) (hC : C ≤ 64) (hfz : zFh C R (X 0).1) (hwi : (X 0).1 3 = wi) (h01 : ∀ j, j < C * R → (X 0).2.1.2.2 j = 0 ∨ (X 0).2.1.2.2 j = 1) (hk : ∀ (X1 : Nat → zFc), zS (l, mX1_choose, dd, Po, K0, h0, Xo, Gc) 0 0 93 [(0, .ref a), (1, .int (nI 0))] [] [(a, .inr (0, fSr ar M v (chL (X 0).2.1.2.2 (foW C R wi v (chA C R wi v M 2) 0 (X 0).f) ss (C * R)).2.1)), (ar 1, .inl (4, 4, .inr (.inr (.inr (.inr (fun j => some (T j))))))), (ar 2, .inl (0, 3, .inl ((chL (X 0).2.1.2.2 (foW C R wi v (chA C R wi v M 2) 0 (X 0).f) ss (C * R)).2.2.1))), (ar 3, .inl (0, 3, .inl ((chL (X 0).2.1.2.2 (foW C R wi v (chA C R wi v M 2) 0 (X 0).f) ss (C * R)).2.2.2))), ((T 0), .inr (1, fFire (AD 0) (X 0).1)), ((AD 0) 1, .inl (0, 64, .inl ((X 0).2.1.1))), ((AD 0) 2, .inl (0, 64, .inl ((X 0).2.1.2.1))), ((AD 0) 3, .inl (1, 64, .inl ((X 0).2.1.2.2))), ((AD 0) 4, .inl (0, 64, .inl ((X 0).2.2))), ((AD 0) 5, .inl (0, 60, .inl (SE 0))), ((T 1), .inr (1, fFire (AD 1) (X1 1).1)), ((AD 1) 1, .inl (0, 64, .inl ((X1 1).2.1.1))), ((AD 1) 2, .inl (0, 64, .inl ((X1 1).2.1.2.1))), ((AD 1) 3, .inl (1, 64, .inl ((X1 1).2.1.2.2))), ((AD 1) 4, .inl (0, 64, .inl ((X1 1).2.2))), ((AD 1) 5, .inl (0, 60, .inl (SE 1))), ((T 2), .inr (1, fFire (AD 2) (X1 2).1)), ((AD 2) 1, .inl (0, 64, .inl ((X1 2).2.1.1))), ((AD 2) 2, .inl (0, 64, .inl ((X1 2).2.1.2.1))), ((AD 2) 3, .inl (1, 64, .inl ((X1 2).2.1.2.2))), ((AD 2) 4, .inl (0, 64, .inl ((X1 2).2.2))), ((AD 2) 5, .inl (0, 60, .inl (SE 2))), ((T 3), .inr (1, fFire (AD 3) (X1 3).1)), ((AD 3) 1, .inl (0, 64, .inl ((X1 3).2.1.1))), ((AD 3) 2, .inl (0, 64, .inl ((X1 3).2.1.2.1))), ((AD 3) 3, .inl (1, 64, .inl ((X1 3).2.1.2.2))), ((AD 3) 4, .inl (0, 64, .inl ((X1 3).2.2))), ((AD 3) 5, .inl (0, 60, .inl (SE 3)))]) :
    ∀ (q i : Nat) (X1 : Nat → zFc), i + q = C * R → zS (l, mX1_choose, dd, Po, K0, h0, Xo, Gc) 0 0 52 [(0, .ref a), (1, .int (nI 0)), (2, .ref (T 0)), (3, .int (nI (chL (X 0).2.1.2.2 (foW C R wi v (chA C R wi v M 2) 0 (X 0).f) ss i).1)), (4, .int (nI i))] [] [(a, .inr (0, fSr ar M v (chL (X 0).2.1.2.2 (foW C R wi v (chA C R wi v M 2) 0 (X 0).f) ss i).2.1)), (ar 1, .inl (4, 4, .inr (.inr (.inr (.inr (fun j => some (T j))))))), (ar 2, .inl (0, 3, .inl ((chL (X 0).2.1.2.2 (foW C R wi v (chA C R wi v M 2) 0 (X 0).f) ss i).2.2.1))), (ar 3, .inl (0, 3, .inl ((chL (X 0).2.1.2.2 (foW C R wi v (chA C R wi v M 2) 0 (X 0).f) ss i).2.2.2))), ((T 0), .inr (1, fFire (AD 0) (X 0).1)), ((AD 0) 1, .inl (0, 64, .inl ((X 0).2.1.1))), ((AD 0) 2, .inl (0, 64, .inl ((X 0).2.1.2.1))), ((AD 0) 3, .inl (1, 64, .inl ((X 0).2.1.2.2))), ((AD 0) 4, .inl (0, 64, .inl ((X 0).2.2))), ((AD 0) 5, .inl (0, 60, .inl (SE 0))), ((T 1), .inr (1, fFire (AD 1) (X1 1).1)), ((AD 1) 1, .inl (0, 64, .inl ((X1 1).2.1.1))), ((AD 1) 2, .inl (0, 64, .inl ((X1 1).2.1.2.1))), ((AD 1) 3, .inl (1, 64, .inl ((X1 1).2.1.2.2))), ((AD 1) 4, .inl (0, 64, .inl ((X1 1).2.2))), ((AD 1) 5, .inl (0, 60, .inl (SE 1))), ((T 2), .inr (1, fFire (AD 2) (X1 2).1)), ((AD 2) 1, .inl (0, 64, .inl ((X1 2).2.1.1))), ((AD 2) 2, .inl (0, 64, .inl ((X1 2).2.1.2.1))), ((AD 2) 3, .inl (1, 64, .inl ((X1 2).2.1.2.2))), ((AD 2) 4, .inl (0, 64, .inl ((X1 2).2.2))), ((AD 2) 5, .inl (0, 60, .inl (SE 2))), ((T 3), .inr (1, fFire (AD 3) (X1 3).1)), ((AD 3) 1, .inl (0, 64, .inl ((X1 3).2.1.1))), ((AD 3) 2, .inl (0, 64, .inl ((X1 3).2.1.2.1))), ((AD 3) 3, .inl (1, 64, .inl ((X1 3).2.1.2.2))), ((AD 3) 4, .inl (0, 64, .inl ((X1 3).2.2))), ((AD 3) 5, .inl (0, 60, .inl (SE 3)))] := by
  have hCR := hfz.2.1
  intro q
  induction q with
  | zero =>
    intro i X1 hi
    have hin : i = C * R := by omega
    refine zs_iload dX1_choose_52 rfl ?_
    refine zs_aload_n dX1_choose_54 rfl rfl ?_
    refine zs_get 4 dX1_choose_55 zf_RX1_53 rfl (v := .int ((X 0).1 2)) rfl ?_
    refine zs_icmp_ge (tgt := 93) dX1_choose_58 (by decide) (fun c_1 => ?_) (fun c_1 => (c_1 (by show (X 0).1 2 ≤ nI i; rw [hfz.2.2.2.2, hin]; exact Int32.le_refl _) : False).elim)
    refine zs_lv [0, 1] rfl ?_
    have hq := hk X1
    rw [← hin] at hq
    exact hq
  | succ q ih =>
    intro i X1 hi
    have hil : i < C * R := by omega
    have b8 := chL_8 (bu := (X 0).2.1.2.2) (fo := (foW C R wi v (chA C R wi v M 2) 0 (X 0).f)) (ss := ss) i
    refine zs_iload dX1_choose_52 rfl ?_
    refine zs_aload_n dX1_choose_54 rfl rfl ?_
    refine zs_get 4 dX1_choose_55 zf_RX1_53 rfl (v := .int ((X 0).1 2)) rfl ?_
    refine zs_icmp_ge (tgt := 93) dX1_choose_58 (by decide) (fun c_1 => (nI_ge hil (by omega) (hfz.2.2.2.2 ▸ c_1) : False).elim) (fun c_1 => ?_)
    refine zs_iload_n dX1_choose_61 rfl ?_
    refine zs_bipush (v := nI 8) dX1_choose_62 (by decide) ?_
    refine zs_icmp_ge (tgt := 93) dX1_choose_64 (by decide) (fun c_2 => ?_) (fun c_2 => ?_)
    · have c_2 : 8 ≤ ((chL (X 0).2.1.2.2 (foW C R wi v (chA C R wi v M 2) 0 (X 0).f) ss i).1) := by have hc := c_2; rw [nI_le' (by omega) (by omega)] at hc; exact hc
      refine zs_lv [0, 1] rfl ?_
      have hq := hk X1
      have e : C * R = i + (C * R - i) := by omega
      rw [e, chL_stop (show 8 ≤ (chL (X 0).2.1.2.2 (foW C R wi v (chA C R wi v M 2) 0 (X 0).f) ss i).1 from c_2) (C * R - i)] at hq
      exact hq
    · have c_2 : ¬ (8 ≤ ((chL (X 0).2.1.2.2 (foW C R wi v (chA C R wi v M 2) 0 (X 0).f) ss i).1)) := by have hc := c_2; rw [nI_le' (by omega) (by omega)] at hc; exact hc
      refine zs_aload_n dX1_choose_67 rfl rfl ?_
      refine zs_get 4 dX1_choose_68 zf_RX1_56 rfl (v := .ref ((AD 0) 3)) rfl ?_
      refine zs_iload dX1_choose_71 rfl ?_
      refine zs_zald 7 dX1_choose_73 rfl (vp_in_nI (by omega) (by omega)) ?_
      refine zs_as (y := (X 0).2.1.2.2 i) (by rw [nI_c (n := i) (by omega)]) ?_
      refine zs_if_eq (tgt := 87) dX1_choose_74 (by decide) (fun c_3 => ?_) (fun c_3 => ?_)
      · refine zs_iinc (v := (nI (i + 1))) (lv' := [(4, .int (nI (i + 1))), (0, .ref a), (1, .int (nI 0)), (2, .ref (T 0)), (3, .int (nI (chL (X 0).2.1.2.2 (foW C R wi v (chA C R wi v M 2) 0 (X 0).f) ss i).1))]) dX1_choose_87 rfl (nI_add _ 1) (Nat.le_of_ble_eq_true rfl) rfl ?_
        refine zs_goto (tgt := 52) dX1_choose_90 (by decide) ?_
        refine zs_lv [1, 2, 3, 4, 0] rfl ?_
        have hq := ih (i + 1) X1 (by omega)
        rw [show chL (X 0).2.1.2.2 (foW C R wi v (chA C R wi v M 2) 0 (X 0).f) ss (i + 1) = chL (X 0).2.1.2.2 (foW C R wi v (chA C R wi v M 2) 0 (X 0).f) ss i from by simp only [chL]; rw [if_neg (by omega), if_pos c_3]] at hq
        exact hq
      · refine zs_iinc (v := (nI (((chL (X 0).2.1.2.2 (foW C R wi v (chA C R wi v M 2) 0 (X 0).f) ss i).1) + 1))) (lv' := [(3, .int (nI (((chL (X 0).2.1.2.2 (foW C R wi v (chA C R wi v M 2) 0 (X 0).f) ss i).1) + 1))), (0, .ref a), (1, .int (nI 0)), (2, .ref (T 0)), (4, .int (nI i))]) dX1_choose_77 rfl (nI_add _ 1) (Nat.le_of_ble_eq_true rfl) rfl ?_
        refine zs_aload_n dX1_choose_80 rfl rfl ?_
        refine zs_iload_n dX1_choose_81 rfl ?_
        refine zs_iload dX1_choose_82 rfl ?_
        let X2 : Nat → zFc := fun j => if j = 0 then X 0 else X1 j
        refine zs_callV (M := mX1_follow) (As := [.int (nI 0), .int (nI i)]) (st := []) (Kc := [(a, .inr (0, fSr ar M v (chL (X 0).2.1.2.2 (foW C R wi v (chA C R wi v M 2) 0 (X 0).f) ss i).2.1)), (ar 1, .inl (4, 4, .inr (.inr (.inr (.inr (fun j => some (T j))))))), (ar 2, .inl (0, 3, .inl ((chL (X 0).2.1.2.2 (foW C R wi v (chA C R wi v M 2) 0 (X 0).f) ss i).2.2.1))), (ar 3, .inl (0, 3, .inl ((chL (X 0).2.1.2.2 (foW C R wi v (chA C R wi v M 2) 0 (X 0).f) ss i).2.2.2))), ((T 0), .inr (1, fFire (AD 0) (X 0).1)), ((AD 0) 1, .inl (0, 64, .inl ((X 0).2.1.1))), ((AD 0) 2, .inl (0, 64, .inl ((X 0).2.1.2.1))), ((AD 0) 3, .inl (1, 64, .inl ((X 0).2.1.2.2))), ((AD 0) 4, .inl (0, 64, .inl ((X 0).2.2))), ((AD 0) 5, .inl (0, 60, .inl (SE 0))), ((T 1), .inr (1, fFire (AD 1) (X1 1).1)), ((AD 1) 1, .inl (0, 64, .inl ((X1 1).2.1.1))), ((AD 1) 2, .inl (0, 64, .inl ((X1 1).2.1.2.1))), ((AD 1) 3, .inl (1, 64, .inl ((X1 1).2.1.2.2))), ((AD 1) 4, .inl (0, 64, .inl ((X1 1).2.2))), ((AD 1) 5, .inl (0, 60, .inl (SE 1))), ((T 2), .inr (1, fFire (AD 2) (X1 2).1)), ((AD 2) 1, .inl (0, 64, .inl ((X1 2).2.1.1))), ((AD 2) 2, .inl (0, 64, .inl ((X1 2).2.1.2.1))), ((AD 2) 3, .inl (1, 64, .inl ((X1 2).2.1.2.2))), ((AD 2) 4, .inl (0, 64, .inl ((X1 2).2.2))), ((AD 2) 5, .inl (0, 60, .inl (SE 2))), ((T 3), .inr (1, fFire (AD 3) (X1 3).1)), ((AD 3) 1, .inl (0, 64, .inl ((X1 3).2.1.1))), ((AD 3) 2, .inl (0, 64, .inl ((X1 3).2.1.2.1))), ((AD 3) 3, .inl (1, 64, .inl ((X1 3).2.1.2.2))), ((AD 3) 4, .inl (0, 64, .inl ((X1 3).2.2))), ((AD 3) 5, .inl (0, 60, .inl (SE 3)))]) (Kr := []) [0, 1, 2, 3, 4, 5, 6, 7, 8, 9, 10, 11, 12, 13, 14, 15, 16, 17, 18, 19, 20, 21, 22, 23, 24, 25, 26, 27] [] 0 dX1_choose_84 zl_RX1_60 kX1_follow rfl rfl rfl rfl rfl (by decide) rfl rfl (show dd - 1 + 1 ≤ dd by omega) (Nat.zero_le _) (Nat.zero_le _) (Nat.le_of_ble_eq_true rfl) (s_fol0 l (dd - 1) a ar T AD C R M wi v (chL (X 0).2.1.2.2 (foW C R wi v (chA C R wi v M 2) 0 (X 0).f) ss i).2 SE X2 (nI i) (by omega) hM hC hfz hwi h01) (fun r K1 hr => ?_)
        obtain ⟨rfl, X3, hX3, rfl⟩ := hr
        rw [hX3]
        refine zs_K (K' := [(a, .inr (0, fSr ar M v ((foW C R wi v (chA C R wi v M 2) 0 (X 0).f) (nI i) (chL (X 0).2.1.2.2 (foW C R wi v (chA C R wi v M 2) 0 (X 0).f) ss i).2).1)), (ar 1, .inl (4, 4, .inr (.inr (.inr (.inr (fun j => some (T j))))))), (ar 2, .inl (0, 3, .inl (((foW C R wi v (chA C R wi v M 2) 0 (X 0).f) (nI i) (chL (X 0).2.1.2.2 (foW C R wi v (chA C R wi v M 2) 0 (X 0).f) ss i).2).2.1))), (ar 3, .inl (0, 3, .inl (((foW C R wi v (chA C R wi v M 2) 0 (X 0).f) (nI i) (chL (X 0).2.1.2.2 (foW C R wi v (chA C R wi v M 2) 0 (X 0).f) ss i).2).2.2))), ((T 0), .inr (1, fFire (AD 0) (X 0).1)), ((AD 0) 1, .inl (0, 64, .inl ((X 0).2.1.1))), ((AD 0) 2, .inl (0, 64, .inl ((X 0).2.1.2.1))), ((AD 0) 3, .inl (1, 64, .inl ((X 0).2.1.2.2))), ((AD 0) 4, .inl (0, 64, .inl ((X 0).2.2))), ((AD 0) 5, .inl (0, 60, .inl (SE 0))), ((T 1), .inr (1, fFire (AD 1) (X3 1).1)), ((AD 1) 1, .inl (0, 64, .inl ((X3 1).2.1.1))), ((AD 1) 2, .inl (0, 64, .inl ((X3 1).2.1.2.1))), ((AD 1) 3, .inl (1, 64, .inl ((X3 1).2.1.2.2))), ((AD 1) 4, .inl (0, 64, .inl ((X3 1).2.2))), ((AD 1) 5, .inl (0, 60, .inl (SE 1))), ((T 2), .inr (1, fFire (AD 2) (X3 2).1)), ((AD 2) 1, .inl (0, 64, .inl ((X3 2).2.1.1))), ((AD 2) 2, .inl (0, 64, .inl ((X3 2).2.1.2.1))), ((AD 2) 3, .inl (1, 64, .inl ((X3 2).2.1.2.2))), ((AD 2) 4, .inl (0, 64, .inl ((X3 2).2.2))), ((AD 2) 5, .inl (0, 60, .inl (SE 2))), ((T 3), .inr (1, fFire (AD 3) (X3 3).1)), ((AD 3) 1, .inl (0, 64, .inl ((X3 3).2.1.1))), ((AD 3) 2, .inl (0, 64, .inl ((X3 3).2.1.2.1))), ((AD 3) 3, .inl (1, 64, .inl ((X3 3).2.1.2.2))), ((AD 3) 4, .inl (0, 64, .inl ((X3 3).2.2))), ((AD 3) 5, .inl (0, 60, .inl (SE 3)))]) [0, 1, 2, 3, 4, 5, 6, 7, 8, 9, 10, 11, 12, 13, 14, 15, 16, 17, 18, 19, 20, 21, 22, 23, 24, 25, 26, 27] rfl (by decide) ?_
        refine zs_iinc (v := (nI (i + 1))) (lv' := [(4, .int (nI (i + 1))), (3, .int (nI (((chL (X 0).2.1.2.2 (foW C R wi v (chA C R wi v M 2) 0 (X 0).f) ss i).1) + 1))), (0, .ref a), (1, .int (nI 0)), (2, .ref (T 0))]) dX1_choose_87 rfl (nI_add _ 1) (Nat.le_of_ble_eq_true rfl) rfl ?_
        refine zs_goto (tgt := 52) dX1_choose_90 (by decide) ?_
        refine zs_lv [2, 3, 4, 1, 0] rfl ?_
        have hq := ih (i + 1) X3 (by omega)
        rw [show chL (X 0).2.1.2.2 (foW C R wi v (chA C R wi v M 2) 0 (X 0).f) ss (i + 1) = ((chL (X 0).2.1.2.2 (foW C R wi v (chA C R wi v M 2) 0 (X 0).f) ss i).1 + 1, (foW C R wi v (chA C R wi v M 2) 0 (X 0).f) (nI i) (chL (X 0).2.1.2.2 (foW C R wi v (chA C R wi v M 2) 0 (X 0).f) ss i).2) from by simp only [chL]; rw [if_neg (by omega), if_neg c_3]] at hq
        exact hq
set_option maxRecDepth 100000 in
theorem s_cho0 (l : Launch) (dd : Nat) (a : Nat) (ar : Nat → Nat) (T : Nat → Nat) (AD : Nat → Nat → Nat) (C R M : Nat) (wi v : Int32) (ss : zSs) (SE : Nat → (Nat → Int32)) (X : Nat → zFc) (hd : 10 ≤ dd) (hM : M ≤ 3) (hC : C ≤ 64) (hfz : zFh C R (X 0).1) (hwi : (X 0).1 3 = wi) (h01 : ∀ j, j < C * R → (X 0).2.1.2.2 j = 0 ∨ (X 0).2.1.2.2 j = 1) : zSp l mX1_choose dd 0 0 [.ref a, .int (nI 0)] [(a, .inr (0, fSr ar M v ss.1)), (ar 1, .inl (4, 4, .inr (.inr (.inr (.inr (fun j => some (T j))))))), (ar 2, .inl (0, 3, .inl (ss.2.1))), (ar 3, .inl (0, 3, .inl (ss.2.2))), ((T 0), .inr (1, fFire (AD 0) (X 0).1)), ((AD 0) 1, .inl (0, 64, .inl ((X 0).2.1.1))), ((AD 0) 2, .inl (0, 64, .inl ((X 0).2.1.2.1))), ((AD 0) 3, .inl (1, 64, .inl ((X 0).2.1.2.2))), ((AD 0) 4, .inl (0, 64, .inl ((X 0).2.2))), ((AD 0) 5, .inl (0, 60, .inl (SE 0))), ((T 1), .inr (1, fFire (AD 1) (X 1).1)), ((AD 1) 1, .inl (0, 64, .inl ((X 1).2.1.1))), ((AD 1) 2, .inl (0, 64, .inl ((X 1).2.1.2.1))), ((AD 1) 3, .inl (1, 64, .inl ((X 1).2.1.2.2))), ((AD 1) 4, .inl (0, 64, .inl ((X 1).2.2))), ((AD 1) 5, .inl (0, 60, .inl (SE 1))), ((T 2), .inr (1, fFire (AD 2) (X 2).1)), ((AD 2) 1, .inl (0, 64, .inl ((X 2).2.1.1))), ((AD 2) 2, .inl (0, 64, .inl ((X 2).2.1.2.1))), ((AD 2) 3, .inl (1, 64, .inl ((X 2).2.1.2.2))), ((AD 2) 4, .inl (0, 64, .inl ((X 2).2.2))), ((AD 2) 5, .inl (0, 60, .inl (SE 2))), ((T 3), .inr (1, fFire (AD 3) (X 3).1)), ((AD 3) 1, .inl (0, 64, .inl ((X 3).2.1.1))), ((AD 3) 2, .inl (0, 64, .inl ((X 3).2.1.2.1))), ((AD 3) 3, .inl (1, 64, .inl ((X 3).2.1.2.2))), ((AD 3) 4, .inl (0, 64, .inl ((X 3).2.2))), ((AD 3) 5, .inl (0, 60, .inl (SE 3)))] (fun r K' => r = none ∧ ∃ X' : Nat → zFc, (M ≤ 0 ∨ X' 0 = X 0) ∧ K' = kSr a ar T M v (chA C R wi v M 3 (X 0).f ss) ++ (kFc (T 0) (AD 0) (X' 0) (SE 0) ++ (kFc (T 1) (AD 1) (X' 1) (SE 1) ++ (kFc (T 2) (AD 2) (X' 2) (SE 2) ++ (kFc (T 3) (AD 3) (X' 3) (SE 3)))))) := by
  refine zSp.of (by decide) (Nat.le_of_ble_eq_true rfl) (fun h0 => ?_)
  show zS _ 0 0 0 [(0, .ref a), (1, .int (nI 0))] [] [(a, .inr (0, fSr ar M v ss.1)), (ar 1, .inl (4, 4, .inr (.inr (.inr (.inr (fun j => some (T j))))))), (ar 2, .inl (0, 3, .inl (ss.2.1))), (ar 3, .inl (0, 3, .inl (ss.2.2))), ((T 0), .inr (1, fFire (AD 0) (X 0).1)), ((AD 0) 1, .inl (0, 64, .inl ((X 0).2.1.1))), ((AD 0) 2, .inl (0, 64, .inl ((X 0).2.1.2.1))), ((AD 0) 3, .inl (1, 64, .inl ((X 0).2.1.2.2))), ((AD 0) 4, .inl (0, 64, .inl ((X 0).2.2))), ((AD 0) 5, .inl (0, 60, .inl (SE 0))), ((T 1), .inr (1, fFire (AD 1) (X 1).1)), ((AD 1) 1, .inl (0, 64, .inl ((X 1).2.1.1))), ((AD 1) 2, .inl (0, 64, .inl ((X 1).2.1.2.1))), ((AD 1) 3, .inl (1, 64, .inl ((X 1).2.1.2.2))), ((AD 1) 4, .inl (0, 64, .inl ((X 1).2.2))), ((AD 1) 5, .inl (0, 60, .inl (SE 1))), ((T 2), .inr (1, fFire (AD 2) (X 2).1)), ((AD 2) 1, .inl (0, 64, .inl ((X 2).2.1.1))), ((AD 2) 2, .inl (0, 64, .inl ((X 2).2.1.2.1))), ((AD 2) 3, .inl (1, 64, .inl ((X 2).2.1.2.2))), ((AD 2) 4, .inl (0, 64, .inl ((X 2).2.2))), ((AD 2) 5, .inl (0, 60, .inl (SE 2))), ((T 3), .inr (1, fFire (AD 3) (X 3).1)), ((AD 3) 1, .inl (0, 64, .inl ((X 3).2.1.1))), ((AD 3) 2, .inl (0, 64, .inl ((X 3).2.1.2.1))), ((AD 3) 3, .inl (1, 64, .inl ((X 3).2.1.2.2))), ((AD 3) 4, .inl (0, 64, .inl ((X 3).2.2))), ((AD 3) 5, .inl (0, 60, .inl (SE 3)))]
  refine zs_iload_n dX1_choose_0 rfl ?_
  refine zs_if_lt (tgt := 25) dX1_choose_1 (by decide) (fun c_1 => (absurd c_1 (by decide) : False).elim) (fun c_1 => ?_)
  refine zs_iload_n dX1_choose_4 rfl ?_
  refine zs_iconst (v := nI 3) dX1_choose_5 (by decide) ?_
  refine zs_icmp_gt (tgt := 25) dX1_choose_6 (by decide) (fun c_2 => (absurd c_2 (by decide) : False).elim) (fun c_2 => ?_)
  refine zs_aload_n dX1_choose_9 rfl rfl ?_
  refine zs_get 0 dX1_choose_10 zf_RX1_11 rfl (v := .ref (ar 1)) rfl ?_
  refine zs_iload_n dX1_choose_13 rfl ?_
  refine zs_aald4 (b := (T 0)) 1 dX1_choose_14 rfl (vp_in_nI (by decide) (by decide)) (congrArg (fun k => some (T k)) (nI_c (n := 0) (by decide))) ?_
  refine zs_get 4 dX1_choose_15 zf_RX1_46 rfl (v := .int ((X 0).1 10)) rfl ?_
  refine zs_aload_n dX1_choose_18 rfl rfl ?_
  refine zs_get 0 dX1_choose_19 zf_RX1_35 rfl (v := .int ss.1) rfl ?_
  refine zs_icmp_lt (tgt := 26) dX1_choose_22 (by decide) (fun c_3 => ?_) (fun c_3 => ?_)
  · refine zs_aload_n dX1_choose_26 rfl rfl ?_
    refine zs_get 0 dX1_choose_27 zf_RX1_11 rfl (v := .ref (ar 1)) rfl ?_
    refine zs_iload_n dX1_choose_30 rfl ?_
    refine zs_aald4 (b := (T 0)) 1 dX1_choose_31 rfl (vp_in_nI (by decide) (by decide)) (congrArg (fun k => some (T k)) (nI_c (n := 0) (by decide))) ?_
    refine zs_astore_n (lv' := [(2, .ref (T 0)), (0, .ref a), (1, .int (nI 0))]) dX1_choose_32 (Nat.le_of_ble_eq_true rfl) rfl rfl ?_
    refine zs_iload_n dX1_choose_33 rfl ?_
    refine zs_aload_n dX1_choose_34 rfl rfl ?_
    refine zs_get 0 dX1_choose_35 zf_RX1_25 rfl (v := .int (nI M)) rfl ?_
    refine zs_icmp_lt (tgt := 47) dX1_choose_38 (by decide) (fun c_4 => ?_) (fun c_4 => ?_)
    · have c_4 : 0 < M := by have hc := c_4; rw [nI_lt' (by omega) (by omega)] at hc; exact hc
      refine zs_iconst (v := nI 0) dX1_choose_47 (by decide) ?_
      refine zs_istore_n (lv' := [(3, .int (nI 0)), (2, .ref (T 0)), (0, .ref a), (1, .int (nI 0))]) dX1_choose_48 (Nat.le_of_ble_eq_true rfl) rfl ?_
      refine zs_iconst (v := nI 0) dX1_choose_49 (by decide) ?_
      refine zs_istore (lv' := [(4, .int (nI 0)), (3, .int (nI 0)), (2, .ref (T 0)), (0, .ref a), (1, .int (nI 0))]) dX1_choose_50 (Nat.le_of_ble_eq_true rfl) rfl ?_
      refine zs_lv [3, 4, 2, 1, 0] rfl ?_
      refine lp_cho0 a ar T AD C R M wi v ss SE X hd hM hC hfz hwi h01 (fun X1 => ?_) (C * R) 0 X (by omega)
      refine zs_aload_n dX1_choose_93 rfl rfl ?_
      refine zs_iload_n dX1_choose_94 rfl ?_
      refine zs_iconst (v := (-1)) dX1_choose_95 (by decide) ?_
      let X2 : Nat → zFc := fun j => if j = 0 then X 0 else X1 j
      refine zs_callV (M := mX1_follow) (As := [.int (nI 0), .int (-1)]) (st := []) (Kc := [(a, .inr (0, fSr ar M v (chL (X 0).2.1.2.2 (foW C R wi v (chA C R wi v M 2) 0 (X 0).f) ss (C * R)).2.1)), (ar 1, .inl (4, 4, .inr (.inr (.inr (.inr (fun j => some (T j))))))), (ar 2, .inl (0, 3, .inl ((chL (X 0).2.1.2.2 (foW C R wi v (chA C R wi v M 2) 0 (X 0).f) ss (C * R)).2.2.1))), (ar 3, .inl (0, 3, .inl ((chL (X 0).2.1.2.2 (foW C R wi v (chA C R wi v M 2) 0 (X 0).f) ss (C * R)).2.2.2))), ((T 0), .inr (1, fFire (AD 0) (X 0).1)), ((AD 0) 1, .inl (0, 64, .inl ((X 0).2.1.1))), ((AD 0) 2, .inl (0, 64, .inl ((X 0).2.1.2.1))), ((AD 0) 3, .inl (1, 64, .inl ((X 0).2.1.2.2))), ((AD 0) 4, .inl (0, 64, .inl ((X 0).2.2))), ((AD 0) 5, .inl (0, 60, .inl (SE 0))), ((T 1), .inr (1, fFire (AD 1) (X1 1).1)), ((AD 1) 1, .inl (0, 64, .inl ((X1 1).2.1.1))), ((AD 1) 2, .inl (0, 64, .inl ((X1 1).2.1.2.1))), ((AD 1) 3, .inl (1, 64, .inl ((X1 1).2.1.2.2))), ((AD 1) 4, .inl (0, 64, .inl ((X1 1).2.2))), ((AD 1) 5, .inl (0, 60, .inl (SE 1))), ((T 2), .inr (1, fFire (AD 2) (X1 2).1)), ((AD 2) 1, .inl (0, 64, .inl ((X1 2).2.1.1))), ((AD 2) 2, .inl (0, 64, .inl ((X1 2).2.1.2.1))), ((AD 2) 3, .inl (1, 64, .inl ((X1 2).2.1.2.2))), ((AD 2) 4, .inl (0, 64, .inl ((X1 2).2.2))), ((AD 2) 5, .inl (0, 60, .inl (SE 2))), ((T 3), .inr (1, fFire (AD 3) (X1 3).1)), ((AD 3) 1, .inl (0, 64, .inl ((X1 3).2.1.1))), ((AD 3) 2, .inl (0, 64, .inl ((X1 3).2.1.2.1))), ((AD 3) 3, .inl (1, 64, .inl ((X1 3).2.1.2.2))), ((AD 3) 4, .inl (0, 64, .inl ((X1 3).2.2))), ((AD 3) 5, .inl (0, 60, .inl (SE 3)))]) (Kr := []) [0, 1, 2, 3, 4, 5, 6, 7, 8, 9, 10, 11, 12, 13, 14, 15, 16, 17, 18, 19, 20, 21, 22, 23, 24, 25, 26, 27] [] 0 dX1_choose_96 zl_RX1_60 kX1_follow rfl rfl rfl rfl rfl (by decide) rfl rfl (show dd - 1 + 1 ≤ dd by omega) (Nat.zero_le _) (Nat.zero_le _) (Nat.le_of_ble_eq_true rfl) (s_fol0 l (dd - 1) a ar T AD C R M wi v (chL (X 0).2.1.2.2 (foW C R wi v (chA C R wi v M 2) 0 (X 0).f) ss (C * R)).2 SE X2 (-1) (by omega) hM hC hfz hwi h01) (fun r K1 hr => ?_)
      obtain ⟨rfl, X3, hX3, rfl⟩ := hr
      rw [hX3]
      refine zs_K (K' := [(a, .inr (0, fSr ar M v ((foW C R wi v (chA C R wi v M 2) 0 (X 0).f) (-1) (chL (X 0).2.1.2.2 (foW C R wi v (chA C R wi v M 2) 0 (X 0).f) ss (C * R)).2).1)), (ar 1, .inl (4, 4, .inr (.inr (.inr (.inr (fun j => some (T j))))))), (ar 2, .inl (0, 3, .inl (((foW C R wi v (chA C R wi v M 2) 0 (X 0).f) (-1) (chL (X 0).2.1.2.2 (foW C R wi v (chA C R wi v M 2) 0 (X 0).f) ss (C * R)).2).2.1))), (ar 3, .inl (0, 3, .inl (((foW C R wi v (chA C R wi v M 2) 0 (X 0).f) (-1) (chL (X 0).2.1.2.2 (foW C R wi v (chA C R wi v M 2) 0 (X 0).f) ss (C * R)).2).2.2))), ((T 0), .inr (1, fFire (AD 0) (X 0).1)), ((AD 0) 1, .inl (0, 64, .inl ((X 0).2.1.1))), ((AD 0) 2, .inl (0, 64, .inl ((X 0).2.1.2.1))), ((AD 0) 3, .inl (1, 64, .inl ((X 0).2.1.2.2))), ((AD 0) 4, .inl (0, 64, .inl ((X 0).2.2))), ((AD 0) 5, .inl (0, 60, .inl (SE 0))), ((T 1), .inr (1, fFire (AD 1) (X3 1).1)), ((AD 1) 1, .inl (0, 64, .inl ((X3 1).2.1.1))), ((AD 1) 2, .inl (0, 64, .inl ((X3 1).2.1.2.1))), ((AD 1) 3, .inl (1, 64, .inl ((X3 1).2.1.2.2))), ((AD 1) 4, .inl (0, 64, .inl ((X3 1).2.2))), ((AD 1) 5, .inl (0, 60, .inl (SE 1))), ((T 2), .inr (1, fFire (AD 2) (X3 2).1)), ((AD 2) 1, .inl (0, 64, .inl ((X3 2).2.1.1))), ((AD 2) 2, .inl (0, 64, .inl ((X3 2).2.1.2.1))), ((AD 2) 3, .inl (1, 64, .inl ((X3 2).2.1.2.2))), ((AD 2) 4, .inl (0, 64, .inl ((X3 2).2.2))), ((AD 2) 5, .inl (0, 60, .inl (SE 2))), ((T 3), .inr (1, fFire (AD 3) (X3 3).1)), ((AD 3) 1, .inl (0, 64, .inl ((X3 3).2.1.1))), ((AD 3) 2, .inl (0, 64, .inl ((X3 3).2.1.2.1))), ((AD 3) 3, .inl (1, 64, .inl ((X3 3).2.1.2.2))), ((AD 3) 4, .inl (0, 64, .inl ((X3 3).2.2))), ((AD 3) 5, .inl (0, 60, .inl (SE 3)))]) [0, 1, 2, 3, 4, 5, 6, 7, 8, 9, 10, 11, 12, 13, 14, 15, 16, 17, 18, 19, 20, 21, 22, 23, 24, 25, 26, 27] rfl (by decide) ?_
      exact zs_vret dX1_choose_99 rfl ⟨rfl, fun j => if j = 0 then X 0 else X3 j, Or.inr rfl, by rw [show chA C R wi v M 3 (X 0).f ss = (foW C R wi v (chA C R wi v M 2) 0 (X 0).f) (-1) (chL (X 0).2.1.2.2 (foW C R wi v (chA C R wi v M 2) 0 (X 0).f) ss (C * R)).2 from (if_neg (show ¬ ss.1 ≤ (X 0).1 10 from (Int32.not_le.mpr c_3))).trans (if_neg (show ¬ M ≤ 0 by omega))]; rfl⟩
    · have c_4 : ¬ (0 < M) := by have hc := c_4; rw [nI_lt' (by omega) (by omega)] at hc; exact hc
      refine zs_aload_n dX1_choose_41 rfl rfl ?_
      refine zs_aload_n dX1_choose_42 rfl rfl ?_
      refine zs_callV (M := mX1_weigh) (As := [.ref (T 0)]) (st := []) (Kc := [(a, .inr (0, fSr ar M v ss.1)), (ar 2, .inl (0, 3, .inl (ss.2.1))), (ar 3, .inl (0, 3, .inl (ss.2.2))), ((T 0), .inr (1, fFire (AD 0) (X 0).1)), ((AD 0) 1, .inl (0, 64, .inl ((X 0).2.1.1))), ((AD 0) 2, .inl (0, 64, .inl ((X 0).2.1.2.1))), ((AD 0) 3, .inl (1, 64, .inl ((X 0).2.1.2.2))), ((AD 0) 4, .inl (0, 64, .inl ((X 0).2.2))), ((AD 0) 5, .inl (0, 60, .inl (SE 0)))]) (Kr := [(ar 1, .inl (4, 4, .inr (.inr (.inr (.inr (fun j => some (T j))))))), ((T 1), .inr (1, fFire (AD 1) (X 1).1)), ((AD 1) 1, .inl (0, 64, .inl ((X 1).2.1.1))), ((AD 1) 2, .inl (0, 64, .inl ((X 1).2.1.2.1))), ((AD 1) 3, .inl (1, 64, .inl ((X 1).2.1.2.2))), ((AD 1) 4, .inl (0, 64, .inl ((X 1).2.2))), ((AD 1) 5, .inl (0, 60, .inl (SE 1))), ((T 2), .inr (1, fFire (AD 2) (X 2).1)), ((AD 2) 1, .inl (0, 64, .inl ((X 2).2.1.1))), ((AD 2) 2, .inl (0, 64, .inl ((X 2).2.1.2.1))), ((AD 2) 3, .inl (1, 64, .inl ((X 2).2.1.2.2))), ((AD 2) 4, .inl (0, 64, .inl ((X 2).2.2))), ((AD 2) 5, .inl (0, 60, .inl (SE 2))), ((T 3), .inr (1, fFire (AD 3) (X 3).1)), ((AD 3) 1, .inl (0, 64, .inl ((X 3).2.1.1))), ((AD 3) 2, .inl (0, 64, .inl ((X 3).2.1.2.1))), ((AD 3) 3, .inl (1, 64, .inl ((X 3).2.1.2.2))), ((AD 3) 4, .inl (0, 64, .inl ((X 3).2.2))), ((AD 3) 5, .inl (0, 60, .inl (SE 3)))]) [0, 2, 3, 4, 5, 6, 7, 8, 9] [1, 10, 11, 12, 13, 14, 15, 16, 17, 18, 19, 20, 21, 22, 23, 24, 25, 26, 27] 0 dX1_choose_43 zl_RX1_49 kX1_weigh rfl rfl rfl rfl rfl (by decide) rfl rfl (show dd - 1 + 1 ≤ dd by omega) (Nat.zero_le _) (Nat.zero_le _) (Nat.le_of_ble_eq_true rfl) (s_weigh l (dd - 1) a ar T (T 0) (AD 0) C R M wi v ss (SE 0) (X 0) (by omega) hM hfz hwi) (fun r K1 hr => ?_)
      obtain ⟨rfl, X1, rfl⟩ := hr
      refine zs_K (K' := [(a, .inr (0, fSr ar M v (wgh C R wi M (X 0).f ss).1)), (ar 1, .inl (4, 4, .inr (.inr (.inr (.inr (fun j => some (T j))))))), (ar 2, .inl (0, 3, .inl ((wgh C R wi M (X 0).f ss).2.1))), (ar 3, .inl (0, 3, .inl ((wgh C R wi M (X 0).f ss).2.2))), ((T 0), .inr (1, fFire (AD 0) X1.1)), ((AD 0) 1, .inl (0, 64, .inl (X1.2.1.1))), ((AD 0) 2, .inl (0, 64, .inl (X1.2.1.2.1))), ((AD 0) 3, .inl (1, 64, .inl (X1.2.1.2.2))), ((AD 0) 4, .inl (0, 64, .inl (X1.2.2))), ((AD 0) 5, .inl (0, 60, .inl (SE 0))), ((T 1), .inr (1, fFire (AD 1) (X 1).1)), ((AD 1) 1, .inl (0, 64, .inl ((X 1).2.1.1))), ((AD 1) 2, .inl (0, 64, .inl ((X 1).2.1.2.1))), ((AD 1) 3, .inl (1, 64, .inl ((X 1).2.1.2.2))), ((AD 1) 4, .inl (0, 64, .inl ((X 1).2.2))), ((AD 1) 5, .inl (0, 60, .inl (SE 1))), ((T 2), .inr (1, fFire (AD 2) (X 2).1)), ((AD 2) 1, .inl (0, 64, .inl ((X 2).2.1.1))), ((AD 2) 2, .inl (0, 64, .inl ((X 2).2.1.2.1))), ((AD 2) 3, .inl (1, 64, .inl ((X 2).2.1.2.2))), ((AD 2) 4, .inl (0, 64, .inl ((X 2).2.2))), ((AD 2) 5, .inl (0, 60, .inl (SE 2))), ((T 3), .inr (1, fFire (AD 3) (X 3).1)), ((AD 3) 1, .inl (0, 64, .inl ((X 3).2.1.1))), ((AD 3) 2, .inl (0, 64, .inl ((X 3).2.1.2.1))), ((AD 3) 3, .inl (1, 64, .inl ((X 3).2.1.2.2))), ((AD 3) 4, .inl (0, 64, .inl ((X 3).2.2))), ((AD 3) 5, .inl (0, 60, .inl (SE 3)))]) [19, 0, 20, 21, 22, 23, 24, 25, 26, 27, 1, 2, 3, 4, 5, 6, 7, 8, 9, 10, 11, 12, 13, 14, 15, 16, 17, 18] rfl (by decide) ?_
      exact zs_vret dX1_choose_46 rfl ⟨rfl, fun j => if j = 0 then X1 else X j, Or.inl (show M ≤ 0 by omega), by rw [show chA C R wi v M 3 (X 0).f ss = wgh C R wi M (X 0).f ss from (if_neg (show ¬ ss.1 ≤ (X 0).1 10 from (Int32.not_le.mpr c_3))).trans (if_pos (show M ≤ 0 by omega))]; rfl⟩
  · exact zs_vret dX1_choose_25 rfl ⟨rfl, X, Or.inr rfl, by rw [show chA C R wi v M 3 (X 0).f ss = ss from if_pos (show ss.1 ≤ (X 0).1 10 from (Int32.not_lt.mp c_3))]; rfl⟩
