/-! ===== a yard's text ===== -/
/-- a yard's data: numbers by field, wind, names, hands, paces, powers, fuel, what burns -/
abbrev zYd : Type := (Nat → Nat) × Int32 × (Nat → Nat) × (Nat → Nat) × (Nat → Nat) × (Nat → Nat) × (Nat → Nat) × (Nat → Nat)
abbrev kYd (y : Nat) (ay : Nat → Nat) (D : zYd) : zK := kYard y ay (ysN D.1 D.2.1) (nF D.2.2.1) (nF D.2.2.2.1) (nF D.2.2.2.2.1) (nF D.2.2.2.2.2.1) (nF D.2.2.2.2.2.2.1) (nF D.2.2.2.2.2.2.2)
/-- what a reader tells: its fault (0: none), the token where it is, what was taken last, the data -/
abbrev zPy : Type := Nat × zTk × Nat × zYd
abbrev kTx (x b n L : Nat) (bt : Nat → Nat) (τ : zTk) (fa pl tk : Nat) : zK := [(x, .inr (8, fTx b n L τ fa pl (nI tk))), (b, .inl (0, 740, .inl (nF bt)))]
def pBd (R : zPy) (f : zTk → Nat → zYd → zPy) : zPy := if R.1 = 0 then f R.2.1 R.2.2.1 R.2.2.2 else R
theorem pBd_ok {τ : zTk} {tk : Nat} {D : zYd} {f : zTk → Nat → zYd → zPy} : pBd (0, τ, tk, D) f = f τ tk D := if_pos rfl
theorem pBd_no {k : Nat} {X : zTk × Nat × zYd} {f : zTk → Nat → zYd → zPy} (h : ¬ k = 0) : pBd (k, X) f = (k, X) := if_neg h
def pNu (b : Nat → Nat) (n L lo hi : Nat) (τ : zTk) (tk : Nat) (D : zYd) : zPy := if tNu τ lo hi = 0 then (0, nxt b n L τ, τ.2.2.2.1, D) else (tNu τ lo hi, τ, tk, D)
theorem pNu_ok {b : Nat → Nat} {n L lo hi : Nat} {τ : zTk} {tk : Nat} {D : zYd} (h : tNu τ lo hi = 0) : pNu b n L lo hi τ tk D = (0, nxt b n L τ, τ.2.2.2.1, D) := if_pos h
theorem pNu_no {b : Nat → Nat} {n L lo hi : Nat} {τ : zTk} {tk : Nat} {D : zYd} (h : ¬ tNu τ lo hi = 0) : pNu b n L lo hi τ tk D = (tNu τ lo hi, τ, tk, D) := if_neg h
theorem pNu_bo {b : Nat → Nat} {n L lo hi : Nat} {τ : zTk} {tk : Nat} {D : zYd} {f : zTk → Nat → zYd → zPy} (h : tNu τ lo hi = 0) : pBd (pNu b n L lo hi τ tk D) f = f (nxt b n L τ) τ.2.2.2.1 D := by rw [pNu_ok h, pBd_ok]
theorem pNu_bn {b : Nat → Nat} {n L lo hi : Nat} {τ : zTk} {tk : Nat} {D : zYd} {f : zTk → Nat → zYd → zPy} (h : ¬ tNu τ lo hi = 0) : pBd (pNu b n L lo hi τ tk D) f = (tNu τ lo hi, τ, tk, D) := by rw [pNu_no h, pBd_no h]
/-- the first of the m men from i on who is named v -/
def mFind (nm : Nat → Nat) (v : Nat) : Nat → Nat → Option Nat
  | 0, _ => none
  | m + 1, i => if nm i = v then some i else mFind nm v m (i + 1)
def pMan (b : Nat → Nat) (n L : Nat) (τ : zTk) (tk : Nat) (D : zYd) : zPy :=
  if 12 ≤ D.1 0 then (4, τ, tk, D) else
  if tNm (nxt b n L τ) = false then (1, nxt b n L τ, tk, D) else
  if ¬ mFind D.2.2.1 (nxt b n L τ).2.2.2.1 (D.1 0) 0 = none then (3, nxt b n L τ, tk, D) else
  pBd (pNu b n L 1 9 (nxt b n L (nxt b n L τ)) tk (D.1, D.2.1, un D.2.2.1 (D.1 0) (nxt b n L τ).2.2.2.1, D.2.2.2)) (fun τ tk D =>
  pBd (pNu b n L 1 9 τ tk (D.1, D.2.1, D.2.2.1, un D.2.2.2.1 (D.1 0) tk, D.2.2.2.2)) (fun τ tk D =>
  pBd (pNu b n L 1 99 τ tk (D.1, D.2.1, D.2.2.1, D.2.2.2.1, un D.2.2.2.2.1 (D.1 0) tk, D.2.2.2.2.2)) (fun τ tk D =>
  (0, τ, tk, (un D.1 0 (D.1 0 + 1), D.2.1, D.2.2.1, D.2.2.2.1, D.2.2.2.2.1, un D.2.2.2.2.2.1 (D.1 0) tk, D.2.2.2.2.2.2)))))
def dY (D : zYd) (k v : Nat) : zYd := (un D.1 k v, D.2)
def pPails (b : Nat → Nat) (n L : Nat) (τ : zTk) (tk : Nat) (D : zYd) : zPy :=
  pBd (pNu b n L 1 30 τ tk D) (fun τ tk D => pBd (pNu b n L 1 20 τ tk (un D.1 6 tk, D.2)) (fun τ tk D => (0, τ, tk, (un D.1 7 tk, D.2))))
def pWell (b : Nat → Nat) (n L : Nat) (τ : zTk) (tk : Nat) (D : zYd) : zPy :=
  pBd (pNu b n L 1 30 τ tk D) (fun τ tk D => pBd (pNu b n L 0 9999 τ tk (un D.1 8 tk, D.2)) (fun τ tk D => (0, τ, tk, (un D.1 9 tk, D.2))))
/-- a line that may be told once: its bit -/
def pOnce (b : Nat → Nat) (n L bit : Nat) (τ : zTk) (tk : Nat) (D : zYd) : zPy := if D.1 18 &&& bit = 0 then (0, nxt b n L τ, tk, (un D.1 18 (D.1 18 ||| bit), D.2)) else (3, τ, tk, D)
def pWi (b : Nat → Nat) (n L : Nat) (τ : zTk) (tk : Nat) (D : zYd) : zPy :=
  if τ.2.2.2.2 = some 10 then (0, nxt b n L τ, tk, (D.1, 0, D.2.2)) else if τ.2.2.2.2 = some 11 then (0, nxt b n L τ, tk, (D.1, 1, D.2.2)) else
  if τ.2.2.2.2 = some 12 then (0, nxt b n L τ, tk, (D.1, 2, D.2.2)) else if τ.2.2.2.2 = some 13 then (0, nxt b n L τ, tk, (D.1, 3, D.2.2)) else (1, τ, tk, D)
/-- the digits of a token as fuel of a row's first k cells -/
def dFu (b : Nat → Nat) (bg at0 : Nat) (fu : Nat → Nat) : Nat → (Nat → Nat)
  | 0 => fu
  | k + 1 => un (dFu b bg at0 fu k) (at0 + k) (b (bg + k) - 48)
def pCells (b : Nat → Nat) (n L : Nat) (τ : zTk) (tk : Nat) (D : zYd) : zPy :=
  if 8 ≤ D.1 15 then (4, τ, tk, D) else
  if ¬ (nxt b n L τ).1 = 3 then (1, nxt b n L τ, tk, D) else
  if 8 < (nxt b n L τ).2.2.1 - (nxt b n L τ).2.1 then (2, nxt b n L τ, tk, D) else
  if D.1 15 = 0 then (0, nxt b n L (nxt b n L τ), tk, (un (un D.1 14 ((nxt b n L τ).2.2.1 - (nxt b n L τ).2.1)) 15 (D.1 15 + 1), D.2.1, D.2.2.1, D.2.2.2.1, D.2.2.2.2.1, D.2.2.2.2.2.1, dFu b (nxt b n L τ).2.1 (D.1 15 * ((nxt b n L τ).2.2.1 - (nxt b n L τ).2.1)) D.2.2.2.2.2.2.1 ((nxt b n L τ).2.2.1 - (nxt b n L τ).2.1), D.2.2.2.2.2.2.2)) else
  if (nxt b n L τ).2.2.1 - (nxt b n L τ).2.1 = D.1 14 then (0, nxt b n L (nxt b n L τ), tk, (un (un D.1 14 ((nxt b n L τ).2.2.1 - (nxt b n L τ).2.1)) 15 (D.1 15 + 1), D.2.1, D.2.2.1, D.2.2.2.1, D.2.2.2.2.1, D.2.2.2.2.2.1, dFu b (nxt b n L τ).2.1 (D.1 15 * ((nxt b n L τ).2.2.1 - (nxt b n L τ).2.1)) D.2.2.2.2.2.2.1 ((nxt b n L τ).2.2.1 - (nxt b n L τ).2.1), D.2.2.2.2.2.2.2)) else
  (2, nxt b n L τ, tk, D)
/-- what a number below C finds -/
def tNuC (τ : zTk) (C : Nat) : Nat := if τ.1 = 3 then (if C ≤ τ.2.2.2.1 then 2 else 0) else 1
def pBurn (b : Nat → Nat) (n L : Nat) (τ : zTk) (tk : Nat) (D : zYd) : zPy :=
  if ¬ tNuC (nxt b n L τ) (D.1 14) = 0 then (tNuC (nxt b n L τ) (D.1 14), nxt b n L τ, tk, D) else
  if ¬ (nxt b n L (nxt b n L τ)).1 = 3 then (1, nxt b n L (nxt b n L τ), (nxt b n L τ).2.2.2.1, D) else
  if D.1 15 ≤ (nxt b n L (nxt b n L τ)).2.2.2.1 then (2, nxt b n L (nxt b n L τ), (nxt b n L τ).2.2.2.1, D) else
  if D.2.2.2.2.2.2.1 ((nxt b n L (nxt b n L τ)).2.2.2.1 * D.1 14 + (nxt b n L τ).2.2.2.1) = 0 then (2, nxt b n L (nxt b n L τ), (nxt b n L τ).2.2.2.1, D) else
  if ¬ D.2.2.2.2.2.2.2 ((nxt b n L (nxt b n L τ)).2.2.2.1 * D.1 14 + (nxt b n L τ).2.2.2.1) = 0 then (3, nxt b n L (nxt b n L τ), (nxt b n L τ).2.2.2.1, D) else
  (0, nxt b n L (nxt b n L (nxt b n L τ)), (nxt b n L τ).2.2.2.1, (D.1, D.2.1, D.2.2.1, D.2.2.2.1, D.2.2.2.2.1, D.2.2.2.2.2.1, D.2.2.2.2.2.2.1, un D.2.2.2.2.2.2.2 ((nxt b n L (nxt b n L τ)).2.2.2.1 * D.1 14 + (nxt b n L τ).2.2.2.1) 1))
def pOne (b : Nat → Nat) (n L bit lo hi fld : Nat) (τ : zTk) (tk : Nat) (D : zYd) : zPy :=
  pBd (pOnce b n L bit τ tk D) (fun τ tk D => pBd (pNu b n L lo hi τ tk D) (fun τ tk D => (0, τ, tk, (un D.1 fld tk, D.2))))
abbrev zSwN : List Nat := [1, 7, 5, 6, 8, 9, 10, 2, 3, 4, 0, 0, 0, 0, 0, 0, 0, 0, 0, 0, 0, 0, 0, 0, 0, 0, 0, 0, 0]
def pLine (b : Nat → Nat) (n L : Nat) (τ : zTk) (tk : Nat) (D : zYd) : zPy :=
  match τ.2.2.2.2 with
  | none => (1, τ, tk, D)
  | some i =>
    if zSwN.getD i 0 = 1 then pMan b n L τ tk D else if zSwN.getD i 0 = 2 then pCells b n L τ tk D else if zSwN.getD i 0 = 3 then pBurn b n L τ tk D else
    if zSwN.getD i 0 = 4 then pBd (pOnce b n L 1 τ tk D) (pWi b n L) else
    if zSwN.getD i 0 = 5 then pBd (pOnce b n L 2 τ tk D) (pPails b n L) else
    if zSwN.getD i 0 = 6 then pBd (pOnce b n L 4 τ tk D) (pWell b n L) else
    if zSwN.getD i 0 = 7 then pOne b n L 8 10 99 5 τ tk D else if zSwN.getD i 0 = 8 then pOne b n L 16 0 99 10 τ tk D else
    if zSwN.getD i 0 = 9 then pOne b n L 32 1 99 11 τ tk D else if zSwN.getD i 0 = 10 then pOne b n L 64 1 9 12 τ tk D else (1, τ, tk, D)
/-- q lines at most: how it goes, how many lines -/
def pLines (b : Nat → Nat) (n L : Nat) : Nat → zTk → Nat → zYd → Nat → zPy × Nat
  | 0, τ, tk, D, i => if tEn n L τ = true then ((0, τ, tk, D), i) else ((1, τ, tk, D), i)
  | q + 1, τ, tk, D, i =>
    if τ.1 = 0 then (if tEn n L τ = true then ((0, τ, tk, D), i) else ((1, τ, tk, D), i)) else
    if (pLine b n L τ tk D).1 = 0 then (if tAt (pLine b n L τ tk D).2.1 59 = true then pLines b n L q (nxt b n L (pLine b n L τ tk D).2.1) (pLine b n L τ tk D).2.2.1 (pLine b n L τ tk D).2.2.2 (i + 1) else ((1, (pLine b n L τ tk D).2), i)) else (pLine b n L τ tk D, i)
/-- what bounds a yard's data -/
def yI (D : zYd) : Prop :=
  D.1 0 ≤ 12 ∧ D.1 14 ≤ 8 ∧ D.1 15 ≤ 8 ∧ (∀ j, D.2.2.1 j < 400000000) ∧ (∀ j, D.2.2.2.2.2.2.1 j ≤ 9) ∧ (∀ j, D.2.2.2.2.2.2.2 j ≤ 1) ∧ D.1 18 < 128 ∧
  (∀ j, D.2.2.2.1 j ≤ 9 ∧ D.2.2.2.2.1 j ≤ 9 ∧ D.2.2.2.2.2.1 j ≤ 99) ∧ (∀ j, j < D.1 0 → 1 ≤ D.2.2.2.1 j ∧ 1 ≤ D.2.2.2.2.1 j ∧ 1 ≤ D.2.2.2.2.2.1 j) ∧
  (10 ≤ D.1 5 ∧ D.1 5 ≤ 99) ∧ (1 ≤ D.1 6 ∧ D.1 6 ≤ 30) ∧ (1 ≤ D.1 7 ∧ D.1 7 ≤ 20) ∧ (1 ≤ D.1 8 ∧ D.1 8 ≤ 30) ∧ D.1 9 ≤ 9999 ∧ D.1 10 ≤ 99 ∧ (1 ≤ D.1 11 ∧ D.1 11 ≤ 99) ∧ (1 ≤ D.1 12 ∧ D.1 12 ≤ 9) ∧ (D.2.1 = -1 ∨ D.2.1 = 0 ∨ D.2.1 = 1 ∨ D.2.1 = 2 ∨ D.2.1 = 3) ∧ (D.1 15 = 0 → D.1 14 = 0) ∧ (1 ≤ D.1 15 → 1 ≤ D.1 14)
theorem wV_w {w : Option Nat} (hw : ∀ j, w = some j → j < 29) : zwd (wV w) = true := by
  cases w with
  | none => rfl
  | some j =>
    show decide ((UInt32.ofNat j).toNat < 29) = true
    rw [zU_n (hw j rfl)]
    exact decide_eq_true (hw j rfl)
def oI (w : Option Nat) : Int32 := match w with
  | none => -1
  | some i => nI i
theorem oI_n {w : Option Nat} (hb : ∀ j, w = some j → j < 100) (h : oI w = -1) : w = none := by
  cases w with
  | none => rfl
  | some j =>
    have := hb j rfl
    have h2 : nI j = -1 := h
    rw [zi_eq, nI_t (by omega)] at h2
    exact absurd h2 (by have : ((-1 : Int32)).toInt = -1 := by decide
                        omega)
theorem mFind_lt {nm : Nat → Nat} {v : Nat} : ∀ (m i j : Nat), mFind nm v m i = some j → j < i + m ∧ nm j = v
  | 0, i, j, h => nomatch h
  | m + 1, i, j, h => by
    simp only [mFind] at h
    split at h
    · rename_i hv
      cases h
      exact ⟨by omega, hv⟩
    · have := mFind_lt m (i + 1) j h
      exact ⟨by omega, this.2⟩
theorem wV_e {w : Option Nat} {i : Nat} (hw : ∀ j, w = some j → j < 29) (hi : i < 29) : wV w = .float (UInt32.ofNat i) ↔ w = some i := by
  cases w with
  | none => exact ⟨fun h => (nomatch h), fun h => (nomatch h)⟩
  | some j =>
    have hj := hw j rfl
    refine ⟨fun h => ?_, fun h => by cases h; rfl⟩
    have h2 : UInt32.ofNat j = UInt32.ofNat i := by injection h
    have h3 := congrArg UInt32.toNat h2
    rw [zU_n hj, zU_n hi] at h3
    rw [h3]
theorem dX11_manNamed_0 : decode cX11_manNamed 0 = .ok (.iconst 0, 1) := by decide +kernel
theorem dX11_manNamed_1 : decode cX11_manNamed 1 = .ok (.istore_n 2, 1) := by decide +kernel
theorem dX11_manNamed_2 : decode cX11_manNamed 2 = .ok (.iload_n 2, 1) := by decide +kernel
theorem dX11_manNamed_3 : decode cX11_manNamed 3 = .ok (.aload_n 0, 1) := by decide +kernel
theorem dX11_manNamed_4 : decode cX11_manNamed 4 = .ok (.getfield 34, 3) := by decide +kernel
theorem dX11_manNamed_7 : decode cX11_manNamed 7 = .ok (.if_icmp .ge 21, 3) := by decide +kernel
theorem dX11_manNamed_10 : decode cX11_manNamed 10 = .ok (.aload_n 0, 1) := by decide +kernel
theorem dX11_manNamed_11 : decode cX11_manNamed 11 = .ok (.getfield 9, 3) := by decide +kernel
theorem dX11_manNamed_14 : decode cX11_manNamed 14 = .ok (.iload_n 2, 1) := by decide +kernel
theorem dX11_manNamed_15 : decode cX11_manNamed 15 = .ok (.iaload, 1) := by decide +kernel
theorem dX11_manNamed_16 : decode cX11_manNamed 16 = .ok (.iload_n 1, 1) := by decide +kernel
theorem dX11_manNamed_17 : decode cX11_manNamed 17 = .ok (.if_icmp .ne 5, 3) := by decide +kernel
theorem dX11_manNamed_20 : decode cX11_manNamed 20 = .ok (.iload_n 2, 1) := by decide +kernel
theorem dX11_manNamed_21 : decode cX11_manNamed 21 = .ok (.ireturn, 1) := by decide +kernel
theorem dX11_manNamed_22 : decode cX11_manNamed 22 = .ok (.iinc 2 1, 3) := by decide +kernel
theorem dX11_manNamed_25 : decode cX11_manNamed 25 = .ok (.goto (-23), 3) := by decide +kernel
theorem dX11_manNamed_28 : decode cX11_manNamed 28 = .ok (.iconst (-1), 1) := by decide +kernel
theorem dX11_manNamed_29 : decode cX11_manNamed 29 = .ok (.ireturn, 1) := by decide +kernel
set_option maxRecDepth 100000 in
theorem lp_named {l : Launch} {dd : Nat} {Po : zPo} {K0 : zK} {h0 : List va_E} {Xo : zK → Prop} {Gc : zG → Prop} (y : Nat) (ay : Nat → Nat) (D : zYd) (v : Nat) (hv : v < 400000000) (h12 : D.1 0 ≤ 12) (hnm : ∀ j, D.2.2.1 j < 400000000) (W : Option Nat) (hf : ∀ i, i < D.1 0 → W = some i → zS (l, mX11_manNamed, dd, Po, K0, h0, Xo, Gc) 0 0 20 [(0, .ref y), (1, .int (nI v)), (2, .int (nI i))] [] [(y, .inr (9, fYard ay (ysN D.1 D.2.1))), (ay 1, .inl (0, 12, .inl (nF D.2.2.1)))]) (hn : W = none → zS (l, mX11_manNamed, dd, Po, K0, h0, Xo, Gc) 0 0 28 [(0, .ref y), (1, .int (nI v))] [] [(y, .inr (9, fYard ay (ysN D.1 D.2.1))), (ay 1, .inl (0, 12, .inl (nF D.2.2.1)))]) : ∀ (m i : Nat), i + m = D.1 0 → mFind D.2.2.1 v m i = W → zS (l, mX11_manNamed, dd, Po, K0, h0, Xo, Gc) 0 0 2 [(0, .ref y), (1, .int (nI v)), (2, .int (nI i))] [] [(y, .inr (9, fYard ay (ysN D.1 D.2.1))), (ay 1, .inl (0, 12, .inl (nF D.2.2.1)))] := by
  intro m
  induction m with
  | zero =>
    intro i hi hW
    refine zs_iload_n dX11_manNamed_2 rfl ?_
    refine zs_aload_n dX11_manNamed_3 rfl rfl ?_
    refine zs_get 0 dX11_manNamed_4 zf_RX11_34 rfl (v := .int (nI (D.1 0))) rfl ?_
    refine zs_icmp_ge (tgt := 28) dX11_manNamed_7 (by decide) (fun c_1 => ?_) (fun c_1 => (c_1 (by rw [show i = D.1 0 by omega]; exact Int32.le_refl _) : False).elim)
    refine zs_lv [0, 1] rfl ?_
    exact hn hW.symm
  | succ m ih =>
    intro i hi hW
    refine zs_iload_n dX11_manNamed_2 rfl ?_
    refine zs_aload_n dX11_manNamed_3 rfl rfl ?_
    refine zs_get 0 dX11_manNamed_4 zf_RX11_34 rfl (v := .int (nI (D.1 0))) rfl ?_
    refine zs_icmp_ge (tgt := 28) dX11_manNamed_7 (by decide) (fun c_1 => (nI_ge (show i < D.1 0 by omega) (by omega) c_1 : False).elim) (fun c_1 => ?_)
    refine zs_aload_n dX11_manNamed_10 rfl rfl ?_
    refine zs_get 0 dX11_manNamed_11 zf_RX11_9 rfl (v := .ref (ay 1)) rfl ?_
    refine zs_iload_n dX11_manNamed_14 rfl ?_
    refine zs_iald 1 dX11_manNamed_15 rfl (vp_in_nI (by omega) (by omega)) ?_
    refine zs_as (y := nI (D.2.2.1 i)) (by rw [nI_c (n := i) (by omega)]; rfl) ?_
    have hb := hnm i
    refine zs_iload_n dX11_manNamed_16 rfl ?_
    refine zs_icmp_ne (tgt := 22) dX11_manNamed_17 (by decide) (fun c_2 => ?_) (fun c_2 => ?_)
    · have c_2 : ¬ ((D.2.2.1 i) = v) := by have hc := c_2; rw [nI_eq' (by omega) (by omega)] at hc; exact hc
      refine zs_iinc (v := (nI (i + 1))) (lv' := [(2, .int (nI (i + 1))), (0, .ref y), (1, .int (nI v))]) dX11_manNamed_22 rfl (nI_add _ 1) (Nat.le_of_ble_eq_true rfl) rfl ?_
      refine zs_goto (tgt := 2) dX11_manNamed_25 (by decide) ?_
      refine zs_lv [1, 2, 0] rfl ?_
      exact ih (i + 1) (by omega) (by rw [← hW]; exact (if_neg c_2).symm)
    · have c_2 : (D.2.2.1 i) = v := by have hc := c_2; rw [nI_eq' (by omega) (by omega)] at hc; exact hc
      refine zs_lv [0, 1, 2] rfl ?_
      exact hf i (by omega) (by rw [← hW]; exact if_pos c_2)
set_option maxRecDepth 100000 in
theorem s_manNamed (l : Launch) (dd : Nat) (y : Nat) (ay : Nat → Nat) (D : zYd) (v : Nat) (hv : v < 400000000) (h12 : D.1 0 ≤ 12) (hnm : ∀ j, D.2.2.1 j < 400000000) : zSp l mX11_manNamed dd 0 0 [.ref y, .int (nI v)] [(y, .inr (9, fYard ay (ysN D.1 D.2.1))), (ay 1, .inl (0, 12, .inl (nF D.2.2.1)))] (fun r K' => r = some (.int (oI (mFind D.2.2.1 v (D.1 0) 0))) ∧ K' = [(y, .inr (9, fYard ay (ysN D.1 D.2.1))), (ay 1, .inl (0, 12, .inl (nF D.2.2.1)))]) := by
  refine zSp.of (by decide) (Nat.le_of_ble_eq_true rfl) (fun h0 => ?_)
  show zS _ 0 0 0 [(0, .ref y), (1, .int (nI v))] [] [(y, .inr (9, fYard ay (ysN D.1 D.2.1))), (ay 1, .inl (0, 12, .inl (nF D.2.2.1)))]
  refine zs_iconst (v := nI 0) dX11_manNamed_0 (by decide) ?_
  refine zs_istore_n (lv' := [(2, .int (nI 0)), (0, .ref y), (1, .int (nI v))]) dX11_manNamed_1 (Nat.le_of_ble_eq_true rfl) rfl ?_
  refine zs_lv [1, 2, 0] rfl ?_
  refine lp_named y ay D v hv h12 hnm (mFind D.2.2.1 v (D.1 0) 0) (fun i hi hW => ?_) (fun hW => ?_) (D.1 0) 0 (Nat.zero_add _) rfl
  · refine zs_iload_n dX11_manNamed_20 rfl ?_
    exact zs_iret dX11_manNamed_21 rfl ⟨by rw [hW]; rfl, rfl⟩
  · refine zs_iconst (v := -1) dX11_manNamed_28 (by decide) ?_
    exact zs_iret dX11_manNamed_29 rfl ⟨by rw [hW]; rfl, rfl⟩
theorem dX11_readPails_0 : decode cX11_readPails 0 = .ok (.aload_n 1, 1) := by decide +kernel
theorem dX11_readPails_1 : decode cX11_readPails 1 = .ok (.iconst 1, 1) := by decide +kernel
theorem dX11_readPails_2 : decode cX11_readPails 2 = .ok (.bipush 30, 2) := by decide +kernel
theorem dX11_readPails_4 : decode cX11_readPails 4 = .ok (.invokevirtual 137, 3) := by decide +kernel
theorem dX11_readPails_7 : decode cX11_readPails 7 = .ok (.ifCond .ne 5, 3) := by decide +kernel
theorem dX11_readPails_10 : decode cX11_readPails 10 = .ok (.iconst 0, 1) := by decide +kernel
theorem dX11_readPails_11 : decode cX11_readPails 11 = .ok (.ireturn, 1) := by decide +kernel
theorem dX11_readPails_12 : decode cX11_readPails 12 = .ok (.aload_n 0, 1) := by decide +kernel
theorem dX11_readPails_13 : decode cX11_readPails 13 = .ok (.aload_n 1, 1) := by decide +kernel
theorem dX11_readPails_14 : decode cX11_readPails 14 = .ok (.getfield 141, 3) := by decide +kernel
theorem dX11_readPails_17 : decode cX11_readPails 17 = .ok (.putfield 41, 3) := by decide +kernel
theorem dX11_readPails_20 : decode cX11_readPails 20 = .ok (.aload_n 1, 1) := by decide +kernel
theorem dX11_readPails_21 : decode cX11_readPails 21 = .ok (.iconst 1, 1) := by decide +kernel
theorem dX11_readPails_22 : decode cX11_readPails 22 = .ok (.bipush 20, 2) := by decide +kernel
theorem dX11_readPails_24 : decode cX11_readPails 24 = .ok (.invokevirtual 137, 3) := by decide +kernel
theorem dX11_readPails_27 : decode cX11_readPails 27 = .ok (.ifCond .ne 5, 3) := by decide +kernel
theorem dX11_readPails_30 : decode cX11_readPails 30 = .ok (.iconst 0, 1) := by decide +kernel
theorem dX11_readPails_31 : decode cX11_readPails 31 = .ok (.ireturn, 1) := by decide +kernel
theorem dX11_readPails_32 : decode cX11_readPails 32 = .ok (.aload_n 0, 1) := by decide +kernel
theorem dX11_readPails_33 : decode cX11_readPails 33 = .ok (.aload_n 1, 1) := by decide +kernel
theorem dX11_readPails_34 : decode cX11_readPails 34 = .ok (.getfield 141, 3) := by decide +kernel
theorem dX11_readPails_37 : decode cX11_readPails 37 = .ok (.putfield 44, 3) := by decide +kernel
theorem dX11_readPails_40 : decode cX11_readPails 40 = .ok (.iconst 1, 1) := by decide +kernel
theorem dX11_readPails_41 : decode cX11_readPails 41 = .ok (.ireturn, 1) := by decide +kernel
set_option maxRecDepth 100000 in
theorem s_rdPails (l : Launch) (dd : Nat) (x b n L y : Nat) (ay : Nat → Nat) (bt : Nat → Nat) (τ : zTk) (pl tk : Nat) (D : zYd) (hd : 5 ≤ dd) (hn : n ≤ 740) (hL : L ≤ 740) (hbt : ∀ j, bt j < 256) (hτ : tOK τ) (hD : yI D) : zSp l mX11_readPails dd 0 0 [.ref y, .ref x] [(x, .inr (8, fTx b n L τ 0 pl (nI tk))), (b, .inl (0, 740, .inl (nF bt))), (y, .inr (9, fYard ay (ysN D.1 D.2.1))), (ay 1, .inl (0, 12, .inl (nF D.2.2.1))), (ay 2, .inl (0, 12, .inl (nF D.2.2.2.1))), (ay 3, .inl (0, 12, .inl (nF D.2.2.2.2.1))), (ay 4, .inl (0, 12, .inl (nF D.2.2.2.2.2.1))), (ay 5, .inl (0, 64, .inl (nF D.2.2.2.2.2.2.1))), (ay 6, .inl (1, 64, .inl (nF D.2.2.2.2.2.2.2)))] (fun r K' => ((pPails bt n L τ tk D).1 = 0 ∧ r = some (.int 1) ∧ K' = kTx x b n L bt (pPails bt n L τ tk D).2.1 0 pl (pPails bt n L τ tk D).2.2.1 ++ kYd y ay (pPails bt n L τ tk D).2.2.2) ∨ (¬ (pPails bt n L τ tk D).1 = 0 ∧ r = some (.int 0) ∧ K' = kTx x b n L bt (pPails bt n L τ tk D).2.1 (pPails bt n L τ tk D).1 (pPails bt n L τ tk D).2.1.2.1 (pPails bt n L τ tk D).2.2.1 ++ kYd y ay (pPails bt n L τ tk D).2.2.2)) := by
  refine zSp.of (by decide) (Nat.le_of_ble_eq_true rfl) (fun h0 => ?_)
  show zS _ 0 0 0 [(0, .ref y), (1, .ref x)] [] [(x, .inr (8, fTx b n L τ 0 pl (nI tk))), (b, .inl (0, 740, .inl (nF bt))), (y, .inr (9, fYard ay (ysN D.1 D.2.1))), (ay 1, .inl (0, 12, .inl (nF D.2.2.1))), (ay 2, .inl (0, 12, .inl (nF D.2.2.2.1))), (ay 3, .inl (0, 12, .inl (nF D.2.2.2.2.1))), (ay 4, .inl (0, 12, .inl (nF D.2.2.2.2.2.1))), (ay 5, .inl (0, 64, .inl (nF D.2.2.2.2.2.2.1))), (ay 6, .inl (1, 64, .inl (nF D.2.2.2.2.2.2.2)))]
  refine zs_aload_n dX11_readPails_0 rfl rfl ?_
  refine zs_iconst (v := nI 1) dX11_readPails_1 (by decide) ?_
  refine zs_bipush (v := nI 30) dX11_readPails_2 (by decide) ?_
  refine zs_callV (M := mX9_takeNumber) (As := [.int (nI 1), .int (nI 30)]) (st := []) (Kc := [(x, .inr (8, fTx b n L τ 0 pl (nI tk))), (b, .inl (0, 740, .inl (nF bt)))]) (Kr := [(y, .inr (9, fYard ay (ysN D.1 D.2.1))), (ay 1, .inl (0, 12, .inl (nF D.2.2.1))), (ay 2, .inl (0, 12, .inl (nF D.2.2.2.1))), (ay 3, .inl (0, 12, .inl (nF D.2.2.2.2.1))), (ay 4, .inl (0, 12, .inl (nF D.2.2.2.2.2.1))), (ay 5, .inl (0, 64, .inl (nF D.2.2.2.2.2.2.1))), (ay 6, .inl (1, 64, .inl (nF D.2.2.2.2.2.2.2)))]) [0, 1] [2, 3, 4, 5, 6, 7, 8] 0 dX11_readPails_4 zl_RX11_137 kX9_takeNumber rfl rfl rfl rfl rfl (by decide) rfl rfl (show dd - 1 + 1 ≤ dd by omega) (Nat.zero_le _) (Nat.zero_le _) (Nat.le_of_ble_eq_true rfl) (s_takeNumber l (dd - 1) x b n L bt τ pl (nI tk) 1 30 (by omega) hn hL hbt hτ (by omega) (by omega)) (fun r K1 hr => ?_)
  rcases hr with ⟨hq4, rfl, rfl⟩ | ⟨hq4, rfl, rfl⟩
  · have hr4 := tNu_r hq4
    refine zs_K (K' := [(x, .inr (8, fTx b n L (nxt bt n L τ) 0 pl (nI τ.2.2.2.1))), (b, .inl (0, 740, .inl (nF bt))), (y, .inr (9, fYard ay (ysN D.1 D.2.1))), (ay 1, .inl (0, 12, .inl (nF D.2.2.1))), (ay 2, .inl (0, 12, .inl (nF D.2.2.2.1))), (ay 3, .inl (0, 12, .inl (nF D.2.2.2.2.1))), (ay 4, .inl (0, 12, .inl (nF D.2.2.2.2.2.1))), (ay 5, .inl (0, 64, .inl (nF D.2.2.2.2.2.2.1))), (ay 6, .inl (1, 64, .inl (nF D.2.2.2.2.2.2.2)))]) [7, 8, 0, 1, 2, 3, 4, 5, 6] rfl (by decide) ?_
    refine zs_if_ne (tgt := 12) dX11_readPails_7 (by decide) (fun c_1 => ?_) (fun c_1 => (by first | exact absurd c_1 (by decide) | exact absurd (by decide) c_1 : False).elim)
    refine zs_aload_n dX11_readPails_12 rfl rfl ?_
    refine zs_aload_n dX11_readPails_13 rfl rfl ?_
    refine zs_get 0 dX11_readPails_14 zf_RX11_141 rfl (v := .int (nI τ.2.2.2.1)) rfl ?_
    refine zs_put 2 dX11_readPails_17 zf_RX11_41 rfl (Nat.le_of_ble_eq_true rfl) (zPv_i _) ?_
    show zS _ _ _ _ _ _ [(x, .inr (8, fTx b n L (nxt bt n L τ) 0 pl (nI τ.2.2.2.1))), (b, .inl (0, 740, .inl (nF bt))), (y, .inr (9, fYard ay (ysN (un D.1 6 τ.2.2.2.1) D.2.1))), (ay 1, .inl (0, 12, .inl (nF D.2.2.1))), (ay 2, .inl (0, 12, .inl (nF D.2.2.2.1))), (ay 3, .inl (0, 12, .inl (nF D.2.2.2.2.1))), (ay 4, .inl (0, 12, .inl (nF D.2.2.2.2.2.1))), (ay 5, .inl (0, 64, .inl (nF D.2.2.2.2.2.2.1))), (ay 6, .inl (1, 64, .inl (nF D.2.2.2.2.2.2.2)))]
    refine zs_aload_n dX11_readPails_20 rfl rfl ?_
    refine zs_iconst (v := nI 1) dX11_readPails_21 (by decide) ?_
    refine zs_bipush (v := nI 20) dX11_readPails_22 (by decide) ?_
    refine zs_callV (M := mX9_takeNumber) (As := [.int (nI 1), .int (nI 20)]) (st := []) (Kc := [(x, .inr (8, fTx b n L (nxt bt n L τ) 0 pl (nI τ.2.2.2.1))), (b, .inl (0, 740, .inl (nF bt)))]) (Kr := [(y, .inr (9, fYard ay (ysN (un D.1 6 τ.2.2.2.1) D.2.1))), (ay 1, .inl (0, 12, .inl (nF D.2.2.1))), (ay 2, .inl (0, 12, .inl (nF D.2.2.2.1))), (ay 3, .inl (0, 12, .inl (nF D.2.2.2.2.1))), (ay 4, .inl (0, 12, .inl (nF D.2.2.2.2.2.1))), (ay 5, .inl (0, 64, .inl (nF D.2.2.2.2.2.2.1))), (ay 6, .inl (1, 64, .inl (nF D.2.2.2.2.2.2.2)))]) [0, 1] [2, 3, 4, 5, 6, 7, 8] 0 dX11_readPails_24 zl_RX11_137 kX9_takeNumber rfl rfl rfl rfl rfl (by decide) rfl rfl (show dd - 1 + 1 ≤ dd by omega) (Nat.zero_le _) (Nat.zero_le _) (Nat.le_of_ble_eq_true rfl) (s_takeNumber l (dd - 1) x b n L bt (nxt bt n L τ) pl (nI τ.2.2.2.1) 1 20 (by omega) hn hL hbt (nxt_OK hbt hn) (by omega) (by omega)) (fun r K1 hr => ?_)
    rcases hr with ⟨hq24, rfl, rfl⟩ | ⟨hq24, rfl, rfl⟩
    · have hr24 := tNu_r hq24
      refine zs_K (K' := [(x, .inr (8, fTx b n L (nxt bt n L (nxt bt n L τ)) 0 pl (nI (nxt bt n L τ).2.2.2.1))), (b, .inl (0, 740, .inl (nF bt))), (y, .inr (9, fYard ay (ysN (un D.1 6 τ.2.2.2.1) D.2.1))), (ay 1, .inl (0, 12, .inl (nF D.2.2.1))), (ay 2, .inl (0, 12, .inl (nF D.2.2.2.1))), (ay 3, .inl (0, 12, .inl (nF D.2.2.2.2.1))), (ay 4, .inl (0, 12, .inl (nF D.2.2.2.2.2.1))), (ay 5, .inl (0, 64, .inl (nF D.2.2.2.2.2.2.1))), (ay 6, .inl (1, 64, .inl (nF D.2.2.2.2.2.2.2)))]) [7, 8, 0, 1, 2, 3, 4, 5, 6] rfl (by decide) ?_
      refine zs_if_ne (tgt := 32) dX11_readPails_27 (by decide) (fun c_2 => ?_) (fun c_2 => (by first | exact absurd c_2 (by decide) | exact absurd (by decide) c_2 : False).elim)
      refine zs_aload_n dX11_readPails_32 rfl rfl ?_
      refine zs_aload_n dX11_readPails_33 rfl rfl ?_
      refine zs_get 0 dX11_readPails_34 zf_RX11_141 rfl (v := .int (nI (nxt bt n L τ).2.2.2.1)) rfl ?_
      refine zs_put 2 dX11_readPails_37 zf_RX11_44 rfl (Nat.le_of_ble_eq_true rfl) (zPv_i _) ?_
      show zS _ _ _ _ _ _ [(x, .inr (8, fTx b n L (nxt bt n L (nxt bt n L τ)) 0 pl (nI (nxt bt n L τ).2.2.2.1))), (b, .inl (0, 740, .inl (nF bt))), (y, .inr (9, fYard ay (ysN (un (un D.1 6 τ.2.2.2.1) 7 ((nxt bt n L τ).2.2.2.1)) D.2.1))), (ay 1, .inl (0, 12, .inl (nF D.2.2.1))), (ay 2, .inl (0, 12, .inl (nF D.2.2.2.1))), (ay 3, .inl (0, 12, .inl (nF D.2.2.2.2.1))), (ay 4, .inl (0, 12, .inl (nF D.2.2.2.2.2.1))), (ay 5, .inl (0, 64, .inl (nF D.2.2.2.2.2.2.1))), (ay 6, .inl (1, 64, .inl (nF D.2.2.2.2.2.2.2)))]
      refine zs_iconst (v := nI 1) dX11_readPails_40 (by decide) ?_
      have e : (pPails bt n L τ tk D) = (0, (nxt bt n L (nxt bt n L τ)), ((nxt bt n L τ).2.2.2.1), (un (un D.1 6 τ.2.2.2.1) 7 ((nxt bt n L τ).2.2.2.1), D.2.1, D.2.2.1, D.2.2.2.1, D.2.2.2.2.1, D.2.2.2.2.2.1, D.2.2.2.2.2.2.1, D.2.2.2.2.2.2.2)) := by rw [pPails, pNu_bo hq4, pNu_bo hq24]
      exact zs_zret dX11_readPails_41 rfl (Or.inr rfl) (Or.inl ⟨by rw [e], rfl, by rw [e]; rfl⟩)
    · refine zs_K (K' := [(x, .inr (8, fTx b n L (nxt bt n L τ) (tNu (nxt bt n L τ) 1 20) ((nxt bt n L τ).2.1) (nI τ.2.2.2.1))), (b, .inl (0, 740, .inl (nF bt))), (y, .inr (9, fYard ay (ysN (un D.1 6 τ.2.2.2.1) D.2.1))), (ay 1, .inl (0, 12, .inl (nF D.2.2.1))), (ay 2, .inl (0, 12, .inl (nF D.2.2.2.1))), (ay 3, .inl (0, 12, .inl (nF D.2.2.2.2.1))), (ay 4, .inl (0, 12, .inl (nF D.2.2.2.2.2.1))), (ay 5, .inl (0, 64, .inl (nF D.2.2.2.2.2.2.1))), (ay 6, .inl (1, 64, .inl (nF D.2.2.2.2.2.2.2)))]) [7, 8, 0, 1, 2, 3, 4, 5, 6] rfl (by decide) ?_
      refine zs_if_ne (tgt := 32) dX11_readPails_27 (by decide) (fun c_3 => (by first | exact absurd c_3 (by decide) | exact absurd (by decide) c_3 : False).elim) (fun c_3 => ?_)
      refine zs_iconst (v := nI 0) dX11_readPails_30 (by decide) ?_
      have e : (pPails bt n L τ tk D) = ((tNu (nxt bt n L τ) 1 20), (nxt bt n L τ), τ.2.2.2.1, (un D.1 6 τ.2.2.2.1, D.2.1, D.2.2.1, D.2.2.2.1, D.2.2.2.2.1, D.2.2.2.2.2.1, D.2.2.2.2.2.2.1, D.2.2.2.2.2.2.2)) := by rw [pPails, pNu_bo hq4, pNu_bn hq24]
      exact zs_zret dX11_readPails_31 rfl (Or.inl rfl) (Or.inr ⟨by rw [e]; exact hq24, rfl, by rw [e]; rfl⟩)
  · refine zs_K (K' := [(x, .inr (8, fTx b n L τ (tNu τ 1 30) τ.2.1 (nI tk))), (b, .inl (0, 740, .inl (nF bt))), (y, .inr (9, fYard ay (ysN D.1 D.2.1))), (ay 1, .inl (0, 12, .inl (nF D.2.2.1))), (ay 2, .inl (0, 12, .inl (nF D.2.2.2.1))), (ay 3, .inl (0, 12, .inl (nF D.2.2.2.2.1))), (ay 4, .inl (0, 12, .inl (nF D.2.2.2.2.2.1))), (ay 5, .inl (0, 64, .inl (nF D.2.2.2.2.2.2.1))), (ay 6, .inl (1, 64, .inl (nF D.2.2.2.2.2.2.2)))]) [7, 8, 0, 1, 2, 3, 4, 5, 6] rfl (by decide) ?_
    refine zs_if_ne (tgt := 12) dX11_readPails_7 (by decide) (fun c_4 => (by first | exact absurd c_4 (by decide) | exact absurd (by decide) c_4 : False).elim) (fun c_4 => ?_)
    refine zs_iconst (v := nI 0) dX11_readPails_10 (by decide) ?_
    have e : (pPails bt n L τ tk D) = ((tNu τ 1 30), τ, tk, (D.1, D.2.1, D.2.2.1, D.2.2.2.1, D.2.2.2.2.1, D.2.2.2.2.2.1, D.2.2.2.2.2.2.1, D.2.2.2.2.2.2.2)) := by rw [pPails, pNu_bn hq4]
    exact zs_zret dX11_readPails_11 rfl (Or.inl rfl) (Or.inr ⟨by rw [e]; exact hq4, rfl, by rw [e]; rfl⟩)
theorem dX11_readWell_0 : decode cX11_readWell 0 = .ok (.aload_n 1, 1) := by decide +kernel
theorem dX11_readWell_1 : decode cX11_readWell 1 = .ok (.iconst 1, 1) := by decide +kernel
theorem dX11_readWell_2 : decode cX11_readWell 2 = .ok (.bipush 30, 2) := by decide +kernel
theorem dX11_readWell_4 : decode cX11_readWell 4 = .ok (.invokevirtual 137, 3) := by decide +kernel
theorem dX11_readWell_7 : decode cX11_readWell 7 = .ok (.ifCond .ne 5, 3) := by decide +kernel
theorem dX11_readWell_10 : decode cX11_readWell 10 = .ok (.iconst 0, 1) := by decide +kernel
theorem dX11_readWell_11 : decode cX11_readWell 11 = .ok (.ireturn, 1) := by decide +kernel
theorem dX11_readWell_12 : decode cX11_readWell 12 = .ok (.aload_n 0, 1) := by decide +kernel
theorem dX11_readWell_13 : decode cX11_readWell 13 = .ok (.aload_n 1, 1) := by decide +kernel
theorem dX11_readWell_14 : decode cX11_readWell 14 = .ok (.getfield 141, 3) := by decide +kernel
theorem dX11_readWell_17 : decode cX11_readWell 17 = .ok (.putfield 47, 3) := by decide +kernel
theorem dX11_readWell_20 : decode cX11_readWell 20 = .ok (.aload_n 1, 1) := by decide +kernel
theorem dX11_readWell_21 : decode cX11_readWell 21 = .ok (.iconst 0, 1) := by decide +kernel
theorem dX11_readWell_22 : decode cX11_readWell 22 = .ok (.sipush 9999, 3) := by decide +kernel
theorem dX11_readWell_25 : decode cX11_readWell 25 = .ok (.invokevirtual 137, 3) := by decide +kernel
theorem dX11_readWell_28 : decode cX11_readWell 28 = .ok (.ifCond .ne 5, 3) := by decide +kernel
theorem dX11_readWell_31 : decode cX11_readWell 31 = .ok (.iconst 0, 1) := by decide +kernel
theorem dX11_readWell_32 : decode cX11_readWell 32 = .ok (.ireturn, 1) := by decide +kernel
theorem dX11_readWell_33 : decode cX11_readWell 33 = .ok (.aload_n 0, 1) := by decide +kernel
theorem dX11_readWell_34 : decode cX11_readWell 34 = .ok (.aload_n 1, 1) := by decide +kernel
theorem dX11_readWell_35 : decode cX11_readWell 35 = .ok (.getfield 141, 3) := by decide +kernel
theorem dX11_readWell_38 : decode cX11_readWell 38 = .ok (.putfield 50, 3) := by decide +kernel
theorem dX11_readWell_41 : decode cX11_readWell 41 = .ok (.iconst 1, 1) := by decide +kernel
theorem dX11_readWell_42 : decode cX11_readWell 42 = .ok (.ireturn, 1) := by decide +kernel
set_option maxRecDepth 100000 in
theorem s_rdWell (l : Launch) (dd : Nat) (x b n L y : Nat) (ay : Nat → Nat) (bt : Nat → Nat) (τ : zTk) (pl tk : Nat) (D : zYd) (hd : 5 ≤ dd) (hn : n ≤ 740) (hL : L ≤ 740) (hbt : ∀ j, bt j < 256) (hτ : tOK τ) (hD : yI D) : zSp l mX11_readWell dd 0 0 [.ref y, .ref x] [(x, .inr (8, fTx b n L τ 0 pl (nI tk))), (b, .inl (0, 740, .inl (nF bt))), (y, .inr (9, fYard ay (ysN D.1 D.2.1))), (ay 1, .inl (0, 12, .inl (nF D.2.2.1))), (ay 2, .inl (0, 12, .inl (nF D.2.2.2.1))), (ay 3, .inl (0, 12, .inl (nF D.2.2.2.2.1))), (ay 4, .inl (0, 12, .inl (nF D.2.2.2.2.2.1))), (ay 5, .inl (0, 64, .inl (nF D.2.2.2.2.2.2.1))), (ay 6, .inl (1, 64, .inl (nF D.2.2.2.2.2.2.2)))] (fun r K' => ((pWell bt n L τ tk D).1 = 0 ∧ r = some (.int 1) ∧ K' = kTx x b n L bt (pWell bt n L τ tk D).2.1 0 pl (pWell bt n L τ tk D).2.2.1 ++ kYd y ay (pWell bt n L τ tk D).2.2.2) ∨ (¬ (pWell bt n L τ tk D).1 = 0 ∧ r = some (.int 0) ∧ K' = kTx x b n L bt (pWell bt n L τ tk D).2.1 (pWell bt n L τ tk D).1 (pWell bt n L τ tk D).2.1.2.1 (pWell bt n L τ tk D).2.2.1 ++ kYd y ay (pWell bt n L τ tk D).2.2.2)) := by
  refine zSp.of (by decide) (Nat.le_of_ble_eq_true rfl) (fun h0 => ?_)
  show zS _ 0 0 0 [(0, .ref y), (1, .ref x)] [] [(x, .inr (8, fTx b n L τ 0 pl (nI tk))), (b, .inl (0, 740, .inl (nF bt))), (y, .inr (9, fYard ay (ysN D.1 D.2.1))), (ay 1, .inl (0, 12, .inl (nF D.2.2.1))), (ay 2, .inl (0, 12, .inl (nF D.2.2.2.1))), (ay 3, .inl (0, 12, .inl (nF D.2.2.2.2.1))), (ay 4, .inl (0, 12, .inl (nF D.2.2.2.2.2.1))), (ay 5, .inl (0, 64, .inl (nF D.2.2.2.2.2.2.1))), (ay 6, .inl (1, 64, .inl (nF D.2.2.2.2.2.2.2)))]
  refine zs_aload_n dX11_readWell_0 rfl rfl ?_
  refine zs_iconst (v := nI 1) dX11_readWell_1 (by decide) ?_
  refine zs_bipush (v := nI 30) dX11_readWell_2 (by decide) ?_
  refine zs_callV (M := mX9_takeNumber) (As := [.int (nI 1), .int (nI 30)]) (st := []) (Kc := [(x, .inr (8, fTx b n L τ 0 pl (nI tk))), (b, .inl (0, 740, .inl (nF bt)))]) (Kr := [(y, .inr (9, fYard ay (ysN D.1 D.2.1))), (ay 1, .inl (0, 12, .inl (nF D.2.2.1))), (ay 2, .inl (0, 12, .inl (nF D.2.2.2.1))), (ay 3, .inl (0, 12, .inl (nF D.2.2.2.2.1))), (ay 4, .inl (0, 12, .inl (nF D.2.2.2.2.2.1))), (ay 5, .inl (0, 64, .inl (nF D.2.2.2.2.2.2.1))), (ay 6, .inl (1, 64, .inl (nF D.2.2.2.2.2.2.2)))]) [0, 1] [2, 3, 4, 5, 6, 7, 8] 0 dX11_readWell_4 zl_RX11_137 kX9_takeNumber rfl rfl rfl rfl rfl (by decide) rfl rfl (show dd - 1 + 1 ≤ dd by omega) (Nat.zero_le _) (Nat.zero_le _) (Nat.le_of_ble_eq_true rfl) (s_takeNumber l (dd - 1) x b n L bt τ pl (nI tk) 1 30 (by omega) hn hL hbt hτ (by omega) (by omega)) (fun r K1 hr => ?_)
  rcases hr with ⟨hq4, rfl, rfl⟩ | ⟨hq4, rfl, rfl⟩
  · have hr4 := tNu_r hq4
    refine zs_K (K' := [(x, .inr (8, fTx b n L (nxt bt n L τ) 0 pl (nI τ.2.2.2.1))), (b, .inl (0, 740, .inl (nF bt))), (y, .inr (9, fYard ay (ysN D.1 D.2.1))), (ay 1, .inl (0, 12, .inl (nF D.2.2.1))), (ay 2, .inl (0, 12, .inl (nF D.2.2.2.1))), (ay 3, .inl (0, 12, .inl (nF D.2.2.2.2.1))), (ay 4, .inl (0, 12, .inl (nF D.2.2.2.2.2.1))), (ay 5, .inl (0, 64, .inl (nF D.2.2.2.2.2.2.1))), (ay 6, .inl (1, 64, .inl (nF D.2.2.2.2.2.2.2)))]) [7, 8, 0, 1, 2, 3, 4, 5, 6] rfl (by decide) ?_
    refine zs_if_ne (tgt := 12) dX11_readWell_7 (by decide) (fun c_1 => ?_) (fun c_1 => (by first | exact absurd c_1 (by decide) | exact absurd (by decide) c_1 : False).elim)
    refine zs_aload_n dX11_readWell_12 rfl rfl ?_
    refine zs_aload_n dX11_readWell_13 rfl rfl ?_
    refine zs_get 0 dX11_readWell_14 zf_RX11_141 rfl (v := .int (nI τ.2.2.2.1)) rfl ?_
    refine zs_put 2 dX11_readWell_17 zf_RX11_47 rfl (Nat.le_of_ble_eq_true rfl) (zPv_i _) ?_
    show zS _ _ _ _ _ _ [(x, .inr (8, fTx b n L (nxt bt n L τ) 0 pl (nI τ.2.2.2.1))), (b, .inl (0, 740, .inl (nF bt))), (y, .inr (9, fYard ay (ysN (un D.1 8 τ.2.2.2.1) D.2.1))), (ay 1, .inl (0, 12, .inl (nF D.2.2.1))), (ay 2, .inl (0, 12, .inl (nF D.2.2.2.1))), (ay 3, .inl (0, 12, .inl (nF D.2.2.2.2.1))), (ay 4, .inl (0, 12, .inl (nF D.2.2.2.2.2.1))), (ay 5, .inl (0, 64, .inl (nF D.2.2.2.2.2.2.1))), (ay 6, .inl (1, 64, .inl (nF D.2.2.2.2.2.2.2)))]
    refine zs_aload_n dX11_readWell_20 rfl rfl ?_
    refine zs_iconst (v := nI 0) dX11_readWell_21 (by decide) ?_
    refine zs_sipush (v := nI 9999) dX11_readWell_22 (by decide) ?_
    refine zs_callV (M := mX9_takeNumber) (As := [.int (nI 0), .int (nI 9999)]) (st := []) (Kc := [(x, .inr (8, fTx b n L (nxt bt n L τ) 0 pl (nI τ.2.2.2.1))), (b, .inl (0, 740, .inl (nF bt)))]) (Kr := [(y, .inr (9, fYard ay (ysN (un D.1 8 τ.2.2.2.1) D.2.1))), (ay 1, .inl (0, 12, .inl (nF D.2.2.1))), (ay 2, .inl (0, 12, .inl (nF D.2.2.2.1))), (ay 3, .inl (0, 12, .inl (nF D.2.2.2.2.1))), (ay 4, .inl (0, 12, .inl (nF D.2.2.2.2.2.1))), (ay 5, .inl (0, 64, .inl (nF D.2.2.2.2.2.2.1))), (ay 6, .inl (1, 64, .inl (nF D.2.2.2.2.2.2.2)))]) [0, 1] [2, 3, 4, 5, 6, 7, 8] 0 dX11_readWell_25 zl_RX11_137 kX9_takeNumber rfl rfl rfl rfl rfl (by decide) rfl rfl (show dd - 1 + 1 ≤ dd by omega) (Nat.zero_le _) (Nat.zero_le _) (Nat.le_of_ble_eq_true rfl) (s_takeNumber l (dd - 1) x b n L bt (nxt bt n L τ) pl (nI τ.2.2.2.1) 0 9999 (by omega) hn hL hbt (nxt_OK hbt hn) (by omega) (by omega)) (fun r K1 hr => ?_)
    rcases hr with ⟨hq25, rfl, rfl⟩ | ⟨hq25, rfl, rfl⟩
    · have hr25 := tNu_r hq25
      refine zs_K (K' := [(x, .inr (8, fTx b n L (nxt bt n L (nxt bt n L τ)) 0 pl (nI (nxt bt n L τ).2.2.2.1))), (b, .inl (0, 740, .inl (nF bt))), (y, .inr (9, fYard ay (ysN (un D.1 8 τ.2.2.2.1) D.2.1))), (ay 1, .inl (0, 12, .inl (nF D.2.2.1))), (ay 2, .inl (0, 12, .inl (nF D.2.2.2.1))), (ay 3, .inl (0, 12, .inl (nF D.2.2.2.2.1))), (ay 4, .inl (0, 12, .inl (nF D.2.2.2.2.2.1))), (ay 5, .inl (0, 64, .inl (nF D.2.2.2.2.2.2.1))), (ay 6, .inl (1, 64, .inl (nF D.2.2.2.2.2.2.2)))]) [7, 8, 0, 1, 2, 3, 4, 5, 6] rfl (by decide) ?_
      refine zs_if_ne (tgt := 33) dX11_readWell_28 (by decide) (fun c_2 => ?_) (fun c_2 => (by first | exact absurd c_2 (by decide) | exact absurd (by decide) c_2 : False).elim)
      refine zs_aload_n dX11_readWell_33 rfl rfl ?_
      refine zs_aload_n dX11_readWell_34 rfl rfl ?_
      refine zs_get 0 dX11_readWell_35 zf_RX11_141 rfl (v := .int (nI (nxt bt n L τ).2.2.2.1)) rfl ?_
      refine zs_put 2 dX11_readWell_38 zf_RX11_50 rfl (Nat.le_of_ble_eq_true rfl) (zPv_i _) ?_
      show zS _ _ _ _ _ _ [(x, .inr (8, fTx b n L (nxt bt n L (nxt bt n L τ)) 0 pl (nI (nxt bt n L τ).2.2.2.1))), (b, .inl (0, 740, .inl (nF bt))), (y, .inr (9, fYard ay (ysN (un (un D.1 8 τ.2.2.2.1) 9 ((nxt bt n L τ).2.2.2.1)) D.2.1))), (ay 1, .inl (0, 12, .inl (nF D.2.2.1))), (ay 2, .inl (0, 12, .inl (nF D.2.2.2.1))), (ay 3, .inl (0, 12, .inl (nF D.2.2.2.2.1))), (ay 4, .inl (0, 12, .inl (nF D.2.2.2.2.2.1))), (ay 5, .inl (0, 64, .inl (nF D.2.2.2.2.2.2.1))), (ay 6, .inl (1, 64, .inl (nF D.2.2.2.2.2.2.2)))]
      refine zs_iconst (v := nI 1) dX11_readWell_41 (by decide) ?_
      have e : (pWell bt n L τ tk D) = (0, (nxt bt n L (nxt bt n L τ)), ((nxt bt n L τ).2.2.2.1), (un (un D.1 8 τ.2.2.2.1) 9 ((nxt bt n L τ).2.2.2.1), D.2.1, D.2.2.1, D.2.2.2.1, D.2.2.2.2.1, D.2.2.2.2.2.1, D.2.2.2.2.2.2.1, D.2.2.2.2.2.2.2)) := by rw [pWell, pNu_bo hq4, pNu_bo hq25]
      exact zs_zret dX11_readWell_42 rfl (Or.inr rfl) (Or.inl ⟨by rw [e], rfl, by rw [e]; rfl⟩)
    · refine zs_K (K' := [(x, .inr (8, fTx b n L (nxt bt n L τ) (tNu (nxt bt n L τ) 0 9999) ((nxt bt n L τ).2.1) (nI τ.2.2.2.1))), (b, .inl (0, 740, .inl (nF bt))), (y, .inr (9, fYard ay (ysN (un D.1 8 τ.2.2.2.1) D.2.1))), (ay 1, .inl (0, 12, .inl (nF D.2.2.1))), (ay 2, .inl (0, 12, .inl (nF D.2.2.2.1))), (ay 3, .inl (0, 12, .inl (nF D.2.2.2.2.1))), (ay 4, .inl (0, 12, .inl (nF D.2.2.2.2.2.1))), (ay 5, .inl (0, 64, .inl (nF D.2.2.2.2.2.2.1))), (ay 6, .inl (1, 64, .inl (nF D.2.2.2.2.2.2.2)))]) [7, 8, 0, 1, 2, 3, 4, 5, 6] rfl (by decide) ?_
      refine zs_if_ne (tgt := 33) dX11_readWell_28 (by decide) (fun c_3 => (by first | exact absurd c_3 (by decide) | exact absurd (by decide) c_3 : False).elim) (fun c_3 => ?_)
      refine zs_iconst (v := nI 0) dX11_readWell_31 (by decide) ?_
      have e : (pWell bt n L τ tk D) = ((tNu (nxt bt n L τ) 0 9999), (nxt bt n L τ), τ.2.2.2.1, (un D.1 8 τ.2.2.2.1, D.2.1, D.2.2.1, D.2.2.2.1, D.2.2.2.2.1, D.2.2.2.2.2.1, D.2.2.2.2.2.2.1, D.2.2.2.2.2.2.2)) := by rw [pWell, pNu_bo hq4, pNu_bn hq25]
      exact zs_zret dX11_readWell_32 rfl (Or.inl rfl) (Or.inr ⟨by rw [e]; exact hq25, rfl, by rw [e]; rfl⟩)
  · refine zs_K (K' := [(x, .inr (8, fTx b n L τ (tNu τ 1 30) τ.2.1 (nI tk))), (b, .inl (0, 740, .inl (nF bt))), (y, .inr (9, fYard ay (ysN D.1 D.2.1))), (ay 1, .inl (0, 12, .inl (nF D.2.2.1))), (ay 2, .inl (0, 12, .inl (nF D.2.2.2.1))), (ay 3, .inl (0, 12, .inl (nF D.2.2.2.2.1))), (ay 4, .inl (0, 12, .inl (nF D.2.2.2.2.2.1))), (ay 5, .inl (0, 64, .inl (nF D.2.2.2.2.2.2.1))), (ay 6, .inl (1, 64, .inl (nF D.2.2.2.2.2.2.2)))]) [7, 8, 0, 1, 2, 3, 4, 5, 6] rfl (by decide) ?_
    refine zs_if_ne (tgt := 12) dX11_readWell_7 (by decide) (fun c_4 => (by first | exact absurd c_4 (by decide) | exact absurd (by decide) c_4 : False).elim) (fun c_4 => ?_)
    refine zs_iconst (v := nI 0) dX11_readWell_10 (by decide) ?_
    have e : (pWell bt n L τ tk D) = ((tNu τ 1 30), τ, tk, (D.1, D.2.1, D.2.2.1, D.2.2.2.1, D.2.2.2.2.1, D.2.2.2.2.2.1, D.2.2.2.2.2.2.1, D.2.2.2.2.2.2.2)) := by rw [pWell, pNu_bn hq4]
    exact zs_zret dX11_readWell_11 rfl (Or.inl rfl) (Or.inr ⟨by rw [e]; exact hq4, rfl, by rw [e]; rfl⟩)
