/-! ===== a yard's text ===== -/
/-- a yard's data: numbers by field, wind, names, hands, paces, powers, fuel, what burns -/
abbrev zYd : Type := (Nat → Nat) × Int32 × (Nat → Nat) × (Nat → Nat) × (Nat → Nat) × (Nat → Nat) × (Nat → Nat) × (Nat → Nat)
abbrev kYd (y : Nat) (ay : Nat → Nat) (D : zYd) : zK := kYard y ay (ysN D.1 D.2.1) (nF D.2.2.1) (nF D.2.2.2.1) (nF D.2.2.2.2.1) (nF D.2.2.2.2.2.1) (nF D.2.2.2.2.2.2.1) (nF D.2.2.2.2.2.2.2)
/-- what a reader tells: its fault (0: none), the token where it is, what was taken last, the data -/
abbrev zPy : Type := Nat × zTk × Nat × zYd
abbrev kTx (x b n L : Nat) (bt : Nat → Nat) (τ : zTk) (fa pl tk : Nat) : zK := [(x, .inr (8, fTx b n L τ fa pl (nI tk))), (b, .inl (0, 740, .inl (nF bt)))]
def pBd (R : zPy) (f : zTk → Nat → zYd → zPy) : zPy := if R.1 = 0 then f R.2.1 R.2.2.1 R.2.2.2 else R
theorem pBd_ok {τ : zTk} {tk : Nat} {D : zYd} {f : zTk → Nat → zYd → zPy} : pBd (0, τ, tk, D) f = f τ tk D := if_pos rfl
theorem pBd_no {k : Nat} {X : zTk × Nat × zYd} {f : zTk → Nat → zYd → zPy} (h : ¬ k = 0) : pBd (k, X) f = (k, X) := if_neg h
def pNu (b : Nat → Nat) (n L lo hi : Nat) (τ : zTk) (tk : Nat) (D : zYd) : zPy := if tNu τ lo hi = 0 then (0, nxt b n L τ, τ.2.2.2.1, D) else (tNu τ lo hi, τ, tk, D)
theorem pNu_ok {b : Nat → Nat} {n L lo hi : Nat} {τ : zTk} {tk : Nat} {D : zYd} (h : tNu τ lo hi = 0) : pNu b n L lo hi τ tk D = (0, nxt b n L τ, τ.2.2.2.1, D) := if_pos h
theorem pNu_no {b : Nat → Nat} {n L lo hi : Nat} {τ : zTk} {tk : Nat} {D : zYd} (h : ¬ tNu τ lo hi = 0) : pNu b n L lo hi τ tk D = (tNu τ lo hi, τ, tk, D) := if_neg h
theorem pNu_bo {b : Nat → Nat} {n L lo hi : Nat} {τ : zTk} {tk : Nat} {D : zYd} {f : zTk → Nat → zYd → zPy} (h : tNu τ lo hi = 0) : pBd (pNu b n L lo hi τ tk D) f = f (nxt b n L τ) τ.2.2.2.1 D := by rw [pNu_ok h, pBd_ok]
theorem pNu_bn {b : Nat → Nat} {n L lo hi : Nat} {τ : zTk} {tk : Nat} {D : zYd} {f : zTk → Nat → zYd → zPy} (h : ¬ tNu τ lo hi = 0) : pBd (pNu b n L lo hi τ tk D) f = (tNu τ lo hi, τ, tk, D) := by rw [pNu_no h, pBd_no h]
/-- the first of the m men from i on who is named v -/
def mFind (nm : Nat → Nat) (v : Nat) : Nat → Nat → Option Nat
  | 0, _ => none
  | m + 1, i => if nm i = v then some i else mFind nm v m (i + 1)
def pMan (b : Nat → Nat) (n L : Nat) (τ : zTk) (tk : Nat) (D : zYd) : zPy :=
  if 12 ≤ D.1 0 then (4, τ, tk, D) else
  if tNm (nxt b n L τ) = false then (1, nxt b n L τ, tk, D) else
  if ¬ mFind D.2.2.1 (nxt b n L τ).2.2.2.1 (D.1 0) 0 = none then (3, nxt b n L τ, tk, D) else
  pBd (pNu b n L 1 9 (nxt b n L (nxt b n L τ)) tk (D.1, D.2.1, un D.2.2.1 (D.1 0) (nxt b n L τ).2.2.2.1, D.2.2.2)) (fun τ tk D =>
  pBd (pNu b n L 1 9 τ tk (D.1, D.2.1, D.2.2.1, un D.2.2.2.1 (D.1 0) tk, D.2.2.2.2)) (fun τ tk D =>
  pBd (pNu b n L 1 99 τ tk (D.1, D.2.1, D.2.2.1, D.2.2.2.1, un D.2.2.2.2.1 (D.1 0) tk, D.2.2.2.2.2)) (fun τ tk D =>
  (0, τ, tk, (un D.1 0 (D.1 0 + 1), D.2.1, D.2.2.1, D.2.2.2.1, D.2.2.2.2.1, un D.2.2.2.2.2.1 (D.1 0) tk, D.2.2.2.2.2.2)))))
def dY (D : zYd) (k v : Nat) : zYd := (un D.1 k v, D.2)
def pPails (b : Nat → Nat) (n L : Nat) (τ : zTk) (tk : Nat) (D : zYd) : zPy :=
  pBd (pNu b n L 1 30 τ tk D) (fun τ tk D => pBd (pNu b n L 1 20 τ tk (un D.1 6 tk, D.2)) (fun τ tk D => (0, τ, tk, (un D.1 7 tk, D.2))))
def pWell (b : Nat → Nat) (n L : Nat) (τ : zTk) (tk : Nat) (D : zYd) : zPy :=
  pBd (pNu b n L 1 30 τ tk D) (fun τ tk D => pBd (pNu b n L 0 9999 τ tk (un D.1 8 tk, D.2)) (fun τ tk D => (0, τ, tk, (un D.1 9 tk, D.2))))
/-- a line that may be told once: its bit -/
def pOnce (b : Nat → Nat) (n L bit : Nat) (τ : zTk) (tk : Nat) (D : zYd) : zPy := if D.1 18 &&& bit = 0 then (0, nxt b n L τ, tk, (un D.1 18 (D.1 18 ||| bit), D.2)) else (3, τ, tk, D)
def pWi (b : Nat → Nat) (n L : Nat) (τ : zTk) (tk : Nat) (D : zYd) : zPy :=
  if τ.2.2.2.2 = some 10 then (0, nxt b n L τ, tk, (D.1, 0, D.2.2)) else if τ.2.2.2.2 = some 11 then (0, nxt b n L τ, tk, (D.1, 1, D.2.2)) else
  if τ.2.2.2.2 = some 12 then (0, nxt b n L τ, tk, (D.1, 2, D.2.2)) else if τ.2.2.2.2 = some 13 then (0, nxt b n L τ, tk, (D.1, 3, D.2.2)) else (1, τ, tk, D)
/-- the digits of a token as fuel of a row's first k cells -/
def dFu (b : Nat → Nat) (bg at0 : Nat) (fu : Nat → Nat) : Nat → (Nat → Nat)
  | 0 => fu
  | k + 1 => un (dFu b bg at0 fu k) (at0 + k) (b (bg + k) - 48)
def pCells (b : Nat → Nat) (n L : Nat) (τ : zTk) (tk : Nat) (D : zYd) : zPy :=
  if 8 ≤ D.1 15 then (4, τ, tk, D) else
  if ¬ (nxt b n L τ).1 = 3 then (1, nxt b n L τ, tk, D) else
  if 8 < (nxt b n L τ).2.2.1 - (nxt b n L τ).2.1 then (2, nxt b n L τ, tk, D) else
  if D.1 15 = 0 then (0, nxt b n L (nxt b n L τ), tk, (un (un D.1 14 ((nxt b n L τ).2.2.1 - (nxt b n L τ).2.1)) 15 (D.1 15 + 1), D.2.1, D.2.2.1, D.2.2.2.1, D.2.2.2.2.1, D.2.2.2.2.2.1, dFu b (nxt b n L τ).2.1 (D.1 15 * ((nxt b n L τ).2.2.1 - (nxt b n L τ).2.1)) D.2.2.2.2.2.2.1 ((nxt b n L τ).2.2.1 - (nxt b n L τ).2.1), D.2.2.2.2.2.2.2)) else
  if (nxt b n L τ).2.2.1 - (nxt b n L τ).2.1 = D.1 14 then (0, nxt b n L (nxt b n L τ), tk, (un (un D.1 14 ((nxt b n L τ).2.2.1 - (nxt b n L τ).2.1)) 15 (D.1 15 + 1), D.2.1, D.2.2.1, D.2.2.2.1, D.2.2.2.2.1, D.2.2.2.2.2.1, dFu b (nxt b n L τ).2.1 (D.1 15 * ((nxt b n L τ).2.2.1 - (nxt b n L τ).2.1)) D.2.2.2.2.2.2.1 ((nxt b n L τ).2.2.1 - (nxt b n L τ).2.1), D.2.2.2.2.2.2.2)) else
  (2, nxt b n L τ, tk, D)
/-- what a number below C finds -/
def tNuC (τ : zTk) (C : Nat) : Nat := if τ.1 = 3 then (if C ≤ τ.2.2.2.1 then 2 else 0) else 1
def pBurn (b : Nat → Nat) (n L : Nat) (τ : zTk) (tk : Nat) (D : zYd) : zPy :=
  if ¬ tNuC (nxt b n L τ) (D.1 14) = 0 then (tNuC (nxt b n L τ) (D.1 14), nxt b n L τ, tk, D) else
  if ¬ (nxt b n L (nxt b n L τ)).1 = 3 then (1, nxt b n L (nxt b n L τ), (nxt b n L τ).2.2.2.1, D) else
  if D.1 15 ≤ (nxt b n L (nxt b n L τ)).2.2.2.1 then (2, nxt b n L (nxt b n L τ), (nxt b n L τ).2.2.2.1, D) else
  if D.2.2.2.2.2.2.1 ((nxt b n L (nxt b n L τ)).2.2.2.1 * D.1 14 + (nxt b n L τ).2.2.2.1) = 0 then (2, nxt b n L (nxt b n L τ), (nxt b n L τ).2.2.2.1, D) else
  if ¬ D.2.2.2.2.2.2.2 ((nxt b n L (nxt b n L τ)).2.2.2.1 * D.1 14 + (nxt b n L τ).2.2.2.1) = 0 then (3, nxt b n L (nxt b n L τ), (nxt b n L τ).2.2.2.1, D) else
  (0, nxt b n L (nxt b n L (nxt b n L τ)), (nxt b n L τ).2.2.2.1, (D.1, D.2.1, D.2.2.1, D.2.2.2.1, D.2.2.2.2.1, D.2.2.2.2.2.1, D.2.2.2.2.2.2.1, un D.2.2.2.2.2.2.2 ((nxt b n L (nxt b n L τ)).2.2.2.1 * D.1 14 + (nxt b n L τ).2.2.2.1) 1))
def pOne (b : Nat → Nat) (n L bit lo hi fld : Nat) (τ : zTk) (tk : Nat) (D : zYd) : zPy :=
  pBd (pOnce b n L bit τ tk D) (fun τ tk D => pBd (pNu b n L lo hi τ tk D) (fun τ tk D => (0, τ, tk, (un D.1 fld tk, D.2))))
abbrev zSwN : List Nat := [1, 7, 5, 6, 8, 9, 10, 2, 3, 4, 0, 0, 0, 0, 0, 0, 0, 0, 0, 0, 0, 0, 0, 0, 0, 0, 0, 0, 0]
def pLine (b : Nat → Nat) (n L : Nat) (τ : zTk) (tk : Nat) (D : zYd) : zPy :=
  match τ.2.2.2.2 with
  | none => (1, τ, tk, D)
  | some i =>
    if zSwN.getD i 0 = 1 then pMan b n L τ tk D else if zSwN.getD i 0 = 2 then pCells b n L τ tk D else if zSwN.getD i 0 = 3 then pBurn b n L τ tk D else
    if zSwN.getD i 0 = 4 then pBd (pOnce b n L 1 τ tk D) (pWi b n L) else
    if zSwN.getD i 0 = 5 then pBd (pOnce b n L 2 τ tk D) (pPails b n L) else
    if zSwN.getD i 0 = 6 then pBd (pOnce b n L 4 τ tk D) (pWell b n L) else
    if zSwN.getD i 0 = 7 then pOne b n L 8 10 99 5 τ tk D else if zSwN.getD i 0 = 8 then pOne b n L 16 0 99 10 τ tk D else
    if zSwN.getD i 0 = 9 then pOne b n L 32 1 99 11 τ tk D else if zSwN.getD i 0 = 10 then pOne b n L 64 1 9 12 τ tk D else (1, τ, tk, D)
/-- q lines at most: how it goes, how many lines -/
def pLines (b : Nat → Nat) (n L : Nat) : Nat → zTk → Nat → zYd → Nat → zPy × Nat
  | 0, τ, tk, D, i => if tEn n L τ = true then ((0, τ, tk, D), i) else ((1, τ, tk, D), i)
  | q + 1, τ, tk, D, i =>
    if τ.1 = 0 then (if tEn n L τ = true then ((0, τ, tk, D), i) else ((1, τ, tk, D), i)) else
    if (pLine b n L τ tk D).1 = 0 then (if tAt (pLine b n L τ tk D).2.1 59 = true then pLines b n L q (nxt b n L (pLine b n L τ tk D).2.1) (pLine b n L τ tk D).2.2.1 (pLine b n L τ tk D).2.2.2 (i + 1) else ((1, (pLine b n L τ tk D).2), i)) else (pLine b n L τ tk D, i)
/-- what bounds a yard's data -/
def yI (D : zYd) : Prop :=
  D.1 0 ≤ 12 ∧ D.1 14 ≤ 8 ∧ D.1 15 ≤ 8 ∧ (∀ j, D.2.2.1 j < 400000000) ∧ (∀ j, D.2.2.2.2.2.2.1 j ≤ 9) ∧ (∀ j, D.2.2.2.2.2.2.2 j ≤ 1) ∧ D.1 18 < 128 ∧
  (∀ j, D.2.2.2.1 j ≤ 9 ∧ D.2.2.2.2.1 j ≤ 9 ∧ D.2.2.2.2.2.1 j ≤ 99) ∧ (∀ j, j < D.1 0 → 1 ≤ D.2.2.2.1 j ∧ 1 ≤ D.2.2.2.2.1 j ∧ 1 ≤ D.2.2.2.2.2.1 j) ∧
  (10 ≤ D.1 5 ∧ D.1 5 ≤ 99) ∧ (1 ≤ D.1 6 ∧ D.1 6 ≤ 30) ∧ (1 ≤ D.1 7 ∧ D.1 7 ≤ 20) ∧ (1 ≤ D.1 8 ∧ D.1 8 ≤ 30) ∧ D.1 9 ≤ 9999 ∧ D.1 10 ≤ 99 ∧ (1 ≤ D.1 11 ∧ D.1 11 ≤ 99) ∧ (1 ≤ D.1 12 ∧ D.1 12 ≤ 9) ∧ (D.2.1 = -1 ∨ D.2.1 = 0 ∨ D.2.1 = 1 ∨ D.2.1 = 2 ∨ D.2.1 = 3) ∧ (D.1 15 = 0 → D.1 14 = 0) ∧ (1 ≤ D.1 15 → 1 ≤ D.1 14)
theorem wV_w {w : Option Nat} (hw : ∀ j, w = some j → j < 29) : zwd (wV w) = true := by
  cases w with
  | none => rfl
  | some j =>
    show decide ((UInt32.ofNat j).toNat < 29) = true
    rw [zU_n (hw j rfl)]
    exact decide_eq_true (hw j rfl)
def oI (w : Option Nat) : Int32 := match w with
  | none => -1
  | some i => nI i
theorem oI_n {w : Option Nat} (hb : ∀ j, w = some j → j < 100) (h : oI w = -1) : w = none := by
  cases w with
  | none => rfl
  | some j =>
    have := hb j rfl
    have h2 : nI j = -1 := h
    rw [zi_eq, nI_t (by omega)] at h2
    exact absurd h2 (by have : ((-1 : Int32)).toInt = -1 := by decide
                        omega)
theorem mFind_lt {nm : Nat → Nat} {v : Nat} : ∀ (m i j : Nat), mFind nm v m i = some j → j < i + m ∧ nm j = v
  | 0, i, j, h => nomatch h
  | m + 1, i, j, h => by
    simp only [mFind] at h
    split at h
    · rename_i hv
      cases h
      exact ⟨by omega, hv⟩
    · have := mFind_lt m (i + 1) j h
      exact ⟨by omega, this.2⟩
theorem wV_e {w : Option Nat} {i : Nat} (hw : ∀ j, w = some j → j < 29) (hi : i < 29) : wV w = .float (UInt32.ofNat i) ↔ w = some i := by
  cases w with
  | none => exact ⟨fun h => (nomatch h), fun h => (nomatch h)⟩
  | some j =>
    have hj := hw j rfl
    refine ⟨fun h => ?_, fun h => by cases h; rfl⟩
    have h2 : UInt32.ofNat j = UInt32.ofNat i := by injection h
    have h3 := congrArg UInt32.toNat h2
    rw [zU_n hj, zU_n hi] at h3
    rw [h3]
theorem dX11_manNamed_0 : decode cX11_manNamed 0 = .ok (.iconst 0, 1) := by decide +kernel
theorem dX11_manNamed_1 : decode cX11_manNamed 1 = .ok (.istore_n 2, 1) := by decide +kernel
theorem dX11_manNamed_2 : decode cX11_manNamed 2 = .ok (.iload_n 2, 1) := by decide +kernel
theorem dX11_manNamed_3 : decode cX11_manNamed 3 = .ok (.aload_n 0, 1) := by decide +kernel
theorem dX11_manNamed_4 : decode cX11_manNamed 4 = .ok (.getfield 34, 3) := by decide +kernel
theorem dX11_manNamed_7 : decode cX11_manNamed 7 = .ok (.if_icmp .ge 21, 3) := by decide +kernel
theorem dX11_manNamed_10 : decode cX11_manNamed 10 = .ok (.aload_n 0, 1) := by decide +kernel
theorem dX11_manNamed_11 : decode cX11_manNamed 11 = .ok (.getfield 9, 3) := by decide +kernel
theorem dX11_manNamed_14 : decode cX11_manNamed 14 = .ok (.iload_n 2, 1) := by decide +kernel
theorem dX11_manNamed_15 : decode cX11_manNamed 15 = .ok (.iaload, 1) := by decide +kernel
theorem dX11_manNamed_16 : decode cX11_manNamed 16 = .ok (.iload_n 1, 1) := by decide +kernel
theorem dX11_manNamed_17 : decode cX11_manNamed 17 = .ok (.if_icmp .ne 5, 3) := by decide +kernel
theorem dX11_manNamed_20 : decode cX11_manNamed 20 = .ok (.iload_n 2, 1) := by decide +kernel
theorem dX11_manNamed_21 : decode cX11_manNamed 21 = .ok (.ireturn, 1) := by decide +kernel
theorem dX11_manNamed_22 : decode cX11_manNamed 22 = .ok (.iinc 2 1, 3) := by decide +kernel
theorem dX11_manNamed_25 : decode cX11_manNamed 25 = .ok (.goto (-23), 3) := by decide +kernel
theorem dX11_manNamed_28 : decode cX11_manNamed 28 = .ok (.iconst (-1), 1) := by decide +kernel
theorem dX11_manNamed_29 : decode cX11_manNamed 29 = .ok (.ireturn, 1) := by decide +kernel
set_option maxRecDepth 100000 in
theorem lp_named {l : Launch} {dd : Nat} {Po : zPo} {K0 : zK} {h0 : List va_E} {Xo : zK → Prop} {Gc : zG → Prop} (y : Nat) (ay : Nat → Nat) (D : zYd) (v : Nat) (hv : v < 400000000) (h12 : D.1 0 ≤ 12) (hnm : ∀ j, D.2.2.1 j < 400000000) (W : Option Nat) (hf : ∀ i, i < D.1 0 → W = some i → zS (l, mX11_manNamed, dd, Po, K0, h0, Xo, Gc) 0 0 20 [(0, .ref y), (1, .int (nI v)), (2, .int (nI i))] [] [(y, .inr (9, fYard ay (ysN D.1 D.2.1))), (ay 1, .inl (0, 12, .inl (nF D.2.2.1)))]) (hn : W = none → zS (l, mX11_manNamed, dd, Po, K0, h0, Xo, Gc) 0 0 28 [(0, .ref y), (1, .int (nI v))] [] [(y, .inr (9, fYard ay (ysN D.1 D.2.1))), (ay 1, .inl (0, 12, .inl (nF D.2.2.1)))]) : ∀ (m i : Nat), i + m = D.1 0 → mFind D.2.2.1 v m i = W → zS (l, mX11_manNamed, dd, Po, K0, h0, Xo, Gc) 0 0 2 [(0, .ref y), (1, .int (nI v)), (2, .int (nI i))] [] [(y, .inr (9, fYard ay (ysN D.1 D.2.1))), (ay 1, .inl (0, 12, .inl (nF D.2.2.1)))] := by
  intro m
  induction m with
  | zero =>
    intro i hi hW
    refine zs_iload_n dX11_manNamed_2 rfl ?_
    refine zs_aload_n dX11_manNamed_3 rfl rfl ?_
    refine zs_get 0 dX11_manNamed_4 zf_RX11_34 rfl (v := .int (nI (D.1 0))) rfl ?_
    refine zs_icmp_ge (tgt := 28) dX11_manNamed_7 (by decide) (fun c_1 => ?_) (fun c_1 => (c_1 (by rw [show i = D.1 0 by omega]; exact Int32.le_refl _) : False).elim)
    refine zs_lv [0, 1] rfl ?_
    exact hn hW.symm
  | succ m ih =>
    intro i hi hW
    refine zs_iload_n dX11_manNamed_2 rfl ?_
    refine zs_aload_n dX11_manNamed_3 rfl rfl ?_
    refine zs_get 0 dX11_manNamed_4 zf_RX11_34 rfl (v := .int (nI (D.1 0))) rfl ?_
    refine zs_icmp_ge (tgt := 28) dX11_manNamed_7 (by decide) (fun c_1 => (nI_ge (show i < D.1 0 by omega) (by omega) c_1 : False).elim) (fun c_1 => ?_)
    refine zs_aload_n dX11_manNamed_10 rfl rfl ?_
    refine zs_get 0 dX11_manNamed_11 zf_RX11_9 rfl (v := .ref (ay 1)) rfl ?_
    refine zs_iload_n dX11_manNamed_14 rfl ?_
    refine zs_iald 1 dX11_manNamed_15 rfl (vp_in_nI (by omega) (by omega)) ?_
    refine zs_as (y := nI (D.2.2.1 i)) (by rw [nI_c (n := i) (by omega)]; rfl) ?_
    have hb := hnm i
    refine zs_iload_n dX11_manNamed_16 rfl ?_
    refine zs_icmp_ne (tgt := 22) dX11_manNamed_17 (by decide) (fun c_2 => ?_) (fun c_2 => ?_)
    · have c_2 : ¬ ((D.2.2.1 i) = v) := by have hc := c_2; rw [nI_eq' (by omega) (by omega)] at hc; exact hc
      refine zs_iinc (v := (nI (i + 1))) (lv' := [(2, .int (nI (i + 1))), (0, .ref y), (1, .int (nI v))]) dX11_manNamed_22 rfl (nI_add _ 1) (Nat.le_of_ble_eq_true rfl) rfl ?_
      refine zs_goto (tgt := 2) dX11_manNamed_25 (by decide) ?_
      refine zs_lv [1, 2, 0] rfl ?_
      exact ih (i + 1) (by omega) (by rw [← hW]; exact (if_neg c_2).symm)
    · have c_2 : (D.2.2.1 i) = v := by have hc := c_2; rw [nI_eq' (by omega) (by omega)] at hc; exact hc
      refine zs_lv [0, 1, 2] rfl ?_
      exact hf i (by omega) (by rw [← hW]; exact if_pos c_2)
set_option maxRecDepth 100000 in
theorem s_manNamed (l : Launch) (dd : Nat) (y : Nat) (ay : Nat → Nat) (D : zYd) (v : Nat) (hv : v < 400000000) (h12 : D.1 0 ≤ 12) (hnm : ∀ j, D.2.2.1 j < 400000000) : zSp l mX11_manNamed dd 0 0 [.ref y, .int (nI v)] [(y, .inr (9, fYard ay (ysN D.1 D.2.1))), (ay 1, .inl (0, 12, .inl (nF D.2.2.1)))] (fun r K' => r = some (.int (oI (mFind D.2.2.1 v (D.1 0) 0))) ∧ K' = [(y, .inr (9, fYard ay (ysN D.1 D.2.1))), (ay 1, .inl (0, 12, .inl (nF D.2.2.1)))]) := by
  refine zSp.of (by decide) (Nat.le_of_ble_eq_true rfl) (fun h0 => ?_)
  show zS _ 0 0 0 [(0, .ref y), (1, .int (nI v))] [] [(y, .inr (9, fYard ay (ysN D.1 D.2.1))), (ay 1, .inl (0, 12, .inl (nF D.2.2.1)))]
  refine zs_iconst (v := nI 0) dX11_manNamed_0 (by decide) ?_
  refine zs_istore_n (lv' := [(2, .int (nI 0)), (0, .ref y), (1, .int (nI v))]) dX11_manNamed_1 (Nat.le_of_ble_eq_true rfl) rfl ?_
  refine zs_lv [1, 2, 0] rfl ?_
  refine lp_named y ay D v hv h12 hnm (mFind D.2.2.1 v (D.1 0) 0) (fun i hi hW => ?_) (fun hW => ?_) (D.1 0) 0 (Nat.zero_add _) rfl
  · refine zs_iload_n dX11_manNamed_20 rfl ?_
    exact zs_iret dX11_manNamed_21 rfl ⟨by rw [hW]; rfl, rfl⟩
  · refine zs_iconst (v := -1) dX11_manNamed_28 (by decide) ?_
    exact zs_iret dX11_manNamed_29 rfl ⟨by rw [hW]; rfl, rfl⟩
theorem dX11_readPails_0 : decode cX11_readPails 0 = .ok (.aload_n 1, 1) := by decide +kernel
theorem dX11_readPails_1 : decode cX11_readPails 1 = .ok (.iconst 1, 1) := by decide +kernel
theorem dX11_readPails_2 : decode cX11_readPails 2 = .ok (.bipush 30, 2) := by decide +kernel
theorem dX11_readPails_4 : decode cX11_readPails 4 = .ok (.invokevirtual 137, 3) := by decide +kernel
theorem dX11_readPails_7 : decode cX11_readPails 7 = .ok (.ifCond .ne 5, 3) := by decide +kernel
theorem dX11_readPails_10 : decode cX11_readPails 10 = .ok (.iconst 0, 1) := by decide +kernel
theorem dX11_readPails_11 : decode cX11_readPails 11 = .ok (.ireturn, 1) := by decide +kernel
theorem dX11_readPails_12 : decode cX11_readPails 12 = .ok (.aload_n 0, 1) := by decide +kernel
theorem dX11_readPails_13 : decode cX11_readPails 13 = .ok (.aload_n 1, 1) := by decide +kernel
theorem dX11_readPails_14 : decode cX11_readPails 14 = .ok (.getfield 141, 3) := by decide +kernel
theorem dX11_readPails_17 : decode cX11_readPails 17 = .ok (.putfield 41, 3) := by decide +kernel
theorem dX11_readPails_20 : decode cX11_readPails 20 = .ok (.aload_n 1, 1) := by decide +kernel
theorem dX11_readPails_21 : decode cX11_readPails 21 = .ok (.iconst 1, 1) := by decide +kernel
theorem dX11_readPails_22 : decode cX11_readPails 22 = .ok (.bipush 20, 2) := by decide +kernel
theorem dX11_readPails_24 : decode cX11_readPails 24 = .ok (.invokevirtual 137, 3) := by decide +kernel
theorem dX11_readPails_27 : decode cX11_readPails 27 = .ok (.ifCond .ne 5, 3) := by decide +kernel
theorem dX11_readPails_30 : decode cX11_readPails 30 = .ok (.iconst 0, 1) := by decide +kernel
theorem dX11_readPails_31 : decode cX11_readPails 31 = .ok (.ireturn, 1) := by decide +kernel
theorem dX11_readPails_32 : decode cX11_readPails 32 = .ok (.aload_n 0, 1) := by decide +kernel
theorem dX11_readPails_33 : decode cX11_readPails 33 = .ok (.aload_n 1, 1) := by decide +kernel
theorem dX11_readPails_34 : decode cX11_readPails 34 = .ok (.getfield 141, 3) := by decide +kernel
theorem dX11_readPails_37 : decode cX11_readPails 37 = .ok (.putfield 44, 3) := by decide +kernel
theorem dX11_readPails_40 : decode cX11_readPails 40 = .ok (.iconst 1, 1) := by decide +kernel
theorem dX11_readPails_41 : decode cX11_readPails 41 = .ok (.ireturn, 1) := by decide +kernel
set_option maxRecDepth 100000 in
theorem s_rdPails (l : Launch) (dd : Nat) (x b n L y : Nat) (ay : Nat → Nat) (bt : Nat → Nat) (τ : zTk) (pl tk : Nat) (D : zYd) (hd : 5 ≤ dd) (hn : n ≤ 740) (hL : L ≤ 740) (hbt : ∀ j, bt j < 256) (hτ : tOK τ) (hD : yI D) : zSp l mX11_readPails dd 0 0 [.ref y, .ref x] [(x, .inr (8, fTx b n L τ 0 pl (nI tk))), (b, .inl (0, 740, .inl (nF bt))), (y, .inr (9, fYard ay (ysN D.1 D.2.1))), (ay 1, .inl (0, 12, .inl (nF D.2.2.1))), (ay 2, .inl (0, 12, .inl (nF D.2.2.2.1))), (ay 3, .inl (0, 12, .inl (nF D.2.2.2.2.1))), (ay 4, .inl (0, 12, .inl (nF D.2.2.2.2.2.1))), (ay 5, .inl (0, 64, .inl (nF D.2.2.2.2.2.2.1))), (ay 6, .inl (1, 64, .inl (nF D.2.2.2.2.2.2.2)))] (fun r K' => ((pPails bt n L τ tk D).1 = 0 ∧ r = some (.int 1) ∧ K' = kTx x b n L bt (pPails bt n L τ tk D).2.1 0 pl (pPails bt n L τ tk D).2.2.1 ++ kYd y ay (pPails bt n L τ tk D).2.2.2) ∨ (¬ (pPails bt n L τ tk D).1 = 0 ∧ r = some (.int 0) ∧ K' = kTx x b n L bt (pPails bt n L τ tk D).2.1 (pPails bt n L τ tk D).1 (pPails bt n L τ tk D).2.1.2.1 (pPails bt n L τ tk D).2.2.1 ++ kYd y ay (pPails bt n L τ tk D).2.2.2)) := by
  refine zSp.of (by decide) (Nat.le_of_ble_eq_true rfl) (fun h0 => ?_)
  show zS _ 0 0 0 [(0, .ref y), (1, .ref x)] [] [(x, .inr (8, fTx b n L τ 0 pl (nI tk))), (b, .inl (0, 740, .inl (nF bt))), (y, .inr (9, fYard ay (ysN D.1 D.2.1))), (ay 1, .inl (0, 12, .inl (nF D.2.2.1))), (ay 2, .inl (0, 12, .inl (nF D.2.2.2.1))), (ay 3, .inl (0, 12, .inl (nF D.2.2.2.2.1))), (ay 4, .inl (0, 12, .inl (nF D.2.2.2.2.2.1))), (ay 5, .inl (0, 64, .inl (nF D.2.2.2.2.2.2.1))), (ay 6, .inl (1, 64, .inl (nF D.2.2.2.2.2.2.2)))]
  refine zs_aload_n dX11_readPails_0 rfl rfl ?_
  refine zs_iconst (v := nI 1) dX11_readPails_1 (by decide) ?_
  refine zs_bipush (v := nI 30) dX11_readPails_2 (by decide) ?_
  refine zs_callV (M := mX9_takeNumber) (As := [.int (nI 1), .int (nI 30)]) (st := []) (Kc := [(x, .inr (8, fTx b n L τ 0 pl (nI tk))), (b, .inl (0, 740, .inl (nF bt)))]) (Kr := [(y, .inr (9, fYard ay (ysN D.1 D.2.1))), (ay 1, .inl (0, 12, .inl (nF D.2.2.1))), (ay 2, .inl (0, 12, .inl (nF D.2.2.2.1))), (ay 3, .inl (0, 12, .inl (nF D.2.2.2.2.1))), (ay 4, .inl (0, 12, .inl (nF D.2.2.2.2.2.1))), (ay 5, .inl (0, 64, .inl (nF D.2.2.2.2.2.2.1))), (ay 6, .inl (1, 64, .inl (nF D.2.2.2.2.2.2.2)))]) [0, 1] [2, 3, 4, 5, 6, 7, 8] 0 dX11_readPails_4 zl_RX11_137 kX9_takeNumber rfl rfl rfl rfl rfl (by decide) rfl rfl (show dd - 1 + 1 ≤ dd by omega) (Nat.zero_le _) (Nat.zero_le _) (Nat.le_of_ble_eq_true rfl) (s_takeNumber l (dd - 1) x b n L bt τ pl (nI tk) 1 30 (by omega) hn hL hbt hτ (by omega) (by omega)) (fun r K1 hr => ?_)
  rcases hr with ⟨hq4, rfl, rfl⟩ | ⟨hq4, rfl, rfl⟩
  · have hr4 := tNu_r hq4
    refine zs_K (K' := [(x, .inr (8, fTx b n L (nxt bt n L τ) 0 pl (nI τ.2.2.2.1))), (b, .inl (0, 740, .inl (nF bt))), (y, .inr (9, fYard ay (ysN D.1 D.2.1))), (ay 1, .inl (0, 12, .inl (nF D.2.2.1))), (ay 2, .inl (0, 12, .inl (nF D.2.2.2.1))), (ay 3, .inl (0, 12, .inl (nF D.2.2.2.2.1))), (ay 4, .inl (0, 12, .inl (nF D.2.2.2.2.2.1))), (ay 5, .inl (0, 64, .inl (nF D.2.2.2.2.2.2.1))), (ay 6, .inl (1, 64, .inl (nF D.2.2.2.2.2.2.2)))]) [7, 8, 0, 1, 2, 3, 4, 5, 6] rfl (by decide) ?_
    refine zs_if_ne (tgt := 12) dX11_readPails_7 (by decide) (fun c_1 => ?_) (fun c_1 => (by first | exact absurd c_1 (by decide) | exact absurd (by decide) c_1 : False).elim)
    refine zs_aload_n dX11_readPails_12 rfl rfl ?_
    refine zs_aload_n dX11_readPails_13 rfl rfl ?_
    refine zs_get 0 dX11_readPails_14 zf_RX11_141 rfl (v := .int (nI τ.2.2.2.1)) rfl ?_
    refine zs_put 2 dX11_readPails_17 zf_RX11_41 rfl (Nat.le_of_ble_eq_true rfl) (zPv_i _) ?_
    show zS _ _ _ _ _ _ [(x, .inr (8, fTx b n L (nxt bt n L τ) 0 pl (nI τ.2.2.2.1))), (b, .inl (0, 740, .inl (nF bt))), (y, .inr (9, fYard ay (ysN (un D.1 6 τ.2.2.2.1) D.2.1))), (ay 1, .inl (0, 12, .inl (nF D.2.2.1))), (ay 2, .inl (0, 12, .inl (nF D.2.2.2.1))), (ay 3, .inl (0, 12, .inl (nF D.2.2.2.2.1))), (ay 4, .inl (0, 12, .inl (nF D.2.2.2.2.2.1))), (ay 5, .inl (0, 64, .inl (nF D.2.2.2.2.2.2.1))), (ay 6, .inl (1, 64, .inl (nF D.2.2.2.2.2.2.2)))]
    refine zs_aload_n dX11_readPails_20 rfl rfl ?_
    refine zs_iconst (v := nI 1) dX11_readPails_21 (by decide) ?_
    refine zs_bipush (v := nI 20) dX11_readPails_22 (by decide) ?_
    refine zs_callV (M := mX9_takeNumber) (As := [.int (nI 1), .int (nI 20)]) (st := []) (Kc := [(x, .inr (8, fTx b n L (nxt bt n L τ) 0 pl (nI τ.2.2.2.1))), (b, .inl (0, 740, .inl (nF bt)))]) (Kr := [(y, .inr (9, fYard ay (ysN (un D.1 6 τ.2.2.2.1) D.2.1))), (ay 1, .inl (0, 12, .inl (nF D.2.2.1))), (ay 2, .inl (0, 12, .inl (nF D.2.2.2.1))), (ay 3, .inl (0, 12, .inl (nF D.2.2.2.2.1))), (ay 4, .inl (0, 12, .inl (nF D.2.2.2.2.2.1))), (ay 5, .inl (0, 64, .inl (nF D.2.2.2.2.2.2.1))), (ay 6, .inl (1, 64, .inl (nF D.2.2.2.2.2.2.2)))]) [0, 1] [2, 3, 4, 5, 6, 7, 8] 0 dX11_readPails_24 zl_RX11_137 kX9_takeNumber rfl rfl rfl rfl rfl (by decide) rfl rfl (show dd - 1 + 1 ≤ dd by omega) (Nat.zero_le _) (Nat.zero_le _) (Nat.le_of_ble_eq_true rfl) (s_takeNumber l (dd - 1) x b n L bt (nxt bt n L τ) pl (nI τ.2.2.2.1) 1 20 (by omega) hn hL hbt (nxt_OK hbt hn) (by omega) (by omega)) (fun r K1 hr => ?_)
    rcases hr with ⟨hq24, rfl, rfl⟩ | ⟨hq24, rfl, rfl⟩
    · have hr24 := tNu_r hq24
      refine zs_K (K' := [(x, .inr (8, fTx b n L (nxt bt n L (nxt bt n L τ)) 0 pl (nI (nxt bt n L τ).2.2.2.1))), (b, .inl (0, 740, .inl (nF bt))), (y, .inr (9, fYard ay (ysN (un D.1 6 τ.2.2.2.1) D.2.1))), (ay 1, .inl (0, 12, .inl (nF D.2.2.1))), (ay 2, .inl (0, 12, .inl (nF D.2.2.2.1))), (ay 3, .inl (0, 12, .inl (nF D.2.2.2.2.1))), (ay 4, .inl (0, 12, .inl (nF D.2.2.2.2.2.1))), (ay 5, .inl (0, 64, .inl (nF D.2.2.2.2.2.2.1))), (ay 6, .inl (1, 64, .inl (nF D.2.2.2.2.2.2.2)))]) [7, 8, 0, 1, 2, 3, 4, 5, 6] rfl (by decide) ?_
      refine zs_if_ne (tgt := 32) dX11_readPails_27 (by decide) (fun c_2 => ?_) (fun c_2 => (by first | exact absurd c_2 (by decide) | exact absurd (by decide) c_2 : False).elim)
      refine zs_aload_n dX11_readPails_32 rfl rfl ?_
      refine zs_aload_n dX11_readPails_33 rfl rfl ?_
      refine zs_get 0 dX11_readPails_34 zf_RX11_141 rfl (v := .int (nI (nxt bt n L τ).2.2.2.1)) rfl ?_
      refine zs_put 2 dX11_readPails_37 zf_RX11_44 rfl (Nat.le_of_ble_eq_true rfl) (zPv_i _) ?_
      show zS _ _ _ _ _ _ [(x, .inr (8, fTx b n L (nxt bt n L (nxt bt n L τ)) 0 pl (nI (nxt bt n L τ).2.2.2.1))), (b, .inl (0, 740, .inl (nF bt))), (y, .inr (9, fYard ay (ysN (un (un D.1 6 τ.2.2.2.1) 7 ((nxt bt n L τ).2.2.2.1)) D.2.1))), (ay 1, .inl (0, 12, .inl (nF D.2.2.1))), (ay 2, .inl (0, 12, .inl (nF D.2.2.2.1))), (ay 3, .inl (0, 12, .inl (nF D.2.2.2.2.1))), (ay 4, .inl (0, 12, .inl (nF D.2.2.2.2.2.1))), (ay 5, .inl (0, 64, .inl (nF D.2.2.2.2.2.2.1))), (ay 6, .inl (1, 64, .inl (nF D.2.2.2.2.2.2.2)))]
      refine zs_iconst (v := nI 1) dX11_readPails_40 (by decide) ?_
      have e : (pPails bt n L τ tk D) = (0, (nxt bt n L (nxt bt n L τ)), ((nxt bt n L τ).2.2.2.1), (un (un D.1 6 τ.2.2.2.1) 7 ((nxt bt n L τ).2.2.2.1), D.2.1, D.2.2.1, D.2.2.2.1, D.2.2.2.2.1, D.2.2.2.2.2.1, D.2.2.2.2.2.2.1, D.2.2.2.2.2.2.2)) := by rw [pPails, pNu_bo hq4, pNu_bo hq24] <;> rfl
      exact zs_zret dX11_readPails_41 rfl (Or.inr rfl) (Or.inl ⟨by rw [e], rfl, by rw [e]; rfl⟩)
    · refine zs_K (K' := [(x, .inr (8, fTx b n L (nxt bt n L τ) (tNu (nxt bt n L τ) 1 20) ((nxt bt n L τ).2.1) (nI τ.2.2.2.1))), (b, .inl (0, 740, .inl (nF bt))), (y, .inr (9, fYard ay (ysN (un D.1 6 τ.2.2.2.1) D.2.1))), (ay 1, .inl (0, 12, .inl (nF D.2.2.1))), (ay 2, .inl (0, 12, .inl (nF D.2.2.2.1))), (ay 3, .inl (0, 12, .inl (nF D.2.2.2.2.1))), (ay 4, .inl (0, 12, .inl (nF D.2.2.2.2.2.1))), (ay 5, .inl (0, 64, .inl (nF D.2.2.2.2.2.2.1))), (ay 6, .inl (1, 64, .inl (nF D.2.2.2.2.2.2.2)))]) [7, 8, 0, 1, 2, 3, 4, 5, 6] rfl (by decide) ?_
      refine zs_if_ne (tgt := 32) dX11_readPails_27 (by decide) (fun c_3 => (by first | exact absurd c_3 (by decide) | exact absurd (by decide) c_3 : False).elim) (fun c_3 => ?_)
      refine zs_iconst (v := nI 0) dX11_readPails_30 (by decide) ?_
      have e : (pPails bt n L τ tk D) = ((tNu (nxt bt n L τ) 1 20), (nxt bt n L τ), τ.2.2.2.1, (un D.1 6 τ.2.2.2.1, D.2.1, D.2.2.1, D.2.2.2.1, D.2.2.2.2.1, D.2.2.2.2.2.1, D.2.2.2.2.2.2.1, D.2.2.2.2.2.2.2)) := by rw [pPails, pNu_bo hq4, pNu_bn hq24] <;> rfl
      exact zs_zret dX11_readPails_31 rfl (Or.inl rfl) (Or.inr ⟨by rw [e]; exact hq24, rfl, by rw [e]; rfl⟩)
  · refine zs_K (K' := [(x, .inr (8, fTx b n L τ (tNu τ 1 30) τ.2.1 (nI tk))), (b, .inl (0, 740, .inl (nF bt))), (y, .inr (9, fYard ay (ysN D.1 D.2.1))), (ay 1, .inl (0, 12, .inl (nF D.2.2.1))), (ay 2, .inl (0, 12, .inl (nF D.2.2.2.1))), (ay 3, .inl (0, 12, .inl (nF D.2.2.2.2.1))), (ay 4, .inl (0, 12, .inl (nF D.2.2.2.2.2.1))), (ay 5, .inl (0, 64, .inl (nF D.2.2.2.2.2.2.1))), (ay 6, .inl (1, 64, .inl (nF D.2.2.2.2.2.2.2)))]) [7, 8, 0, 1, 2, 3, 4, 5, 6] rfl (by decide) ?_
    refine zs_if_ne (tgt := 12) dX11_readPails_7 (by decide) (fun c_4 => (by first | exact absurd c_4 (by decide) | exact absurd (by decide) c_4 : False).elim) (fun c_4 => ?_)
    refine zs_iconst (v := nI 0) dX11_readPails_10 (by decide) ?_
    have e : (pPails bt n L τ tk D) = ((tNu τ 1 30), τ, tk, (D.1, D.2.1, D.2.2.1, D.2.2.2.1, D.2.2.2.2.1, D.2.2.2.2.2.1, D.2.2.2.2.2.2.1, D.2.2.2.2.2.2.2)) := by rw [pPails, pNu_bn hq4] <;> rfl
    exact zs_zret dX11_readPails_11 rfl (Or.inl rfl) (Or.inr ⟨by rw [e]; exact hq4, rfl, by rw [e]; rfl⟩)
theorem dX11_readWell_0 : decode cX11_readWell 0 = .ok (.aload_n 1, 1) := by decide +kernel
theorem dX11_readWell_1 : decode cX11_readWell 1 = .ok (.iconst 1, 1) := by decide +kernel
theorem dX11_readWell_2 : decode cX11_readWell 2 = .ok (.bipush 30, 2) := by decide +kernel
theorem dX11_readWell_4 : decode cX11_readWell 4 = .ok (.invokevirtual 137, 3) := by decide +kernel
theorem dX11_readWell_7 : decode cX11_readWell 7 = .ok (.ifCond .ne 5, 3) := by decide +kernel
theorem dX11_readWell_10 : decode cX11_readWell 10 = .ok (.iconst 0, 1) := by decide +kernel
theorem dX11_readWell_11 : decode cX11_readWell 11 = .ok (.ireturn, 1) := by decide +kernel
theorem dX11_readWell_12 : decode cX11_readWell 12 = .ok (.aload_n 0, 1) := by decide +kernel
theorem dX11_readWell_13 : decode cX11_readWell 13 = .ok (.aload_n 1, 1) := by decide +kernel
theorem dX11_readWell_14 : decode cX11_readWell 14 = .ok (.getfield 141, 3) := by decide +kernel
theorem dX11_readWell_17 : decode cX11_readWell 17 = .ok (.putfield 47, 3) := by decide +kernel
theorem dX11_readWell_20 : decode cX11_readWell 20 = .ok (.aload_n 1, 1) := by decide +kernel
theorem dX11_readWell_21 : decode cX11_readWell 21 = .ok (.iconst 0, 1) := by decide +kernel
theorem dX11_readWell_22 : decode cX11_readWell 22 = .ok (.sipush 9999, 3) := by decide +kernel
theorem dX11_readWell_25 : decode cX11_readWell 25 = .ok (.invokevirtual 137, 3) := by decide +kernel
theorem dX11_readWell_28 : decode cX11_readWell 28 = .ok (.ifCond .ne 5, 3) := by decide +kernel
theorem dX11_readWell_31 : decode cX11_readWell 31 = .ok (.iconst 0, 1) := by decide +kernel
theorem dX11_readWell_32 : decode cX11_readWell 32 = .ok (.ireturn, 1) := by decide +kernel
theorem dX11_readWell_33 : decode cX11_readWell 33 = .ok (.aload_n 0, 1) := by decide +kernel
theorem dX11_readWell_34 : decode cX11_readWell 34 = .ok (.aload_n 1, 1) := by decide +kernel
theorem dX11_readWell_35 : decode cX11_readWell 35 = .ok (.getfield 141, 3) := by decide +kernel
theorem dX11_readWell_38 : decode cX11_readWell 38 = .ok (.putfield 50, 3) := by decide +kernel
theorem dX11_readWell_41 : decode cX11_readWell 41 = .ok (.iconst 1, 1) := by decide +kernel
theorem dX11_readWell_42 : decode cX11_readWell 42 = .ok (.ireturn, 1) := by decide +kernel
set_option maxRecDepth 100000 in
theorem s_rdWell (l : Launch) (dd : Nat) (x b n L y : Nat) (ay : Nat → Nat) (bt : Nat → Nat) (τ : zTk) (pl tk : Nat) (D : zYd) (hd : 5 ≤ dd) (hn : n ≤ 740) (hL : L ≤ 740) (hbt : ∀ j, bt j < 256) (hτ : tOK τ) (hD : yI D) : zSp l mX11_readWell dd 0 0 [.ref y, .ref x] [(x, .inr (8, fTx b n L τ 0 pl (nI tk))), (b, .inl (0, 740, .inl (nF bt))), (y, .inr (9, fYard ay (ysN D.1 D.2.1))), (ay 1, .inl (0, 12, .inl (nF D.2.2.1))), (ay 2, .inl (0, 12, .inl (nF D.2.2.2.1))), (ay 3, .inl (0, 12, .inl (nF D.2.2.2.2.1))), (ay 4, .inl (0, 12, .inl (nF D.2.2.2.2.2.1))), (ay 5, .inl (0, 64, .inl (nF D.2.2.2.2.2.2.1))), (ay 6, .inl (1, 64, .inl (nF D.2.2.2.2.2.2.2)))] (fun r K' => ((pWell bt n L τ tk D).1 = 0 ∧ r = some (.int 1) ∧ K' = kTx x b n L bt (pWell bt n L τ tk D).2.1 0 pl (pWell bt n L τ tk D).2.2.1 ++ kYd y ay (pWell bt n L τ tk D).2.2.2) ∨ (¬ (pWell bt n L τ tk D).1 = 0 ∧ r = some (.int 0) ∧ K' = kTx x b n L bt (pWell bt n L τ tk D).2.1 (pWell bt n L τ tk D).1 (pWell bt n L τ tk D).2.1.2.1 (pWell bt n L τ tk D).2.2.1 ++ kYd y ay (pWell bt n L τ tk D).2.2.2)) := by
  refine zSp.of (by decide) (Nat.le_of_ble_eq_true rfl) (fun h0 => ?_)
  show zS _ 0 0 0 [(0, .ref y), (1, .ref x)] [] [(x, .inr (8, fTx b n L τ 0 pl (nI tk))), (b, .inl (0, 740, .inl (nF bt))), (y, .inr (9, fYard ay (ysN D.1 D.2.1))), (ay 1, .inl (0, 12, .inl (nF D.2.2.1))), (ay 2, .inl (0, 12, .inl (nF D.2.2.2.1))), (ay 3, .inl (0, 12, .inl (nF D.2.2.2.2.1))), (ay 4, .inl (0, 12, .inl (nF D.2.2.2.2.2.1))), (ay 5, .inl (0, 64, .inl (nF D.2.2.2.2.2.2.1))), (ay 6, .inl (1, 64, .inl (nF D.2.2.2.2.2.2.2)))]
  refine zs_aload_n dX11_readWell_0 rfl rfl ?_
  refine zs_iconst (v := nI 1) dX11_readWell_1 (by decide) ?_
  refine zs_bipush (v := nI 30) dX11_readWell_2 (by decide) ?_
  refine zs_callV (M := mX9_takeNumber) (As := [.int (nI 1), .int (nI 30)]) (st := []) (Kc := [(x, .inr (8, fTx b n L τ 0 pl (nI tk))), (b, .inl (0, 740, .inl (nF bt)))]) (Kr := [(y, .inr (9, fYard ay (ysN D.1 D.2.1))), (ay 1, .inl (0, 12, .inl (nF D.2.2.1))), (ay 2, .inl (0, 12, .inl (nF D.2.2.2.1))), (ay 3, .inl (0, 12, .inl (nF D.2.2.2.2.1))), (ay 4, .inl (0, 12, .inl (nF D.2.2.2.2.2.1))), (ay 5, .inl (0, 64, .inl (nF D.2.2.2.2.2.2.1))), (ay 6, .inl (1, 64, .inl (nF D.2.2.2.2.2.2.2)))]) [0, 1] [2, 3, 4, 5, 6, 7, 8] 0 dX11_readWell_4 zl_RX11_137 kX9_takeNumber rfl rfl rfl rfl rfl (by decide) rfl rfl (show dd - 1 + 1 ≤ dd by omega) (Nat.zero_le _) (Nat.zero_le _) (Nat.le_of_ble_eq_true rfl) (s_takeNumber l (dd - 1) x b n L bt τ pl (nI tk) 1 30 (by omega) hn hL hbt hτ (by omega) (by omega)) (fun r K1 hr => ?_)
  rcases hr with ⟨hq4, rfl, rfl⟩ | ⟨hq4, rfl, rfl⟩
  · have hr4 := tNu_r hq4
    refine zs_K (K' := [(x, .inr (8, fTx b n L (nxt bt n L τ) 0 pl (nI τ.2.2.2.1))), (b, .inl (0, 740, .inl (nF bt))), (y, .inr (9, fYard ay (ysN D.1 D.2.1))), (ay 1, .inl (0, 12, .inl (nF D.2.2.1))), (ay 2, .inl (0, 12, .inl (nF D.2.2.2.1))), (ay 3, .inl (0, 12, .inl (nF D.2.2.2.2.1))), (ay 4, .inl (0, 12, .inl (nF D.2.2.2.2.2.1))), (ay 5, .inl (0, 64, .inl (nF D.2.2.2.2.2.2.1))), (ay 6, .inl (1, 64, .inl (nF D.2.2.2.2.2.2.2)))]) [7, 8, 0, 1, 2, 3, 4, 5, 6] rfl (by decide) ?_
    refine zs_if_ne (tgt := 12) dX11_readWell_7 (by decide) (fun c_1 => ?_) (fun c_1 => (by first | exact absurd c_1 (by decide) | exact absurd (by decide) c_1 : False).elim)
    refine zs_aload_n dX11_readWell_12 rfl rfl ?_
    refine zs_aload_n dX11_readWell_13 rfl rfl ?_
    refine zs_get 0 dX11_readWell_14 zf_RX11_141 rfl (v := .int (nI τ.2.2.2.1)) rfl ?_
    refine zs_put 2 dX11_readWell_17 zf_RX11_47 rfl (Nat.le_of_ble_eq_true rfl) (zPv_i _) ?_
    show zS _ _ _ _ _ _ [(x, .inr (8, fTx b n L (nxt bt n L τ) 0 pl (nI τ.2.2.2.1))), (b, .inl (0, 740, .inl (nF bt))), (y, .inr (9, fYard ay (ysN (un D.1 8 τ.2.2.2.1) D.2.1))), (ay 1, .inl (0, 12, .inl (nF D.2.2.1))), (ay 2, .inl (0, 12, .inl (nF D.2.2.2.1))), (ay 3, .inl (0, 12, .inl (nF D.2.2.2.2.1))), (ay 4, .inl (0, 12, .inl (nF D.2.2.2.2.2.1))), (ay 5, .inl (0, 64, .inl (nF D.2.2.2.2.2.2.1))), (ay 6, .inl (1, 64, .inl (nF D.2.2.2.2.2.2.2)))]
    refine zs_aload_n dX11_readWell_20 rfl rfl ?_
    refine zs_iconst (v := nI 0) dX11_readWell_21 (by decide) ?_
    refine zs_sipush (v := nI 9999) dX11_readWell_22 (by decide) ?_
    refine zs_callV (M := mX9_takeNumber) (As := [.int (nI 0), .int (nI 9999)]) (st := []) (Kc := [(x, .inr (8, fTx b n L (nxt bt n L τ) 0 pl (nI τ.2.2.2.1))), (b, .inl (0, 740, .inl (nF bt)))]) (Kr := [(y, .inr (9, fYard ay (ysN (un D.1 8 τ.2.2.2.1) D.2.1))), (ay 1, .inl (0, 12, .inl (nF D.2.2.1))), (ay 2, .inl (0, 12, .inl (nF D.2.2.2.1))), (ay 3, .inl (0, 12, .inl (nF D.2.2.2.2.1))), (ay 4, .inl (0, 12, .inl (nF D.2.2.2.2.2.1))), (ay 5, .inl (0, 64, .inl (nF D.2.2.2.2.2.2.1))), (ay 6, .inl (1, 64, .inl (nF D.2.2.2.2.2.2.2)))]) [0, 1] [2, 3, 4, 5, 6, 7, 8] 0 dX11_readWell_25 zl_RX11_137 kX9_takeNumber rfl rfl rfl rfl rfl (by decide) rfl rfl (show dd - 1 + 1 ≤ dd by omega) (Nat.zero_le _) (Nat.zero_le _) (Nat.le_of_ble_eq_true rfl) (s_takeNumber l (dd - 1) x b n L bt (nxt bt n L τ) pl (nI τ.2.2.2.1) 0 9999 (by omega) hn hL hbt (nxt_OK hbt hn) (by omega) (by omega)) (fun r K1 hr => ?_)
    rcases hr with ⟨hq25, rfl, rfl⟩ | ⟨hq25, rfl, rfl⟩
    · have hr25 := tNu_r hq25
      refine zs_K (K' := [(x, .inr (8, fTx b n L (nxt bt n L (nxt bt n L τ)) 0 pl (nI (nxt bt n L τ).2.2.2.1))), (b, .inl (0, 740, .inl (nF bt))), (y, .inr (9, fYard ay (ysN (un D.1 8 τ.2.2.2.1) D.2.1))), (ay 1, .inl (0, 12, .inl (nF D.2.2.1))), (ay 2, .inl (0, 12, .inl (nF D.2.2.2.1))), (ay 3, .inl (0, 12, .inl (nF D.2.2.2.2.1))), (ay 4, .inl (0, 12, .inl (nF D.2.2.2.2.2.1))), (ay 5, .inl (0, 64, .inl (nF D.2.2.2.2.2.2.1))), (ay 6, .inl (1, 64, .inl (nF D.2.2.2.2.2.2.2)))]) [7, 8, 0, 1, 2, 3, 4, 5, 6] rfl (by decide) ?_
      refine zs_if_ne (tgt := 33) dX11_readWell_28 (by decide) (fun c_2 => ?_) (fun c_2 => (by first | exact absurd c_2 (by decide) | exact absurd (by decide) c_2 : False).elim)
      refine zs_aload_n dX11_readWell_33 rfl rfl ?_
      refine zs_aload_n dX11_readWell_34 rfl rfl ?_
      refine zs_get 0 dX11_readWell_35 zf_RX11_141 rfl (v := .int (nI (nxt bt n L τ).2.2.2.1)) rfl ?_
      refine zs_put 2 dX11_readWell_38 zf_RX11_50 rfl (Nat.le_of_ble_eq_true rfl) (zPv_i _) ?_
      show zS _ _ _ _ _ _ [(x, .inr (8, fTx b n L (nxt bt n L (nxt bt n L τ)) 0 pl (nI (nxt bt n L τ).2.2.2.1))), (b, .inl (0, 740, .inl (nF bt))), (y, .inr (9, fYard ay (ysN (un (un D.1 8 τ.2.2.2.1) 9 ((nxt bt n L τ).2.2.2.1)) D.2.1))), (ay 1, .inl (0, 12, .inl (nF D.2.2.1))), (ay 2, .inl (0, 12, .inl (nF D.2.2.2.1))), (ay 3, .inl (0, 12, .inl (nF D.2.2.2.2.1))), (ay 4, .inl (0, 12, .inl (nF D.2.2.2.2.2.1))), (ay 5, .inl (0, 64, .inl (nF D.2.2.2.2.2.2.1))), (ay 6, .inl (1, 64, .inl (nF D.2.2.2.2.2.2.2)))]
      refine zs_iconst (v := nI 1) dX11_readWell_41 (by decide) ?_
      have e : (pWell bt n L τ tk D) = (0, (nxt bt n L (nxt bt n L τ)), ((nxt bt n L τ).2.2.2.1), (un (un D.1 8 τ.2.2.2.1) 9 ((nxt bt n L τ).2.2.2.1), D.2.1, D.2.2.1, D.2.2.2.1, D.2.2.2.2.1, D.2.2.2.2.2.1, D.2.2.2.2.2.2.1, D.2.2.2.2.2.2.2)) := by rw [pWell, pNu_bo hq4, pNu_bo hq25] <;> rfl
      exact zs_zret dX11_readWell_42 rfl (Or.inr rfl) (Or.inl ⟨by rw [e], rfl, by rw [e]; rfl⟩)
    · refine zs_K (K' := [(x, .inr (8, fTx b n L (nxt bt n L τ) (tNu (nxt bt n L τ) 0 9999) ((nxt bt n L τ).2.1) (nI τ.2.2.2.1))), (b, .inl (0, 740, .inl (nF bt))), (y, .inr (9, fYard ay (ysN (un D.1 8 τ.2.2.2.1) D.2.1))), (ay 1, .inl (0, 12, .inl (nF D.2.2.1))), (ay 2, .inl (0, 12, .inl (nF D.2.2.2.1))), (ay 3, .inl (0, 12, .inl (nF D.2.2.2.2.1))), (ay 4, .inl (0, 12, .inl (nF D.2.2.2.2.2.1))), (ay 5, .inl (0, 64, .inl (nF D.2.2.2.2.2.2.1))), (ay 6, .inl (1, 64, .inl (nF D.2.2.2.2.2.2.2)))]) [7, 8, 0, 1, 2, 3, 4, 5, 6] rfl (by decide) ?_
      refine zs_if_ne (tgt := 33) dX11_readWell_28 (by decide) (fun c_3 => (by first | exact absurd c_3 (by decide) | exact absurd (by decide) c_3 : False).elim) (fun c_3 => ?_)
      refine zs_iconst (v := nI 0) dX11_readWell_31 (by decide) ?_
      have e : (pWell bt n L τ tk D) = ((tNu (nxt bt n L τ) 0 9999), (nxt bt n L τ), τ.2.2.2.1, (un D.1 8 τ.2.2.2.1, D.2.1, D.2.2.1, D.2.2.2.1, D.2.2.2.2.1, D.2.2.2.2.2.1, D.2.2.2.2.2.2.1, D.2.2.2.2.2.2.2)) := by rw [pWell, pNu_bo hq4, pNu_bn hq25] <;> rfl
      exact zs_zret dX11_readWell_32 rfl (Or.inl rfl) (Or.inr ⟨by rw [e]; exact hq25, rfl, by rw [e]; rfl⟩)
  · refine zs_K (K' := [(x, .inr (8, fTx b n L τ (tNu τ 1 30) τ.2.1 (nI tk))), (b, .inl (0, 740, .inl (nF bt))), (y, .inr (9, fYard ay (ysN D.1 D.2.1))), (ay 1, .inl (0, 12, .inl (nF D.2.2.1))), (ay 2, .inl (0, 12, .inl (nF D.2.2.2.1))), (ay 3, .inl (0, 12, .inl (nF D.2.2.2.2.1))), (ay 4, .inl (0, 12, .inl (nF D.2.2.2.2.2.1))), (ay 5, .inl (0, 64, .inl (nF D.2.2.2.2.2.2.1))), (ay 6, .inl (1, 64, .inl (nF D.2.2.2.2.2.2.2)))]) [7, 8, 0, 1, 2, 3, 4, 5, 6] rfl (by decide) ?_
    refine zs_if_ne (tgt := 12) dX11_readWell_7 (by decide) (fun c_4 => (by first | exact absurd c_4 (by decide) | exact absurd (by decide) c_4 : False).elim) (fun c_4 => ?_)
    refine zs_iconst (v := nI 0) dX11_readWell_10 (by decide) ?_
    have e : (pWell bt n L τ tk D) = ((tNu τ 1 30), τ, tk, (D.1, D.2.1, D.2.2.1, D.2.2.2.1, D.2.2.2.2.1, D.2.2.2.2.2.1, D.2.2.2.2.2.2.1, D.2.2.2.2.2.2.2)) := by rw [pWell, pNu_bn hq4] <;> rfl
    exact zs_zret dX11_readWell_11 rfl (Or.inl rfl) (Or.inr ⟨by rw [e]; exact hq4, rfl, by rw [e]; rfl⟩)
theorem tNm_2 {τ : zTk} (h : tNm τ = true) : τ.1 = 2 ∧ τ.2.2.2.2 = none := by
  unfold tNm at h
  rw [Bool.and_eq_true] at h
  exact ⟨of_decide_eq_true h.1, of_decide_eq_true h.2⟩
def pC1 (C : Nat) : Int32 := nI C - nI 1
theorem pC1_le {v C : Nat} (hv : v < 2147483648) (hC : C ≤ 99) : nI v ≤ pC1 C ↔ v < C := by
  unfold pC1
  rw [zi_le, nI_t hv, zi_sub (by rw [nI_t (by omega), nI_t (by omega)]; omega) (by rw [nI_t (by omega), nI_t (by omega)]; omega), nI_t (by omega), nI_t (by omega)]
  omega
theorem tNuC_r {τ : zTk} {C : Nat} (h : tNuC τ C = 0) : τ.1 = 3 ∧ τ.2.2.2.1 < C := by
  unfold tNuC at h
  split at h
  · split at h
    · exact absurd h (by decide)
    · rename_i h1 h2
      exact ⟨h1, by omega⟩
  · exact absurd h (by decide)
/-- a number's bytes are digits -/
theorem lTk_num {b : Nat → Nat} {n q : Nat} (hq : q ≤ n) (h : (lTk b q (lRun b n (n - q) q)).1 = 3) : (lTk b q (lRun b n (n - q) q)).2.1 = q ∧ (lTk b q (lRun b n (n - q) q)).2.2.1 = lRun b n (n - q) q ∧ lRun b n (n - q) q ≤ n ∧ ∀ j, q ≤ j → j < lRun b n (n - q) q → 48 ≤ b j ∧ b j ≤ 57 := by
  have hr := lRun_le (b := b) (n := n) (n - q) q
  have hd := lRun_D (b := b) (n := n) (n - q) q
  generalize lRun b n (n - q) q = e at hr hd h
  unfold lTk at h ⊢
  split at h
  · split at h
    · exact absurd h (by show ¬ (1 : Nat) = 3; decide)
    · exact absurd h (by show ¬ (2 : Nat) = 3; decide)
  · split at h
    · split at h
      · exact absurd h (by show ¬ (1 : Nat) = 3; decide)
      · rename_i h0 h1 h8
        rw [if_neg h0, if_pos h1, if_neg h8]
        refine ⟨rfl, rfl, by omega, fun j hj hj2 => ?_⟩
        have h3 := (hd j hj hj2).1
        have h4 := lLt_D b q (e - q) h1 (j - q) (by omega)
        rw [show q + (j - q) = j by omega] at h4
        rw [Bool.or_eq_true] at h3
        exact isD_iff.mp (h3.resolve_left h4)
    · exact absurd h (by show ¬ (1 : Nat) = 3; decide)
theorem lRun_1 {b : Nat → Nat} {n q : Nat} (hq : q < n) (h : (isL (b q) || isD (b q)) = true) : q < lRun b n (n - q) q := by
  rw [show n - q = (n - q - 1) + 1 by omega, lRun, if_pos ⟨hq, h⟩]
  have := (lRun_le (b := b) (n := n) (n - q - 1) (q + 1)).2
  omega
theorem nxt_num {b : Nat → Nat} {n L : Nat} {τ : zTk} (h : (nxt b n L τ).1 = 3) : (nxt b n L τ).2.2.1 ≤ n ∧ (∀ j, (nxt b n L τ).2.1 ≤ j → j < (nxt b n L τ).2.2.1 → 48 ≤ b j ∧ b j ≤ 57) ∧ (nxt b n L τ).2.1 < (nxt b n L τ).2.2.1 := by
  unfold nxt at h ⊢
  generalize lSk b (min n L) (min n L - τ.2.2.1) τ.2.2.1 = q at h ⊢
  unfold lAt at h ⊢
  split at h
  · exact absurd h (by show ¬ (0 : Nat) = 3; decide)
  · rename_i hq
    rw [if_neg hq]
    split at h
    · rename_i hl
      rw [if_pos hl]
      have := lTk_num (by omega) h
      rw [this.1, this.2.1]
      exact ⟨this.2.2.1, this.2.2.2, lRun_1 (by omega) (by rw [hl]; rfl)⟩
    · rename_i hl
      rw [if_neg hl]
      split at h
      · rename_i hdg
        rw [if_pos hdg]
        have := lTk_num (by omega) h
        rw [this.1, this.2.1]
        exact ⟨this.2.2.1, this.2.2.2, lRun_1 (by omega) (by rw [hdg, Bool.or_true])⟩
      · split at h
        · exact absurd h (by show ¬ (4 : Nat) = 3; decide)
        · exact absurd h (by show ¬ (1 : Nat) = 3; decide)
theorem nI_and7 : ∀ t, t < 128 → ∀ k, k < 7 → nI t &&& nI (2 ^ k) = nI (t &&& 2 ^ k) ∧ nI t ||| nI (2 ^ k) = nI (t ||| 2 ^ k) ∧ (t ||| 2 ^ k) < 128 := by decide +kernel
theorem dX11_readMan_0 : decode cX11_readMan 0 = .ok (.aload_n 0, 1) := by decide +kernel
theorem dX11_readMan_1 : decode cX11_readMan 1 = .ok (.getfield 34, 3) := by decide +kernel
theorem dX11_readMan_4 : decode cX11_readMan 4 = .ok (.bipush 12, 2) := by decide +kernel
theorem dX11_readMan_6 : decode cX11_readMan 6 = .ok (.if_icmp .lt 9, 3) := by decide +kernel
theorem dX11_readMan_9 : decode cX11_readMan 9 = .ok (.aload_n 1, 1) := by decide +kernel
theorem dX11_readMan_10 : decode cX11_readMan 10 = .ok (.iconst 4, 1) := by decide +kernel
theorem dX11_readMan_11 : decode cX11_readMan 11 = .ok (.invokevirtual 101, 3) := by decide +kernel
theorem dX11_readMan_14 : decode cX11_readMan 14 = .ok (.ireturn, 1) := by decide +kernel
theorem dX11_readMan_15 : decode cX11_readMan 15 = .ok (.aload_n 1, 1) := by decide +kernel
theorem dX11_readMan_16 : decode cX11_readMan 16 = .ok (.invokevirtual 144, 3) := by decide +kernel
theorem dX11_readMan_19 : decode cX11_readMan 19 = .ok (.aload_n 1, 1) := by decide +kernel
theorem dX11_readMan_20 : decode cX11_readMan 20 = .ok (.invokevirtual 147, 3) := by decide +kernel
theorem dX11_readMan_23 : decode cX11_readMan 23 = .ok (.ifCond .ne 9, 3) := by decide +kernel
theorem dX11_readMan_26 : decode cX11_readMan 26 = .ok (.aload_n 1, 1) := by decide +kernel
theorem dX11_readMan_27 : decode cX11_readMan 27 = .ok (.iconst 1, 1) := by decide +kernel
theorem dX11_readMan_28 : decode cX11_readMan 28 = .ok (.invokevirtual 101, 3) := by decide +kernel
theorem dX11_readMan_31 : decode cX11_readMan 31 = .ok (.ireturn, 1) := by decide +kernel
theorem dX11_readMan_32 : decode cX11_readMan 32 = .ok (.aload_n 0, 1) := by decide +kernel
theorem dX11_readMan_33 : decode cX11_readMan 33 = .ok (.aload_n 1, 1) := by decide +kernel
theorem dX11_readMan_34 : decode cX11_readMan 34 = .ok (.getfield 150, 3) := by decide +kernel
theorem dX11_readMan_37 : decode cX11_readMan 37 = .ok (.invokevirtual 153, 3) := by decide +kernel
theorem dX11_readMan_40 : decode cX11_readMan 40 = .ok (.iconst (-1), 1) := by decide +kernel
theorem dX11_readMan_41 : decode cX11_readMan 41 = .ok (.if_icmp .eq 9, 3) := by decide +kernel
theorem dX11_readMan_44 : decode cX11_readMan 44 = .ok (.aload_n 1, 1) := by decide +kernel
theorem dX11_readMan_45 : decode cX11_readMan 45 = .ok (.iconst 3, 1) := by decide +kernel
theorem dX11_readMan_46 : decode cX11_readMan 46 = .ok (.invokevirtual 101, 3) := by decide +kernel
theorem dX11_readMan_49 : decode cX11_readMan 49 = .ok (.ireturn, 1) := by decide +kernel
theorem dX11_readMan_50 : decode cX11_readMan 50 = .ok (.aload_n 0, 1) := by decide +kernel
theorem dX11_readMan_51 : decode cX11_readMan 51 = .ok (.getfield 9, 3) := by decide +kernel
theorem dX11_readMan_54 : decode cX11_readMan 54 = .ok (.aload_n 0, 1) := by decide +kernel
theorem dX11_readMan_55 : decode cX11_readMan 55 = .ok (.getfield 34, 3) := by decide +kernel
theorem dX11_readMan_58 : decode cX11_readMan 58 = .ok (.aload_n 1, 1) := by decide +kernel
theorem dX11_readMan_59 : decode cX11_readMan 59 = .ok (.getfield 150, 3) := by decide +kernel
theorem dX11_readMan_62 : decode cX11_readMan 62 = .ok (.iastore, 1) := by decide +kernel
theorem dX11_readMan_63 : decode cX11_readMan 63 = .ok (.aload_n 1, 1) := by decide +kernel
theorem dX11_readMan_64 : decode cX11_readMan 64 = .ok (.invokevirtual 144, 3) := by decide +kernel
theorem dX11_readMan_67 : decode cX11_readMan 67 = .ok (.aload_n 1, 1) := by decide +kernel
theorem dX11_readMan_68 : decode cX11_readMan 68 = .ok (.iconst 1, 1) := by decide +kernel
theorem dX11_readMan_69 : decode cX11_readMan 69 = .ok (.bipush 9, 2) := by decide +kernel
theorem dX11_readMan_71 : decode cX11_readMan 71 = .ok (.invokevirtual 137, 3) := by decide +kernel
theorem dX11_readMan_74 : decode cX11_readMan 74 = .ok (.ifCond .ne 5, 3) := by decide +kernel
theorem dX11_readMan_77 : decode cX11_readMan 77 = .ok (.iconst 0, 1) := by decide +kernel
theorem dX11_readMan_78 : decode cX11_readMan 78 = .ok (.ireturn, 1) := by decide +kernel
theorem dX11_readMan_79 : decode cX11_readMan 79 = .ok (.aload_n 0, 1) := by decide +kernel
theorem dX11_readMan_80 : decode cX11_readMan 80 = .ok (.getfield 15, 3) := by decide +kernel
theorem dX11_readMan_83 : decode cX11_readMan 83 = .ok (.aload_n 0, 1) := by decide +kernel
theorem dX11_readMan_84 : decode cX11_readMan 84 = .ok (.getfield 34, 3) := by decide +kernel
theorem dX11_readMan_87 : decode cX11_readMan 87 = .ok (.aload_n 1, 1) := by decide +kernel
theorem dX11_readMan_88 : decode cX11_readMan 88 = .ok (.getfield 141, 3) := by decide +kernel
theorem dX11_readMan_91 : decode cX11_readMan 91 = .ok (.iastore, 1) := by decide +kernel
theorem dX11_readMan_92 : decode cX11_readMan 92 = .ok (.aload_n 1, 1) := by decide +kernel
theorem dX11_readMan_93 : decode cX11_readMan 93 = .ok (.iconst 1, 1) := by decide +kernel
theorem dX11_readMan_94 : decode cX11_readMan 94 = .ok (.bipush 9, 2) := by decide +kernel
theorem dX11_readMan_96 : decode cX11_readMan 96 = .ok (.invokevirtual 137, 3) := by decide +kernel
theorem dX11_readMan_99 : decode cX11_readMan 99 = .ok (.ifCond .ne 5, 3) := by decide +kernel
theorem dX11_readMan_102 : decode cX11_readMan 102 = .ok (.iconst 0, 1) := by decide +kernel
theorem dX11_readMan_103 : decode cX11_readMan 103 = .ok (.ireturn, 1) := by decide +kernel
theorem dX11_readMan_104 : decode cX11_readMan 104 = .ok (.aload_n 0, 1) := by decide +kernel
theorem dX11_readMan_105 : decode cX11_readMan 105 = .ok (.getfield 18, 3) := by decide +kernel
theorem dX11_readMan_108 : decode cX11_readMan 108 = .ok (.aload_n 0, 1) := by decide +kernel
theorem dX11_readMan_109 : decode cX11_readMan 109 = .ok (.getfield 34, 3) := by decide +kernel
theorem dX11_readMan_112 : decode cX11_readMan 112 = .ok (.aload_n 1, 1) := by decide +kernel
theorem dX11_readMan_113 : decode cX11_readMan 113 = .ok (.getfield 141, 3) := by decide +kernel
theorem dX11_readMan_116 : decode cX11_readMan 116 = .ok (.iastore, 1) := by decide +kernel
theorem dX11_readMan_117 : decode cX11_readMan 117 = .ok (.aload_n 1, 1) := by decide +kernel
theorem dX11_readMan_118 : decode cX11_readMan 118 = .ok (.iconst 1, 1) := by decide +kernel
theorem dX11_readMan_119 : decode cX11_readMan 119 = .ok (.bipush 99, 2) := by decide +kernel
theorem dX11_readMan_121 : decode cX11_readMan 121 = .ok (.invokevirtual 137, 3) := by decide +kernel
theorem dX11_readMan_124 : decode cX11_readMan 124 = .ok (.ifCond .ne 5, 3) := by decide +kernel
theorem dX11_readMan_127 : decode cX11_readMan 127 = .ok (.iconst 0, 1) := by decide +kernel
theorem dX11_readMan_128 : decode cX11_readMan 128 = .ok (.ireturn, 1) := by decide +kernel
theorem dX11_readMan_129 : decode cX11_readMan 129 = .ok (.aload_n 0, 1) := by decide +kernel
theorem dX11_readMan_130 : decode cX11_readMan 130 = .ok (.getfield 21, 3) := by decide +kernel
theorem dX11_readMan_133 : decode cX11_readMan 133 = .ok (.aload_n 0, 1) := by decide +kernel
theorem dX11_readMan_134 : decode cX11_readMan 134 = .ok (.getfield 34, 3) := by decide +kernel
theorem dX11_readMan_137 : decode cX11_readMan 137 = .ok (.aload_n 1, 1) := by decide +kernel
theorem dX11_readMan_138 : decode cX11_readMan 138 = .ok (.getfield 141, 3) := by decide +kernel
theorem dX11_readMan_141 : decode cX11_readMan 141 = .ok (.iastore, 1) := by decide +kernel
theorem dX11_readMan_142 : decode cX11_readMan 142 = .ok (.aload_n 0, 1) := by decide +kernel
theorem dX11_readMan_143 : decode cX11_readMan 143 = .ok (.dup, 1) := by decide +kernel
theorem dX11_readMan_144 : decode cX11_readMan 144 = .ok (.getfield 34, 3) := by decide +kernel
theorem dX11_readMan_147 : decode cX11_readMan 147 = .ok (.iconst 1, 1) := by decide +kernel
theorem dX11_readMan_148 : decode cX11_readMan 148 = .ok (.iadd, 1) := by decide +kernel
theorem dX11_readMan_149 : decode cX11_readMan 149 = .ok (.putfield 34, 3) := by decide +kernel
theorem dX11_readMan_152 : decode cX11_readMan 152 = .ok (.iconst 1, 1) := by decide +kernel
theorem dX11_readMan_153 : decode cX11_readMan 153 = .ok (.ireturn, 1) := by decide +kernel
set_option maxRecDepth 100000 in
theorem s_rdMan (l : Launch) (dd : Nat) (x b n L y : Nat) (ay : Nat → Nat) (bt : Nat → Nat) (τ : zTk) (pl tk : Nat) (D : zYd) (hd : 5 ≤ dd) (hn : n ≤ 740) (hL : L ≤ 740) (hbt : ∀ j, bt j < 256) (hτ : tOK τ) (hD : yI D) : zSp l mX11_readMan dd 0 0 [.ref y, .ref x] [(x, .inr (8, fTx b n L τ 0 pl (nI tk))), (b, .inl (0, 740, .inl (nF bt))), (y, .inr (9, fYard ay (ysN D.1 D.2.1))), (ay 1, .inl (0, 12, .inl (nF D.2.2.1))), (ay 2, .inl (0, 12, .inl (nF D.2.2.2.1))), (ay 3, .inl (0, 12, .inl (nF D.2.2.2.2.1))), (ay 4, .inl (0, 12, .inl (nF D.2.2.2.2.2.1))), (ay 5, .inl (0, 64, .inl (nF D.2.2.2.2.2.2.1))), (ay 6, .inl (1, 64, .inl (nF D.2.2.2.2.2.2.2)))] (fun r K' => ((pMan bt n L τ tk D).1 = 0 ∧ r = some (.int 1) ∧ K' = kTx x b n L bt (pMan bt n L τ tk D).2.1 0 pl (pMan bt n L τ tk D).2.2.1 ++ kYd y ay (pMan bt n L τ tk D).2.2.2) ∨ (¬ (pMan bt n L τ tk D).1 = 0 ∧ r = some (.int 0) ∧ K' = kTx x b n L bt (pMan bt n L τ tk D).2.1 (pMan bt n L τ tk D).1 (pMan bt n L τ tk D).2.1.2.1 (pMan bt n L τ tk D).2.2.1 ++ kYd y ay (pMan bt n L τ tk D).2.2.2)) := by
  refine zSp.of (by decide) (Nat.le_of_ble_eq_true rfl) (fun h0 => ?_)
  show zS _ 0 0 0 [(0, .ref y), (1, .ref x)] [] [(x, .inr (8, fTx b n L τ 0 pl (nI tk))), (b, .inl (0, 740, .inl (nF bt))), (y, .inr (9, fYard ay (ysN D.1 D.2.1))), (ay 1, .inl (0, 12, .inl (nF D.2.2.1))), (ay 2, .inl (0, 12, .inl (nF D.2.2.2.1))), (ay 3, .inl (0, 12, .inl (nF D.2.2.2.2.1))), (ay 4, .inl (0, 12, .inl (nF D.2.2.2.2.2.1))), (ay 5, .inl (0, 64, .inl (nF D.2.2.2.2.2.2.1))), (ay 6, .inl (1, 64, .inl (nF D.2.2.2.2.2.2.2)))]
  have hD0 := hD.1
  refine zs_aload_n dX11_readMan_0 rfl rfl ?_
  refine zs_get 2 dX11_readMan_1 zf_RX11_34 rfl (v := .int (nI (D.1 0))) rfl ?_
  refine zs_bipush (v := nI 12) dX11_readMan_4 (by decide) ?_
  refine zs_icmp_lt (tgt := 15) dX11_readMan_6 (by decide) (fun c_1 => ?_) (fun c_1 => ?_)
  · have c_1 : (D.1 0) < 12 := by have hc := c_1; rw [nI_lt' (by omega) (by omega)] at hc; exact hc
    refine zs_aload_n dX11_readMan_15 rfl rfl ?_
    refine zs_callV (M := mX9_next) (As := []) (st := []) (Kc := [(x, .inr (8, fTx b n L τ 0 pl (nI tk))), (b, .inl (0, 740, .inl (nF bt)))]) (Kr := [(y, .inr (9, fYard ay (ysN D.1 D.2.1))), (ay 1, .inl (0, 12, .inl (nF D.2.2.1))), (ay 2, .inl (0, 12, .inl (nF D.2.2.2.1))), (ay 3, .inl (0, 12, .inl (nF D.2.2.2.2.1))), (ay 4, .inl (0, 12, .inl (nF D.2.2.2.2.2.1))), (ay 5, .inl (0, 64, .inl (nF D.2.2.2.2.2.2.1))), (ay 6, .inl (1, 64, .inl (nF D.2.2.2.2.2.2.2)))]) [0, 1] [2, 3, 4, 5, 6, 7, 8] 0 dX11_readMan_16 zl_RX11_144 kX9_next rfl rfl rfl rfl rfl (by decide) rfl rfl (show dd - 1 + 1 ≤ dd by omega) (Nat.zero_le _) (Nat.zero_le _) (Nat.le_of_ble_eq_true rfl) (s_next l (dd - 1) x b n L bt τ 0 pl (nI tk) (by omega) hn hL hbt hτ.2.2.1) (fun r K1 hr => ?_)
    obtain ⟨rfl, rfl⟩ := hr
    refine zs_K (K' := [(x, .inr (8, fTx b n L (nxt bt n L τ) 0 pl (nI tk))), (b, .inl (0, 740, .inl (nF bt))), (y, .inr (9, fYard ay (ysN D.1 D.2.1))), (ay 1, .inl (0, 12, .inl (nF D.2.2.1))), (ay 2, .inl (0, 12, .inl (nF D.2.2.2.1))), (ay 3, .inl (0, 12, .inl (nF D.2.2.2.2.1))), (ay 4, .inl (0, 12, .inl (nF D.2.2.2.2.2.1))), (ay 5, .inl (0, 64, .inl (nF D.2.2.2.2.2.2.1))), (ay 6, .inl (1, 64, .inl (nF D.2.2.2.2.2.2.2)))]) [7, 8, 0, 1, 2, 3, 4, 5, 6] rfl (by decide) ?_
    refine zs_aload_n dX11_readMan_19 rfl rfl ?_
    refine zs_callV (M := mX9_isName) (As := []) (st := []) (Kc := [(x, .inr (8, fTx b n L (nxt bt n L τ) 0 pl (nI tk)))]) (Kr := [(b, .inl (0, 740, .inl (nF bt))), (y, .inr (9, fYard ay (ysN D.1 D.2.1))), (ay 1, .inl (0, 12, .inl (nF D.2.2.1))), (ay 2, .inl (0, 12, .inl (nF D.2.2.2.1))), (ay 3, .inl (0, 12, .inl (nF D.2.2.2.2.1))), (ay 4, .inl (0, 12, .inl (nF D.2.2.2.2.2.1))), (ay 5, .inl (0, 64, .inl (nF D.2.2.2.2.2.2.1))), (ay 6, .inl (1, 64, .inl (nF D.2.2.2.2.2.2.2)))]) [0] [1, 2, 3, 4, 5, 6, 7, 8] 0 dX11_readMan_20 zl_RX11_147 kX9_isName rfl rfl rfl rfl rfl (by decide) rfl rfl (show dd - 1 + 1 ≤ dd by omega) (Nat.zero_le _) (Nat.zero_le _) (Nat.le_of_ble_eq_true rfl) (s_isName l (dd - 1) x b n L (nxt bt n L τ) 0 pl (nI tk) (nxt_OK hbt hn)) (fun r K1 hr => ?_)
    obtain ⟨rfl, rfl⟩ := hr
    refine zs_K (K' := [(x, .inr (8, fTx b n L (nxt bt n L τ) 0 pl (nI tk))), (b, .inl (0, 740, .inl (nF bt))), (y, .inr (9, fYard ay (ysN D.1 D.2.1))), (ay 1, .inl (0, 12, .inl (nF D.2.2.1))), (ay 2, .inl (0, 12, .inl (nF D.2.2.2.1))), (ay 3, .inl (0, 12, .inl (nF D.2.2.2.2.1))), (ay 4, .inl (0, 12, .inl (nF D.2.2.2.2.2.1))), (ay 5, .inl (0, 64, .inl (nF D.2.2.2.2.2.2.1))), (ay 6, .inl (1, 64, .inl (nF D.2.2.2.2.2.2.2)))]) [8, 0, 1, 2, 3, 4, 5, 6, 7] rfl (by decide) ?_
    refine zs_if_ne (tgt := 32) dX11_readMan_23 (by decide) (fun c_2 => ?_) (fun c_2 => ?_)
    · have hname := bI_t c_2
      have hv1 := (nxt_OK (L := L) (τ := τ) hbt hn).2.2.2.2.2.2.1 (tNm_2 hname).1
      refine zs_aload_n dX11_readMan_32 rfl rfl ?_
      refine zs_aload_n dX11_readMan_33 rfl rfl ?_
      refine zs_get 0 dX11_readMan_34 zf_RX11_150 rfl (v := .int (nI (nxt bt n L τ).2.2.2.1)) rfl ?_
      refine zs_callV (M := mX11_manNamed) (As := [.int (nI (nxt bt n L τ).2.2.2.1)]) (st := []) (Kc := [(y, .inr (9, fYard ay (ysN D.1 D.2.1))), (ay 1, .inl (0, 12, .inl (nF D.2.2.1)))]) (Kr := [(x, .inr (8, fTx b n L (nxt bt n L τ) 0 pl (nI tk))), (b, .inl (0, 740, .inl (nF bt))), (ay 2, .inl (0, 12, .inl (nF D.2.2.2.1))), (ay 3, .inl (0, 12, .inl (nF D.2.2.2.2.1))), (ay 4, .inl (0, 12, .inl (nF D.2.2.2.2.2.1))), (ay 5, .inl (0, 64, .inl (nF D.2.2.2.2.2.2.1))), (ay 6, .inl (1, 64, .inl (nF D.2.2.2.2.2.2.2)))]) [2, 3] [0, 1, 4, 5, 6, 7, 8] 0 dX11_readMan_37 zl_RX11_153 kX11_manNamed rfl rfl rfl rfl rfl (by decide) rfl rfl (show dd - 1 + 1 ≤ dd by omega) (Nat.zero_le _) (Nat.zero_le _) (Nat.le_of_ble_eq_true rfl) (s_manNamed l (dd - 1) y ay D ((nxt bt n L τ).2.2.2.1) hv1 hD.1 hD.2.2.2.1) (fun r K1 hr => ?_)
      obtain ⟨rfl, rfl⟩ := hr
      refine zs_K (K' := [(x, .inr (8, fTx b n L (nxt bt n L τ) 0 pl (nI tk))), (b, .inl (0, 740, .inl (nF bt))), (y, .inr (9, fYard ay (ysN D.1 D.2.1))), (ay 1, .inl (0, 12, .inl (nF D.2.2.1))), (ay 2, .inl (0, 12, .inl (nF D.2.2.2.1))), (ay 3, .inl (0, 12, .inl (nF D.2.2.2.2.1))), (ay 4, .inl (0, 12, .inl (nF D.2.2.2.2.2.1))), (ay 5, .inl (0, 64, .inl (nF D.2.2.2.2.2.2.1))), (ay 6, .inl (1, 64, .inl (nF D.2.2.2.2.2.2.2)))]) [0, 1, 7, 8, 2, 3, 4, 5, 6] rfl (by decide) ?_
      refine zs_iconst (v := (-1)) dX11_readMan_40 (by decide) ?_
      refine zs_icmp_eq (tgt := 50) dX11_readMan_41 (by decide) (fun c_3 => ?_) (fun c_3 => ?_)
      · refine zs_aload_n dX11_readMan_50 rfl rfl ?_
        refine zs_get 2 dX11_readMan_51 zf_RX11_9 rfl (v := .ref (ay 1)) rfl ?_
        refine zs_aload_n dX11_readMan_54 rfl rfl ?_
        refine zs_get 2 dX11_readMan_55 zf_RX11_34 rfl (v := .int (nI (D.1 0))) rfl ?_
        refine zs_aload_n dX11_readMan_58 rfl rfl ?_
        refine zs_get 0 dX11_readMan_59 zf_RX11_150 rfl (v := .int (nI (nxt bt n L τ).2.2.2.1)) rfl ?_
        refine zs_iast 3 dX11_readMan_62 rfl (vp_in_nI (by omega) (by omega)) ?_
        rw [nI_c (n := D.1 0) (by omega), nF_u]
        show zS _ _ _ _ _ _ [(x, .inr (8, fTx b n L (nxt bt n L τ) 0 pl (nI tk))), (b, .inl (0, 740, .inl (nF bt))), (y, .inr (9, fYard ay (ysN D.1 D.2.1))), (ay 1, .inl (0, 12, .inl (nF (un D.2.2.1 (D.1 0) ((nxt bt n L τ).2.2.2.1))))), (ay 2, .inl (0, 12, .inl (nF D.2.2.2.1))), (ay 3, .inl (0, 12, .inl (nF D.2.2.2.2.1))), (ay 4, .inl (0, 12, .inl (nF D.2.2.2.2.2.1))), (ay 5, .inl (0, 64, .inl (nF D.2.2.2.2.2.2.1))), (ay 6, .inl (1, 64, .inl (nF D.2.2.2.2.2.2.2)))]
        refine zs_aload_n dX11_readMan_63 rfl rfl ?_
        refine zs_callV (M := mX9_next) (As := []) (st := []) (Kc := [(x, .inr (8, fTx b n L (nxt bt n L τ) 0 pl (nI tk))), (b, .inl (0, 740, .inl (nF bt)))]) (Kr := [(y, .inr (9, fYard ay (ysN D.1 D.2.1))), (ay 1, .inl (0, 12, .inl (nF (un D.2.2.1 (D.1 0) ((nxt bt n L τ).2.2.2.1))))), (ay 2, .inl (0, 12, .inl (nF D.2.2.2.1))), (ay 3, .inl (0, 12, .inl (nF D.2.2.2.2.1))), (ay 4, .inl (0, 12, .inl (nF D.2.2.2.2.2.1))), (ay 5, .inl (0, 64, .inl (nF D.2.2.2.2.2.2.1))), (ay 6, .inl (1, 64, .inl (nF D.2.2.2.2.2.2.2)))]) [0, 1] [2, 3, 4, 5, 6, 7, 8] 0 dX11_readMan_64 zl_RX11_144 kX9_next rfl rfl rfl rfl rfl (by decide) rfl rfl (show dd - 1 + 1 ≤ dd by omega) (Nat.zero_le _) (Nat.zero_le _) (Nat.le_of_ble_eq_true rfl) (s_next l (dd - 1) x b n L bt (nxt bt n L τ) 0 pl (nI tk) (by omega) hn hL hbt (nxt_OK hbt hn).2.2.1) (fun r K1 hr => ?_)
        obtain ⟨rfl, rfl⟩ := hr
        refine zs_K (K' := [(x, .inr (8, fTx b n L (nxt bt n L (nxt bt n L τ)) 0 pl (nI tk))), (b, .inl (0, 740, .inl (nF bt))), (y, .inr (9, fYard ay (ysN D.1 D.2.1))), (ay 1, .inl (0, 12, .inl (nF (un D.2.2.1 (D.1 0) ((nxt bt n L τ).2.2.2.1))))), (ay 2, .inl (0, 12, .inl (nF D.2.2.2.1))), (ay 3, .inl (0, 12, .inl (nF D.2.2.2.2.1))), (ay 4, .inl (0, 12, .inl (nF D.2.2.2.2.2.1))), (ay 5, .inl (0, 64, .inl (nF D.2.2.2.2.2.2.1))), (ay 6, .inl (1, 64, .inl (nF D.2.2.2.2.2.2.2)))]) [7, 8, 0, 1, 2, 3, 4, 5, 6] rfl (by decide) ?_
        refine zs_aload_n dX11_readMan_67 rfl rfl ?_
        refine zs_iconst (v := nI 1) dX11_readMan_68 (by decide) ?_
        refine zs_bipush (v := nI 9) dX11_readMan_69 (by decide) ?_
        refine zs_callV (M := mX9_takeNumber) (As := [.int (nI 1), .int (nI 9)]) (st := []) (Kc := [(x, .inr (8, fTx b n L (nxt bt n L (nxt bt n L τ)) 0 pl (nI tk))), (b, .inl (0, 740, .inl (nF bt)))]) (Kr := [(y, .inr (9, fYard ay (ysN D.1 D.2.1))), (ay 1, .inl (0, 12, .inl (nF (un D.2.2.1 (D.1 0) ((nxt bt n L τ).2.2.2.1))))), (ay 2, .inl (0, 12, .inl (nF D.2.2.2.1))), (ay 3, .inl (0, 12, .inl (nF D.2.2.2.2.1))), (ay 4, .inl (0, 12, .inl (nF D.2.2.2.2.2.1))), (ay 5, .inl (0, 64, .inl (nF D.2.2.2.2.2.2.1))), (ay 6, .inl (1, 64, .inl (nF D.2.2.2.2.2.2.2)))]) [0, 1] [2, 3, 4, 5, 6, 7, 8] 0 dX11_readMan_71 zl_RX11_137 kX9_takeNumber rfl rfl rfl rfl rfl (by decide) rfl rfl (show dd - 1 + 1 ≤ dd by omega) (Nat.zero_le _) (Nat.zero_le _) (Nat.le_of_ble_eq_true rfl) (s_takeNumber l (dd - 1) x b n L bt (nxt bt n L (nxt bt n L τ)) pl (nI tk) 1 9 (by omega) hn hL hbt (nxt_OK hbt hn) (by omega) (by omega)) (fun r K1 hr => ?_)
        rcases hr with ⟨hq71, rfl, rfl⟩ | ⟨hq71, rfl, rfl⟩
        · have hr71 := tNu_r hq71
          refine zs_K (K' := [(x, .inr (8, fTx b n L (nxt bt n L (nxt bt n L (nxt bt n L τ))) 0 pl (nI (nxt bt n L (nxt bt n L τ)).2.2.2.1))), (b, .inl (0, 740, .inl (nF bt))), (y, .inr (9, fYard ay (ysN D.1 D.2.1))), (ay 1, .inl (0, 12, .inl (nF (un D.2.2.1 (D.1 0) ((nxt bt n L τ).2.2.2.1))))), (ay 2, .inl (0, 12, .inl (nF D.2.2.2.1))), (ay 3, .inl (0, 12, .inl (nF D.2.2.2.2.1))), (ay 4, .inl (0, 12, .inl (nF D.2.2.2.2.2.1))), (ay 5, .inl (0, 64, .inl (nF D.2.2.2.2.2.2.1))), (ay 6, .inl (1, 64, .inl (nF D.2.2.2.2.2.2.2)))]) [7, 8, 0, 1, 2, 3, 4, 5, 6] rfl (by decide) ?_
          refine zs_if_ne (tgt := 79) dX11_readMan_74 (by decide) (fun c_4 => ?_) (fun c_4 => (by first | exact absurd c_4 (by decide) | exact absurd (by decide) c_4 : False).elim)
          refine zs_aload_n dX11_readMan_79 rfl rfl ?_
          refine zs_get 2 dX11_readMan_80 zf_RX11_15 rfl (v := .ref (ay 2)) rfl ?_
          refine zs_aload_n dX11_readMan_83 rfl rfl ?_
          refine zs_get 2 dX11_readMan_84 zf_RX11_34 rfl (v := .int (nI (D.1 0))) rfl ?_
          refine zs_aload_n dX11_readMan_87 rfl rfl ?_
          refine zs_get 0 dX11_readMan_88 zf_RX11_141 rfl (v := .int (nI (nxt bt n L (nxt bt n L τ)).2.2.2.1)) rfl ?_
          refine zs_iast 4 dX11_readMan_91 rfl (vp_in_nI (by omega) (by omega)) ?_
          rw [nI_c (n := D.1 0) (by omega), nF_u]
          show zS _ _ _ _ _ _ [(x, .inr (8, fTx b n L (nxt bt n L (nxt bt n L (nxt bt n L τ))) 0 pl (nI (nxt bt n L (nxt bt n L τ)).2.2.2.1))), (b, .inl (0, 740, .inl (nF bt))), (y, .inr (9, fYard ay (ysN D.1 D.2.1))), (ay 1, .inl (0, 12, .inl (nF (un D.2.2.1 (D.1 0) ((nxt bt n L τ).2.2.2.1))))), (ay 2, .inl (0, 12, .inl (nF (un D.2.2.2.1 (D.1 0) ((nxt bt n L (nxt bt n L τ)).2.2.2.1))))), (ay 3, .inl (0, 12, .inl (nF D.2.2.2.2.1))), (ay 4, .inl (0, 12, .inl (nF D.2.2.2.2.2.1))), (ay 5, .inl (0, 64, .inl (nF D.2.2.2.2.2.2.1))), (ay 6, .inl (1, 64, .inl (nF D.2.2.2.2.2.2.2)))]
          refine zs_aload_n dX11_readMan_92 rfl rfl ?_
          refine zs_iconst (v := nI 1) dX11_readMan_93 (by decide) ?_
          refine zs_bipush (v := nI 9) dX11_readMan_94 (by decide) ?_
          refine zs_callV (M := mX9_takeNumber) (As := [.int (nI 1), .int (nI 9)]) (st := []) (Kc := [(x, .inr (8, fTx b n L (nxt bt n L (nxt bt n L (nxt bt n L τ))) 0 pl (nI (nxt bt n L (nxt bt n L τ)).2.2.2.1))), (b, .inl (0, 740, .inl (nF bt)))]) (Kr := [(y, .inr (9, fYard ay (ysN D.1 D.2.1))), (ay 1, .inl (0, 12, .inl (nF (un D.2.2.1 (D.1 0) ((nxt bt n L τ).2.2.2.1))))), (ay 2, .inl (0, 12, .inl (nF (un D.2.2.2.1 (D.1 0) ((nxt bt n L (nxt bt n L τ)).2.2.2.1))))), (ay 3, .inl (0, 12, .inl (nF D.2.2.2.2.1))), (ay 4, .inl (0, 12, .inl (nF D.2.2.2.2.2.1))), (ay 5, .inl (0, 64, .inl (nF D.2.2.2.2.2.2.1))), (ay 6, .inl (1, 64, .inl (nF D.2.2.2.2.2.2.2)))]) [0, 1] [2, 3, 4, 5, 6, 7, 8] 0 dX11_readMan_96 zl_RX11_137 kX9_takeNumber rfl rfl rfl rfl rfl (by decide) rfl rfl (show dd - 1 + 1 ≤ dd by omega) (Nat.zero_le _) (Nat.zero_le _) (Nat.le_of_ble_eq_true rfl) (s_takeNumber l (dd - 1) x b n L bt (nxt bt n L (nxt bt n L (nxt bt n L τ))) pl (nI (nxt bt n L (nxt bt n L τ)).2.2.2.1) 1 9 (by omega) hn hL hbt (nxt_OK hbt hn) (by omega) (by omega)) (fun r K1 hr => ?_)
          rcases hr with ⟨hq96, rfl, rfl⟩ | ⟨hq96, rfl, rfl⟩
          · have hr96 := tNu_r hq96
            refine zs_K (K' := [(x, .inr (8, fTx b n L (nxt bt n L (nxt bt n L (nxt bt n L (nxt bt n L τ)))) 0 pl (nI (nxt bt n L (nxt bt n L (nxt bt n L τ))).2.2.2.1))), (b, .inl (0, 740, .inl (nF bt))), (y, .inr (9, fYard ay (ysN D.1 D.2.1))), (ay 1, .inl (0, 12, .inl (nF (un D.2.2.1 (D.1 0) ((nxt bt n L τ).2.2.2.1))))), (ay 2, .inl (0, 12, .inl (nF (un D.2.2.2.1 (D.1 0) ((nxt bt n L (nxt bt n L τ)).2.2.2.1))))), (ay 3, .inl (0, 12, .inl (nF D.2.2.2.2.1))), (ay 4, .inl (0, 12, .inl (nF D.2.2.2.2.2.1))), (ay 5, .inl (0, 64, .inl (nF D.2.2.2.2.2.2.1))), (ay 6, .inl (1, 64, .inl (nF D.2.2.2.2.2.2.2)))]) [7, 8, 0, 1, 2, 3, 4, 5, 6] rfl (by decide) ?_
            refine zs_if_ne (tgt := 104) dX11_readMan_99 (by decide) (fun c_5 => ?_) (fun c_5 => (by first | exact absurd c_5 (by decide) | exact absurd (by decide) c_5 : False).elim)
            refine zs_aload_n dX11_readMan_104 rfl rfl ?_
            refine zs_get 2 dX11_readMan_105 zf_RX11_18 rfl (v := .ref (ay 3)) rfl ?_
            refine zs_aload_n dX11_readMan_108 rfl rfl ?_
            refine zs_get 2 dX11_readMan_109 zf_RX11_34 rfl (v := .int (nI (D.1 0))) rfl ?_
            refine zs_aload_n dX11_readMan_112 rfl rfl ?_
            refine zs_get 0 dX11_readMan_113 zf_RX11_141 rfl (v := .int (nI (nxt bt n L (nxt bt n L (nxt bt n L τ))).2.2.2.1)) rfl ?_
            refine zs_iast 5 dX11_readMan_116 rfl (vp_in_nI (by omega) (by omega)) ?_
            rw [nI_c (n := D.1 0) (by omega), nF_u]
            show zS _ _ _ _ _ _ [(x, .inr (8, fTx b n L (nxt bt n L (nxt bt n L (nxt bt n L (nxt bt n L τ)))) 0 pl (nI (nxt bt n L (nxt bt n L (nxt bt n L τ))).2.2.2.1))), (b, .inl (0, 740, .inl (nF bt))), (y, .inr (9, fYard ay (ysN D.1 D.2.1))), (ay 1, .inl (0, 12, .inl (nF (un D.2.2.1 (D.1 0) ((nxt bt n L τ).2.2.2.1))))), (ay 2, .inl (0, 12, .inl (nF (un D.2.2.2.1 (D.1 0) ((nxt bt n L (nxt bt n L τ)).2.2.2.1))))), (ay 3, .inl (0, 12, .inl (nF (un D.2.2.2.2.1 (D.1 0) ((nxt bt n L (nxt bt n L (nxt bt n L τ))).2.2.2.1))))), (ay 4, .inl (0, 12, .inl (nF D.2.2.2.2.2.1))), (ay 5, .inl (0, 64, .inl (nF D.2.2.2.2.2.2.1))), (ay 6, .inl (1, 64, .inl (nF D.2.2.2.2.2.2.2)))]
            refine zs_aload_n dX11_readMan_117 rfl rfl ?_
            refine zs_iconst (v := nI 1) dX11_readMan_118 (by decide) ?_
            refine zs_bipush (v := nI 99) dX11_readMan_119 (by decide) ?_
            refine zs_callV (M := mX9_takeNumber) (As := [.int (nI 1), .int (nI 99)]) (st := []) (Kc := [(x, .inr (8, fTx b n L (nxt bt n L (nxt bt n L (nxt bt n L (nxt bt n L τ)))) 0 pl (nI (nxt bt n L (nxt bt n L (nxt bt n L τ))).2.2.2.1))), (b, .inl (0, 740, .inl (nF bt)))]) (Kr := [(y, .inr (9, fYard ay (ysN D.1 D.2.1))), (ay 1, .inl (0, 12, .inl (nF (un D.2.2.1 (D.1 0) ((nxt bt n L τ).2.2.2.1))))), (ay 2, .inl (0, 12, .inl (nF (un D.2.2.2.1 (D.1 0) ((nxt bt n L (nxt bt n L τ)).2.2.2.1))))), (ay 3, .inl (0, 12, .inl (nF (un D.2.2.2.2.1 (D.1 0) ((nxt bt n L (nxt bt n L (nxt bt n L τ))).2.2.2.1))))), (ay 4, .inl (0, 12, .inl (nF D.2.2.2.2.2.1))), (ay 5, .inl (0, 64, .inl (nF D.2.2.2.2.2.2.1))), (ay 6, .inl (1, 64, .inl (nF D.2.2.2.2.2.2.2)))]) [0, 1] [2, 3, 4, 5, 6, 7, 8] 0 dX11_readMan_121 zl_RX11_137 kX9_takeNumber rfl rfl rfl rfl rfl (by decide) rfl rfl (show dd - 1 + 1 ≤ dd by omega) (Nat.zero_le _) (Nat.zero_le _) (Nat.le_of_ble_eq_true rfl) (s_takeNumber l (dd - 1) x b n L bt (nxt bt n L (nxt bt n L (nxt bt n L (nxt bt n L τ)))) pl (nI (nxt bt n L (nxt bt n L (nxt bt n L τ))).2.2.2.1) 1 99 (by omega) hn hL hbt (nxt_OK hbt hn) (by omega) (by omega)) (fun r K1 hr => ?_)
            rcases hr with ⟨hq121, rfl, rfl⟩ | ⟨hq121, rfl, rfl⟩
            · have hr121 := tNu_r hq121
              refine zs_K (K' := [(x, .inr (8, fTx b n L (nxt bt n L (nxt bt n L (nxt bt n L (nxt bt n L (nxt bt n L τ))))) 0 pl (nI (nxt bt n L (nxt bt n L (nxt bt n L (nxt bt n L τ)))).2.2.2.1))), (b, .inl (0, 740, .inl (nF bt))), (y, .inr (9, fYard ay (ysN D.1 D.2.1))), (ay 1, .inl (0, 12, .inl (nF (un D.2.2.1 (D.1 0) ((nxt bt n L τ).2.2.2.1))))), (ay 2, .inl (0, 12, .inl (nF (un D.2.2.2.1 (D.1 0) ((nxt bt n L (nxt bt n L τ)).2.2.2.1))))), (ay 3, .inl (0, 12, .inl (nF (un D.2.2.2.2.1 (D.1 0) ((nxt bt n L (nxt bt n L (nxt bt n L τ))).2.2.2.1))))), (ay 4, .inl (0, 12, .inl (nF D.2.2.2.2.2.1))), (ay 5, .inl (0, 64, .inl (nF D.2.2.2.2.2.2.1))), (ay 6, .inl (1, 64, .inl (nF D.2.2.2.2.2.2.2)))]) [7, 8, 0, 1, 2, 3, 4, 5, 6] rfl (by decide) ?_
              refine zs_if_ne (tgt := 129) dX11_readMan_124 (by decide) (fun c_6 => ?_) (fun c_6 => (by first | exact absurd c_6 (by decide) | exact absurd (by decide) c_6 : False).elim)
              refine zs_aload_n dX11_readMan_129 rfl rfl ?_
              refine zs_get 2 dX11_readMan_130 zf_RX11_21 rfl (v := .ref (ay 4)) rfl ?_
              refine zs_aload_n dX11_readMan_133 rfl rfl ?_
              refine zs_get 2 dX11_readMan_134 zf_RX11_34 rfl (v := .int (nI (D.1 0))) rfl ?_
              refine zs_aload_n dX11_readMan_137 rfl rfl ?_
              refine zs_get 0 dX11_readMan_138 zf_RX11_141 rfl (v := .int (nI (nxt bt n L (nxt bt n L (nxt bt n L (nxt bt n L τ)))).2.2.2.1)) rfl ?_
              refine zs_iast 6 dX11_readMan_141 rfl (vp_in_nI (by omega) (by omega)) ?_
              rw [nI_c (n := D.1 0) (by omega), nF_u]
              show zS _ _ _ _ _ _ [(x, .inr (8, fTx b n L (nxt bt n L (nxt bt n L (nxt bt n L (nxt bt n L (nxt bt n L τ))))) 0 pl (nI (nxt bt n L (nxt bt n L (nxt bt n L (nxt bt n L τ)))).2.2.2.1))), (b, .inl (0, 740, .inl (nF bt))), (y, .inr (9, fYard ay (ysN D.1 D.2.1))), (ay 1, .inl (0, 12, .inl (nF (un D.2.2.1 (D.1 0) ((nxt bt n L τ).2.2.2.1))))), (ay 2, .inl (0, 12, .inl (nF (un D.2.2.2.1 (D.1 0) ((nxt bt n L (nxt bt n L τ)).2.2.2.1))))), (ay 3, .inl (0, 12, .inl (nF (un D.2.2.2.2.1 (D.1 0) ((nxt bt n L (nxt bt n L (nxt bt n L τ))).2.2.2.1))))), (ay 4, .inl (0, 12, .inl (nF (un D.2.2.2.2.2.1 (D.1 0) ((nxt bt n L (nxt bt n L (nxt bt n L (nxt bt n L τ)))).2.2.2.1))))), (ay 5, .inl (0, 64, .inl (nF D.2.2.2.2.2.2.1))), (ay 6, .inl (1, 64, .inl (nF D.2.2.2.2.2.2.2)))]
              refine zs_aload_n dX11_readMan_142 rfl rfl ?_
              refine zs_dup dX11_readMan_143 rfl ?_
              refine zs_get 2 dX11_readMan_144 zf_RX11_34 rfl (v := .int (nI (D.1 0))) rfl ?_
              refine zs_iconst (v := nI 1) dX11_readMan_147 (by decide) ?_
              refine zs_iadd dX11_readMan_148 ?_
              refine zs_as (y := nI ((D.1 0) + 1)) (nI_add _ _) ?_
              refine zs_put 2 dX11_readMan_149 zf_RX11_34 rfl (Nat.le_of_ble_eq_true rfl) (zPv_i _) ?_
              show zS _ _ _ _ _ _ [(x, .inr (8, fTx b n L (nxt bt n L (nxt bt n L (nxt bt n L (nxt bt n L (nxt bt n L τ))))) 0 pl (nI (nxt bt n L (nxt bt n L (nxt bt n L (nxt bt n L τ)))).2.2.2.1))), (b, .inl (0, 740, .inl (nF bt))), (y, .inr (9, fYard ay (ysN (un D.1 0 ((D.1 0) + 1)) D.2.1))), (ay 1, .inl (0, 12, .inl (nF (un D.2.2.1 (D.1 0) ((nxt bt n L τ).2.2.2.1))))), (ay 2, .inl (0, 12, .inl (nF (un D.2.2.2.1 (D.1 0) ((nxt bt n L (nxt bt n L τ)).2.2.2.1))))), (ay 3, .inl (0, 12, .inl (nF (un D.2.2.2.2.1 (D.1 0) ((nxt bt n L (nxt bt n L (nxt bt n L τ))).2.2.2.1))))), (ay 4, .inl (0, 12, .inl (nF (un D.2.2.2.2.2.1 (D.1 0) ((nxt bt n L (nxt bt n L (nxt bt n L (nxt bt n L τ)))).2.2.2.1))))), (ay 5, .inl (0, 64, .inl (nF D.2.2.2.2.2.2.1))), (ay 6, .inl (1, 64, .inl (nF D.2.2.2.2.2.2.2)))]
              refine zs_iconst (v := nI 1) dX11_readMan_152 (by decide) ?_
              have e : (pMan bt n L τ tk D) = (0, (nxt bt n L (nxt bt n L (nxt bt n L (nxt bt n L (nxt bt n L τ))))), ((nxt bt n L (nxt bt n L (nxt bt n L (nxt bt n L τ)))).2.2.2.1), (un D.1 0 ((D.1 0) + 1), D.2.1, un D.2.2.1 (D.1 0) ((nxt bt n L τ).2.2.2.1), un D.2.2.2.1 (D.1 0) ((nxt bt n L (nxt bt n L τ)).2.2.2.1), un D.2.2.2.2.1 (D.1 0) ((nxt bt n L (nxt bt n L (nxt bt n L τ))).2.2.2.1), un D.2.2.2.2.2.1 (D.1 0) ((nxt bt n L (nxt bt n L (nxt bt n L (nxt bt n L τ)))).2.2.2.1), D.2.2.2.2.2.2.1, D.2.2.2.2.2.2.2)) := by rw [pMan, if_neg (show ¬ 12 ≤ D.1 0 by omega), if_neg (show ¬ tNm (nxt bt n L τ) = false from fun h => by rw [hname] at h; exact absurd h (by decide)), if_neg (fun h => h (oI_n (fun j hj => by have := (mFind_lt _ _ _ hj).1; omega) c_3)), pNu_bo hq71, pNu_bo hq96, pNu_bo hq121] <;> rfl
              exact zs_zret dX11_readMan_153 rfl (Or.inr rfl) (Or.inl ⟨by rw [e], rfl, by rw [e]; rfl⟩)
            · refine zs_K (K' := [(x, .inr (8, fTx b n L (nxt bt n L (nxt bt n L (nxt bt n L (nxt bt n L τ)))) (tNu (nxt bt n L (nxt bt n L (nxt bt n L (nxt bt n L τ)))) 1 99) ((nxt bt n L (nxt bt n L (nxt bt n L (nxt bt n L τ)))).2.1) (nI (nxt bt n L (nxt bt n L (nxt bt n L τ))).2.2.2.1))), (b, .inl (0, 740, .inl (nF bt))), (y, .inr (9, fYard ay (ysN D.1 D.2.1))), (ay 1, .inl (0, 12, .inl (nF (un D.2.2.1 (D.1 0) ((nxt bt n L τ).2.2.2.1))))), (ay 2, .inl (0, 12, .inl (nF (un D.2.2.2.1 (D.1 0) ((nxt bt n L (nxt bt n L τ)).2.2.2.1))))), (ay 3, .inl (0, 12, .inl (nF (un D.2.2.2.2.1 (D.1 0) ((nxt bt n L (nxt bt n L (nxt bt n L τ))).2.2.2.1))))), (ay 4, .inl (0, 12, .inl (nF D.2.2.2.2.2.1))), (ay 5, .inl (0, 64, .inl (nF D.2.2.2.2.2.2.1))), (ay 6, .inl (1, 64, .inl (nF D.2.2.2.2.2.2.2)))]) [7, 8, 0, 1, 2, 3, 4, 5, 6] rfl (by decide) ?_
              refine zs_if_ne (tgt := 129) dX11_readMan_124 (by decide) (fun c_7 => (by first | exact absurd c_7 (by decide) | exact absurd (by decide) c_7 : False).elim) (fun c_7 => ?_)
              refine zs_iconst (v := nI 0) dX11_readMan_127 (by decide) ?_
              have e : (pMan bt n L τ tk D) = ((tNu (nxt bt n L (nxt bt n L (nxt bt n L (nxt bt n L τ)))) 1 99), (nxt bt n L (nxt bt n L (nxt bt n L (nxt bt n L τ)))), ((nxt bt n L (nxt bt n L (nxt bt n L τ))).2.2.2.1), (D.1, D.2.1, un D.2.2.1 (D.1 0) ((nxt bt n L τ).2.2.2.1), un D.2.2.2.1 (D.1 0) ((nxt bt n L (nxt bt n L τ)).2.2.2.1), un D.2.2.2.2.1 (D.1 0) ((nxt bt n L (nxt bt n L (nxt bt n L τ))).2.2.2.1), D.2.2.2.2.2.1, D.2.2.2.2.2.2.1, D.2.2.2.2.2.2.2)) := by rw [pMan, if_neg (show ¬ 12 ≤ D.1 0 by omega), if_neg (show ¬ tNm (nxt bt n L τ) = false from fun h => by rw [hname] at h; exact absurd h (by decide)), if_neg (fun h => h (oI_n (fun j hj => by have := (mFind_lt _ _ _ hj).1; omega) c_3)), pNu_bo hq71, pNu_bo hq96, pNu_bn hq121] <;> rfl
              exact zs_zret dX11_readMan_128 rfl (Or.inl rfl) (Or.inr ⟨by rw [e]; exact hq121, rfl, by rw [e]; rfl⟩)
          · refine zs_K (K' := [(x, .inr (8, fTx b n L (nxt bt n L (nxt bt n L (nxt bt n L τ))) (tNu (nxt bt n L (nxt bt n L (nxt bt n L τ))) 1 9) ((nxt bt n L (nxt bt n L (nxt bt n L τ))).2.1) (nI (nxt bt n L (nxt bt n L τ)).2.2.2.1))), (b, .inl (0, 740, .inl (nF bt))), (y, .inr (9, fYard ay (ysN D.1 D.2.1))), (ay 1, .inl (0, 12, .inl (nF (un D.2.2.1 (D.1 0) ((nxt bt n L τ).2.2.2.1))))), (ay 2, .inl (0, 12, .inl (nF (un D.2.2.2.1 (D.1 0) ((nxt bt n L (nxt bt n L τ)).2.2.2.1))))), (ay 3, .inl (0, 12, .inl (nF D.2.2.2.2.1))), (ay 4, .inl (0, 12, .inl (nF D.2.2.2.2.2.1))), (ay 5, .inl (0, 64, .inl (nF D.2.2.2.2.2.2.1))), (ay 6, .inl (1, 64, .inl (nF D.2.2.2.2.2.2.2)))]) [7, 8, 0, 1, 2, 3, 4, 5, 6] rfl (by decide) ?_
            refine zs_if_ne (tgt := 104) dX11_readMan_99 (by decide) (fun c_8 => (by first | exact absurd c_8 (by decide) | exact absurd (by decide) c_8 : False).elim) (fun c_8 => ?_)
            refine zs_iconst (v := nI 0) dX11_readMan_102 (by decide) ?_
            have e : (pMan bt n L τ tk D) = ((tNu (nxt bt n L (nxt bt n L (nxt bt n L τ))) 1 9), (nxt bt n L (nxt bt n L (nxt bt n L τ))), ((nxt bt n L (nxt bt n L τ)).2.2.2.1), (D.1, D.2.1, un D.2.2.1 (D.1 0) ((nxt bt n L τ).2.2.2.1), un D.2.2.2.1 (D.1 0) ((nxt bt n L (nxt bt n L τ)).2.2.2.1), D.2.2.2.2.1, D.2.2.2.2.2.1, D.2.2.2.2.2.2.1, D.2.2.2.2.2.2.2)) := by rw [pMan, if_neg (show ¬ 12 ≤ D.1 0 by omega), if_neg (show ¬ tNm (nxt bt n L τ) = false from fun h => by rw [hname] at h; exact absurd h (by decide)), if_neg (fun h => h (oI_n (fun j hj => by have := (mFind_lt _ _ _ hj).1; omega) c_3)), pNu_bo hq71, pNu_bn hq96] <;> rfl
            exact zs_zret dX11_readMan_103 rfl (Or.inl rfl) (Or.inr ⟨by rw [e]; exact hq96, rfl, by rw [e]; rfl⟩)
        · refine zs_K (K' := [(x, .inr (8, fTx b n L (nxt bt n L (nxt bt n L τ)) (tNu (nxt bt n L (nxt bt n L τ)) 1 9) ((nxt bt n L (nxt bt n L τ)).2.1) (nI tk))), (b, .inl (0, 740, .inl (nF bt))), (y, .inr (9, fYard ay (ysN D.1 D.2.1))), (ay 1, .inl (0, 12, .inl (nF (un D.2.2.1 (D.1 0) ((nxt bt n L τ).2.2.2.1))))), (ay 2, .inl (0, 12, .inl (nF D.2.2.2.1))), (ay 3, .inl (0, 12, .inl (nF D.2.2.2.2.1))), (ay 4, .inl (0, 12, .inl (nF D.2.2.2.2.2.1))), (ay 5, .inl (0, 64, .inl (nF D.2.2.2.2.2.2.1))), (ay 6, .inl (1, 64, .inl (nF D.2.2.2.2.2.2.2)))]) [7, 8, 0, 1, 2, 3, 4, 5, 6] rfl (by decide) ?_
          refine zs_if_ne (tgt := 79) dX11_readMan_74 (by decide) (fun c_9 => (by first | exact absurd c_9 (by decide) | exact absurd (by decide) c_9 : False).elim) (fun c_9 => ?_)
          refine zs_iconst (v := nI 0) dX11_readMan_77 (by decide) ?_
          have e : (pMan bt n L τ tk D) = ((tNu (nxt bt n L (nxt bt n L τ)) 1 9), (nxt bt n L (nxt bt n L τ)), tk, (D.1, D.2.1, un D.2.2.1 (D.1 0) ((nxt bt n L τ).2.2.2.1), D.2.2.2.1, D.2.2.2.2.1, D.2.2.2.2.2.1, D.2.2.2.2.2.2.1, D.2.2.2.2.2.2.2)) := by rw [pMan, if_neg (show ¬ 12 ≤ D.1 0 by omega), if_neg (show ¬ tNm (nxt bt n L τ) = false from fun h => by rw [hname] at h; exact absurd h (by decide)), if_neg (fun h => h (oI_n (fun j hj => by have := (mFind_lt _ _ _ hj).1; omega) c_3)), pNu_bn hq71] <;> rfl
          exact zs_zret dX11_readMan_78 rfl (Or.inl rfl) (Or.inr ⟨by rw [e]; exact hq71, rfl, by rw [e]; rfl⟩)
      · refine zs_aload_n dX11_readMan_44 rfl rfl ?_
        refine zs_iconst (v := nI 3) dX11_readMan_45 (by decide) ?_
        refine zs_callV (M := mX9_refuse) (As := [.int (nI 3)]) (st := []) (Kc := [(x, .inr (8, fTx b n L (nxt bt n L τ) 0 pl (nI tk)))]) (Kr := [(b, .inl (0, 740, .inl (nF bt))), (y, .inr (9, fYard ay (ysN D.1 D.2.1))), (ay 1, .inl (0, 12, .inl (nF D.2.2.1))), (ay 2, .inl (0, 12, .inl (nF D.2.2.2.1))), (ay 3, .inl (0, 12, .inl (nF D.2.2.2.2.1))), (ay 4, .inl (0, 12, .inl (nF D.2.2.2.2.2.1))), (ay 5, .inl (0, 64, .inl (nF D.2.2.2.2.2.2.1))), (ay 6, .inl (1, 64, .inl (nF D.2.2.2.2.2.2.2)))]) [0] [1, 2, 3, 4, 5, 6, 7, 8] 0 dX11_readMan_46 zl_RX11_101 kX9_refuse rfl rfl rfl rfl rfl (by decide) rfl rfl (show dd - 1 + 1 ≤ dd by omega) (Nat.zero_le _) (Nat.zero_le _) (Nat.le_of_ble_eq_true rfl) (s_refuse l (dd - 1) x b n L (nxt bt n L τ) pl 3 (nI tk)) (fun r K1 hr => ?_)
        obtain ⟨rfl, rfl⟩ := hr
        refine zs_K (K' := [(x, .inr (8, fTx b n L (nxt bt n L τ) 3 ((nxt bt n L τ).2.1) (nI tk))), (b, .inl (0, 740, .inl (nF bt))), (y, .inr (9, fYard ay (ysN D.1 D.2.1))), (ay 1, .inl (0, 12, .inl (nF D.2.2.1))), (ay 2, .inl (0, 12, .inl (nF D.2.2.2.1))), (ay 3, .inl (0, 12, .inl (nF D.2.2.2.2.1))), (ay 4, .inl (0, 12, .inl (nF D.2.2.2.2.2.1))), (ay 5, .inl (0, 64, .inl (nF D.2.2.2.2.2.2.1))), (ay 6, .inl (1, 64, .inl (nF D.2.2.2.2.2.2.2)))]) [8, 0, 1, 2, 3, 4, 5, 6, 7] rfl (by decide) ?_
        have e : (pMan bt n L τ tk D) = (3, (nxt bt n L τ), tk, (D.1, D.2.1, D.2.2.1, D.2.2.2.1, D.2.2.2.2.1, D.2.2.2.2.2.1, D.2.2.2.2.2.2.1, D.2.2.2.2.2.2.2)) := by rw [pMan, if_neg (show ¬ 12 ≤ D.1 0 by omega), if_neg (show ¬ tNm (nxt bt n L τ) = false from fun h => by rw [hname] at h; exact absurd h (by decide)), if_pos (show ¬ mFind D.2.2.1 (nxt bt n L τ).2.2.2.1 (D.1 0) 0 = none from fun h => c_3 (by rw [h]; rfl))] <;> rfl
        exact zs_zret dX11_readMan_49 rfl (Or.inl rfl) (Or.inr ⟨by rw [e]; exact (show ¬ 3 = 0 by decide), rfl, by rw [e]; rfl⟩)
    · refine zs_aload_n dX11_readMan_26 rfl rfl ?_
      refine zs_iconst (v := nI 1) dX11_readMan_27 (by decide) ?_
      refine zs_callV (M := mX9_refuse) (As := [.int (nI 1)]) (st := []) (Kc := [(x, .inr (8, fTx b n L (nxt bt n L τ) 0 pl (nI tk)))]) (Kr := [(b, .inl (0, 740, .inl (nF bt))), (y, .inr (9, fYard ay (ysN D.1 D.2.1))), (ay 1, .inl (0, 12, .inl (nF D.2.2.1))), (ay 2, .inl (0, 12, .inl (nF D.2.2.2.1))), (ay 3, .inl (0, 12, .inl (nF D.2.2.2.2.1))), (ay 4, .inl (0, 12, .inl (nF D.2.2.2.2.2.1))), (ay 5, .inl (0, 64, .inl (nF D.2.2.2.2.2.2.1))), (ay 6, .inl (1, 64, .inl (nF D.2.2.2.2.2.2.2)))]) [0] [1, 2, 3, 4, 5, 6, 7, 8] 0 dX11_readMan_28 zl_RX11_101 kX9_refuse rfl rfl rfl rfl rfl (by decide) rfl rfl (show dd - 1 + 1 ≤ dd by omega) (Nat.zero_le _) (Nat.zero_le _) (Nat.le_of_ble_eq_true rfl) (s_refuse l (dd - 1) x b n L (nxt bt n L τ) pl 1 (nI tk)) (fun r K1 hr => ?_)
      obtain ⟨rfl, rfl⟩ := hr
      refine zs_K (K' := [(x, .inr (8, fTx b n L (nxt bt n L τ) 1 ((nxt bt n L τ).2.1) (nI tk))), (b, .inl (0, 740, .inl (nF bt))), (y, .inr (9, fYard ay (ysN D.1 D.2.1))), (ay 1, .inl (0, 12, .inl (nF D.2.2.1))), (ay 2, .inl (0, 12, .inl (nF D.2.2.2.1))), (ay 3, .inl (0, 12, .inl (nF D.2.2.2.2.1))), (ay 4, .inl (0, 12, .inl (nF D.2.2.2.2.2.1))), (ay 5, .inl (0, 64, .inl (nF D.2.2.2.2.2.2.1))), (ay 6, .inl (1, 64, .inl (nF D.2.2.2.2.2.2.2)))]) [8, 0, 1, 2, 3, 4, 5, 6, 7] rfl (by decide) ?_
      have e : (pMan bt n L τ tk D) = (1, (nxt bt n L τ), tk, (D.1, D.2.1, D.2.2.1, D.2.2.2.1, D.2.2.2.2.1, D.2.2.2.2.2.1, D.2.2.2.2.2.2.1, D.2.2.2.2.2.2.2)) := by rw [pMan, if_neg (show ¬ 12 ≤ D.1 0 by omega), if_pos (bI_f c_2)] <;> rfl
      exact zs_zret dX11_readMan_31 rfl (Or.inl rfl) (Or.inr ⟨by rw [e]; exact (show ¬ 1 = 0 by decide), rfl, by rw [e]; rfl⟩)
  · have c_1 : ¬ ((D.1 0) < 12) := by have hc := c_1; rw [nI_lt' (by omega) (by omega)] at hc; exact hc
    refine zs_aload_n dX11_readMan_9 rfl rfl ?_
    refine zs_iconst (v := nI 4) dX11_readMan_10 (by decide) ?_
    refine zs_callV (M := mX9_refuse) (As := [.int (nI 4)]) (st := []) (Kc := [(x, .inr (8, fTx b n L τ 0 pl (nI tk)))]) (Kr := [(b, .inl (0, 740, .inl (nF bt))), (y, .inr (9, fYard ay (ysN D.1 D.2.1))), (ay 1, .inl (0, 12, .inl (nF D.2.2.1))), (ay 2, .inl (0, 12, .inl (nF D.2.2.2.1))), (ay 3, .inl (0, 12, .inl (nF D.2.2.2.2.1))), (ay 4, .inl (0, 12, .inl (nF D.2.2.2.2.2.1))), (ay 5, .inl (0, 64, .inl (nF D.2.2.2.2.2.2.1))), (ay 6, .inl (1, 64, .inl (nF D.2.2.2.2.2.2.2)))]) [0] [1, 2, 3, 4, 5, 6, 7, 8] 0 dX11_readMan_11 zl_RX11_101 kX9_refuse rfl rfl rfl rfl rfl (by decide) rfl rfl (show dd - 1 + 1 ≤ dd by omega) (Nat.zero_le _) (Nat.zero_le _) (Nat.le_of_ble_eq_true rfl) (s_refuse l (dd - 1) x b n L τ pl 4 (nI tk)) (fun r K1 hr => ?_)
    obtain ⟨rfl, rfl⟩ := hr
    refine zs_K (K' := [(x, .inr (8, fTx b n L τ 4 τ.2.1 (nI tk))), (b, .inl (0, 740, .inl (nF bt))), (y, .inr (9, fYard ay (ysN D.1 D.2.1))), (ay 1, .inl (0, 12, .inl (nF D.2.2.1))), (ay 2, .inl (0, 12, .inl (nF D.2.2.2.1))), (ay 3, .inl (0, 12, .inl (nF D.2.2.2.2.1))), (ay 4, .inl (0, 12, .inl (nF D.2.2.2.2.2.1))), (ay 5, .inl (0, 64, .inl (nF D.2.2.2.2.2.2.1))), (ay 6, .inl (1, 64, .inl (nF D.2.2.2.2.2.2.2)))]) [8, 0, 1, 2, 3, 4, 5, 6, 7] rfl (by decide) ?_
    have e : (pMan bt n L τ tk D) = (4, τ, tk, (D.1, D.2.1, D.2.2.1, D.2.2.2.1, D.2.2.2.2.1, D.2.2.2.2.2.1, D.2.2.2.2.2.2.1, D.2.2.2.2.2.2.2)) := by rw [pMan, if_pos (show 12 ≤ D.1 0 by omega)] <;> rfl
    exact zs_zret dX11_readMan_14 rfl (Or.inl rfl) (Or.inr ⟨by rw [e]; exact (show ¬ 4 = 0 by decide), rfl, by rw [e]; rfl⟩)
theorem dX11_readWind_0 : decode cX11_readWind 0 = .ok (.aload_n 1, 1) := by decide +kernel
theorem dX11_readWind_1 : decode cX11_readWind 1 = .ok (.getfield 97, 3) := by decide +kernel
theorem dX11_readWind_4 : decode cX11_readWind 4 = .ok (.getstatic 157, 3) := by decide +kernel
theorem dX11_readWind_7 : decode cX11_readWind 7 = .ok (.if_acmp .ne 11, 3) := by decide +kernel
theorem dX11_readWind_10 : decode cX11_readWind 10 = .ok (.aload_n 0, 1) := by decide +kernel
theorem dX11_readWind_11 : decode cX11_readWind 11 = .ok (.iconst 0, 1) := by decide +kernel
theorem dX11_readWind_12 : decode cX11_readWind 12 = .ok (.putfield 62, 3) := by decide +kernel
theorem dX11_readWind_15 : decode cX11_readWind 15 = .ok (.goto 63, 3) := by decide +kernel
theorem dX11_readWind_18 : decode cX11_readWind 18 = .ok (.aload_n 1, 1) := by decide +kernel
theorem dX11_readWind_19 : decode cX11_readWind 19 = .ok (.getfield 97, 3) := by decide +kernel
theorem dX11_readWind_22 : decode cX11_readWind 22 = .ok (.getstatic 160, 3) := by decide +kernel
theorem dX11_readWind_25 : decode cX11_readWind 25 = .ok (.if_acmp .ne 11, 3) := by decide +kernel
theorem dX11_readWind_28 : decode cX11_readWind 28 = .ok (.aload_n 0, 1) := by decide +kernel
theorem dX11_readWind_29 : decode cX11_readWind 29 = .ok (.iconst 1, 1) := by decide +kernel
theorem dX11_readWind_30 : decode cX11_readWind 30 = .ok (.putfield 62, 3) := by decide +kernel
theorem dX11_readWind_33 : decode cX11_readWind 33 = .ok (.goto 45, 3) := by decide +kernel
theorem dX11_readWind_36 : decode cX11_readWind 36 = .ok (.aload_n 1, 1) := by decide +kernel
theorem dX11_readWind_37 : decode cX11_readWind 37 = .ok (.getfield 97, 3) := by decide +kernel
theorem dX11_readWind_40 : decode cX11_readWind 40 = .ok (.getstatic 163, 3) := by decide +kernel
theorem dX11_readWind_43 : decode cX11_readWind 43 = .ok (.if_acmp .ne 11, 3) := by decide +kernel
theorem dX11_readWind_46 : decode cX11_readWind 46 = .ok (.aload_n 0, 1) := by decide +kernel
theorem dX11_readWind_47 : decode cX11_readWind 47 = .ok (.iconst 2, 1) := by decide +kernel
theorem dX11_readWind_48 : decode cX11_readWind 48 = .ok (.putfield 62, 3) := by decide +kernel
theorem dX11_readWind_51 : decode cX11_readWind 51 = .ok (.goto 27, 3) := by decide +kernel
theorem dX11_readWind_54 : decode cX11_readWind 54 = .ok (.aload_n 1, 1) := by decide +kernel
theorem dX11_readWind_55 : decode cX11_readWind 55 = .ok (.getfield 97, 3) := by decide +kernel
theorem dX11_readWind_58 : decode cX11_readWind 58 = .ok (.getstatic 166, 3) := by decide +kernel
theorem dX11_readWind_61 : decode cX11_readWind 61 = .ok (.if_acmp .ne 11, 3) := by decide +kernel
theorem dX11_readWind_64 : decode cX11_readWind 64 = .ok (.aload_n 0, 1) := by decide +kernel
theorem dX11_readWind_65 : decode cX11_readWind 65 = .ok (.iconst 3, 1) := by decide +kernel
theorem dX11_readWind_66 : decode cX11_readWind 66 = .ok (.putfield 62, 3) := by decide +kernel
theorem dX11_readWind_69 : decode cX11_readWind 69 = .ok (.goto 9, 3) := by decide +kernel
theorem dX11_readWind_72 : decode cX11_readWind 72 = .ok (.aload_n 1, 1) := by decide +kernel
theorem dX11_readWind_73 : decode cX11_readWind 73 = .ok (.iconst 1, 1) := by decide +kernel
theorem dX11_readWind_74 : decode cX11_readWind 74 = .ok (.invokevirtual 101, 3) := by decide +kernel
theorem dX11_readWind_77 : decode cX11_readWind 77 = .ok (.ireturn, 1) := by decide +kernel
theorem dX11_readWind_78 : decode cX11_readWind 78 = .ok (.aload_n 1, 1) := by decide +kernel
theorem dX11_readWind_79 : decode cX11_readWind 79 = .ok (.invokevirtual 144, 3) := by decide +kernel
theorem dX11_readWind_82 : decode cX11_readWind 82 = .ok (.iconst 1, 1) := by decide +kernel
theorem dX11_readWind_83 : decode cX11_readWind 83 = .ok (.ireturn, 1) := by decide +kernel
set_option maxRecDepth 100000 in
theorem s_rdWind (l : Launch) (dd : Nat) (x b n L y : Nat) (ay : Nat → Nat) (bt : Nat → Nat) (τ : zTk) (pl tk : Nat) (D : zYd) (hd : 5 ≤ dd) (hn : n ≤ 740) (hL : L ≤ 740) (hbt : ∀ j, bt j < 256) (hτ : tOK τ) (hD : yI D) : zSp l mX11_readWind dd 0 0 [.ref y, .ref x] [(x, .inr (8, fTx b n L τ 0 pl (nI tk))), (b, .inl (0, 740, .inl (nF bt))), (y, .inr (9, fYard ay (ysN D.1 D.2.1))), (ay 1, .inl (0, 12, .inl (nF D.2.2.1))), (ay 2, .inl (0, 12, .inl (nF D.2.2.2.1))), (ay 3, .inl (0, 12, .inl (nF D.2.2.2.2.1))), (ay 4, .inl (0, 12, .inl (nF D.2.2.2.2.2.1))), (ay 5, .inl (0, 64, .inl (nF D.2.2.2.2.2.2.1))), (ay 6, .inl (1, 64, .inl (nF D.2.2.2.2.2.2.2)))] (fun r K' => ((pWi bt n L τ tk D).1 = 0 ∧ r = some (.int 1) ∧ K' = kTx x b n L bt (pWi bt n L τ tk D).2.1 0 pl (pWi bt n L τ tk D).2.2.1 ++ kYd y ay (pWi bt n L τ tk D).2.2.2) ∨ (¬ (pWi bt n L τ tk D).1 = 0 ∧ r = some (.int 0) ∧ K' = kTx x b n L bt (pWi bt n L τ tk D).2.1 (pWi bt n L τ tk D).1 (pWi bt n L τ tk D).2.1.2.1 (pWi bt n L τ tk D).2.2.1 ++ kYd y ay (pWi bt n L τ tk D).2.2.2)) := by
  refine zSp.of (by decide) (Nat.le_of_ble_eq_true rfl) (fun h0 => ?_)
  show zS _ 0 0 0 [(0, .ref y), (1, .ref x)] [] [(x, .inr (8, fTx b n L τ 0 pl (nI tk))), (b, .inl (0, 740, .inl (nF bt))), (y, .inr (9, fYard ay (ysN D.1 D.2.1))), (ay 1, .inl (0, 12, .inl (nF D.2.2.1))), (ay 2, .inl (0, 12, .inl (nF D.2.2.2.1))), (ay 3, .inl (0, 12, .inl (nF D.2.2.2.2.1))), (ay 4, .inl (0, 12, .inl (nF D.2.2.2.2.2.1))), (ay 5, .inl (0, 64, .inl (nF D.2.2.2.2.2.2.1))), (ay 6, .inl (1, 64, .inl (nF D.2.2.2.2.2.2.2)))]
  have hwd := hτ.2.2.2.2.2.2.2.1
  refine zs_aload_n dX11_readWind_0 rfl rfl ?_
  refine zs_get 0 dX11_readWind_1 zf_RX11_97 rfl (v := (wV τ.2.2.2.2)) rfl ?_
  refine zs_getsW (u := 10) dX11_readWind_4 (by decide) zg_RX11_157 ?_
  refine zs_acmp_ne (tgt := 18) dX11_readWind_7 (by decide) (wV_w hwd) rfl (fun c_1 => ?_) (fun c_1 => ?_)
  · refine zs_aload_n dX11_readWind_18 rfl rfl ?_
    refine zs_get 0 dX11_readWind_19 zf_RX11_97 rfl (v := (wV τ.2.2.2.2)) rfl ?_
    refine zs_getsW (u := 11) dX11_readWind_22 (by decide) zg_RX11_160 ?_
    refine zs_acmp_ne (tgt := 36) dX11_readWind_25 (by decide) (wV_w hwd) rfl (fun c_2 => ?_) (fun c_2 => ?_)
    · refine zs_aload_n dX11_readWind_36 rfl rfl ?_
      refine zs_get 0 dX11_readWind_37 zf_RX11_97 rfl (v := (wV τ.2.2.2.2)) rfl ?_
      refine zs_getsW (u := 12) dX11_readWind_40 (by decide) zg_RX11_163 ?_
      refine zs_acmp_ne (tgt := 54) dX11_readWind_43 (by decide) (wV_w hwd) rfl (fun c_3 => ?_) (fun c_3 => ?_)
      · refine zs_aload_n dX11_readWind_54 rfl rfl ?_
        refine zs_get 0 dX11_readWind_55 zf_RX11_97 rfl (v := (wV τ.2.2.2.2)) rfl ?_
        refine zs_getsW (u := 13) dX11_readWind_58 (by decide) zg_RX11_166 ?_
        refine zs_acmp_ne (tgt := 72) dX11_readWind_61 (by decide) (wV_w hwd) rfl (fun c_4 => ?_) (fun c_4 => ?_)
        · refine zs_aload_n dX11_readWind_72 rfl rfl ?_
          refine zs_iconst (v := nI 1) dX11_readWind_73 (by decide) ?_
          refine zs_callV (M := mX9_refuse) (As := [.int (nI 1)]) (st := []) (Kc := [(x, .inr (8, fTx b n L τ 0 pl (nI tk)))]) (Kr := [(b, .inl (0, 740, .inl (nF bt))), (y, .inr (9, fYard ay (ysN D.1 D.2.1))), (ay 1, .inl (0, 12, .inl (nF D.2.2.1))), (ay 2, .inl (0, 12, .inl (nF D.2.2.2.1))), (ay 3, .inl (0, 12, .inl (nF D.2.2.2.2.1))), (ay 4, .inl (0, 12, .inl (nF D.2.2.2.2.2.1))), (ay 5, .inl (0, 64, .inl (nF D.2.2.2.2.2.2.1))), (ay 6, .inl (1, 64, .inl (nF D.2.2.2.2.2.2.2)))]) [0] [1, 2, 3, 4, 5, 6, 7, 8] 0 dX11_readWind_74 zl_RX11_101 kX9_refuse rfl rfl rfl rfl rfl (by decide) rfl rfl (show dd - 1 + 1 ≤ dd by omega) (Nat.zero_le _) (Nat.zero_le _) (Nat.le_of_ble_eq_true rfl) (s_refuse l (dd - 1) x b n L τ pl 1 (nI tk)) (fun r K1 hr => ?_)
          obtain ⟨rfl, rfl⟩ := hr
          refine zs_K (K' := [(x, .inr (8, fTx b n L τ 1 τ.2.1 (nI tk))), (b, .inl (0, 740, .inl (nF bt))), (y, .inr (9, fYard ay (ysN D.1 D.2.1))), (ay 1, .inl (0, 12, .inl (nF D.2.2.1))), (ay 2, .inl (0, 12, .inl (nF D.2.2.2.1))), (ay 3, .inl (0, 12, .inl (nF D.2.2.2.2.1))), (ay 4, .inl (0, 12, .inl (nF D.2.2.2.2.2.1))), (ay 5, .inl (0, 64, .inl (nF D.2.2.2.2.2.2.1))), (ay 6, .inl (1, 64, .inl (nF D.2.2.2.2.2.2.2)))]) [8, 0, 1, 2, 3, 4, 5, 6, 7] rfl (by decide) ?_
          have e : (pWi bt n L τ tk D) = (1, τ, tk, (D.1, D.2.1, D.2.2.1, D.2.2.2.1, D.2.2.2.2.1, D.2.2.2.2.2.1, D.2.2.2.2.2.2.1, D.2.2.2.2.2.2.2)) := by rw [pWi, if_neg (fun h => c_1 ((wV_e hwd (by decide : 10 < 29)).mpr h)), if_neg (fun h => c_2 ((wV_e hwd (by decide : 11 < 29)).mpr h)), if_neg (fun h => c_3 ((wV_e hwd (by decide : 12 < 29)).mpr h)), if_neg (fun h => c_4 ((wV_e hwd (by decide : 13 < 29)).mpr h))] <;> rfl
          exact zs_zret dX11_readWind_77 rfl (Or.inl rfl) (Or.inr ⟨by rw [e]; exact (show ¬ 1 = 0 by decide), rfl, by rw [e]; rfl⟩)
        · refine zs_aload_n dX11_readWind_64 rfl rfl ?_
          refine zs_iconst (v := nI 3) dX11_readWind_65 (by decide) ?_
          refine zs_put 2 dX11_readWind_66 zf_RX11_62 rfl (Nat.le_of_ble_eq_true rfl) (zPv_i _) ?_
          show zS _ _ _ _ _ _ [(x, .inr (8, fTx b n L τ 0 pl (nI tk))), (b, .inl (0, 740, .inl (nF bt))), (y, .inr (9, fYard ay (ysN D.1 (nI 3)))), (ay 1, .inl (0, 12, .inl (nF D.2.2.1))), (ay 2, .inl (0, 12, .inl (nF D.2.2.2.1))), (ay 3, .inl (0, 12, .inl (nF D.2.2.2.2.1))), (ay 4, .inl (0, 12, .inl (nF D.2.2.2.2.2.1))), (ay 5, .inl (0, 64, .inl (nF D.2.2.2.2.2.2.1))), (ay 6, .inl (1, 64, .inl (nF D.2.2.2.2.2.2.2)))]
          refine zs_goto (tgt := 78) dX11_readWind_69 (by decide) ?_
          refine zs_aload_n dX11_readWind_78 rfl rfl ?_
          refine zs_callV (M := mX9_next) (As := []) (st := []) (Kc := [(x, .inr (8, fTx b n L τ 0 pl (nI tk))), (b, .inl (0, 740, .inl (nF bt)))]) (Kr := [(y, .inr (9, fYard ay (ysN D.1 (nI 3)))), (ay 1, .inl (0, 12, .inl (nF D.2.2.1))), (ay 2, .inl (0, 12, .inl (nF D.2.2.2.1))), (ay 3, .inl (0, 12, .inl (nF D.2.2.2.2.1))), (ay 4, .inl (0, 12, .inl (nF D.2.2.2.2.2.1))), (ay 5, .inl (0, 64, .inl (nF D.2.2.2.2.2.2.1))), (ay 6, .inl (1, 64, .inl (nF D.2.2.2.2.2.2.2)))]) [0, 1] [2, 3, 4, 5, 6, 7, 8] 0 dX11_readWind_79 zl_RX11_144 kX9_next rfl rfl rfl rfl rfl (by decide) rfl rfl (show dd - 1 + 1 ≤ dd by omega) (Nat.zero_le _) (Nat.zero_le _) (Nat.le_of_ble_eq_true rfl) (s_next l (dd - 1) x b n L bt τ 0 pl (nI tk) (by omega) hn hL hbt hτ.2.2.1) (fun r K1 hr => ?_)
          obtain ⟨rfl, rfl⟩ := hr
          refine zs_K (K' := [(x, .inr (8, fTx b n L (nxt bt n L τ) 0 pl (nI tk))), (b, .inl (0, 740, .inl (nF bt))), (y, .inr (9, fYard ay (ysN D.1 (nI 3)))), (ay 1, .inl (0, 12, .inl (nF D.2.2.1))), (ay 2, .inl (0, 12, .inl (nF D.2.2.2.1))), (ay 3, .inl (0, 12, .inl (nF D.2.2.2.2.1))), (ay 4, .inl (0, 12, .inl (nF D.2.2.2.2.2.1))), (ay 5, .inl (0, 64, .inl (nF D.2.2.2.2.2.2.1))), (ay 6, .inl (1, 64, .inl (nF D.2.2.2.2.2.2.2)))]) [7, 8, 0, 1, 2, 3, 4, 5, 6] rfl (by decide) ?_
          refine zs_iconst (v := nI 1) dX11_readWind_82 (by decide) ?_
          have e : (pWi bt n L τ tk D) = (0, (nxt bt n L τ), tk, (D.1, nI 3, D.2.2.1, D.2.2.2.1, D.2.2.2.2.1, D.2.2.2.2.2.1, D.2.2.2.2.2.2.1, D.2.2.2.2.2.2.2)) := by rw [pWi, if_neg (fun h => c_1 ((wV_e hwd (by decide : 10 < 29)).mpr h)), if_neg (fun h => c_2 ((wV_e hwd (by decide : 11 < 29)).mpr h)), if_neg (fun h => c_3 ((wV_e hwd (by decide : 12 < 29)).mpr h)), if_pos ((wV_e hwd (by decide : 13 < 29)).mp c_4)] <;> rfl
          exact zs_zret dX11_readWind_83 rfl (Or.inr rfl) (Or.inl ⟨by rw [e], rfl, by rw [e]; rfl⟩)
      · refine zs_aload_n dX11_readWind_46 rfl rfl ?_
        refine zs_iconst (v := nI 2) dX11_readWind_47 (by decide) ?_
        refine zs_put 2 dX11_readWind_48 zf_RX11_62 rfl (Nat.le_of_ble_eq_true rfl) (zPv_i _) ?_
        show zS _ _ _ _ _ _ [(x, .inr (8, fTx b n L τ 0 pl (nI tk))), (b, .inl (0, 740, .inl (nF bt))), (y, .inr (9, fYard ay (ysN D.1 (nI 2)))), (ay 1, .inl (0, 12, .inl (nF D.2.2.1))), (ay 2, .inl (0, 12, .inl (nF D.2.2.2.1))), (ay 3, .inl (0, 12, .inl (nF D.2.2.2.2.1))), (ay 4, .inl (0, 12, .inl (nF D.2.2.2.2.2.1))), (ay 5, .inl (0, 64, .inl (nF D.2.2.2.2.2.2.1))), (ay 6, .inl (1, 64, .inl (nF D.2.2.2.2.2.2.2)))]
        refine zs_goto (tgt := 78) dX11_readWind_51 (by decide) ?_
        refine zs_aload_n dX11_readWind_78 rfl rfl ?_
        refine zs_callV (M := mX9_next) (As := []) (st := []) (Kc := [(x, .inr (8, fTx b n L τ 0 pl (nI tk))), (b, .inl (0, 740, .inl (nF bt)))]) (Kr := [(y, .inr (9, fYard ay (ysN D.1 (nI 2)))), (ay 1, .inl (0, 12, .inl (nF D.2.2.1))), (ay 2, .inl (0, 12, .inl (nF D.2.2.2.1))), (ay 3, .inl (0, 12, .inl (nF D.2.2.2.2.1))), (ay 4, .inl (0, 12, .inl (nF D.2.2.2.2.2.1))), (ay 5, .inl (0, 64, .inl (nF D.2.2.2.2.2.2.1))), (ay 6, .inl (1, 64, .inl (nF D.2.2.2.2.2.2.2)))]) [0, 1] [2, 3, 4, 5, 6, 7, 8] 0 dX11_readWind_79 zl_RX11_144 kX9_next rfl rfl rfl rfl rfl (by decide) rfl rfl (show dd - 1 + 1 ≤ dd by omega) (Nat.zero_le _) (Nat.zero_le _) (Nat.le_of_ble_eq_true rfl) (s_next l (dd - 1) x b n L bt τ 0 pl (nI tk) (by omega) hn hL hbt hτ.2.2.1) (fun r K1 hr => ?_)
        obtain ⟨rfl, rfl⟩ := hr
        refine zs_K (K' := [(x, .inr (8, fTx b n L (nxt bt n L τ) 0 pl (nI tk))), (b, .inl (0, 740, .inl (nF bt))), (y, .inr (9, fYard ay (ysN D.1 (nI 2)))), (ay 1, .inl (0, 12, .inl (nF D.2.2.1))), (ay 2, .inl (0, 12, .inl (nF D.2.2.2.1))), (ay 3, .inl (0, 12, .inl (nF D.2.2.2.2.1))), (ay 4, .inl (0, 12, .inl (nF D.2.2.2.2.2.1))), (ay 5, .inl (0, 64, .inl (nF D.2.2.2.2.2.2.1))), (ay 6, .inl (1, 64, .inl (nF D.2.2.2.2.2.2.2)))]) [7, 8, 0, 1, 2, 3, 4, 5, 6] rfl (by decide) ?_
        refine zs_iconst (v := nI 1) dX11_readWind_82 (by decide) ?_
        have e : (pWi bt n L τ tk D) = (0, (nxt bt n L τ), tk, (D.1, nI 2, D.2.2.1, D.2.2.2.1, D.2.2.2.2.1, D.2.2.2.2.2.1, D.2.2.2.2.2.2.1, D.2.2.2.2.2.2.2)) := by rw [pWi, if_neg (fun h => c_1 ((wV_e hwd (by decide : 10 < 29)).mpr h)), if_neg (fun h => c_2 ((wV_e hwd (by decide : 11 < 29)).mpr h)), if_pos ((wV_e hwd (by decide : 12 < 29)).mp c_3)] <;> rfl
        exact zs_zret dX11_readWind_83 rfl (Or.inr rfl) (Or.inl ⟨by rw [e], rfl, by rw [e]; rfl⟩)
    · refine zs_aload_n dX11_readWind_28 rfl rfl ?_
      refine zs_iconst (v := nI 1) dX11_readWind_29 (by decide) ?_
      refine zs_put 2 dX11_readWind_30 zf_RX11_62 rfl (Nat.le_of_ble_eq_true rfl) (zPv_i _) ?_
      show zS _ _ _ _ _ _ [(x, .inr (8, fTx b n L τ 0 pl (nI tk))), (b, .inl (0, 740, .inl (nF bt))), (y, .inr (9, fYard ay (ysN D.1 (nI 1)))), (ay 1, .inl (0, 12, .inl (nF D.2.2.1))), (ay 2, .inl (0, 12, .inl (nF D.2.2.2.1))), (ay 3, .inl (0, 12, .inl (nF D.2.2.2.2.1))), (ay 4, .inl (0, 12, .inl (nF D.2.2.2.2.2.1))), (ay 5, .inl (0, 64, .inl (nF D.2.2.2.2.2.2.1))), (ay 6, .inl (1, 64, .inl (nF D.2.2.2.2.2.2.2)))]
      refine zs_goto (tgt := 78) dX11_readWind_33 (by decide) ?_
      refine zs_aload_n dX11_readWind_78 rfl rfl ?_
      refine zs_callV (M := mX9_next) (As := []) (st := []) (Kc := [(x, .inr (8, fTx b n L τ 0 pl (nI tk))), (b, .inl (0, 740, .inl (nF bt)))]) (Kr := [(y, .inr (9, fYard ay (ysN D.1 (nI 1)))), (ay 1, .inl (0, 12, .inl (nF D.2.2.1))), (ay 2, .inl (0, 12, .inl (nF D.2.2.2.1))), (ay 3, .inl (0, 12, .inl (nF D.2.2.2.2.1))), (ay 4, .inl (0, 12, .inl (nF D.2.2.2.2.2.1))), (ay 5, .inl (0, 64, .inl (nF D.2.2.2.2.2.2.1))), (ay 6, .inl (1, 64, .inl (nF D.2.2.2.2.2.2.2)))]) [0, 1] [2, 3, 4, 5, 6, 7, 8] 0 dX11_readWind_79 zl_RX11_144 kX9_next rfl rfl rfl rfl rfl (by decide) rfl rfl (show dd - 1 + 1 ≤ dd by omega) (Nat.zero_le _) (Nat.zero_le _) (Nat.le_of_ble_eq_true rfl) (s_next l (dd - 1) x b n L bt τ 0 pl (nI tk) (by omega) hn hL hbt hτ.2.2.1) (fun r K1 hr => ?_)
      obtain ⟨rfl, rfl⟩ := hr
      refine zs_K (K' := [(x, .inr (8, fTx b n L (nxt bt n L τ) 0 pl (nI tk))), (b, .inl (0, 740, .inl (nF bt))), (y, .inr (9, fYard ay (ysN D.1 (nI 1)))), (ay 1, .inl (0, 12, .inl (nF D.2.2.1))), (ay 2, .inl (0, 12, .inl (nF D.2.2.2.1))), (ay 3, .inl (0, 12, .inl (nF D.2.2.2.2.1))), (ay 4, .inl (0, 12, .inl (nF D.2.2.2.2.2.1))), (ay 5, .inl (0, 64, .inl (nF D.2.2.2.2.2.2.1))), (ay 6, .inl (1, 64, .inl (nF D.2.2.2.2.2.2.2)))]) [7, 8, 0, 1, 2, 3, 4, 5, 6] rfl (by decide) ?_
      refine zs_iconst (v := nI 1) dX11_readWind_82 (by decide) ?_
      have e : (pWi bt n L τ tk D) = (0, (nxt bt n L τ), tk, (D.1, nI 1, D.2.2.1, D.2.2.2.1, D.2.2.2.2.1, D.2.2.2.2.2.1, D.2.2.2.2.2.2.1, D.2.2.2.2.2.2.2)) := by rw [pWi, if_neg (fun h => c_1 ((wV_e hwd (by decide : 10 < 29)).mpr h)), if_pos ((wV_e hwd (by decide : 11 < 29)).mp c_2)] <;> rfl
      exact zs_zret dX11_readWind_83 rfl (Or.inr rfl) (Or.inl ⟨by rw [e], rfl, by rw [e]; rfl⟩)
  · refine zs_aload_n dX11_readWind_10 rfl rfl ?_
    refine zs_iconst (v := nI 0) dX11_readWind_11 (by decide) ?_
    refine zs_put 2 dX11_readWind_12 zf_RX11_62 rfl (Nat.le_of_ble_eq_true rfl) (zPv_i _) ?_
    show zS _ _ _ _ _ _ [(x, .inr (8, fTx b n L τ 0 pl (nI tk))), (b, .inl (0, 740, .inl (nF bt))), (y, .inr (9, fYard ay (ysN D.1 (nI 0)))), (ay 1, .inl (0, 12, .inl (nF D.2.2.1))), (ay 2, .inl (0, 12, .inl (nF D.2.2.2.1))), (ay 3, .inl (0, 12, .inl (nF D.2.2.2.2.1))), (ay 4, .inl (0, 12, .inl (nF D.2.2.2.2.2.1))), (ay 5, .inl (0, 64, .inl (nF D.2.2.2.2.2.2.1))), (ay 6, .inl (1, 64, .inl (nF D.2.2.2.2.2.2.2)))]
    refine zs_goto (tgt := 78) dX11_readWind_15 (by decide) ?_
    refine zs_aload_n dX11_readWind_78 rfl rfl ?_
    refine zs_callV (M := mX9_next) (As := []) (st := []) (Kc := [(x, .inr (8, fTx b n L τ 0 pl (nI tk))), (b, .inl (0, 740, .inl (nF bt)))]) (Kr := [(y, .inr (9, fYard ay (ysN D.1 (nI 0)))), (ay 1, .inl (0, 12, .inl (nF D.2.2.1))), (ay 2, .inl (0, 12, .inl (nF D.2.2.2.1))), (ay 3, .inl (0, 12, .inl (nF D.2.2.2.2.1))), (ay 4, .inl (0, 12, .inl (nF D.2.2.2.2.2.1))), (ay 5, .inl (0, 64, .inl (nF D.2.2.2.2.2.2.1))), (ay 6, .inl (1, 64, .inl (nF D.2.2.2.2.2.2.2)))]) [0, 1] [2, 3, 4, 5, 6, 7, 8] 0 dX11_readWind_79 zl_RX11_144 kX9_next rfl rfl rfl rfl rfl (by decide) rfl rfl (show dd - 1 + 1 ≤ dd by omega) (Nat.zero_le _) (Nat.zero_le _) (Nat.le_of_ble_eq_true rfl) (s_next l (dd - 1) x b n L bt τ 0 pl (nI tk) (by omega) hn hL hbt hτ.2.2.1) (fun r K1 hr => ?_)
    obtain ⟨rfl, rfl⟩ := hr
    refine zs_K (K' := [(x, .inr (8, fTx b n L (nxt bt n L τ) 0 pl (nI tk))), (b, .inl (0, 740, .inl (nF bt))), (y, .inr (9, fYard ay (ysN D.1 (nI 0)))), (ay 1, .inl (0, 12, .inl (nF D.2.2.1))), (ay 2, .inl (0, 12, .inl (nF D.2.2.2.1))), (ay 3, .inl (0, 12, .inl (nF D.2.2.2.2.1))), (ay 4, .inl (0, 12, .inl (nF D.2.2.2.2.2.1))), (ay 5, .inl (0, 64, .inl (nF D.2.2.2.2.2.2.1))), (ay 6, .inl (1, 64, .inl (nF D.2.2.2.2.2.2.2)))]) [7, 8, 0, 1, 2, 3, 4, 5, 6] rfl (by decide) ?_
    refine zs_iconst (v := nI 1) dX11_readWind_82 (by decide) ?_
    have e : (pWi bt n L τ tk D) = (0, (nxt bt n L τ), tk, (D.1, nI 0, D.2.2.1, D.2.2.2.1, D.2.2.2.2.1, D.2.2.2.2.2.1, D.2.2.2.2.2.2.1, D.2.2.2.2.2.2.2)) := by rw [pWi, if_pos ((wV_e hwd (by decide : 10 < 29)).mp c_1)] <;> rfl
    exact zs_zret dX11_readWind_83 rfl (Or.inr rfl) (Or.inl ⟨by rw [e], rfl, by rw [e]; rfl⟩)
theorem dX11_once_0 : decode cX11_once 0 = .ok (.aload_n 0, 1) := by decide +kernel
theorem dX11_once_1 : decode cX11_once 1 = .ok (.getfield 71, 3) := by decide +kernel
theorem dX11_once_4 : decode cX11_once 4 = .ok (.iload_n 2, 1) := by decide +kernel
theorem dX11_once_5 : decode cX11_once 5 = .ok (.iand, 1) := by decide +kernel
theorem dX11_once_6 : decode cX11_once 6 = .ok (.ifCond .eq 9, 3) := by decide +kernel
theorem dX11_once_9 : decode cX11_once 9 = .ok (.aload_n 1, 1) := by decide +kernel
theorem dX11_once_10 : decode cX11_once 10 = .ok (.iconst 3, 1) := by decide +kernel
theorem dX11_once_11 : decode cX11_once 11 = .ok (.invokevirtual 101, 3) := by decide +kernel
theorem dX11_once_14 : decode cX11_once 14 = .ok (.ireturn, 1) := by decide +kernel
theorem dX11_once_15 : decode cX11_once 15 = .ok (.aload_n 0, 1) := by decide +kernel
theorem dX11_once_16 : decode cX11_once 16 = .ok (.dup, 1) := by decide +kernel
theorem dX11_once_17 : decode cX11_once 17 = .ok (.getfield 71, 3) := by decide +kernel
theorem dX11_once_20 : decode cX11_once 20 = .ok (.iload_n 2, 1) := by decide +kernel
theorem dX11_once_21 : decode cX11_once 21 = .ok (.ior, 1) := by decide +kernel
theorem dX11_once_22 : decode cX11_once 22 = .ok (.putfield 71, 3) := by decide +kernel
theorem dX11_once_25 : decode cX11_once 25 = .ok (.aload_n 1, 1) := by decide +kernel
theorem dX11_once_26 : decode cX11_once 26 = .ok (.invokevirtual 144, 3) := by decide +kernel
theorem dX11_once_29 : decode cX11_once 29 = .ok (.iconst 1, 1) := by decide +kernel
theorem dX11_once_30 : decode cX11_once 30 = .ok (.ireturn, 1) := by decide +kernel
set_option maxRecDepth 100000 in
theorem s_rdOnce (l : Launch) (dd : Nat) (x b n L y : Nat) (ay : Nat → Nat) (bt : Nat → Nat) (τ : zTk) (pl tk : Nat) (D : zYd) (kk : Nat) (hkk : kk < 7) (hd : 5 ≤ dd) (hn : n ≤ 740) (hL : L ≤ 740) (hbt : ∀ j, bt j < 256) (hτ : tOK τ) (hD : yI D) : zSp l mX11_once dd 0 0 [.ref y, .ref x, .int (nI (2 ^ kk))] [(x, .inr (8, fTx b n L τ 0 pl (nI tk))), (b, .inl (0, 740, .inl (nF bt))), (y, .inr (9, fYard ay (ysN D.1 D.2.1))), (ay 1, .inl (0, 12, .inl (nF D.2.2.1))), (ay 2, .inl (0, 12, .inl (nF D.2.2.2.1))), (ay 3, .inl (0, 12, .inl (nF D.2.2.2.2.1))), (ay 4, .inl (0, 12, .inl (nF D.2.2.2.2.2.1))), (ay 5, .inl (0, 64, .inl (nF D.2.2.2.2.2.2.1))), (ay 6, .inl (1, 64, .inl (nF D.2.2.2.2.2.2.2)))] (fun r K' => ((pOnce bt n L (2 ^ kk) τ tk D).1 = 0 ∧ r = some (.int 1) ∧ K' = kTx x b n L bt (pOnce bt n L (2 ^ kk) τ tk D).2.1 0 pl (pOnce bt n L (2 ^ kk) τ tk D).2.2.1 ++ kYd y ay (pOnce bt n L (2 ^ kk) τ tk D).2.2.2) ∨ (¬ (pOnce bt n L (2 ^ kk) τ tk D).1 = 0 ∧ r = some (.int 0) ∧ K' = kTx x b n L bt (pOnce bt n L (2 ^ kk) τ tk D).2.1 (pOnce bt n L (2 ^ kk) τ tk D).1 (pOnce bt n L (2 ^ kk) τ tk D).2.1.2.1 (pOnce bt n L (2 ^ kk) τ tk D).2.2.1 ++ kYd y ay (pOnce bt n L (2 ^ kk) τ tk D).2.2.2)) := by
  refine zSp.of (by decide) (Nat.le_of_ble_eq_true rfl) (fun h0 => ?_)
  show zS _ 0 0 0 [(0, .ref y), (1, .ref x), (2, .int (nI (2 ^ kk)))] [] [(x, .inr (8, fTx b n L τ 0 pl (nI tk))), (b, .inl (0, 740, .inl (nF bt))), (y, .inr (9, fYard ay (ysN D.1 D.2.1))), (ay 1, .inl (0, 12, .inl (nF D.2.2.1))), (ay 2, .inl (0, 12, .inl (nF D.2.2.2.1))), (ay 3, .inl (0, 12, .inl (nF D.2.2.2.2.1))), (ay 4, .inl (0, 12, .inl (nF D.2.2.2.2.2.1))), (ay 5, .inl (0, 64, .inl (nF D.2.2.2.2.2.2.1))), (ay 6, .inl (1, 64, .inl (nF D.2.2.2.2.2.2.2)))]
  have h7 := nI_and7 (D.1 18) hD.2.2.2.2.2.2.1 kk hkk
  have hk2 : D.1 18 &&& 2 ^ kk ≤ D.1 18 := Nat.and_le_left
  have h18 := hD.2.2.2.2.2.2.1
  refine zs_aload_n dX11_once_0 rfl rfl ?_
  refine zs_get 2 dX11_once_1 zf_RX11_71 rfl (v := .int (nI (D.1 18))) rfl ?_
  refine zs_iload_n dX11_once_4 rfl ?_
  refine zs_iand dX11_once_5 ?_
  refine zs_as (y := nI (D.1 18 &&& 2 ^ kk)) h7.1 ?_
  refine zs_if_eq (tgt := 15) dX11_once_6 (by decide) (fun c_1 => ?_) (fun c_1 => ?_)
  · have c_1 : (D.1 18 &&& 2 ^ kk) = 0 := by have hc := c_1; rw [show (0 : Int32) = nI 0 from rfl] at hc; rw [nI_eq' (by omega) (by omega)] at hc; exact hc
    refine zs_aload_n dX11_once_15 rfl rfl ?_
    refine zs_dup dX11_once_16 rfl ?_
    refine zs_get 2 dX11_once_17 zf_RX11_71 rfl (v := .int (nI (D.1 18))) rfl ?_
    refine zs_iload_n dX11_once_20 rfl ?_
    refine zs_ior dX11_once_21 ?_
    refine zs_as (y := nI (D.1 18 ||| 2 ^ kk)) h7.2.1 ?_
    refine zs_put 2 dX11_once_22 zf_RX11_71 rfl (Nat.le_of_ble_eq_true rfl) (zPv_i _) ?_
    show zS _ _ _ _ _ _ [(x, .inr (8, fTx b n L τ 0 pl (nI tk))), (b, .inl (0, 740, .inl (nF bt))), (y, .inr (9, fYard ay (ysN (un D.1 18 (D.1 18 ||| 2 ^ kk)) D.2.1))), (ay 1, .inl (0, 12, .inl (nF D.2.2.1))), (ay 2, .inl (0, 12, .inl (nF D.2.2.2.1))), (ay 3, .inl (0, 12, .inl (nF D.2.2.2.2.1))), (ay 4, .inl (0, 12, .inl (nF D.2.2.2.2.2.1))), (ay 5, .inl (0, 64, .inl (nF D.2.2.2.2.2.2.1))), (ay 6, .inl (1, 64, .inl (nF D.2.2.2.2.2.2.2)))]
    refine zs_aload_n dX11_once_25 rfl rfl ?_
    refine zs_callV (M := mX9_next) (As := []) (st := []) (Kc := [(x, .inr (8, fTx b n L τ 0 pl (nI tk))), (b, .inl (0, 740, .inl (nF bt)))]) (Kr := [(y, .inr (9, fYard ay (ysN (un D.1 18 (D.1 18 ||| 2 ^ kk)) D.2.1))), (ay 1, .inl (0, 12, .inl (nF D.2.2.1))), (ay 2, .inl (0, 12, .inl (nF D.2.2.2.1))), (ay 3, .inl (0, 12, .inl (nF D.2.2.2.2.1))), (ay 4, .inl (0, 12, .inl (nF D.2.2.2.2.2.1))), (ay 5, .inl (0, 64, .inl (nF D.2.2.2.2.2.2.1))), (ay 6, .inl (1, 64, .inl (nF D.2.2.2.2.2.2.2)))]) [0, 1] [2, 3, 4, 5, 6, 7, 8] 0 dX11_once_26 zl_RX11_144 kX9_next rfl rfl rfl rfl rfl (by decide) rfl rfl (show dd - 1 + 1 ≤ dd by omega) (Nat.zero_le _) (Nat.zero_le _) (Nat.le_of_ble_eq_true rfl) (s_next l (dd - 1) x b n L bt τ 0 pl (nI tk) (by omega) hn hL hbt hτ.2.2.1) (fun r K1 hr => ?_)
    obtain ⟨rfl, rfl⟩ := hr
    refine zs_K (K' := [(x, .inr (8, fTx b n L (nxt bt n L τ) 0 pl (nI tk))), (b, .inl (0, 740, .inl (nF bt))), (y, .inr (9, fYard ay (ysN (un D.1 18 (D.1 18 ||| 2 ^ kk)) D.2.1))), (ay 1, .inl (0, 12, .inl (nF D.2.2.1))), (ay 2, .inl (0, 12, .inl (nF D.2.2.2.1))), (ay 3, .inl (0, 12, .inl (nF D.2.2.2.2.1))), (ay 4, .inl (0, 12, .inl (nF D.2.2.2.2.2.1))), (ay 5, .inl (0, 64, .inl (nF D.2.2.2.2.2.2.1))), (ay 6, .inl (1, 64, .inl (nF D.2.2.2.2.2.2.2)))]) [7, 8, 0, 1, 2, 3, 4, 5, 6] rfl (by decide) ?_
    refine zs_iconst (v := nI 1) dX11_once_29 (by decide) ?_
    have e : (pOnce bt n L (2 ^ kk) τ tk D) = (0, (nxt bt n L τ), tk, (un D.1 18 (D.1 18 ||| 2 ^ kk), D.2.1, D.2.2.1, D.2.2.2.1, D.2.2.2.2.1, D.2.2.2.2.2.1, D.2.2.2.2.2.2.1, D.2.2.2.2.2.2.2)) := by rw [pOnce, if_pos c_1] <;> rfl
    exact zs_zret dX11_once_30 rfl (Or.inr rfl) (Or.inl ⟨by rw [e], rfl, by rw [e]; rfl⟩)
  · have c_1 : ¬ ((D.1 18 &&& 2 ^ kk) = 0) := by have hc := c_1; rw [show (0 : Int32) = nI 0 from rfl] at hc; rw [nI_eq' (by omega) (by omega)] at hc; exact hc
    refine zs_aload_n dX11_once_9 rfl rfl ?_
    refine zs_iconst (v := nI 3) dX11_once_10 (by decide) ?_
    refine zs_callV (M := mX9_refuse) (As := [.int (nI 3)]) (st := []) (Kc := [(x, .inr (8, fTx b n L τ 0 pl (nI tk)))]) (Kr := [(b, .inl (0, 740, .inl (nF bt))), (y, .inr (9, fYard ay (ysN D.1 D.2.1))), (ay 1, .inl (0, 12, .inl (nF D.2.2.1))), (ay 2, .inl (0, 12, .inl (nF D.2.2.2.1))), (ay 3, .inl (0, 12, .inl (nF D.2.2.2.2.1))), (ay 4, .inl (0, 12, .inl (nF D.2.2.2.2.2.1))), (ay 5, .inl (0, 64, .inl (nF D.2.2.2.2.2.2.1))), (ay 6, .inl (1, 64, .inl (nF D.2.2.2.2.2.2.2)))]) [0] [1, 2, 3, 4, 5, 6, 7, 8] 0 dX11_once_11 zl_RX11_101 kX9_refuse rfl rfl rfl rfl rfl (by decide) rfl rfl (show dd - 1 + 1 ≤ dd by omega) (Nat.zero_le _) (Nat.zero_le _) (Nat.le_of_ble_eq_true rfl) (s_refuse l (dd - 1) x b n L τ pl 3 (nI tk)) (fun r K1 hr => ?_)
    obtain ⟨rfl, rfl⟩ := hr
    refine zs_K (K' := [(x, .inr (8, fTx b n L τ 3 τ.2.1 (nI tk))), (b, .inl (0, 740, .inl (nF bt))), (y, .inr (9, fYard ay (ysN D.1 D.2.1))), (ay 1, .inl (0, 12, .inl (nF D.2.2.1))), (ay 2, .inl (0, 12, .inl (nF D.2.2.2.1))), (ay 3, .inl (0, 12, .inl (nF D.2.2.2.2.1))), (ay 4, .inl (0, 12, .inl (nF D.2.2.2.2.2.1))), (ay 5, .inl (0, 64, .inl (nF D.2.2.2.2.2.2.1))), (ay 6, .inl (1, 64, .inl (nF D.2.2.2.2.2.2.2)))]) [8, 0, 1, 2, 3, 4, 5, 6, 7] rfl (by decide) ?_
    have e : (pOnce bt n L (2 ^ kk) τ tk D) = (3, τ, tk, (D.1, D.2.1, D.2.2.1, D.2.2.2.1, D.2.2.2.2.1, D.2.2.2.2.2.1, D.2.2.2.2.2.2.1, D.2.2.2.2.2.2.2)) := by rw [pOnce, if_neg c_1] <;> rfl
    exact zs_zret dX11_once_14 rfl (Or.inl rfl) (Or.inr ⟨by rw [e]; exact (show ¬ 3 = 0 by decide), rfl, by rw [e]; rfl⟩)
theorem dX11_readCells_0 : decode cX11_readCells 0 = .ok (.aload_n 0, 1) := by decide +kernel
theorem dX11_readCells_1 : decode cX11_readCells 1 = .ok (.getfield 68, 3) := by decide +kernel
theorem dX11_readCells_4 : decode cX11_readCells 4 = .ok (.bipush 8, 2) := by decide +kernel
theorem dX11_readCells_6 : decode cX11_readCells 6 = .ok (.if_icmp .lt 9, 3) := by decide +kernel
theorem dX11_readCells_9 : decode cX11_readCells 9 = .ok (.aload_n 1, 1) := by decide +kernel
theorem dX11_readCells_10 : decode cX11_readCells 10 = .ok (.iconst 4, 1) := by decide +kernel
theorem dX11_readCells_11 : decode cX11_readCells 11 = .ok (.invokevirtual 101, 3) := by decide +kernel
theorem dX11_readCells_14 : decode cX11_readCells 14 = .ok (.ireturn, 1) := by decide +kernel
theorem dX11_readCells_15 : decode cX11_readCells 15 = .ok (.aload_n 1, 1) := by decide +kernel
theorem dX11_readCells_16 : decode cX11_readCells 16 = .ok (.invokevirtual 144, 3) := by decide +kernel
theorem dX11_readCells_19 : decode cX11_readCells 19 = .ok (.aload_n 1, 1) := by decide +kernel
theorem dX11_readCells_20 : decode cX11_readCells 20 = .ok (.getfield 80, 3) := by decide +kernel
theorem dX11_readCells_23 : decode cX11_readCells 23 = .ok (.iconst 3, 1) := by decide +kernel
theorem dX11_readCells_24 : decode cX11_readCells 24 = .ok (.if_icmp .eq 9, 3) := by decide +kernel
theorem dX11_readCells_27 : decode cX11_readCells 27 = .ok (.aload_n 1, 1) := by decide +kernel
theorem dX11_readCells_28 : decode cX11_readCells 28 = .ok (.iconst 1, 1) := by decide +kernel
theorem dX11_readCells_29 : decode cX11_readCells 29 = .ok (.invokevirtual 101, 3) := by decide +kernel
theorem dX11_readCells_32 : decode cX11_readCells 32 = .ok (.ireturn, 1) := by decide +kernel
theorem dX11_readCells_33 : decode cX11_readCells 33 = .ok (.aload_n 1, 1) := by decide +kernel
theorem dX11_readCells_34 : decode cX11_readCells 34 = .ok (.invokevirtual 169, 3) := by decide +kernel
theorem dX11_readCells_37 : decode cX11_readCells 37 = .ok (.istore_n 2, 1) := by decide +kernel
theorem dX11_readCells_38 : decode cX11_readCells 38 = .ok (.iload_n 2, 1) := by decide +kernel
theorem dX11_readCells_39 : decode cX11_readCells 39 = .ok (.bipush 8, 2) := by decide +kernel
theorem dX11_readCells_41 : decode cX11_readCells 41 = .ok (.if_icmp .gt 18, 3) := by decide +kernel
theorem dX11_readCells_44 : decode cX11_readCells 44 = .ok (.aload_n 0, 1) := by decide +kernel
theorem dX11_readCells_45 : decode cX11_readCells 45 = .ok (.getfield 68, 3) := by decide +kernel
theorem dX11_readCells_48 : decode cX11_readCells 48 = .ok (.ifCond .le 17, 3) := by decide +kernel
theorem dX11_readCells_51 : decode cX11_readCells 51 = .ok (.iload_n 2, 1) := by decide +kernel
theorem dX11_readCells_52 : decode cX11_readCells 52 = .ok (.aload_n 0, 1) := by decide +kernel
theorem dX11_readCells_53 : decode cX11_readCells 53 = .ok (.getfield 65, 3) := by decide +kernel
theorem dX11_readCells_56 : decode cX11_readCells 56 = .ok (.if_icmp .eq 9, 3) := by decide +kernel
theorem dX11_readCells_59 : decode cX11_readCells 59 = .ok (.aload_n 1, 1) := by decide +kernel
theorem dX11_readCells_60 : decode cX11_readCells 60 = .ok (.iconst 2, 1) := by decide +kernel
theorem dX11_readCells_61 : decode cX11_readCells 61 = .ok (.invokevirtual 101, 3) := by decide +kernel
theorem dX11_readCells_64 : decode cX11_readCells 64 = .ok (.ireturn, 1) := by decide +kernel
theorem dX11_readCells_65 : decode cX11_readCells 65 = .ok (.aload_n 0, 1) := by decide +kernel
theorem dX11_readCells_66 : decode cX11_readCells 66 = .ok (.iload_n 2, 1) := by decide +kernel
theorem dX11_readCells_67 : decode cX11_readCells 67 = .ok (.putfield 65, 3) := by decide +kernel
theorem dX11_readCells_70 : decode cX11_readCells 70 = .ok (.iconst 0, 1) := by decide +kernel
theorem dX11_readCells_71 : decode cX11_readCells 71 = .ok (.istore_n 3, 1) := by decide +kernel
theorem dX11_readCells_72 : decode cX11_readCells 72 = .ok (.iload_n 3, 1) := by decide +kernel
theorem dX11_readCells_73 : decode cX11_readCells 73 = .ok (.aload_n 0, 1) := by decide +kernel
theorem dX11_readCells_74 : decode cX11_readCells 74 = .ok (.getfield 65, 3) := by decide +kernel
theorem dX11_readCells_77 : decode cX11_readCells 77 = .ok (.if_icmp .ge 30, 3) := by decide +kernel
theorem dX11_readCells_80 : decode cX11_readCells 80 = .ok (.aload_n 0, 1) := by decide +kernel
theorem dX11_readCells_81 : decode cX11_readCells 81 = .ok (.getfield 24, 3) := by decide +kernel
theorem dX11_readCells_84 : decode cX11_readCells 84 = .ok (.aload_n 0, 1) := by decide +kernel
theorem dX11_readCells_85 : decode cX11_readCells 85 = .ok (.getfield 68, 3) := by decide +kernel
theorem dX11_readCells_88 : decode cX11_readCells 88 = .ok (.aload_n 0, 1) := by decide +kernel
theorem dX11_readCells_89 : decode cX11_readCells 89 = .ok (.getfield 65, 3) := by decide +kernel
theorem dX11_readCells_92 : decode cX11_readCells 92 = .ok (.imul, 1) := by decide +kernel
theorem dX11_readCells_93 : decode cX11_readCells 93 = .ok (.iload_n 3, 1) := by decide +kernel
theorem dX11_readCells_94 : decode cX11_readCells 94 = .ok (.iadd, 1) := by decide +kernel
theorem dX11_readCells_95 : decode cX11_readCells 95 = .ok (.aload_n 1, 1) := by decide +kernel
theorem dX11_readCells_96 : decode cX11_readCells 96 = .ok (.iload_n 3, 1) := by decide +kernel
theorem dX11_readCells_97 : decode cX11_readCells 97 = .ok (.invokevirtual 172, 3) := by decide +kernel
theorem dX11_readCells_100 : decode cX11_readCells 100 = .ok (.iastore, 1) := by decide +kernel
theorem dX11_readCells_101 : decode cX11_readCells 101 = .ok (.iinc 3 1, 3) := by decide +kernel
theorem dX11_readCells_104 : decode cX11_readCells 104 = .ok (.goto (-32), 3) := by decide +kernel
theorem dX11_readCells_107 : decode cX11_readCells 107 = .ok (.aload_n 0, 1) := by decide +kernel
theorem dX11_readCells_108 : decode cX11_readCells 108 = .ok (.dup, 1) := by decide +kernel
theorem dX11_readCells_109 : decode cX11_readCells 109 = .ok (.getfield 68, 3) := by decide +kernel
theorem dX11_readCells_112 : decode cX11_readCells 112 = .ok (.iconst 1, 1) := by decide +kernel
theorem dX11_readCells_113 : decode cX11_readCells 113 = .ok (.iadd, 1) := by decide +kernel
theorem dX11_readCells_114 : decode cX11_readCells 114 = .ok (.putfield 68, 3) := by decide +kernel
theorem dX11_readCells_117 : decode cX11_readCells 117 = .ok (.aload_n 1, 1) := by decide +kernel
theorem dX11_readCells_118 : decode cX11_readCells 118 = .ok (.invokevirtual 144, 3) := by decide +kernel
theorem dX11_readCells_121 : decode cX11_readCells 121 = .ok (.iconst 1, 1) := by decide +kernel
theorem dX11_readCells_122 : decode cX11_readCells 122 = .ok (.ireturn, 1) := by decide +kernel
set_option maxRecDepth 100000 in
theorem lp_cells {l : Launch} {dd : Nat} {Po : zPo} {K0 : zK} {h0 : List va_E} {Xo : zK → Prop} {Gc : zG → Prop} (x b n L y : Nat) (ay : Nat → Nat) (bt : Nat → Nat) (τ : zTk) (pl tk : Nat) (D : zYd) (hd : 5 ≤ dd) (hn : n ≤ 740) (hL : L ≤ 740) (hbt : ∀ j, bt j < 256) (hτ : tOK τ) (hD : yI D) (h8 : D.1 15 < 8) (hl8 : ((nxt bt n L τ).2.2.1 - (nxt bt n L τ).2.1) ≤ 8) (hk3 : (nxt bt n L τ).1 = 3)
    (hk : zS (l, mX11_readCells, dd, Po, K0, h0, Xo, Gc) 0 0 107 [(0, .ref y), (1, .ref x), (2, .int (nI ((nxt bt n L τ).2.2.1 - (nxt bt n L τ).2.1)))] [] [(x, .inr (8, fTx b n L (nxt bt n L τ) 0 pl (nI tk))), (b, .inl (0, 740, .inl (nF bt))), (y, .inr (9, fYard ay (ysN (un D.1 14 ((nxt bt n L τ).2.2.1 - (nxt bt n L τ).2.1)) D.2.1))), (ay 1, .inl (0, 12, .inl (nF D.2.2.1))), (ay 2, .inl (0, 12, .inl (nF D.2.2.2.1))), (ay 3, .inl (0, 12, .inl (nF D.2.2.2.2.1))), (ay 4, .inl (0, 12, .inl (nF D.2.2.2.2.2.1))), (ay 5, .inl (0, 64, .inl (nF (dFu bt (nxt bt n L τ).2.1 (D.1 15 * ((nxt bt n L τ).2.2.1 - (nxt bt n L τ).2.1)) D.2.2.2.2.2.2.1 ((nxt bt n L τ).2.2.1 - (nxt bt n L τ).2.1))))), (ay 6, .inl (1, 64, .inl (nF D.2.2.2.2.2.2.2)))]) :
    ∀ (m i : Nat) , i + m = ((nxt bt n L τ).2.2.1 - (nxt bt n L τ).2.1) → zS (l, mX11_readCells, dd, Po, K0, h0, Xo, Gc) 0 0 72 [(0, .ref y), (1, .ref x), (2, .int (nI ((nxt bt n L τ).2.2.1 - (nxt bt n L τ).2.1))), (3, .int (nI i))] [] [(x, .inr (8, fTx b n L (nxt bt n L τ) 0 pl (nI tk))), (b, .inl (0, 740, .inl (nF bt))), (y, .inr (9, fYard ay (ysN (un D.1 14 ((nxt bt n L τ).2.2.1 - (nxt bt n L τ).2.1)) D.2.1))), (ay 1, .inl (0, 12, .inl (nF D.2.2.1))), (ay 2, .inl (0, 12, .inl (nF D.2.2.2.1))), (ay 3, .inl (0, 12, .inl (nF D.2.2.2.2.1))), (ay 4, .inl (0, 12, .inl (nF D.2.2.2.2.2.1))), (ay 5, .inl (0, 64, .inl (nF (dFu bt (nxt bt n L τ).2.1 (D.1 15 * ((nxt bt n L τ).2.2.1 - (nxt bt n L τ).2.1)) D.2.2.2.2.2.2.1 i)))), (ay 6, .inl (1, 64, .inl (nF D.2.2.2.2.2.2.2)))] := by
  intro m
  induction m with
  | zero =>
    intro i hi
    have hin : i = ((nxt bt n L τ).2.2.1 - (nxt bt n L τ).2.1) := by omega
    rw [hin]
    refine zs_iload_n dX11_readCells_72 rfl ?_
    refine zs_aload_n dX11_readCells_73 rfl rfl ?_
    refine zs_get 2 dX11_readCells_74 zf_RX11_65 rfl (v := .int (nI ((nxt bt n L τ).2.2.1 - (nxt bt n L τ).2.1))) rfl ?_
    refine zs_icmp_ge (tgt := 107) dX11_readCells_77 (by decide) (fun c_1 => ?_) (fun c_1 => (c_1 (Int32.le_refl _) : False).elim)
    refine zs_lv [0, 1, 2] rfl ?_
    exact hk
  | succ m ih =>
    intro i hi
    have hnum := nxt_num hk3
    have hil : i < ((nxt bt n L τ).2.2.1 - (nxt bt n L τ).2.1) := by omega
    have hidx : D.1 15 * ((nxt bt n L τ).2.2.1 - (nxt bt n L τ).2.1) + ((nxt bt n L τ).2.2.1 - (nxt bt n L τ).2.1) ≤ 64 := by
      have h1 := Nat.mul_le_mul (show D.1 15 + 1 ≤ 8 by omega) hl8
      rw [Nat.add_mul, Nat.one_mul] at h1
      exact h1
    refine zs_iload_n dX11_readCells_72 rfl ?_
    refine zs_aload_n dX11_readCells_73 rfl rfl ?_
    refine zs_get 2 dX11_readCells_74 zf_RX11_65 rfl (v := .int (nI ((nxt bt n L τ).2.2.1 - (nxt bt n L τ).2.1))) rfl ?_
    refine zs_icmp_ge (tgt := 107) dX11_readCells_77 (by decide) (fun c_1 => (nI_ge hil (by omega) c_1 : False).elim) (fun c_1 => ?_)
    refine zs_aload_n dX11_readCells_80 rfl rfl ?_
    refine zs_get 2 dX11_readCells_81 zf_RX11_24 rfl (v := .ref (ay 5)) rfl ?_
    refine zs_aload_n dX11_readCells_84 rfl rfl ?_
    refine zs_get 2 dX11_readCells_85 zf_RX11_68 rfl (v := .int (nI (D.1 15))) rfl ?_
    refine zs_aload_n dX11_readCells_88 rfl rfl ?_
    refine zs_get 2 dX11_readCells_89 zf_RX11_65 rfl (v := .int (nI ((nxt bt n L τ).2.2.1 - (nxt bt n L τ).2.1))) rfl ?_
    refine zs_imul dX11_readCells_92 ?_
    refine zs_as (y := nI ((D.1 15) * ((nxt bt n L τ).2.2.1 - (nxt bt n L τ).2.1))) (nI_mul _ _) ?_
    refine zs_iload_n dX11_readCells_93 rfl ?_
    refine zs_iadd dX11_readCells_94 ?_
    refine zs_as (y := nI (((D.1 15) * ((nxt bt n L τ).2.2.1 - (nxt bt n L τ).2.1)) + i)) (nI_add _ _) ?_
    refine zs_aload_n dX11_readCells_95 rfl rfl ?_
    refine zs_iload_n dX11_readCells_96 rfl ?_
    refine zs_callV (M := mX9_digit) (As := [.int (nI i)]) (st := [.int (nI (((D.1 15) * ((nxt bt n L τ).2.2.1 - (nxt bt n L τ).2.1)) + i)), .ref (ay 5)]) (Kc := [(x, .inr (8, fTx b n L (nxt bt n L τ) 0 pl (nI tk))), (b, .inl (0, 740, .inl (nF bt)))]) (Kr := [(y, .inr (9, fYard ay (ysN (un D.1 14 ((nxt bt n L τ).2.2.1 - (nxt bt n L τ).2.1)) D.2.1))), (ay 1, .inl (0, 12, .inl (nF D.2.2.1))), (ay 2, .inl (0, 12, .inl (nF D.2.2.2.1))), (ay 3, .inl (0, 12, .inl (nF D.2.2.2.2.1))), (ay 4, .inl (0, 12, .inl (nF D.2.2.2.2.2.1))), (ay 5, .inl (0, 64, .inl (nF (dFu bt (nxt bt n L τ).2.1 (D.1 15 * ((nxt bt n L τ).2.2.1 - (nxt bt n L τ).2.1)) D.2.2.2.2.2.2.1 i)))), (ay 6, .inl (1, 64, .inl (nF D.2.2.2.2.2.2.2)))]) [0, 1] [2, 3, 4, 5, 6, 7, 8] 0 dX11_readCells_97 zl_RX11_172 kX9_digit rfl rfl rfl rfl rfl (by decide) rfl rfl (show dd - 1 + 1 ≤ dd by omega) (Nat.zero_le _) (Nat.zero_le _) (Nat.le_of_ble_eq_true rfl) (s_digit l (dd - 1) x b n L bt (nxt bt n L τ) 0 pl (nI tk) i hn hL hbt (nxt_OK hbt hn) (by omega) hnum.1 (hnum.2.1 _ (by omega) (by omega)).1) (fun r K1 hr => ?_)
    obtain ⟨rfl, rfl⟩ := hr
    refine zs_K (K' := [(x, .inr (8, fTx b n L (nxt bt n L τ) 0 pl (nI tk))), (b, .inl (0, 740, .inl (nF bt))), (y, .inr (9, fYard ay (ysN (un D.1 14 ((nxt bt n L τ).2.2.1 - (nxt bt n L τ).2.1)) D.2.1))), (ay 1, .inl (0, 12, .inl (nF D.2.2.1))), (ay 2, .inl (0, 12, .inl (nF D.2.2.2.1))), (ay 3, .inl (0, 12, .inl (nF D.2.2.2.2.1))), (ay 4, .inl (0, 12, .inl (nF D.2.2.2.2.2.1))), (ay 5, .inl (0, 64, .inl (nF (dFu bt (nxt bt n L τ).2.1 (D.1 15 * ((nxt bt n L τ).2.2.1 - (nxt bt n L τ).2.1)) D.2.2.2.2.2.2.1 i)))), (ay 6, .inl (1, 64, .inl (nF D.2.2.2.2.2.2.2)))]) [7, 8, 0, 1, 2, 3, 4, 5, 6] rfl (by decide) ?_
    refine zs_iast 7 dX11_readCells_100 rfl (vp_in_nI (by omega) (by omega)) ?_
    rw [nI_c (n := ((D.1 15) * ((nxt bt n L τ).2.2.1 - (nxt bt n L τ).2.1)) + i) (by omega), nF_u]
    show zS _ _ _ _ _ _ [(x, .inr (8, fTx b n L (nxt bt n L τ) 0 pl (nI tk))), (b, .inl (0, 740, .inl (nF bt))), (y, .inr (9, fYard ay (ysN (un D.1 14 ((nxt bt n L τ).2.2.1 - (nxt bt n L τ).2.1)) D.2.1))), (ay 1, .inl (0, 12, .inl (nF D.2.2.1))), (ay 2, .inl (0, 12, .inl (nF D.2.2.2.1))), (ay 3, .inl (0, 12, .inl (nF D.2.2.2.2.1))), (ay 4, .inl (0, 12, .inl (nF D.2.2.2.2.2.1))), (ay 5, .inl (0, 64, .inl (nF (dFu bt (nxt bt n L τ).2.1 (D.1 15 * ((nxt bt n L τ).2.2.1 - (nxt bt n L τ).2.1)) D.2.2.2.2.2.2.1 (i + 1))))), (ay 6, .inl (1, 64, .inl (nF D.2.2.2.2.2.2.2)))]
    refine zs_iinc (v := (nI (i + 1))) (lv' := [(3, .int (nI (i + 1))), (0, .ref y), (1, .ref x), (2, .int (nI ((nxt bt n L τ).2.2.1 - (nxt bt n L τ).2.1)))]) dX11_readCells_101 rfl (nI_add _ 1) (Nat.le_of_ble_eq_true rfl) rfl ?_
    refine zs_goto (tgt := 72) dX11_readCells_104 (by decide) ?_
    refine zs_lv [1, 2, 3, 0] rfl ?_
    exact ih (i + 1) (by omega)
set_option maxRecDepth 100000 in
theorem s_rdCells (l : Launch) (dd : Nat) (x b n L y : Nat) (ay : Nat → Nat) (bt : Nat → Nat) (τ : zTk) (pl tk : Nat) (D : zYd) (hd : 5 ≤ dd) (hn : n ≤ 740) (hL : L ≤ 740) (hbt : ∀ j, bt j < 256) (hτ : tOK τ) (hD : yI D) : zSp l mX11_readCells dd 0 0 [.ref y, .ref x] [(x, .inr (8, fTx b n L τ 0 pl (nI tk))), (b, .inl (0, 740, .inl (nF bt))), (y, .inr (9, fYard ay (ysN D.1 D.2.1))), (ay 1, .inl (0, 12, .inl (nF D.2.2.1))), (ay 2, .inl (0, 12, .inl (nF D.2.2.2.1))), (ay 3, .inl (0, 12, .inl (nF D.2.2.2.2.1))), (ay 4, .inl (0, 12, .inl (nF D.2.2.2.2.2.1))), (ay 5, .inl (0, 64, .inl (nF D.2.2.2.2.2.2.1))), (ay 6, .inl (1, 64, .inl (nF D.2.2.2.2.2.2.2)))] (fun r K' => ((pCells bt n L τ tk D).1 = 0 ∧ r = some (.int 1) ∧ K' = kTx x b n L bt (pCells bt n L τ tk D).2.1 0 pl (pCells bt n L τ tk D).2.2.1 ++ kYd y ay (pCells bt n L τ tk D).2.2.2) ∨ (¬ (pCells bt n L τ tk D).1 = 0 ∧ r = some (.int 0) ∧ K' = kTx x b n L bt (pCells bt n L τ tk D).2.1 (pCells bt n L τ tk D).1 (pCells bt n L τ tk D).2.1.2.1 (pCells bt n L τ tk D).2.2.1 ++ kYd y ay (pCells bt n L τ tk D).2.2.2)) := by
  refine zSp.of (by decide) (Nat.le_of_ble_eq_true rfl) (fun h0 => ?_)
  show zS _ 0 0 0 [(0, .ref y), (1, .ref x)] [] [(x, .inr (8, fTx b n L τ 0 pl (nI tk))), (b, .inl (0, 740, .inl (nF bt))), (y, .inr (9, fYard ay (ysN D.1 D.2.1))), (ay 1, .inl (0, 12, .inl (nF D.2.2.1))), (ay 2, .inl (0, 12, .inl (nF D.2.2.2.1))), (ay 3, .inl (0, 12, .inl (nF D.2.2.2.2.1))), (ay 4, .inl (0, 12, .inl (nF D.2.2.2.2.2.1))), (ay 5, .inl (0, 64, .inl (nF D.2.2.2.2.2.2.1))), (ay 6, .inl (1, 64, .inl (nF D.2.2.2.2.2.2.2)))]
  have h15 := hD.2.2.1
  have h14 := hD.2.1
  have hO := nxt_OK (L := L) (τ := τ) hbt hn
  have hO1 := hO.1
  have hO2 := hO.2.2.1
  refine zs_aload_n dX11_readCells_0 rfl rfl ?_
  refine zs_get 2 dX11_readCells_1 zf_RX11_68 rfl (v := .int (nI (D.1 15))) rfl ?_
  refine zs_bipush (v := nI 8) dX11_readCells_4 (by decide) ?_
  refine zs_icmp_lt (tgt := 15) dX11_readCells_6 (by decide) (fun c_1 => ?_) (fun c_1 => ?_)
  · have c_1 : (D.1 15) < 8 := by have hc := c_1; rw [nI_lt' (by omega) (by omega)] at hc; exact hc
    refine zs_aload_n dX11_readCells_15 rfl rfl ?_
    refine zs_callV (M := mX9_next) (As := []) (st := []) (Kc := [(x, .inr (8, fTx b n L τ 0 pl (nI tk))), (b, .inl (0, 740, .inl (nF bt)))]) (Kr := [(y, .inr (9, fYard ay (ysN D.1 D.2.1))), (ay 1, .inl (0, 12, .inl (nF D.2.2.1))), (ay 2, .inl (0, 12, .inl (nF D.2.2.2.1))), (ay 3, .inl (0, 12, .inl (nF D.2.2.2.2.1))), (ay 4, .inl (0, 12, .inl (nF D.2.2.2.2.2.1))), (ay 5, .inl (0, 64, .inl (nF D.2.2.2.2.2.2.1))), (ay 6, .inl (1, 64, .inl (nF D.2.2.2.2.2.2.2)))]) [0, 1] [2, 3, 4, 5, 6, 7, 8] 0 dX11_readCells_16 zl_RX11_144 kX9_next rfl rfl rfl rfl rfl (by decide) rfl rfl (show dd - 1 + 1 ≤ dd by omega) (Nat.zero_le _) (Nat.zero_le _) (Nat.le_of_ble_eq_true rfl) (s_next l (dd - 1) x b n L bt τ 0 pl (nI tk) (by omega) hn hL hbt hτ.2.2.1) (fun r K1 hr => ?_)
    obtain ⟨rfl, rfl⟩ := hr
    refine zs_K (K' := [(x, .inr (8, fTx b n L (nxt bt n L τ) 0 pl (nI tk))), (b, .inl (0, 740, .inl (nF bt))), (y, .inr (9, fYard ay (ysN D.1 D.2.1))), (ay 1, .inl (0, 12, .inl (nF D.2.2.1))), (ay 2, .inl (0, 12, .inl (nF D.2.2.2.1))), (ay 3, .inl (0, 12, .inl (nF D.2.2.2.2.1))), (ay 4, .inl (0, 12, .inl (nF D.2.2.2.2.2.1))), (ay 5, .inl (0, 64, .inl (nF D.2.2.2.2.2.2.1))), (ay 6, .inl (1, 64, .inl (nF D.2.2.2.2.2.2.2)))]) [7, 8, 0, 1, 2, 3, 4, 5, 6] rfl (by decide) ?_
    refine zs_aload_n dX11_readCells_19 rfl rfl ?_
    refine zs_get 0 dX11_readCells_20 zf_RX11_80 rfl (v := .int (nI (nxt bt n L τ).1)) rfl ?_
    refine zs_iconst (v := nI 3) dX11_readCells_23 (by decide) ?_
    refine zs_icmp_eq (tgt := 33) dX11_readCells_24 (by decide) (fun c_2 => ?_) (fun c_2 => ?_)
    · have c_2 : ((nxt bt n L τ).1) = 3 := by have hc := c_2; rw [nI_eq' (by omega) (by omega)] at hc; exact hc
      have hk3 := c_2
      refine zs_aload_n dX11_readCells_33 rfl rfl ?_
      refine zs_callV (M := mX9_length) (As := []) (st := []) (Kc := [(x, .inr (8, fTx b n L (nxt bt n L τ) 0 pl (nI tk)))]) (Kr := [(b, .inl (0, 740, .inl (nF bt))), (y, .inr (9, fYard ay (ysN D.1 D.2.1))), (ay 1, .inl (0, 12, .inl (nF D.2.2.1))), (ay 2, .inl (0, 12, .inl (nF D.2.2.2.1))), (ay 3, .inl (0, 12, .inl (nF D.2.2.2.2.1))), (ay 4, .inl (0, 12, .inl (nF D.2.2.2.2.2.1))), (ay 5, .inl (0, 64, .inl (nF D.2.2.2.2.2.2.1))), (ay 6, .inl (1, 64, .inl (nF D.2.2.2.2.2.2.2)))]) [0] [1, 2, 3, 4, 5, 6, 7, 8] 0 dX11_readCells_34 zl_RX11_169 kX9_length rfl rfl rfl rfl rfl (by decide) rfl rfl (show dd - 1 + 1 ≤ dd by omega) (Nat.zero_le _) (Nat.zero_le _) (Nat.le_of_ble_eq_true rfl) (s_length l (dd - 1) x b n L (nxt bt n L τ) 0 pl (nI tk) (nxt_OK hbt hn)) (fun r K1 hr => ?_)
      obtain ⟨rfl, rfl⟩ := hr
      refine zs_K (K' := [(x, .inr (8, fTx b n L (nxt bt n L τ) 0 pl (nI tk))), (b, .inl (0, 740, .inl (nF bt))), (y, .inr (9, fYard ay (ysN D.1 D.2.1))), (ay 1, .inl (0, 12, .inl (nF D.2.2.1))), (ay 2, .inl (0, 12, .inl (nF D.2.2.2.1))), (ay 3, .inl (0, 12, .inl (nF D.2.2.2.2.1))), (ay 4, .inl (0, 12, .inl (nF D.2.2.2.2.2.1))), (ay 5, .inl (0, 64, .inl (nF D.2.2.2.2.2.2.1))), (ay 6, .inl (1, 64, .inl (nF D.2.2.2.2.2.2.2)))]) [8, 0, 1, 2, 3, 4, 5, 6, 7] rfl (by decide) ?_
      refine zs_istore_n (lv' := [(2, .int (nI ((nxt bt n L τ).2.2.1 - (nxt bt n L τ).2.1))), (0, .ref y), (1, .ref x)]) dX11_readCells_37 (Nat.le_of_ble_eq_true rfl) rfl ?_
      refine zs_iload_n dX11_readCells_38 rfl ?_
      refine zs_bipush (v := nI 8) dX11_readCells_39 (by decide) ?_
      refine zs_icmp_gt (tgt := 59) dX11_readCells_41 (by decide) (fun c_3 => ?_) (fun c_3 => ?_)
      · have c_3 : 8 < ((nxt bt n L τ).2.2.1 - (nxt bt n L τ).2.1) := by have hc := c_3; rw [nI_lt' (by omega) (by omega)] at hc; exact hc
        refine zs_aload_n dX11_readCells_59 rfl rfl ?_
        refine zs_iconst (v := nI 2) dX11_readCells_60 (by decide) ?_
        refine zs_callV (M := mX9_refuse) (As := [.int (nI 2)]) (st := []) (Kc := [(x, .inr (8, fTx b n L (nxt bt n L τ) 0 pl (nI tk)))]) (Kr := [(b, .inl (0, 740, .inl (nF bt))), (y, .inr (9, fYard ay (ysN D.1 D.2.1))), (ay 1, .inl (0, 12, .inl (nF D.2.2.1))), (ay 2, .inl (0, 12, .inl (nF D.2.2.2.1))), (ay 3, .inl (0, 12, .inl (nF D.2.2.2.2.1))), (ay 4, .inl (0, 12, .inl (nF D.2.2.2.2.2.1))), (ay 5, .inl (0, 64, .inl (nF D.2.2.2.2.2.2.1))), (ay 6, .inl (1, 64, .inl (nF D.2.2.2.2.2.2.2)))]) [0] [1, 2, 3, 4, 5, 6, 7, 8] 0 dX11_readCells_61 zl_RX11_101 kX9_refuse rfl rfl rfl rfl rfl (by decide) rfl rfl (show dd - 1 + 1 ≤ dd by omega) (Nat.zero_le _) (Nat.zero_le _) (Nat.le_of_ble_eq_true rfl) (s_refuse l (dd - 1) x b n L (nxt bt n L τ) pl 2 (nI tk)) (fun r K1 hr => ?_)
        obtain ⟨rfl, rfl⟩ := hr
        refine zs_K (K' := [(x, .inr (8, fTx b n L (nxt bt n L τ) 2 ((nxt bt n L τ).2.1) (nI tk))), (b, .inl (0, 740, .inl (nF bt))), (y, .inr (9, fYard ay (ysN D.1 D.2.1))), (ay 1, .inl (0, 12, .inl (nF D.2.2.1))), (ay 2, .inl (0, 12, .inl (nF D.2.2.2.1))), (ay 3, .inl (0, 12, .inl (nF D.2.2.2.2.1))), (ay 4, .inl (0, 12, .inl (nF D.2.2.2.2.2.1))), (ay 5, .inl (0, 64, .inl (nF D.2.2.2.2.2.2.1))), (ay 6, .inl (1, 64, .inl (nF D.2.2.2.2.2.2.2)))]) [8, 0, 1, 2, 3, 4, 5, 6, 7] rfl (by decide) ?_
        have e : (pCells bt n L τ tk D) = (2, (nxt bt n L τ), tk, (D.1, D.2.1, D.2.2.1, D.2.2.2.1, D.2.2.2.2.1, D.2.2.2.2.2.1, D.2.2.2.2.2.2.1, D.2.2.2.2.2.2.2)) := by rw [pCells, if_neg (show ¬ 8 ≤ D.1 15 by omega), if_neg (fun h => h c_2), if_pos (show 8 < ((nxt bt n L τ).2.2.1 - (nxt bt n L τ).2.1) by omega)] <;> rfl
        exact zs_zret dX11_readCells_64 rfl (Or.inl rfl) (Or.inr ⟨by rw [e]; exact (show ¬ 2 = 0 by decide), rfl, by rw [e]; rfl⟩)
      · have c_3 : ¬ (8 < ((nxt bt n L τ).2.2.1 - (nxt bt n L τ).2.1)) := by have hc := c_3; rw [nI_lt' (by omega) (by omega)] at hc; exact hc
        refine zs_aload_n dX11_readCells_44 rfl rfl ?_
        refine zs_get 2 dX11_readCells_45 zf_RX11_68 rfl (v := .int (nI (D.1 15))) rfl ?_
        refine zs_if_le (tgt := 65) dX11_readCells_48 (by decide) (fun c_4 => ?_) (fun c_4 => ?_)
        · have c_4 : (D.1 15) ≤ 0 := by have hc := c_4; rw [show (0 : Int32) = nI 0 from rfl] at hc; rw [nI_le' (by omega) (by omega)] at hc; exact hc
          refine zs_aload_n dX11_readCells_65 rfl rfl ?_
          refine zs_iload_n dX11_readCells_66 rfl ?_
          refine zs_put 2 dX11_readCells_67 zf_RX11_65 rfl (Nat.le_of_ble_eq_true rfl) (zPv_i _) ?_
          show zS _ _ _ _ _ _ [(x, .inr (8, fTx b n L (nxt bt n L τ) 0 pl (nI tk))), (b, .inl (0, 740, .inl (nF bt))), (y, .inr (9, fYard ay (ysN (un D.1 14 ((nxt bt n L τ).2.2.1 - (nxt bt n L τ).2.1)) D.2.1))), (ay 1, .inl (0, 12, .inl (nF D.2.2.1))), (ay 2, .inl (0, 12, .inl (nF D.2.2.2.1))), (ay 3, .inl (0, 12, .inl (nF D.2.2.2.2.1))), (ay 4, .inl (0, 12, .inl (nF D.2.2.2.2.2.1))), (ay 5, .inl (0, 64, .inl (nF D.2.2.2.2.2.2.1))), (ay 6, .inl (1, 64, .inl (nF D.2.2.2.2.2.2.2)))]
          refine zs_iconst (v := nI 0) dX11_readCells_70 (by decide) ?_
          refine zs_istore_n (lv' := [(3, .int (nI 0)), (2, .int (nI ((nxt bt n L τ).2.2.1 - (nxt bt n L τ).2.1))), (0, .ref y), (1, .ref x)]) dX11_readCells_71 (Nat.le_of_ble_eq_true rfl) rfl ?_
          refine zs_lv [2, 3, 1, 0] rfl ?_
          refine lp_cells x b n L y ay bt τ pl tk D hd hn hL hbt hτ hD (by omega) (by omega) hk3 ?_ ((nxt bt n L τ).2.2.1 - (nxt bt n L τ).2.1) 0 (by omega)
          refine zs_aload_n dX11_readCells_107 rfl rfl ?_
          refine zs_dup dX11_readCells_108 rfl ?_
          refine zs_get 2 dX11_readCells_109 zf_RX11_68 rfl (v := .int (nI (D.1 15))) rfl ?_
          refine zs_iconst (v := nI 1) dX11_readCells_112 (by decide) ?_
          refine zs_iadd dX11_readCells_113 ?_
          refine zs_as (y := nI ((D.1 15) + 1)) (nI_add _ _) ?_
          refine zs_put 2 dX11_readCells_114 zf_RX11_68 rfl (Nat.le_of_ble_eq_true rfl) (zPv_i _) ?_
          show zS _ _ _ _ _ _ [(x, .inr (8, fTx b n L (nxt bt n L τ) 0 pl (nI tk))), (b, .inl (0, 740, .inl (nF bt))), (y, .inr (9, fYard ay (ysN (un (un D.1 14 ((nxt bt n L τ).2.2.1 - (nxt bt n L τ).2.1)) 15 ((D.1 15) + 1)) D.2.1))), (ay 1, .inl (0, 12, .inl (nF D.2.2.1))), (ay 2, .inl (0, 12, .inl (nF D.2.2.2.1))), (ay 3, .inl (0, 12, .inl (nF D.2.2.2.2.1))), (ay 4, .inl (0, 12, .inl (nF D.2.2.2.2.2.1))), (ay 5, .inl (0, 64, .inl (nF (dFu bt (nxt bt n L τ).2.1 (D.1 15 * ((nxt bt n L τ).2.2.1 - (nxt bt n L τ).2.1)) D.2.2.2.2.2.2.1 ((nxt bt n L τ).2.2.1 - (nxt bt n L τ).2.1))))), (ay 6, .inl (1, 64, .inl (nF D.2.2.2.2.2.2.2)))]
          refine zs_aload_n dX11_readCells_117 rfl rfl ?_
          refine zs_callV (M := mX9_next) (As := []) (st := []) (Kc := [(x, .inr (8, fTx b n L (nxt bt n L τ) 0 pl (nI tk))), (b, .inl (0, 740, .inl (nF bt)))]) (Kr := [(y, .inr (9, fYard ay (ysN (un (un D.1 14 ((nxt bt n L τ).2.2.1 - (nxt bt n L τ).2.1)) 15 ((D.1 15) + 1)) D.2.1))), (ay 1, .inl (0, 12, .inl (nF D.2.2.1))), (ay 2, .inl (0, 12, .inl (nF D.2.2.2.1))), (ay 3, .inl (0, 12, .inl (nF D.2.2.2.2.1))), (ay 4, .inl (0, 12, .inl (nF D.2.2.2.2.2.1))), (ay 5, .inl (0, 64, .inl (nF (dFu bt (nxt bt n L τ).2.1 (D.1 15 * ((nxt bt n L τ).2.2.1 - (nxt bt n L τ).2.1)) D.2.2.2.2.2.2.1 ((nxt bt n L τ).2.2.1 - (nxt bt n L τ).2.1))))), (ay 6, .inl (1, 64, .inl (nF D.2.2.2.2.2.2.2)))]) [0, 1] [2, 3, 4, 5, 6, 7, 8] 0 dX11_readCells_118 zl_RX11_144 kX9_next rfl rfl rfl rfl rfl (by decide) rfl rfl (show dd - 1 + 1 ≤ dd by omega) (Nat.zero_le _) (Nat.zero_le _) (Nat.le_of_ble_eq_true rfl) (s_next l (dd - 1) x b n L bt (nxt bt n L τ) 0 pl (nI tk) (by omega) hn hL hbt (nxt_OK hbt hn).2.2.1) (fun r K1 hr => ?_)
          obtain ⟨rfl, rfl⟩ := hr
          refine zs_K (K' := [(x, .inr (8, fTx b n L (nxt bt n L (nxt bt n L τ)) 0 pl (nI tk))), (b, .inl (0, 740, .inl (nF bt))), (y, .inr (9, fYard ay (ysN (un (un D.1 14 ((nxt bt n L τ).2.2.1 - (nxt bt n L τ).2.1)) 15 ((D.1 15) + 1)) D.2.1))), (ay 1, .inl (0, 12, .inl (nF D.2.2.1))), (ay 2, .inl (0, 12, .inl (nF D.2.2.2.1))), (ay 3, .inl (0, 12, .inl (nF D.2.2.2.2.1))), (ay 4, .inl (0, 12, .inl (nF D.2.2.2.2.2.1))), (ay 5, .inl (0, 64, .inl (nF (dFu bt (nxt bt n L τ).2.1 (D.1 15 * ((nxt bt n L τ).2.2.1 - (nxt bt n L τ).2.1)) D.2.2.2.2.2.2.1 ((nxt bt n L τ).2.2.1 - (nxt bt n L τ).2.1))))), (ay 6, .inl (1, 64, .inl (nF D.2.2.2.2.2.2.2)))]) [7, 8, 0, 1, 2, 3, 4, 5, 6] rfl (by decide) ?_
          refine zs_iconst (v := nI 1) dX11_readCells_121 (by decide) ?_
          have e : (pCells bt n L τ tk D) = (0, (nxt bt n L (nxt bt n L τ)), tk, (un (un D.1 14 ((nxt bt n L τ).2.2.1 - (nxt bt n L τ).2.1)) 15 ((D.1 15) + 1), D.2.1, D.2.2.1, D.2.2.2.1, D.2.2.2.2.1, D.2.2.2.2.2.1, dFu bt (nxt bt n L τ).2.1 (D.1 15 * ((nxt bt n L τ).2.2.1 - (nxt bt n L τ).2.1)) D.2.2.2.2.2.2.1 ((nxt bt n L τ).2.2.1 - (nxt bt n L τ).2.1), D.2.2.2.2.2.2.2)) := by rw [pCells, if_neg (show ¬ 8 ≤ D.1 15 by omega), if_neg (fun h => h c_2), if_neg (show ¬ 8 < ((nxt bt n L τ).2.2.1 - (nxt bt n L τ).2.1) by omega), if_pos (show D.1 15 = 0 by omega)] <;> rfl
          exact zs_zret dX11_readCells_122 rfl (Or.inr rfl) (Or.inl ⟨by rw [e], rfl, by rw [e]; rfl⟩)
        · have c_4 : ¬ ((D.1 15) ≤ 0) := by have hc := c_4; rw [show (0 : Int32) = nI 0 from rfl] at hc; rw [nI_le' (by omega) (by omega)] at hc; exact hc
          refine zs_iload_n dX11_readCells_51 rfl ?_
          refine zs_aload_n dX11_readCells_52 rfl rfl ?_
          refine zs_get 2 dX11_readCells_53 zf_RX11_65 rfl (v := .int (nI (D.1 14))) rfl ?_
          refine zs_icmp_eq (tgt := 65) dX11_readCells_56 (by decide) (fun c_5 => ?_) (fun c_5 => ?_)
          · have c_5 : ((nxt bt n L τ).2.2.1 - (nxt bt n L τ).2.1) = (D.1 14) := by have hc := c_5; rw [nI_eq' (by omega) (by omega)] at hc; exact hc
            refine zs_aload_n dX11_readCells_65 rfl rfl ?_
            refine zs_iload_n dX11_readCells_66 rfl ?_
            refine zs_put 2 dX11_readCells_67 zf_RX11_65 rfl (Nat.le_of_ble_eq_true rfl) (zPv_i _) ?_
            show zS _ _ _ _ _ _ [(x, .inr (8, fTx b n L (nxt bt n L τ) 0 pl (nI tk))), (b, .inl (0, 740, .inl (nF bt))), (y, .inr (9, fYard ay (ysN (un D.1 14 ((nxt bt n L τ).2.2.1 - (nxt bt n L τ).2.1)) D.2.1))), (ay 1, .inl (0, 12, .inl (nF D.2.2.1))), (ay 2, .inl (0, 12, .inl (nF D.2.2.2.1))), (ay 3, .inl (0, 12, .inl (nF D.2.2.2.2.1))), (ay 4, .inl (0, 12, .inl (nF D.2.2.2.2.2.1))), (ay 5, .inl (0, 64, .inl (nF D.2.2.2.2.2.2.1))), (ay 6, .inl (1, 64, .inl (nF D.2.2.2.2.2.2.2)))]
            refine zs_iconst (v := nI 0) dX11_readCells_70 (by decide) ?_
            refine zs_istore_n (lv' := [(3, .int (nI 0)), (2, .int (nI ((nxt bt n L τ).2.2.1 - (nxt bt n L τ).2.1))), (0, .ref y), (1, .ref x)]) dX11_readCells_71 (Nat.le_of_ble_eq_true rfl) rfl ?_
            refine zs_lv [2, 3, 1, 0] rfl ?_
            refine lp_cells x b n L y ay bt τ pl tk D hd hn hL hbt hτ hD (by omega) (by omega) hk3 ?_ ((nxt bt n L τ).2.2.1 - (nxt bt n L τ).2.1) 0 (by omega)
            refine zs_aload_n dX11_readCells_107 rfl rfl ?_
            refine zs_dup dX11_readCells_108 rfl ?_
            refine zs_get 2 dX11_readCells_109 zf_RX11_68 rfl (v := .int (nI (D.1 15))) rfl ?_
            refine zs_iconst (v := nI 1) dX11_readCells_112 (by decide) ?_
            refine zs_iadd dX11_readCells_113 ?_
            refine zs_as (y := nI ((D.1 15) + 1)) (nI_add _ _) ?_
            refine zs_put 2 dX11_readCells_114 zf_RX11_68 rfl (Nat.le_of_ble_eq_true rfl) (zPv_i _) ?_
            show zS _ _ _ _ _ _ [(x, .inr (8, fTx b n L (nxt bt n L τ) 0 pl (nI tk))), (b, .inl (0, 740, .inl (nF bt))), (y, .inr (9, fYard ay (ysN (un (un D.1 14 ((nxt bt n L τ).2.2.1 - (nxt bt n L τ).2.1)) 15 ((D.1 15) + 1)) D.2.1))), (ay 1, .inl (0, 12, .inl (nF D.2.2.1))), (ay 2, .inl (0, 12, .inl (nF D.2.2.2.1))), (ay 3, .inl (0, 12, .inl (nF D.2.2.2.2.1))), (ay 4, .inl (0, 12, .inl (nF D.2.2.2.2.2.1))), (ay 5, .inl (0, 64, .inl (nF (dFu bt (nxt bt n L τ).2.1 (D.1 15 * ((nxt bt n L τ).2.2.1 - (nxt bt n L τ).2.1)) D.2.2.2.2.2.2.1 ((nxt bt n L τ).2.2.1 - (nxt bt n L τ).2.1))))), (ay 6, .inl (1, 64, .inl (nF D.2.2.2.2.2.2.2)))]
            refine zs_aload_n dX11_readCells_117 rfl rfl ?_
            refine zs_callV (M := mX9_next) (As := []) (st := []) (Kc := [(x, .inr (8, fTx b n L (nxt bt n L τ) 0 pl (nI tk))), (b, .inl (0, 740, .inl (nF bt)))]) (Kr := [(y, .inr (9, fYard ay (ysN (un (un D.1 14 ((nxt bt n L τ).2.2.1 - (nxt bt n L τ).2.1)) 15 ((D.1 15) + 1)) D.2.1))), (ay 1, .inl (0, 12, .inl (nF D.2.2.1))), (ay 2, .inl (0, 12, .inl (nF D.2.2.2.1))), (ay 3, .inl (0, 12, .inl (nF D.2.2.2.2.1))), (ay 4, .inl (0, 12, .inl (nF D.2.2.2.2.2.1))), (ay 5, .inl (0, 64, .inl (nF (dFu bt (nxt bt n L τ).2.1 (D.1 15 * ((nxt bt n L τ).2.2.1 - (nxt bt n L τ).2.1)) D.2.2.2.2.2.2.1 ((nxt bt n L τ).2.2.1 - (nxt bt n L τ).2.1))))), (ay 6, .inl (1, 64, .inl (nF D.2.2.2.2.2.2.2)))]) [0, 1] [2, 3, 4, 5, 6, 7, 8] 0 dX11_readCells_118 zl_RX11_144 kX9_next rfl rfl rfl rfl rfl (by decide) rfl rfl (show dd - 1 + 1 ≤ dd by omega) (Nat.zero_le _) (Nat.zero_le _) (Nat.le_of_ble_eq_true rfl) (s_next l (dd - 1) x b n L bt (nxt bt n L τ) 0 pl (nI tk) (by omega) hn hL hbt (nxt_OK hbt hn).2.2.1) (fun r K1 hr => ?_)
            obtain ⟨rfl, rfl⟩ := hr
            refine zs_K (K' := [(x, .inr (8, fTx b n L (nxt bt n L (nxt bt n L τ)) 0 pl (nI tk))), (b, .inl (0, 740, .inl (nF bt))), (y, .inr (9, fYard ay (ysN (un (un D.1 14 ((nxt bt n L τ).2.2.1 - (nxt bt n L τ).2.1)) 15 ((D.1 15) + 1)) D.2.1))), (ay 1, .inl (0, 12, .inl (nF D.2.2.1))), (ay 2, .inl (0, 12, .inl (nF D.2.2.2.1))), (ay 3, .inl (0, 12, .inl (nF D.2.2.2.2.1))), (ay 4, .inl (0, 12, .inl (nF D.2.2.2.2.2.1))), (ay 5, .inl (0, 64, .inl (nF (dFu bt (nxt bt n L τ).2.1 (D.1 15 * ((nxt bt n L τ).2.2.1 - (nxt bt n L τ).2.1)) D.2.2.2.2.2.2.1 ((nxt bt n L τ).2.2.1 - (nxt bt n L τ).2.1))))), (ay 6, .inl (1, 64, .inl (nF D.2.2.2.2.2.2.2)))]) [7, 8, 0, 1, 2, 3, 4, 5, 6] rfl (by decide) ?_
            refine zs_iconst (v := nI 1) dX11_readCells_121 (by decide) ?_
            have e : (pCells bt n L τ tk D) = (0, (nxt bt n L (nxt bt n L τ)), tk, (un (un D.1 14 ((nxt bt n L τ).2.2.1 - (nxt bt n L τ).2.1)) 15 ((D.1 15) + 1), D.2.1, D.2.2.1, D.2.2.2.1, D.2.2.2.2.1, D.2.2.2.2.2.1, dFu bt (nxt bt n L τ).2.1 (D.1 15 * ((nxt bt n L τ).2.2.1 - (nxt bt n L τ).2.1)) D.2.2.2.2.2.2.1 ((nxt bt n L τ).2.2.1 - (nxt bt n L τ).2.1), D.2.2.2.2.2.2.2)) := by rw [pCells, if_neg (show ¬ 8 ≤ D.1 15 by omega), if_neg (fun h => h c_2), if_neg (show ¬ 8 < ((nxt bt n L τ).2.2.1 - (nxt bt n L τ).2.1) by omega), if_neg (show ¬ D.1 15 = 0 by omega), if_pos c_5] <;> rfl
            exact zs_zret dX11_readCells_122 rfl (Or.inr rfl) (Or.inl ⟨by rw [e], rfl, by rw [e]; rfl⟩)
          · have c_5 : ¬ (((nxt bt n L τ).2.2.1 - (nxt bt n L τ).2.1) = (D.1 14)) := by have hc := c_5; rw [nI_eq' (by omega) (by omega)] at hc; exact hc
            refine zs_aload_n dX11_readCells_59 rfl rfl ?_
            refine zs_iconst (v := nI 2) dX11_readCells_60 (by decide) ?_
            refine zs_callV (M := mX9_refuse) (As := [.int (nI 2)]) (st := []) (Kc := [(x, .inr (8, fTx b n L (nxt bt n L τ) 0 pl (nI tk)))]) (Kr := [(b, .inl (0, 740, .inl (nF bt))), (y, .inr (9, fYard ay (ysN D.1 D.2.1))), (ay 1, .inl (0, 12, .inl (nF D.2.2.1))), (ay 2, .inl (0, 12, .inl (nF D.2.2.2.1))), (ay 3, .inl (0, 12, .inl (nF D.2.2.2.2.1))), (ay 4, .inl (0, 12, .inl (nF D.2.2.2.2.2.1))), (ay 5, .inl (0, 64, .inl (nF D.2.2.2.2.2.2.1))), (ay 6, .inl (1, 64, .inl (nF D.2.2.2.2.2.2.2)))]) [0] [1, 2, 3, 4, 5, 6, 7, 8] 0 dX11_readCells_61 zl_RX11_101 kX9_refuse rfl rfl rfl rfl rfl (by decide) rfl rfl (show dd - 1 + 1 ≤ dd by omega) (Nat.zero_le _) (Nat.zero_le _) (Nat.le_of_ble_eq_true rfl) (s_refuse l (dd - 1) x b n L (nxt bt n L τ) pl 2 (nI tk)) (fun r K1 hr => ?_)
            obtain ⟨rfl, rfl⟩ := hr
            refine zs_K (K' := [(x, .inr (8, fTx b n L (nxt bt n L τ) 2 ((nxt bt n L τ).2.1) (nI tk))), (b, .inl (0, 740, .inl (nF bt))), (y, .inr (9, fYard ay (ysN D.1 D.2.1))), (ay 1, .inl (0, 12, .inl (nF D.2.2.1))), (ay 2, .inl (0, 12, .inl (nF D.2.2.2.1))), (ay 3, .inl (0, 12, .inl (nF D.2.2.2.2.1))), (ay 4, .inl (0, 12, .inl (nF D.2.2.2.2.2.1))), (ay 5, .inl (0, 64, .inl (nF D.2.2.2.2.2.2.1))), (ay 6, .inl (1, 64, .inl (nF D.2.2.2.2.2.2.2)))]) [8, 0, 1, 2, 3, 4, 5, 6, 7] rfl (by decide) ?_
            have e : (pCells bt n L τ tk D) = (2, (nxt bt n L τ), tk, (D.1, D.2.1, D.2.2.1, D.2.2.2.1, D.2.2.2.2.1, D.2.2.2.2.2.1, D.2.2.2.2.2.2.1, D.2.2.2.2.2.2.2)) := by rw [pCells, if_neg (show ¬ 8 ≤ D.1 15 by omega), if_neg (fun h => h c_2), if_neg (show ¬ 8 < ((nxt bt n L τ).2.2.1 - (nxt bt n L τ).2.1) by omega), if_neg (show ¬ D.1 15 = 0 by omega), if_neg c_5] <;> rfl
            exact zs_zret dX11_readCells_64 rfl (Or.inl rfl) (Or.inr ⟨by rw [e]; exact (show ¬ 2 = 0 by decide), rfl, by rw [e]; rfl⟩)
    · have c_2 : ¬ (((nxt bt n L τ).1) = 3) := by have hc := c_2; rw [nI_eq' (by omega) (by omega)] at hc; exact hc
      refine zs_aload_n dX11_readCells_27 rfl rfl ?_
      refine zs_iconst (v := nI 1) dX11_readCells_28 (by decide) ?_
      refine zs_callV (M := mX9_refuse) (As := [.int (nI 1)]) (st := []) (Kc := [(x, .inr (8, fTx b n L (nxt bt n L τ) 0 pl (nI tk)))]) (Kr := [(b, .inl (0, 740, .inl (nF bt))), (y, .inr (9, fYard ay (ysN D.1 D.2.1))), (ay 1, .inl (0, 12, .inl (nF D.2.2.1))), (ay 2, .inl (0, 12, .inl (nF D.2.2.2.1))), (ay 3, .inl (0, 12, .inl (nF D.2.2.2.2.1))), (ay 4, .inl (0, 12, .inl (nF D.2.2.2.2.2.1))), (ay 5, .inl (0, 64, .inl (nF D.2.2.2.2.2.2.1))), (ay 6, .inl (1, 64, .inl (nF D.2.2.2.2.2.2.2)))]) [0] [1, 2, 3, 4, 5, 6, 7, 8] 0 dX11_readCells_29 zl_RX11_101 kX9_refuse rfl rfl rfl rfl rfl (by decide) rfl rfl (show dd - 1 + 1 ≤ dd by omega) (Nat.zero_le _) (Nat.zero_le _) (Nat.le_of_ble_eq_true rfl) (s_refuse l (dd - 1) x b n L (nxt bt n L τ) pl 1 (nI tk)) (fun r K1 hr => ?_)
      obtain ⟨rfl, rfl⟩ := hr
      refine zs_K (K' := [(x, .inr (8, fTx b n L (nxt bt n L τ) 1 ((nxt bt n L τ).2.1) (nI tk))), (b, .inl (0, 740, .inl (nF bt))), (y, .inr (9, fYard ay (ysN D.1 D.2.1))), (ay 1, .inl (0, 12, .inl (nF D.2.2.1))), (ay 2, .inl (0, 12, .inl (nF D.2.2.2.1))), (ay 3, .inl (0, 12, .inl (nF D.2.2.2.2.1))), (ay 4, .inl (0, 12, .inl (nF D.2.2.2.2.2.1))), (ay 5, .inl (0, 64, .inl (nF D.2.2.2.2.2.2.1))), (ay 6, .inl (1, 64, .inl (nF D.2.2.2.2.2.2.2)))]) [8, 0, 1, 2, 3, 4, 5, 6, 7] rfl (by decide) ?_
      have e : (pCells bt n L τ tk D) = (1, (nxt bt n L τ), tk, (D.1, D.2.1, D.2.2.1, D.2.2.2.1, D.2.2.2.2.1, D.2.2.2.2.2.1, D.2.2.2.2.2.2.1, D.2.2.2.2.2.2.2)) := by rw [pCells, if_neg (show ¬ 8 ≤ D.1 15 by omega), if_pos c_2] <;> rfl
      exact zs_zret dX11_readCells_32 rfl (Or.inl rfl) (Or.inr ⟨by rw [e]; exact (show ¬ 1 = 0 by decide), rfl, by rw [e]; rfl⟩)
  · have c_1 : ¬ ((D.1 15) < 8) := by have hc := c_1; rw [nI_lt' (by omega) (by omega)] at hc; exact hc
    refine zs_aload_n dX11_readCells_9 rfl rfl ?_
    refine zs_iconst (v := nI 4) dX11_readCells_10 (by decide) ?_
    refine zs_callV (M := mX9_refuse) (As := [.int (nI 4)]) (st := []) (Kc := [(x, .inr (8, fTx b n L τ 0 pl (nI tk)))]) (Kr := [(b, .inl (0, 740, .inl (nF bt))), (y, .inr (9, fYard ay (ysN D.1 D.2.1))), (ay 1, .inl (0, 12, .inl (nF D.2.2.1))), (ay 2, .inl (0, 12, .inl (nF D.2.2.2.1))), (ay 3, .inl (0, 12, .inl (nF D.2.2.2.2.1))), (ay 4, .inl (0, 12, .inl (nF D.2.2.2.2.2.1))), (ay 5, .inl (0, 64, .inl (nF D.2.2.2.2.2.2.1))), (ay 6, .inl (1, 64, .inl (nF D.2.2.2.2.2.2.2)))]) [0] [1, 2, 3, 4, 5, 6, 7, 8] 0 dX11_readCells_11 zl_RX11_101 kX9_refuse rfl rfl rfl rfl rfl (by decide) rfl rfl (show dd - 1 + 1 ≤ dd by omega) (Nat.zero_le _) (Nat.zero_le _) (Nat.le_of_ble_eq_true rfl) (s_refuse l (dd - 1) x b n L τ pl 4 (nI tk)) (fun r K1 hr => ?_)
    obtain ⟨rfl, rfl⟩ := hr
    refine zs_K (K' := [(x, .inr (8, fTx b n L τ 4 τ.2.1 (nI tk))), (b, .inl (0, 740, .inl (nF bt))), (y, .inr (9, fYard ay (ysN D.1 D.2.1))), (ay 1, .inl (0, 12, .inl (nF D.2.2.1))), (ay 2, .inl (0, 12, .inl (nF D.2.2.2.1))), (ay 3, .inl (0, 12, .inl (nF D.2.2.2.2.1))), (ay 4, .inl (0, 12, .inl (nF D.2.2.2.2.2.1))), (ay 5, .inl (0, 64, .inl (nF D.2.2.2.2.2.2.1))), (ay 6, .inl (1, 64, .inl (nF D.2.2.2.2.2.2.2)))]) [8, 0, 1, 2, 3, 4, 5, 6, 7] rfl (by decide) ?_
    have e : (pCells bt n L τ tk D) = (4, τ, tk, (D.1, D.2.1, D.2.2.1, D.2.2.2.1, D.2.2.2.2.1, D.2.2.2.2.2.1, D.2.2.2.2.2.2.1, D.2.2.2.2.2.2.2)) := by rw [pCells, if_pos (show 8 ≤ D.1 15 by omega)] <;> rfl
    exact zs_zret dX11_readCells_14 rfl (Or.inl rfl) (Or.inr ⟨by rw [e]; exact (show ¬ 4 = 0 by decide), rfl, by rw [e]; rfl⟩)
set_option maxRecDepth 100000 in
theorem s_takeNumC (l : Launch) (dd : Nat) (x b n L : Nat) (bt : Nat → Nat) (τ : zTk) (pl : Nat) (tk : Int32) (C : Nat) (hd : 3 ≤ dd) (hn : n ≤ 740) (hL : L ≤ 740) (hbt : ∀ j, bt j < 256) (hτ : tOK τ) (hC : C ≤ 99) : zSp l mX9_takeNumber dd 0 0 [.ref x, .int (nI 0), .int (pC1 C)] [(x, .inr (8, fTx b n L τ 0 pl tk)), (b, .inl (0, 740, .inl (nF bt)))] (fun r K' => (tNuC τ C = 0 ∧ r = some (.int 1) ∧ K' = [(x, .inr (8, fTx b n L (nxt bt n L τ) 0 pl (nI τ.2.2.2.1)))] ++ [(b, .inl (0, 740, .inl (nF bt)))]) ∨ (¬ tNuC τ C = 0 ∧ r = some (.int 0) ∧ K' = [(x, .inr (8, fTx b n L τ (tNuC τ C) τ.2.1 tk))] ++ [(b, .inl (0, 740, .inl (nF bt)))])) := by
  refine zSp.of (by decide) (Nat.le_of_ble_eq_true rfl) (fun h0 => ?_)
  show zS _ 0 0 0 [(0, .ref x), (1, .int (nI 0)), (2, .int (pC1 C))] [] [(x, .inr (8, fTx b n L τ 0 pl tk)), (b, .inl (0, 740, .inl (nF bt)))]
  have hk4 := hτ.1
  refine zs_aload_n dX9_takeNumber_0 rfl rfl ?_
  refine zs_get 0 dX9_takeNumber_1 zf_RX9_46 rfl (v := .int (nI τ.1)) rfl ?_
  refine zs_iconst (v := nI 3) dX9_takeNumber_4 (by decide) ?_
  refine zs_icmp_eq (tgt := 14) dX9_takeNumber_5 (by decide) (fun c_1 => ?_) (fun c_1 => ?_)
  · have c_1 : τ.1 = 3 := by have hc := c_1; rw [nI_eq' (by omega) (by omega)] at hc; exact hc
    have hv := hτ.2.2.2.2.1 c_1
    refine zs_aload_n dX9_takeNumber_14 rfl rfl ?_
    refine zs_get 0 dX9_takeNumber_15 zf_RX9_62 rfl (v := .int (nI τ.2.2.2.1)) rfl ?_
    refine zs_iload_n dX9_takeNumber_18 rfl ?_
    refine zs_icmp_lt (tgt := 30) dX9_takeNumber_19 (by decide) (fun c_2 => (absurd c_2 (by rw [nI_lt' (by omega) (by omega)]; omega) : False).elim) (fun c_2 => ?_)
    refine zs_aload_n dX9_takeNumber_22 rfl rfl ?_
    refine zs_get 0 dX9_takeNumber_23 zf_RX9_62 rfl (v := .int (nI τ.2.2.2.1)) rfl ?_
    refine zs_iload_n dX9_takeNumber_26 rfl ?_
    refine zs_icmp_le (tgt := 36) dX9_takeNumber_27 (by decide) (fun c_3 => ?_) (fun c_3 => ?_)
    · refine zs_aload_n dX9_takeNumber_36 rfl rfl ?_
      refine zs_aload_n dX9_takeNumber_37 rfl rfl ?_
      refine zs_get 0 dX9_takeNumber_38 zf_RX9_62 rfl (v := .int (nI τ.2.2.2.1)) rfl ?_
      refine zs_put 0 dX9_takeNumber_41 zf_RX9_80 rfl (Nat.le_of_ble_eq_true rfl) (zPv_i _) ?_
      show zS _ _ _ _ _ _ [(x, .inr (8, fTx b n L τ 0 pl (nI τ.2.2.2.1))), (b, .inl (0, 740, .inl (nF bt)))]
      refine zs_aload_n dX9_takeNumber_44 rfl rfl ?_
      refine zs_callV (M := mX9_next) (As := []) (st := []) (Kc := [(x, .inr (8, fTx b n L τ 0 pl (nI τ.2.2.2.1))), (b, .inl (0, 740, .inl (nF bt)))]) (Kr := []) [0, 1] [] 0 dX9_takeNumber_45 zl_RX9_39 kX9_next rfl rfl rfl rfl rfl (by decide) rfl rfl (show dd - 1 + 1 ≤ dd by omega) (Nat.zero_le _) (Nat.zero_le _) (Nat.le_of_ble_eq_true rfl) (s_next l (dd - 1) x b n L bt τ 0 pl (nI τ.2.2.2.1) (by omega) hn hL hbt hτ.2.2.1) (fun r K1 hr => ?_)
      obtain ⟨rfl, rfl⟩ := hr
      refine zs_K (K' := [(x, .inr (8, fTx b n L (nxt bt n L τ) 0 pl (nI τ.2.2.2.1))), (b, .inl (0, 740, .inl (nF bt)))]) [0, 1] rfl (by decide) ?_
      refine zs_iconst (v := nI 1) dX9_takeNumber_48 (by decide) ?_
      exact zs_zret dX9_takeNumber_49 rfl (Or.inr rfl) (Or.inl ⟨by rw [tNuC, if_pos c_1, if_neg (show ¬ C ≤ τ.2.2.2.1 by have h := (pC1_le (by omega) hC).mp c_3; omega)], rfl, rfl⟩)
    · refine zs_aload_n dX9_takeNumber_30 rfl rfl ?_
      refine zs_iconst (v := nI 2) dX9_takeNumber_31 (by decide) ?_
      refine zs_callV (M := mX9_refuse) (As := [.int (nI 2)]) (st := []) (Kc := [(x, .inr (8, fTx b n L τ 0 pl tk))]) (Kr := [(b, .inl (0, 740, .inl (nF bt)))]) [0] [1] 0 dX9_takeNumber_32 zl_RX9_77 kX9_refuse rfl rfl rfl rfl rfl (by decide) rfl rfl (show dd - 1 + 1 ≤ dd by omega) (Nat.zero_le _) (Nat.zero_le _) (Nat.le_of_ble_eq_true rfl) (s_refuse l (dd - 1) x b n L τ pl 2 tk) (fun r K1 hr => ?_)
      obtain ⟨rfl, rfl⟩ := hr
      refine zs_K (K' := [(x, .inr (8, fTx b n L τ 2 τ.2.1 tk)), (b, .inl (0, 740, .inl (nF bt)))]) [1, 0] rfl (by decide) ?_
      have e : tNuC τ C = 2 := by rw [tNuC, if_pos c_1, if_pos (show C ≤ τ.2.2.2.1 from Nat.not_lt.mp (fun z => c_3 ((pC1_le (by omega) hC).mpr z)))]
      exact zs_zret dX9_takeNumber_35 rfl (Or.inl rfl) (Or.inr ⟨by rw [e]; decide, rfl, by rw [e]; rfl⟩)
  · have c_1 : ¬ (τ.1 = 3) := by have hc := c_1; rw [nI_eq' (by omega) (by omega)] at hc; exact hc
    refine zs_aload_n dX9_takeNumber_8 rfl rfl ?_
    refine zs_iconst (v := nI 1) dX9_takeNumber_9 (by decide) ?_
    refine zs_callV (M := mX9_refuse) (As := [.int (nI 1)]) (st := []) (Kc := [(x, .inr (8, fTx b n L τ 0 pl tk))]) (Kr := [(b, .inl (0, 740, .inl (nF bt)))]) [0] [1] 0 dX9_takeNumber_10 zl_RX9_77 kX9_refuse rfl rfl rfl rfl rfl (by decide) rfl rfl (show dd - 1 + 1 ≤ dd by omega) (Nat.zero_le _) (Nat.zero_le _) (Nat.le_of_ble_eq_true rfl) (s_refuse l (dd - 1) x b n L τ pl 1 tk) (fun r K1 hr => ?_)
    obtain ⟨rfl, rfl⟩ := hr
    refine zs_K (K' := [(x, .inr (8, fTx b n L τ 1 τ.2.1 tk)), (b, .inl (0, 740, .inl (nF bt)))]) [1, 0] rfl (by decide) ?_
    have e : tNuC τ C = 1 := by rw [tNuC, if_neg c_1]
    exact zs_zret dX9_takeNumber_13 rfl (Or.inl rfl) (Or.inr ⟨by rw [e]; decide, rfl, by rw [e]; rfl⟩)
theorem dX11_readBurn_0 : decode cX11_readBurn 0 = .ok (.aload_n 1, 1) := by decide +kernel
theorem dX11_readBurn_1 : decode cX11_readBurn 1 = .ok (.invokevirtual 144, 3) := by decide +kernel
theorem dX11_readBurn_4 : decode cX11_readBurn 4 = .ok (.aload_n 1, 1) := by decide +kernel
theorem dX11_readBurn_5 : decode cX11_readBurn 5 = .ok (.iconst 0, 1) := by decide +kernel
theorem dX11_readBurn_6 : decode cX11_readBurn 6 = .ok (.aload_n 0, 1) := by decide +kernel
theorem dX11_readBurn_7 : decode cX11_readBurn 7 = .ok (.getfield 65, 3) := by decide +kernel
theorem dX11_readBurn_10 : decode cX11_readBurn 10 = .ok (.iconst 1, 1) := by decide +kernel
theorem dX11_readBurn_11 : decode cX11_readBurn 11 = .ok (.isub, 1) := by decide +kernel
theorem dX11_readBurn_12 : decode cX11_readBurn 12 = .ok (.invokevirtual 137, 3) := by decide +kernel
theorem dX11_readBurn_15 : decode cX11_readBurn 15 = .ok (.ifCond .ne 5, 3) := by decide +kernel
theorem dX11_readBurn_18 : decode cX11_readBurn 18 = .ok (.iconst 0, 1) := by decide +kernel
theorem dX11_readBurn_19 : decode cX11_readBurn 19 = .ok (.ireturn, 1) := by decide +kernel
theorem dX11_readBurn_20 : decode cX11_readBurn 20 = .ok (.aload_n 1, 1) := by decide +kernel
theorem dX11_readBurn_21 : decode cX11_readBurn 21 = .ok (.getfield 141, 3) := by decide +kernel
theorem dX11_readBurn_24 : decode cX11_readBurn 24 = .ok (.istore_n 2, 1) := by decide +kernel
theorem dX11_readBurn_25 : decode cX11_readBurn 25 = .ok (.aload_n 1, 1) := by decide +kernel
theorem dX11_readBurn_26 : decode cX11_readBurn 26 = .ok (.getfield 80, 3) := by decide +kernel
theorem dX11_readBurn_29 : decode cX11_readBurn 29 = .ok (.iconst 3, 1) := by decide +kernel
theorem dX11_readBurn_30 : decode cX11_readBurn 30 = .ok (.if_icmp .eq 9, 3) := by decide +kernel
theorem dX11_readBurn_33 : decode cX11_readBurn 33 = .ok (.aload_n 1, 1) := by decide +kernel
theorem dX11_readBurn_34 : decode cX11_readBurn 34 = .ok (.iconst 1, 1) := by decide +kernel
theorem dX11_readBurn_35 : decode cX11_readBurn 35 = .ok (.invokevirtual 101, 3) := by decide +kernel
theorem dX11_readBurn_38 : decode cX11_readBurn 38 = .ok (.ireturn, 1) := by decide +kernel
theorem dX11_readBurn_39 : decode cX11_readBurn 39 = .ok (.aload_n 1, 1) := by decide +kernel
theorem dX11_readBurn_40 : decode cX11_readBurn 40 = .ok (.getfield 150, 3) := by decide +kernel
theorem dX11_readBurn_43 : decode cX11_readBurn 43 = .ok (.istore_n 3, 1) := by decide +kernel
theorem dX11_readBurn_44 : decode cX11_readBurn 44 = .ok (.iload_n 3, 1) := by decide +kernel
theorem dX11_readBurn_45 : decode cX11_readBurn 45 = .ok (.ifCond .lt 27, 3) := by decide +kernel
theorem dX11_readBurn_48 : decode cX11_readBurn 48 = .ok (.iload_n 3, 1) := by decide +kernel
theorem dX11_readBurn_49 : decode cX11_readBurn 49 = .ok (.aload_n 0, 1) := by decide +kernel
theorem dX11_readBurn_50 : decode cX11_readBurn 50 = .ok (.getfield 68, 3) := by decide +kernel
theorem dX11_readBurn_53 : decode cX11_readBurn 53 = .ok (.if_icmp .ge 19, 3) := by decide +kernel
theorem dX11_readBurn_56 : decode cX11_readBurn 56 = .ok (.aload_n 0, 1) := by decide +kernel
theorem dX11_readBurn_57 : decode cX11_readBurn 57 = .ok (.getfield 24, 3) := by decide +kernel
theorem dX11_readBurn_60 : decode cX11_readBurn 60 = .ok (.iload_n 3, 1) := by decide +kernel
theorem dX11_readBurn_61 : decode cX11_readBurn 61 = .ok (.aload_n 0, 1) := by decide +kernel
theorem dX11_readBurn_62 : decode cX11_readBurn 62 = .ok (.getfield 65, 3) := by decide +kernel
theorem dX11_readBurn_65 : decode cX11_readBurn 65 = .ok (.imul, 1) := by decide +kernel
theorem dX11_readBurn_66 : decode cX11_readBurn 66 = .ok (.iload_n 2, 1) := by decide +kernel
theorem dX11_readBurn_67 : decode cX11_readBurn 67 = .ok (.iadd, 1) := by decide +kernel
theorem dX11_readBurn_68 : decode cX11_readBurn 68 = .ok (.iaload, 1) := by decide +kernel
theorem dX11_readBurn_69 : decode cX11_readBurn 69 = .ok (.ifCond .ne 9, 3) := by decide +kernel
theorem dX11_readBurn_72 : decode cX11_readBurn 72 = .ok (.aload_n 1, 1) := by decide +kernel
theorem dX11_readBurn_73 : decode cX11_readBurn 73 = .ok (.iconst 2, 1) := by decide +kernel
theorem dX11_readBurn_74 : decode cX11_readBurn 74 = .ok (.invokevirtual 101, 3) := by decide +kernel
theorem dX11_readBurn_77 : decode cX11_readBurn 77 = .ok (.ireturn, 1) := by decide +kernel
theorem dX11_readBurn_78 : decode cX11_readBurn 78 = .ok (.aload_n 0, 1) := by decide +kernel
theorem dX11_readBurn_79 : decode cX11_readBurn 79 = .ok (.getfield 27, 3) := by decide +kernel
theorem dX11_readBurn_82 : decode cX11_readBurn 82 = .ok (.iload_n 3, 1) := by decide +kernel
theorem dX11_readBurn_83 : decode cX11_readBurn 83 = .ok (.aload_n 0, 1) := by decide +kernel
theorem dX11_readBurn_84 : decode cX11_readBurn 84 = .ok (.getfield 65, 3) := by decide +kernel
theorem dX11_readBurn_87 : decode cX11_readBurn 87 = .ok (.imul, 1) := by decide +kernel
theorem dX11_readBurn_88 : decode cX11_readBurn 88 = .ok (.iload_n 2, 1) := by decide +kernel
theorem dX11_readBurn_89 : decode cX11_readBurn 89 = .ok (.iadd, 1) := by decide +kernel
theorem dX11_readBurn_90 : decode cX11_readBurn 90 = .ok (.baload, 1) := by decide +kernel
theorem dX11_readBurn_91 : decode cX11_readBurn 91 = .ok (.ifCond .eq 9, 3) := by decide +kernel
theorem dX11_readBurn_94 : decode cX11_readBurn 94 = .ok (.aload_n 1, 1) := by decide +kernel
theorem dX11_readBurn_95 : decode cX11_readBurn 95 = .ok (.iconst 3, 1) := by decide +kernel
theorem dX11_readBurn_96 : decode cX11_readBurn 96 = .ok (.invokevirtual 101, 3) := by decide +kernel
theorem dX11_readBurn_99 : decode cX11_readBurn 99 = .ok (.ireturn, 1) := by decide +kernel
theorem dX11_readBurn_100 : decode cX11_readBurn 100 = .ok (.aload_n 0, 1) := by decide +kernel
theorem dX11_readBurn_101 : decode cX11_readBurn 101 = .ok (.getfield 27, 3) := by decide +kernel
theorem dX11_readBurn_104 : decode cX11_readBurn 104 = .ok (.iload_n 3, 1) := by decide +kernel
theorem dX11_readBurn_105 : decode cX11_readBurn 105 = .ok (.aload_n 0, 1) := by decide +kernel
theorem dX11_readBurn_106 : decode cX11_readBurn 106 = .ok (.getfield 65, 3) := by decide +kernel
theorem dX11_readBurn_109 : decode cX11_readBurn 109 = .ok (.imul, 1) := by decide +kernel
theorem dX11_readBurn_110 : decode cX11_readBurn 110 = .ok (.iload_n 2, 1) := by decide +kernel
theorem dX11_readBurn_111 : decode cX11_readBurn 111 = .ok (.iadd, 1) := by decide +kernel
theorem dX11_readBurn_112 : decode cX11_readBurn 112 = .ok (.iconst 1, 1) := by decide +kernel
theorem dX11_readBurn_113 : decode cX11_readBurn 113 = .ok (.bastore, 1) := by decide +kernel
theorem dX11_readBurn_114 : decode cX11_readBurn 114 = .ok (.aload_n 1, 1) := by decide +kernel
theorem dX11_readBurn_115 : decode cX11_readBurn 115 = .ok (.invokevirtual 144, 3) := by decide +kernel
theorem dX11_readBurn_118 : decode cX11_readBurn 118 = .ok (.iconst 1, 1) := by decide +kernel
theorem dX11_readBurn_119 : decode cX11_readBurn 119 = .ok (.ireturn, 1) := by decide +kernel
set_option maxRecDepth 100000 in
theorem s_rdBurn (l : Launch) (dd : Nat) (x b n L y : Nat) (ay : Nat → Nat) (bt : Nat → Nat) (τ : zTk) (pl tk : Nat) (D : zYd) (hd : 5 ≤ dd) (hn : n ≤ 740) (hL : L ≤ 740) (hbt : ∀ j, bt j < 256) (hτ : tOK τ) (hD : yI D) : zSp l mX11_readBurn dd 0 0 [.ref y, .ref x] [(x, .inr (8, fTx b n L τ 0 pl (nI tk))), (b, .inl (0, 740, .inl (nF bt))), (y, .inr (9, fYard ay (ysN D.1 D.2.1))), (ay 1, .inl (0, 12, .inl (nF D.2.2.1))), (ay 2, .inl (0, 12, .inl (nF D.2.2.2.1))), (ay 3, .inl (0, 12, .inl (nF D.2.2.2.2.1))), (ay 4, .inl (0, 12, .inl (nF D.2.2.2.2.2.1))), (ay 5, .inl (0, 64, .inl (nF D.2.2.2.2.2.2.1))), (ay 6, .inl (1, 64, .inl (nF D.2.2.2.2.2.2.2)))] (fun r K' => ((pBurn bt n L τ tk D).1 = 0 ∧ r = some (.int 1) ∧ K' = kTx x b n L bt (pBurn bt n L τ tk D).2.1 0 pl (pBurn bt n L τ tk D).2.2.1 ++ kYd y ay (pBurn bt n L τ tk D).2.2.2) ∨ (¬ (pBurn bt n L τ tk D).1 = 0 ∧ r = some (.int 0) ∧ K' = kTx x b n L bt (pBurn bt n L τ tk D).2.1 (pBurn bt n L τ tk D).1 (pBurn bt n L τ tk D).2.1.2.1 (pBurn bt n L τ tk D).2.2.1 ++ kYd y ay (pBurn bt n L τ tk D).2.2.2)) := by
  refine zSp.of (by decide) (Nat.le_of_ble_eq_true rfl) (fun h0 => ?_)
  show zS _ 0 0 0 [(0, .ref y), (1, .ref x)] [] [(x, .inr (8, fTx b n L τ 0 pl (nI tk))), (b, .inl (0, 740, .inl (nF bt))), (y, .inr (9, fYard ay (ysN D.1 D.2.1))), (ay 1, .inl (0, 12, .inl (nF D.2.2.1))), (ay 2, .inl (0, 12, .inl (nF D.2.2.2.1))), (ay 3, .inl (0, 12, .inl (nF D.2.2.2.2.1))), (ay 4, .inl (0, 12, .inl (nF D.2.2.2.2.2.1))), (ay 5, .inl (0, 64, .inl (nF D.2.2.2.2.2.2.1))), (ay 6, .inl (1, 64, .inl (nF D.2.2.2.2.2.2.2)))]
  have h15 := hD.2.2.1
  have h14 := hD.2.1
  have hO := nxt_OK (L := L) (τ := τ) hbt hn
  have hO1 := hO.1
  have hM := nxt_OK (L := L) (τ := nxt bt n L τ) hbt hn
  have hM1 := hM.1
  refine zs_aload_n dX11_readBurn_0 rfl rfl ?_
  refine zs_callV (M := mX9_next) (As := []) (st := []) (Kc := [(x, .inr (8, fTx b n L τ 0 pl (nI tk))), (b, .inl (0, 740, .inl (nF bt)))]) (Kr := [(y, .inr (9, fYard ay (ysN D.1 D.2.1))), (ay 1, .inl (0, 12, .inl (nF D.2.2.1))), (ay 2, .inl (0, 12, .inl (nF D.2.2.2.1))), (ay 3, .inl (0, 12, .inl (nF D.2.2.2.2.1))), (ay 4, .inl (0, 12, .inl (nF D.2.2.2.2.2.1))), (ay 5, .inl (0, 64, .inl (nF D.2.2.2.2.2.2.1))), (ay 6, .inl (1, 64, .inl (nF D.2.2.2.2.2.2.2)))]) [0, 1] [2, 3, 4, 5, 6, 7, 8] 0 dX11_readBurn_1 zl_RX11_144 kX9_next rfl rfl rfl rfl rfl (by decide) rfl rfl (show dd - 1 + 1 ≤ dd by omega) (Nat.zero_le _) (Nat.zero_le _) (Nat.le_of_ble_eq_true rfl) (s_next l (dd - 1) x b n L bt τ 0 pl (nI tk) (by omega) hn hL hbt hτ.2.2.1) (fun r K1 hr => ?_)
  obtain ⟨rfl, rfl⟩ := hr
  refine zs_K (K' := [(x, .inr (8, fTx b n L (nxt bt n L τ) 0 pl (nI tk))), (b, .inl (0, 740, .inl (nF bt))), (y, .inr (9, fYard ay (ysN D.1 D.2.1))), (ay 1, .inl (0, 12, .inl (nF D.2.2.1))), (ay 2, .inl (0, 12, .inl (nF D.2.2.2.1))), (ay 3, .inl (0, 12, .inl (nF D.2.2.2.2.1))), (ay 4, .inl (0, 12, .inl (nF D.2.2.2.2.2.1))), (ay 5, .inl (0, 64, .inl (nF D.2.2.2.2.2.2.1))), (ay 6, .inl (1, 64, .inl (nF D.2.2.2.2.2.2.2)))]) [7, 8, 0, 1, 2, 3, 4, 5, 6] rfl (by decide) ?_
  refine zs_aload_n dX11_readBurn_4 rfl rfl ?_
  refine zs_iconst (v := nI 0) dX11_readBurn_5 (by decide) ?_
  refine zs_aload_n dX11_readBurn_6 rfl rfl ?_
  refine zs_get 2 dX11_readBurn_7 zf_RX11_65 rfl (v := .int (nI (D.1 14))) rfl ?_
  refine zs_iconst (v := nI 1) dX11_readBurn_10 (by decide) ?_
  refine zs_isub dX11_readBurn_11 ?_
  refine zs_as (y := pC1 (D.1 14)) rfl ?_
  refine zs_callV (M := mX9_takeNumber) (As := [.int (nI 0), .int (pC1 (D.1 14))]) (st := []) (Kc := [(x, .inr (8, fTx b n L (nxt bt n L τ) 0 pl (nI tk))), (b, .inl (0, 740, .inl (nF bt)))]) (Kr := [(y, .inr (9, fYard ay (ysN D.1 D.2.1))), (ay 1, .inl (0, 12, .inl (nF D.2.2.1))), (ay 2, .inl (0, 12, .inl (nF D.2.2.2.1))), (ay 3, .inl (0, 12, .inl (nF D.2.2.2.2.1))), (ay 4, .inl (0, 12, .inl (nF D.2.2.2.2.2.1))), (ay 5, .inl (0, 64, .inl (nF D.2.2.2.2.2.2.1))), (ay 6, .inl (1, 64, .inl (nF D.2.2.2.2.2.2.2)))]) [0, 1] [2, 3, 4, 5, 6, 7, 8] 0 dX11_readBurn_12 zl_RX11_137 kX9_takeNumber rfl rfl rfl rfl rfl (by decide) rfl rfl (show dd - 1 + 1 ≤ dd by omega) (Nat.zero_le _) (Nat.zero_le _) (Nat.le_of_ble_eq_true rfl) (s_takeNumC l (dd - 1) x b n L bt (nxt bt n L τ) pl (nI tk) (D.1 14) (by omega) hn hL hbt (nxt_OK hbt hn) (by omega)) (fun r K1 hr => ?_)
  rcases hr with ⟨hq12, rfl, rfl⟩ | ⟨hq12, rfl, rfl⟩
  · have hr12 := tNuC_r hq12
    refine zs_K (K' := [(x, .inr (8, fTx b n L (nxt bt n L (nxt bt n L τ)) 0 pl (nI (nxt bt n L τ).2.2.2.1))), (b, .inl (0, 740, .inl (nF bt))), (y, .inr (9, fYard ay (ysN D.1 D.2.1))), (ay 1, .inl (0, 12, .inl (nF D.2.2.1))), (ay 2, .inl (0, 12, .inl (nF D.2.2.2.1))), (ay 3, .inl (0, 12, .inl (nF D.2.2.2.2.1))), (ay 4, .inl (0, 12, .inl (nF D.2.2.2.2.2.1))), (ay 5, .inl (0, 64, .inl (nF D.2.2.2.2.2.2.1))), (ay 6, .inl (1, 64, .inl (nF D.2.2.2.2.2.2.2)))]) [7, 8, 0, 1, 2, 3, 4, 5, 6] rfl (by decide) ?_
    refine zs_if_ne (tgt := 20) dX11_readBurn_15 (by decide) (fun c_1 => ?_) (fun c_1 => (by first | exact absurd c_1 (by decide) | exact absurd (by decide) c_1 : False).elim)
    refine zs_aload_n dX11_readBurn_20 rfl rfl ?_
    refine zs_get 0 dX11_readBurn_21 zf_RX11_141 rfl (v := .int (nI (nxt bt n L τ).2.2.2.1)) rfl ?_
    refine zs_istore_n (lv' := [(2, .int (nI (nxt bt n L τ).2.2.2.1)), (0, .ref y), (1, .ref x)]) dX11_readBurn_24 (Nat.le_of_ble_eq_true rfl) rfl ?_
    refine zs_aload_n dX11_readBurn_25 rfl rfl ?_
    refine zs_get 0 dX11_readBurn_26 zf_RX11_80 rfl (v := .int (nI (nxt bt n L (nxt bt n L τ)).1)) rfl ?_
    refine zs_iconst (v := nI 3) dX11_readBurn_29 (by decide) ?_
    refine zs_icmp_eq (tgt := 39) dX11_readBurn_30 (by decide) (fun c_2 => ?_) (fun c_2 => ?_)
    · have c_2 : ((nxt bt n L (nxt bt n L τ)).1) = 3 := by have hc := c_2; rw [nI_eq' (by omega) (by omega)] at hc; exact hc
      have hvM := hM.2.2.2.2.1 c_2
      refine zs_aload_n dX11_readBurn_39 rfl rfl ?_
      refine zs_get 0 dX11_readBurn_40 zf_RX11_150 rfl (v := .int (nI (nxt bt n L (nxt bt n L τ)).2.2.2.1)) rfl ?_
      refine zs_istore_n (lv' := [(3, .int (nI (nxt bt n L (nxt bt n L τ)).2.2.2.1)), (2, .int (nI (nxt bt n L τ).2.2.2.1)), (0, .ref y), (1, .ref x)]) dX11_readBurn_43 (Nat.le_of_ble_eq_true rfl) rfl ?_
      refine zs_iload_n dX11_readBurn_44 rfl ?_
      refine zs_if_lt (tgt := 72) dX11_readBurn_45 (by decide) (fun c_3 => (absurd c_3 (by rw [show (0 : Int32) = nI 0 from rfl, nI_lt' (by omega) (by omega)]; omega) : False).elim) (fun c_3 => ?_)
      refine zs_iload_n dX11_readBurn_48 rfl ?_
      refine zs_aload_n dX11_readBurn_49 rfl rfl ?_
      refine zs_get 2 dX11_readBurn_50 zf_RX11_68 rfl (v := .int (nI (D.1 15))) rfl ?_
      refine zs_icmp_ge (tgt := 72) dX11_readBurn_53 (by decide) (fun c_4 => ?_) (fun c_4 => ?_)
      · have c_4 : (D.1 15) ≤ ((nxt bt n L (nxt bt n L τ)).2.2.2.1) := by have hc := c_4; rw [nI_le' (by omega) (by omega)] at hc; exact hc
        refine zs_aload_n dX11_readBurn_72 rfl rfl ?_
        refine zs_iconst (v := nI 2) dX11_readBurn_73 (by decide) ?_
        refine zs_callV (M := mX9_refuse) (As := [.int (nI 2)]) (st := []) (Kc := [(x, .inr (8, fTx b n L (nxt bt n L (nxt bt n L τ)) 0 pl (nI (nxt bt n L τ).2.2.2.1)))]) (Kr := [(b, .inl (0, 740, .inl (nF bt))), (y, .inr (9, fYard ay (ysN D.1 D.2.1))), (ay 1, .inl (0, 12, .inl (nF D.2.2.1))), (ay 2, .inl (0, 12, .inl (nF D.2.2.2.1))), (ay 3, .inl (0, 12, .inl (nF D.2.2.2.2.1))), (ay 4, .inl (0, 12, .inl (nF D.2.2.2.2.2.1))), (ay 5, .inl (0, 64, .inl (nF D.2.2.2.2.2.2.1))), (ay 6, .inl (1, 64, .inl (nF D.2.2.2.2.2.2.2)))]) [0] [1, 2, 3, 4, 5, 6, 7, 8] 0 dX11_readBurn_74 zl_RX11_101 kX9_refuse rfl rfl rfl rfl rfl (by decide) rfl rfl (show dd - 1 + 1 ≤ dd by omega) (Nat.zero_le _) (Nat.zero_le _) (Nat.le_of_ble_eq_true rfl) (s_refuse l (dd - 1) x b n L (nxt bt n L (nxt bt n L τ)) pl 2 (nI (nxt bt n L τ).2.2.2.1)) (fun r K1 hr => ?_)
        obtain ⟨rfl, rfl⟩ := hr
        refine zs_K (K' := [(x, .inr (8, fTx b n L (nxt bt n L (nxt bt n L τ)) 2 ((nxt bt n L (nxt bt n L τ)).2.1) (nI (nxt bt n L τ).2.2.2.1))), (b, .inl (0, 740, .inl (nF bt))), (y, .inr (9, fYard ay (ysN D.1 D.2.1))), (ay 1, .inl (0, 12, .inl (nF D.2.2.1))), (ay 2, .inl (0, 12, .inl (nF D.2.2.2.1))), (ay 3, .inl (0, 12, .inl (nF D.2.2.2.2.1))), (ay 4, .inl (0, 12, .inl (nF D.2.2.2.2.2.1))), (ay 5, .inl (0, 64, .inl (nF D.2.2.2.2.2.2.1))), (ay 6, .inl (1, 64, .inl (nF D.2.2.2.2.2.2.2)))]) [8, 0, 1, 2, 3, 4, 5, 6, 7] rfl (by decide) ?_
        have e : (pBurn bt n L τ tk D) = (2, (nxt bt n L (nxt bt n L τ)), ((nxt bt n L τ).2.2.2.1), (D.1, D.2.1, D.2.2.1, D.2.2.2.1, D.2.2.2.2.1, D.2.2.2.2.2.1, D.2.2.2.2.2.2.1, D.2.2.2.2.2.2.2)) := by rw [pBurn, if_neg (fun h => h hq12), if_neg (fun h => h c_2), if_pos (show D.1 15 ≤ (nxt bt n L (nxt bt n L τ)).2.2.2.1 by omega)] <;> rfl
        exact zs_zret dX11_readBurn_77 rfl (Or.inl rfl) (Or.inr ⟨by rw [e]; exact (show ¬ 2 = 0 by decide), rfl, by rw [e]; rfl⟩)
      · have c_4 : ¬ ((D.1 15) ≤ ((nxt bt n L (nxt bt n L τ)).2.2.2.1)) := by have hc := c_4; rw [nI_le' (by omega) (by omega)] at hc; exact hc
        have hidx : (nxt bt n L (nxt bt n L τ)).2.2.2.1 * D.1 14 + (nxt bt n L τ).2.2.2.1 < 64 := by
          have h1 := Nat.mul_le_mul_right (D.1 14) (show (nxt bt n L (nxt bt n L τ)).2.2.2.1 + 1 ≤ 8 by omega)
          rw [Nat.add_mul, Nat.one_mul] at h1
          omega
        have hf9 := hD.2.2.2.2.1 ((nxt bt n L (nxt bt n L τ)).2.2.2.1 * D.1 14 + (nxt bt n L τ).2.2.2.1)
        have hb1 := hD.2.2.2.2.2.1 ((nxt bt n L (nxt bt n L τ)).2.2.2.1 * D.1 14 + (nxt bt n L τ).2.2.2.1)
        refine zs_aload_n dX11_readBurn_56 rfl rfl ?_
        refine zs_get 2 dX11_readBurn_57 zf_RX11_24 rfl (v := .ref (ay 5)) rfl ?_
        refine zs_iload_n dX11_readBurn_60 rfl ?_
        refine zs_aload_n dX11_readBurn_61 rfl rfl ?_
        refine zs_get 2 dX11_readBurn_62 zf_RX11_65 rfl (v := .int (nI (D.1 14))) rfl ?_
        refine zs_imul dX11_readBurn_65 ?_
        refine zs_as (y := nI (((nxt bt n L (nxt bt n L τ)).2.2.2.1) * (D.1 14))) (nI_mul _ _) ?_
        refine zs_iload_n dX11_readBurn_66 rfl ?_
        refine zs_iadd dX11_readBurn_67 ?_
        refine zs_as (y := nI ((((nxt bt n L (nxt bt n L τ)).2.2.2.1) * (D.1 14)) + ((nxt bt n L τ).2.2.2.1))) (nI_add _ _) ?_
        refine zs_iald 7 dX11_readBurn_68 rfl (vp_in_nI (by omega) (by omega)) ?_
        refine zs_as (y := nI (D.2.2.2.2.2.2.1 ((((nxt bt n L (nxt bt n L τ)).2.2.2.1) * (D.1 14)) + ((nxt bt n L τ).2.2.2.1)))) (by rw [nI_c (n := (((nxt bt n L (nxt bt n L τ)).2.2.2.1) * (D.1 14)) + ((nxt bt n L τ).2.2.2.1)) (by omega)]; rfl) ?_
        refine zs_if_ne (tgt := 78) dX11_readBurn_69 (by decide) (fun c_5 => ?_) (fun c_5 => ?_)
        · have c_5 : ¬ ((D.2.2.2.2.2.2.1 ((((nxt bt n L (nxt bt n L τ)).2.2.2.1) * (D.1 14)) + ((nxt bt n L τ).2.2.2.1))) = 0) := by have hc := c_5; rw [show (0 : Int32) = nI 0 from rfl] at hc; rw [nI_eq' (by omega) (by omega)] at hc; exact hc
          refine zs_aload_n dX11_readBurn_78 rfl rfl ?_
          refine zs_get 2 dX11_readBurn_79 zf_RX11_27 rfl (v := .ref (ay 6)) rfl ?_
          refine zs_iload_n dX11_readBurn_82 rfl ?_
          refine zs_aload_n dX11_readBurn_83 rfl rfl ?_
          refine zs_get 2 dX11_readBurn_84 zf_RX11_65 rfl (v := .int (nI (D.1 14))) rfl ?_
          refine zs_imul dX11_readBurn_87 ?_
          refine zs_as (y := nI (((nxt bt n L (nxt bt n L τ)).2.2.2.1) * (D.1 14))) (nI_mul _ _) ?_
          refine zs_iload_n dX11_readBurn_88 rfl ?_
          refine zs_iadd dX11_readBurn_89 ?_
          refine zs_as (y := nI ((((nxt bt n L (nxt bt n L τ)).2.2.2.1) * (D.1 14)) + ((nxt bt n L τ).2.2.2.1))) (nI_add _ _) ?_
          refine zs_zald 8 dX11_readBurn_90 rfl (vp_in_nI (by omega) (by omega)) ?_
          refine zs_as (y := nI (D.2.2.2.2.2.2.2 ((((nxt bt n L (nxt bt n L τ)).2.2.2.1) * (D.1 14)) + ((nxt bt n L τ).2.2.2.1)))) (by rw [nI_c (n := (((nxt bt n L (nxt bt n L τ)).2.2.2.1) * (D.1 14)) + ((nxt bt n L τ).2.2.2.1)) (by omega)]; rfl) ?_
          refine zs_if_eq (tgt := 100) dX11_readBurn_91 (by decide) (fun c_6 => ?_) (fun c_6 => ?_)
          · have c_6 : (D.2.2.2.2.2.2.2 ((((nxt bt n L (nxt bt n L τ)).2.2.2.1) * (D.1 14)) + ((nxt bt n L τ).2.2.2.1))) = 0 := by have hc := c_6; rw [show (0 : Int32) = nI 0 from rfl] at hc; rw [nI_eq' (by omega) (by omega)] at hc; exact hc
            refine zs_aload_n dX11_readBurn_100 rfl rfl ?_
            refine zs_get 2 dX11_readBurn_101 zf_RX11_27 rfl (v := .ref (ay 6)) rfl ?_
            refine zs_iload_n dX11_readBurn_104 rfl ?_
            refine zs_aload_n dX11_readBurn_105 rfl rfl ?_
            refine zs_get 2 dX11_readBurn_106 zf_RX11_65 rfl (v := .int (nI (D.1 14))) rfl ?_
            refine zs_imul dX11_readBurn_109 ?_
            refine zs_as (y := nI (((nxt bt n L (nxt bt n L τ)).2.2.2.1) * (D.1 14))) (nI_mul _ _) ?_
            refine zs_iload_n dX11_readBurn_110 rfl ?_
            refine zs_iadd dX11_readBurn_111 ?_
            refine zs_as (y := nI ((((nxt bt n L (nxt bt n L τ)).2.2.2.1) * (D.1 14)) + ((nxt bt n L τ).2.2.2.1))) (nI_add _ _) ?_
            refine zs_iconst (v := nI 1) dX11_readBurn_112 (by decide) ?_
            refine zs_zast 8 dX11_readBurn_113 rfl (vp_in_nI (by omega) (by omega)) (by first | exact Or.inl rfl | exact Or.inr rfl | assumption) ?_
            rw [nI_c (n := (((nxt bt n L (nxt bt n L τ)).2.2.2.1) * (D.1 14)) + ((nxt bt n L τ).2.2.2.1)) (by omega), nF_u]
            show zS _ _ _ _ _ _ [(x, .inr (8, fTx b n L (nxt bt n L (nxt bt n L τ)) 0 pl (nI (nxt bt n L τ).2.2.2.1))), (b, .inl (0, 740, .inl (nF bt))), (y, .inr (9, fYard ay (ysN D.1 D.2.1))), (ay 1, .inl (0, 12, .inl (nF D.2.2.1))), (ay 2, .inl (0, 12, .inl (nF D.2.2.2.1))), (ay 3, .inl (0, 12, .inl (nF D.2.2.2.2.1))), (ay 4, .inl (0, 12, .inl (nF D.2.2.2.2.2.1))), (ay 5, .inl (0, 64, .inl (nF D.2.2.2.2.2.2.1))), (ay 6, .inl (1, 64, .inl (nF (un D.2.2.2.2.2.2.2 ((((nxt bt n L (nxt bt n L τ)).2.2.2.1) * (D.1 14)) + ((nxt bt n L τ).2.2.2.1)) 1))))]
            refine zs_aload_n dX11_readBurn_114 rfl rfl ?_
            refine zs_callV (M := mX9_next) (As := []) (st := []) (Kc := [(x, .inr (8, fTx b n L (nxt bt n L (nxt bt n L τ)) 0 pl (nI (nxt bt n L τ).2.2.2.1))), (b, .inl (0, 740, .inl (nF bt)))]) (Kr := [(y, .inr (9, fYard ay (ysN D.1 D.2.1))), (ay 1, .inl (0, 12, .inl (nF D.2.2.1))), (ay 2, .inl (0, 12, .inl (nF D.2.2.2.1))), (ay 3, .inl (0, 12, .inl (nF D.2.2.2.2.1))), (ay 4, .inl (0, 12, .inl (nF D.2.2.2.2.2.1))), (ay 5, .inl (0, 64, .inl (nF D.2.2.2.2.2.2.1))), (ay 6, .inl (1, 64, .inl (nF (un D.2.2.2.2.2.2.2 ((((nxt bt n L (nxt bt n L τ)).2.2.2.1) * (D.1 14)) + ((nxt bt n L τ).2.2.2.1)) 1))))]) [0, 1] [2, 3, 4, 5, 6, 7, 8] 0 dX11_readBurn_115 zl_RX11_144 kX9_next rfl rfl rfl rfl rfl (by decide) rfl rfl (show dd - 1 + 1 ≤ dd by omega) (Nat.zero_le _) (Nat.zero_le _) (Nat.le_of_ble_eq_true rfl) (s_next l (dd - 1) x b n L bt (nxt bt n L (nxt bt n L τ)) 0 pl (nI (nxt bt n L τ).2.2.2.1) (by omega) hn hL hbt (nxt_OK hbt hn).2.2.1) (fun r K1 hr => ?_)
            obtain ⟨rfl, rfl⟩ := hr
            refine zs_K (K' := [(x, .inr (8, fTx b n L (nxt bt n L (nxt bt n L (nxt bt n L τ))) 0 pl (nI (nxt bt n L τ).2.2.2.1))), (b, .inl (0, 740, .inl (nF bt))), (y, .inr (9, fYard ay (ysN D.1 D.2.1))), (ay 1, .inl (0, 12, .inl (nF D.2.2.1))), (ay 2, .inl (0, 12, .inl (nF D.2.2.2.1))), (ay 3, .inl (0, 12, .inl (nF D.2.2.2.2.1))), (ay 4, .inl (0, 12, .inl (nF D.2.2.2.2.2.1))), (ay 5, .inl (0, 64, .inl (nF D.2.2.2.2.2.2.1))), (ay 6, .inl (1, 64, .inl (nF (un D.2.2.2.2.2.2.2 ((((nxt bt n L (nxt bt n L τ)).2.2.2.1) * (D.1 14)) + ((nxt bt n L τ).2.2.2.1)) 1))))]) [7, 8, 0, 1, 2, 3, 4, 5, 6] rfl (by decide) ?_
            refine zs_iconst (v := nI 1) dX11_readBurn_118 (by decide) ?_
            have e : (pBurn bt n L τ tk D) = (0, (nxt bt n L (nxt bt n L (nxt bt n L τ))), ((nxt bt n L τ).2.2.2.1), (D.1, D.2.1, D.2.2.1, D.2.2.2.1, D.2.2.2.2.1, D.2.2.2.2.2.1, D.2.2.2.2.2.2.1, un D.2.2.2.2.2.2.2 ((((nxt bt n L (nxt bt n L τ)).2.2.2.1) * (D.1 14)) + ((nxt bt n L τ).2.2.2.1)) 1)) := by rw [pBurn, if_neg (fun h => h hq12), if_neg (fun h => h c_2), if_neg (show ¬ D.1 15 ≤ (nxt bt n L (nxt bt n L τ)).2.2.2.1 by omega), if_neg c_5, if_neg (fun h => h c_6)] <;> rfl
            exact zs_zret dX11_readBurn_119 rfl (Or.inr rfl) (Or.inl ⟨by rw [e], rfl, by rw [e]; rfl⟩)
          · have c_6 : ¬ ((D.2.2.2.2.2.2.2 ((((nxt bt n L (nxt bt n L τ)).2.2.2.1) * (D.1 14)) + ((nxt bt n L τ).2.2.2.1))) = 0) := by have hc := c_6; rw [show (0 : Int32) = nI 0 from rfl] at hc; rw [nI_eq' (by omega) (by omega)] at hc; exact hc
            refine zs_aload_n dX11_readBurn_94 rfl rfl ?_
            refine zs_iconst (v := nI 3) dX11_readBurn_95 (by decide) ?_
            refine zs_callV (M := mX9_refuse) (As := [.int (nI 3)]) (st := []) (Kc := [(x, .inr (8, fTx b n L (nxt bt n L (nxt bt n L τ)) 0 pl (nI (nxt bt n L τ).2.2.2.1)))]) (Kr := [(b, .inl (0, 740, .inl (nF bt))), (y, .inr (9, fYard ay (ysN D.1 D.2.1))), (ay 1, .inl (0, 12, .inl (nF D.2.2.1))), (ay 2, .inl (0, 12, .inl (nF D.2.2.2.1))), (ay 3, .inl (0, 12, .inl (nF D.2.2.2.2.1))), (ay 4, .inl (0, 12, .inl (nF D.2.2.2.2.2.1))), (ay 5, .inl (0, 64, .inl (nF D.2.2.2.2.2.2.1))), (ay 6, .inl (1, 64, .inl (nF D.2.2.2.2.2.2.2)))]) [0] [1, 2, 3, 4, 5, 6, 7, 8] 0 dX11_readBurn_96 zl_RX11_101 kX9_refuse rfl rfl rfl rfl rfl (by decide) rfl rfl (show dd - 1 + 1 ≤ dd by omega) (Nat.zero_le _) (Nat.zero_le _) (Nat.le_of_ble_eq_true rfl) (s_refuse l (dd - 1) x b n L (nxt bt n L (nxt bt n L τ)) pl 3 (nI (nxt bt n L τ).2.2.2.1)) (fun r K1 hr => ?_)
            obtain ⟨rfl, rfl⟩ := hr
            refine zs_K (K' := [(x, .inr (8, fTx b n L (nxt bt n L (nxt bt n L τ)) 3 ((nxt bt n L (nxt bt n L τ)).2.1) (nI (nxt bt n L τ).2.2.2.1))), (b, .inl (0, 740, .inl (nF bt))), (y, .inr (9, fYard ay (ysN D.1 D.2.1))), (ay 1, .inl (0, 12, .inl (nF D.2.2.1))), (ay 2, .inl (0, 12, .inl (nF D.2.2.2.1))), (ay 3, .inl (0, 12, .inl (nF D.2.2.2.2.1))), (ay 4, .inl (0, 12, .inl (nF D.2.2.2.2.2.1))), (ay 5, .inl (0, 64, .inl (nF D.2.2.2.2.2.2.1))), (ay 6, .inl (1, 64, .inl (nF D.2.2.2.2.2.2.2)))]) [8, 0, 1, 2, 3, 4, 5, 6, 7] rfl (by decide) ?_
            have e : (pBurn bt n L τ tk D) = (3, (nxt bt n L (nxt bt n L τ)), ((nxt bt n L τ).2.2.2.1), (D.1, D.2.1, D.2.2.1, D.2.2.2.1, D.2.2.2.2.1, D.2.2.2.2.2.1, D.2.2.2.2.2.2.1, D.2.2.2.2.2.2.2)) := by rw [pBurn, if_neg (fun h => h hq12), if_neg (fun h => h c_2), if_neg (show ¬ D.1 15 ≤ (nxt bt n L (nxt bt n L τ)).2.2.2.1 by omega), if_neg c_5, if_pos c_6] <;> rfl
            exact zs_zret dX11_readBurn_99 rfl (Or.inl rfl) (Or.inr ⟨by rw [e]; exact (show ¬ 3 = 0 by decide), rfl, by rw [e]; rfl⟩)
        · have c_5 : (D.2.2.2.2.2.2.1 ((((nxt bt n L (nxt bt n L τ)).2.2.2.1) * (D.1 14)) + ((nxt bt n L τ).2.2.2.1))) = 0 := by have hc := c_5; rw [show (0 : Int32) = nI 0 from rfl] at hc; rw [nI_eq' (by omega) (by omega)] at hc; exact hc
          refine zs_aload_n dX11_readBurn_72 rfl rfl ?_
          refine zs_iconst (v := nI 2) dX11_readBurn_73 (by decide) ?_
          refine zs_callV (M := mX9_refuse) (As := [.int (nI 2)]) (st := []) (Kc := [(x, .inr (8, fTx b n L (nxt bt n L (nxt bt n L τ)) 0 pl (nI (nxt bt n L τ).2.2.2.1)))]) (Kr := [(b, .inl (0, 740, .inl (nF bt))), (y, .inr (9, fYard ay (ysN D.1 D.2.1))), (ay 1, .inl (0, 12, .inl (nF D.2.2.1))), (ay 2, .inl (0, 12, .inl (nF D.2.2.2.1))), (ay 3, .inl (0, 12, .inl (nF D.2.2.2.2.1))), (ay 4, .inl (0, 12, .inl (nF D.2.2.2.2.2.1))), (ay 5, .inl (0, 64, .inl (nF D.2.2.2.2.2.2.1))), (ay 6, .inl (1, 64, .inl (nF D.2.2.2.2.2.2.2)))]) [0] [1, 2, 3, 4, 5, 6, 7, 8] 0 dX11_readBurn_74 zl_RX11_101 kX9_refuse rfl rfl rfl rfl rfl (by decide) rfl rfl (show dd - 1 + 1 ≤ dd by omega) (Nat.zero_le _) (Nat.zero_le _) (Nat.le_of_ble_eq_true rfl) (s_refuse l (dd - 1) x b n L (nxt bt n L (nxt bt n L τ)) pl 2 (nI (nxt bt n L τ).2.2.2.1)) (fun r K1 hr => ?_)
          obtain ⟨rfl, rfl⟩ := hr
          refine zs_K (K' := [(x, .inr (8, fTx b n L (nxt bt n L (nxt bt n L τ)) 2 ((nxt bt n L (nxt bt n L τ)).2.1) (nI (nxt bt n L τ).2.2.2.1))), (b, .inl (0, 740, .inl (nF bt))), (y, .inr (9, fYard ay (ysN D.1 D.2.1))), (ay 1, .inl (0, 12, .inl (nF D.2.2.1))), (ay 2, .inl (0, 12, .inl (nF D.2.2.2.1))), (ay 3, .inl (0, 12, .inl (nF D.2.2.2.2.1))), (ay 4, .inl (0, 12, .inl (nF D.2.2.2.2.2.1))), (ay 5, .inl (0, 64, .inl (nF D.2.2.2.2.2.2.1))), (ay 6, .inl (1, 64, .inl (nF D.2.2.2.2.2.2.2)))]) [8, 0, 1, 2, 3, 4, 5, 6, 7] rfl (by decide) ?_
          have e : (pBurn bt n L τ tk D) = (2, (nxt bt n L (nxt bt n L τ)), ((nxt bt n L τ).2.2.2.1), (D.1, D.2.1, D.2.2.1, D.2.2.2.1, D.2.2.2.2.1, D.2.2.2.2.2.1, D.2.2.2.2.2.2.1, D.2.2.2.2.2.2.2)) := by rw [pBurn, if_neg (fun h => h hq12), if_neg (fun h => h c_2), if_neg (show ¬ D.1 15 ≤ (nxt bt n L (nxt bt n L τ)).2.2.2.1 by omega), if_pos c_5] <;> rfl
          exact zs_zret dX11_readBurn_77 rfl (Or.inl rfl) (Or.inr ⟨by rw [e]; exact (show ¬ 2 = 0 by decide), rfl, by rw [e]; rfl⟩)
    · have c_2 : ¬ (((nxt bt n L (nxt bt n L τ)).1) = 3) := by have hc := c_2; rw [nI_eq' (by omega) (by omega)] at hc; exact hc
      refine zs_aload_n dX11_readBurn_33 rfl rfl ?_
      refine zs_iconst (v := nI 1) dX11_readBurn_34 (by decide) ?_
      refine zs_callV (M := mX9_refuse) (As := [.int (nI 1)]) (st := []) (Kc := [(x, .inr (8, fTx b n L (nxt bt n L (nxt bt n L τ)) 0 pl (nI (nxt bt n L τ).2.2.2.1)))]) (Kr := [(b, .inl (0, 740, .inl (nF bt))), (y, .inr (9, fYard ay (ysN D.1 D.2.1))), (ay 1, .inl (0, 12, .inl (nF D.2.2.1))), (ay 2, .inl (0, 12, .inl (nF D.2.2.2.1))), (ay 3, .inl (0, 12, .inl (nF D.2.2.2.2.1))), (ay 4, .inl (0, 12, .inl (nF D.2.2.2.2.2.1))), (ay 5, .inl (0, 64, .inl (nF D.2.2.2.2.2.2.1))), (ay 6, .inl (1, 64, .inl (nF D.2.2.2.2.2.2.2)))]) [0] [1, 2, 3, 4, 5, 6, 7, 8] 0 dX11_readBurn_35 zl_RX11_101 kX9_refuse rfl rfl rfl rfl rfl (by decide) rfl rfl (show dd - 1 + 1 ≤ dd by omega) (Nat.zero_le _) (Nat.zero_le _) (Nat.le_of_ble_eq_true rfl) (s_refuse l (dd - 1) x b n L (nxt bt n L (nxt bt n L τ)) pl 1 (nI (nxt bt n L τ).2.2.2.1)) (fun r K1 hr => ?_)
      obtain ⟨rfl, rfl⟩ := hr
      refine zs_K (K' := [(x, .inr (8, fTx b n L (nxt bt n L (nxt bt n L τ)) 1 ((nxt bt n L (nxt bt n L τ)).2.1) (nI (nxt bt n L τ).2.2.2.1))), (b, .inl (0, 740, .inl (nF bt))), (y, .inr (9, fYard ay (ysN D.1 D.2.1))), (ay 1, .inl (0, 12, .inl (nF D.2.2.1))), (ay 2, .inl (0, 12, .inl (nF D.2.2.2.1))), (ay 3, .inl (0, 12, .inl (nF D.2.2.2.2.1))), (ay 4, .inl (0, 12, .inl (nF D.2.2.2.2.2.1))), (ay 5, .inl (0, 64, .inl (nF D.2.2.2.2.2.2.1))), (ay 6, .inl (1, 64, .inl (nF D.2.2.2.2.2.2.2)))]) [8, 0, 1, 2, 3, 4, 5, 6, 7] rfl (by decide) ?_
      have e : (pBurn bt n L τ tk D) = (1, (nxt bt n L (nxt bt n L τ)), ((nxt bt n L τ).2.2.2.1), (D.1, D.2.1, D.2.2.1, D.2.2.2.1, D.2.2.2.2.1, D.2.2.2.2.2.1, D.2.2.2.2.2.2.1, D.2.2.2.2.2.2.2)) := by rw [pBurn, if_neg (fun h => h hq12), if_pos c_2] <;> rfl
      exact zs_zret dX11_readBurn_38 rfl (Or.inl rfl) (Or.inr ⟨by rw [e]; exact (show ¬ 1 = 0 by decide), rfl, by rw [e]; rfl⟩)
  · refine zs_K (K' := [(x, .inr (8, fTx b n L (nxt bt n L τ) (tNuC (nxt bt n L τ) (D.1 14)) ((nxt bt n L τ).2.1) (nI tk))), (b, .inl (0, 740, .inl (nF bt))), (y, .inr (9, fYard ay (ysN D.1 D.2.1))), (ay 1, .inl (0, 12, .inl (nF D.2.2.1))), (ay 2, .inl (0, 12, .inl (nF D.2.2.2.1))), (ay 3, .inl (0, 12, .inl (nF D.2.2.2.2.1))), (ay 4, .inl (0, 12, .inl (nF D.2.2.2.2.2.1))), (ay 5, .inl (0, 64, .inl (nF D.2.2.2.2.2.2.1))), (ay 6, .inl (1, 64, .inl (nF D.2.2.2.2.2.2.2)))]) [7, 8, 0, 1, 2, 3, 4, 5, 6] rfl (by decide) ?_
    refine zs_if_ne (tgt := 20) dX11_readBurn_15 (by decide) (fun c_7 => (by first | exact absurd c_7 (by decide) | exact absurd (by decide) c_7 : False).elim) (fun c_7 => ?_)
    refine zs_iconst (v := nI 0) dX11_readBurn_18 (by decide) ?_
    have e : (pBurn bt n L τ tk D) = ((tNuC (nxt bt n L τ) (D.1 14)), (nxt bt n L τ), tk, (D.1, D.2.1, D.2.2.1, D.2.2.2.1, D.2.2.2.2.1, D.2.2.2.2.2.1, D.2.2.2.2.2.2.1, D.2.2.2.2.2.2.2)) := by rw [pBurn, if_pos hq12] <;> rfl
    exact zs_zret dX11_readBurn_19 rfl (Or.inl rfl) (Or.inr ⟨by rw [e]; exact hq12, rfl, by rw [e]; rfl⟩)
