/-! ===== a cell's heat, by who it comes from ===== -/
/-- what comes from the cell u, if it is there (P) and among the first m -/
def tm (fu bu : Nat → Int32) (P : Bool) (u m : Nat) (w : Int32) : Int32 := if P = true ∧ u < m ∧ ¬ bu u = 0 then fu u * w else 0
section
variable {fu bu : Nat → Int32} {P : Bool} {u m p : Nat} {w : Int32}
theorem tm_s (h : P = true → ¬ u = p) : tm fu bu P u (p + 1) w = tm fu bu P u p w := by
  unfold tm
  by_cases q : P = true
  · have h1 := h q
    by_cases q2 : u < p
    · by_cases q3 : bu u = 0
      · rw [if_neg (fun z => z.2.2 q3), if_neg (fun z => z.2.2 q3)]
      · rw [if_pos ⟨q, by omega, q3⟩, if_pos ⟨q, q2, q3⟩]
    · rw [if_neg (fun z => by have := z.2.1; omega), if_neg (fun z => q2 z.2.1)]
  · rw [if_neg (fun z => q z.1), if_neg (fun z => q z.1)]
theorem tm_n (hP : P = true) (hu : u = p) (hb : ¬ bu p = 0) : tm fu bu P u (p + 1) w = fu p * w := by
  subst hu
  exact if_pos ⟨hP, Nat.lt_succ_self u, hb⟩
theorem tm_z (h : P = true → m ≤ u) : tm fu bu P u m w = 0 := if_neg (fun z => by have := h z.1; omega)
theorem tm_b (hb : bu p = 0) : tm fu bu P u (p + 1) w = tm fu bu P u p w := by
  by_cases q : u = p
  · subst q
    unfold tm
    rw [if_neg (fun z => z.2.2 hb), if_neg (fun z => z.2.2 hb)]
  · exact tm_s (fun _ => q)
end
theorem uq_yx {C y y' x x' : Nat} (hx : x < C) (hx' : x' < C) (h : y * C + x = y' * C + x') : y = y' ∧ x = x' := by
  have key : ∀ {y y' x x' : Nat}, x < C → y < y' → ¬ y * C + x = y' * C + x' := fun {y y' x x'} hx hl h => by
    have h1 := Nat.mul_le_mul_right C (show y + 1 ≤ y' from hl)
    rw [Nat.succ_mul] at h1
    omega
  rcases Nat.lt_trichotomy y y' with e | e | e
  · exact (key hx e h).elim
  · subst e; exact ⟨rfl, by omega⟩
  · exact (key hx' e h.symm).elim
theorem cu_q {f : Nat → Int32} {c : Prop} {_ : Decidable c} {k q : Nat} {v : Int32} : (if c then upd f k (f k + v) else f) q = if c ∧ q = k then f q + v else f q := by
  by_cases h : c
  · rw [if_pos h]
    by_cases h2 : q = k
    · rw [if_pos ⟨h, h2⟩, h2]; exact upd_s _ _ _
    · rw [if_neg (fun z => h2 z.2)]; exact upd_x h2
  · rw [if_neg h, if_neg (fun z => h z.1)]
theorem cu_e {f : Nat → Int32} {a : Int32} {c : Prop} {_ : Decidable c} {k q : Nat} {v : Int32} (e : f q = a) : (if c then upd f k (f k + v) else f) q = (fun a1 => if c ∧ q = k then a1 + v else a1) a := by
  subst e
  exact cu_q
section
variable (C R : Nat) (wi : Int32) (fu bu : Nat → Int32)
/-- the heat of the cell (x, y), of the first m cells -/
def hF (m y x : Nat) : Int32 := tm fu bu (decide (0 < y)) ((y - 1) * C + x) m (pWind wi 2) + tm fu bu (decide (0 < x)) (y * C + (x - 1)) m (pWind wi 1) + tm fu bu (decide (x + 1 < C)) (y * C + (x + 1)) m (pWind wi 3) + tm fu bu (decide (y + 1 < R)) ((y + 1) * C + x) m (pWind wi 0)
end
section
variable {C R : Nat} {wi : Int32} {fu bu : Nat → Int32}
theorem hF_b {y x p : Nat} (hb : bu p = 0) : hF C R wi fu bu (p + 1) y x = hF C R wi fu bu p y x := by
  unfold hF
  rw [tm_b hb, tm_b hb, tm_b hb, tm_b hb]
set_option maxRecDepth 10000 in
theorem hF_s {y x yp xp : Nat} {h : Nat → Int32} (hx : x < C) (hy : y < R) (hxp : xp < C) (hyp : yp < R) (hb : ¬ bu (yp * C + xp) = 0) (hh : h (y * C + x) = hF C R wi fu bu (yp * C + xp) y x) : pHs C R wi fu yp xp (yp * C + xp) h (y * C + x) = hF C R wi fu bu (yp * C + xp + 1) y x := by
  have e1 : pHs C R wi fu yp xp (yp * C + xp) h (y * C + x) =
      (fun a3 => if 0 < xp ∧ y * C + x = yp * C + xp - 1 then a3 + fu (yp * C + xp) * pWind wi 3 else a3)
      ((fun a2 => if yp + 1 < R ∧ y * C + x = yp * C + xp + C then a2 + fu (yp * C + xp) * pWind wi 2 else a2)
      ((fun a1 => if xp + 1 < C ∧ y * C + x = yp * C + xp + 1 then a1 + fu (yp * C + xp) * pWind wi 1 else a1)
      ((fun a0 => if 0 < yp ∧ y * C + x = yp * C + xp - C then a0 + fu (yp * C + xp) * pWind wi 0 else a0) (h (y * C + x))))) := by
    unfold pHs
    exact cu_e (cu_e (cu_e (cu_e rfl)))
  rw [e1, hh]
  have iS : (0 < yp ∧ y * C + x = yp * C + xp - C) ↔ (y + 1 = yp ∧ x = xp) := by
    constructor
    · intro ⟨h1, h2⟩
      have h3 : yp * C = (yp - 1) * C + C := by rw [← Nat.succ_mul]; exact congrArg (· * C) (by omega)
      have := uq_yx (y := y) (y' := yp - 1) hx hxp (by omega)
      omega
    · intro ⟨h1, h2⟩
      have h3 : yp * C = y * C + C := by rw [← h1]; exact Nat.succ_mul y C
      exact ⟨by omega, by omega⟩
  have iW : (xp + 1 < C ∧ y * C + x = yp * C + xp + 1) ↔ (y = yp ∧ x = xp + 1) := by
    constructor
    · intro ⟨h1, h2⟩
      have := uq_yx (y := y) (y' := yp) (x := x) (x' := xp + 1) hx h1 (by omega)
      omega
    · intro ⟨h1, h2⟩
      subst h1
      exact ⟨by omega, by omega⟩
  have iN : (yp + 1 < R ∧ y * C + x = yp * C + xp + C) ↔ (y = yp + 1 ∧ x = xp) := by
    have h3 : (yp + 1) * C = yp * C + C := Nat.succ_mul yp C
    constructor
    · intro ⟨h1, h2⟩
      have := uq_yx (y := y) (y' := yp + 1) hx hxp (by omega)
      omega
    · intro ⟨h1, h2⟩
      subst h1
      exact ⟨by omega, by omega⟩
  have iE : (0 < xp ∧ y * C + x = yp * C + xp - 1) ↔ (y = yp ∧ x + 1 = xp) := by
    constructor
    · intro ⟨h1, h2⟩
      have := uq_yx (y := y) (y' := yp) (x := x) (x' := xp - 1) hx (by omega) (by omega)
      omega
    · intro ⟨h1, h2⟩
      subst h1
      exact ⟨by omega, by omega⟩
  have jN : decide (0 < y) = true → ((y - 1) * C + x = yp * C + xp ↔ (y = yp + 1 ∧ x = xp)) := fun hd => by
    have hd := of_decide_eq_true hd
    constructor
    · intro h2
      have := uq_yx hx hxp h2
      omega
    · intro ⟨h1, h2⟩
      rw [h1, h2, Nat.add_sub_cancel]
  have jW : decide (0 < x) = true → (y * C + (x - 1) = yp * C + xp ↔ (y = yp ∧ x = xp + 1)) := fun hd => by
    have hd := of_decide_eq_true hd
    constructor
    · intro h2
      have := uq_yx (x := x - 1) (by omega) hxp h2
      omega
    · intro ⟨h1, h2⟩
      rw [h1, h2, Nat.add_sub_cancel]
  have jE : decide (x + 1 < C) = true → (y * C + (x + 1) = yp * C + xp ↔ (y = yp ∧ x + 1 = xp)) := fun hd => by
    have hd := of_decide_eq_true hd
    constructor
    · intro h2
      have := uq_yx (x := x + 1) hd hxp h2
      omega
    · intro ⟨h1, h2⟩
      rw [h1, h2]
  have jS : decide (y + 1 < R) = true → ((y + 1) * C + x = yp * C + xp ↔ (y + 1 = yp ∧ x = xp)) := fun hd => by
    constructor
    · intro h2
      exact uq_yx hx hxp h2
    · intro ⟨h1, h2⟩
      rw [h1, h2]
  by_cases cS : y + 1 = yp ∧ x = xp
  · have nN : ¬ (y = yp + 1 ∧ x = xp) := by omega
    have nW : ¬ (y = yp ∧ x = xp + 1) := by omega
    have nE : ¬ (y = yp ∧ x + 1 = xp) := by omega
    have hd : decide (y + 1 < R) = true := decide_eq_true (by omega)
    simp only [if_pos (iS.mpr cS), if_neg (mt iW.mp nW), if_neg (mt iN.mp nN), if_neg (mt iE.mp nE)]
    unfold hF
    rw [tm_s (p := yp * C + xp) (fun z q => nN ((jN z).mp q)), tm_s (p := yp * C + xp) (fun z q => nW ((jW z).mp q)), tm_s (p := yp * C + xp) (fun z q => nE ((jE z).mp q)), tm_n hd ((jS hd).mpr cS) hb, tm_z (u := (y + 1) * C + x) (m := yp * C + xp) (fun z => by rw [(jS z).mpr cS]; exact Nat.le_refl _), Int32.add_zero]
  · by_cases cE : y = yp ∧ x + 1 = xp
    · have nN : ¬ (y = yp + 1 ∧ x = xp) := by omega
      have nW : ¬ (y = yp ∧ x = xp + 1) := by omega
      have hd : decide (x + 1 < C) = true := decide_eq_true (by omega)
      have h3 : (y + 1) * C = y * C + C := Nat.succ_mul y C
      simp only [if_neg (mt iS.mp cS), if_neg (mt iW.mp nW), if_neg (mt iN.mp nN), if_pos (iE.mpr cE)]
      unfold hF
      rw [tm_s (p := yp * C + xp) (fun z q => nN ((jN z).mp q)), tm_s (p := yp * C + xp) (fun z q => nW ((jW z).mp q)), tm_n hd ((jE hd).mpr cE) hb, tm_s (p := yp * C + xp) (fun z q => cS ((jS z).mp q)), tm_z (u := y * C + (x + 1)) (m := yp * C + xp) (fun z => by rw [(jE z).mpr cE]; exact Nat.le_refl _), tm_z (u := (y + 1) * C + x) (m := yp * C + xp) (fun z => by rw [h3, ← cE.1]; omega), Int32.add_zero, Int32.add_zero, Int32.add_zero]
    · by_cases cW : y = yp ∧ x = xp + 1
      · have nN : ¬ (y = yp + 1 ∧ x = xp) := by omega
        have hd : decide (0 < x) = true := decide_eq_true (by omega)
        have h3 : (y + 1) * C = y * C + C := Nat.succ_mul y C
        simp only [if_neg (mt iS.mp cS), if_pos (iW.mpr cW), if_neg (mt iN.mp nN), if_neg (mt iE.mp cE)]
        unfold hF
        rw [tm_s (p := yp * C + xp) (fun z q => nN ((jN z).mp q)), tm_n hd ((jW hd).mpr cW) hb, tm_s (p := yp * C + xp) (fun z q => cE ((jE z).mp q)), tm_s (p := yp * C + xp) (fun z q => cS ((jS z).mp q)), tm_z (u := y * C + (x - 1)) (m := yp * C + xp) (fun z => by rw [(jW z).mpr cW]; exact Nat.le_refl _), tm_z (u := y * C + (x + 1)) (m := yp * C + xp) (fun z => by rw [← cW.1]; omega), tm_z (u := (y + 1) * C + x) (m := yp * C + xp) (fun z => by rw [h3, ← cW.1]; omega), Int32.add_zero, Int32.add_zero, Int32.add_zero, Int32.add_zero, Int32.add_zero]
      · by_cases cN : y = yp + 1 ∧ x = xp
        · have hd : decide (0 < y) = true := decide_eq_true (by omega)
          have h3 : (y + 1) * C = y * C + C := Nat.succ_mul y C
          have h4 : y * C = yp * C + C := by rw [cN.1]; exact Nat.succ_mul yp C
          simp only [if_neg (mt iS.mp cS), if_neg (mt iW.mp cW), if_pos (iN.mpr cN), if_neg (mt iE.mp cE)]
          unfold hF
          rw [tm_n hd ((jN hd).mpr cN) hb, tm_s (p := yp * C + xp) (fun z q => cW ((jW z).mp q)), tm_s (p := yp * C + xp) (fun z q => cE ((jE z).mp q)), tm_s (p := yp * C + xp) (fun z q => cS ((jS z).mp q)), tm_z (u := (y - 1) * C + x) (m := yp * C + xp) (fun z => by rw [(jN z).mpr cN]; exact Nat.le_refl _), tm_z (u := y * C + (x - 1)) (m := yp * C + xp) (fun z => by have := of_decide_eq_true z; omega), tm_z (u := y * C + (x + 1)) (m := yp * C + xp) (fun z => by omega), tm_z (u := (y + 1) * C + x) (m := yp * C + xp) (fun z => by omega), Int32.add_zero, Int32.add_zero, Int32.add_zero, Int32.add_zero, Int32.add_zero, Int32.zero_add, Int32.add_zero]
        · simp only [if_neg (mt iS.mp cS), if_neg (mt iW.mp cW), if_neg (mt iN.mp cN), if_neg (mt iE.mp cE)]
          unfold hF
          rw [tm_s (p := yp * C + xp) (fun z q => cN ((jN z).mp q)), tm_s (p := yp * C + xp) (fun z q => cW ((jW z).mp q)), tm_s (p := yp * C + xp) (fun z q => cE ((jE z).mp q)), tm_s (p := yp * C + xp) (fun z q => cS ((jS z).mp q))]
theorem hF_r {yp : Nat} {h : Nat → Int32} (hyp : yp < R) (hh : ∀ y x, y < R → x < C → h (y * C + x) = hF C R wi fu bu (yp * C) y x) : ∀ xp, xp ≤ C → ∀ y x, y < R → x < C → pHr C R wi fu bu yp h xp (y * C + x) = hF C R wi fu bu (yp * C + xp) y x
  | 0, _, y, x, hy, hx => hh y x hy hx
  | xp + 1, hxp, y, x, hy, hx => by
    have ih := hF_r hyp hh xp (by omega) y x hy hx
    rw [pHr]
    by_cases hb : bu (yp * C + xp) = 0
    · rw [if_pos hb, ih]
      exact (hF_b hb).symm
    · rw [if_neg hb]
      exact hF_s hx hy (by omega) hyp hb ih
theorem hF_t : ∀ yp, yp ≤ R → ∀ y x, y < R → x < C → pHt C R wi fu bu (pClr (fun _ => 0) (C * R)) yp (y * C + x) = hF C R wi fu bu (yp * C) y x
  | 0, _, y, x, hy, hx => by
    rw [Nat.zero_mul]
    unfold hF
    rw [tm_z (m := 0) (fun _ => Nat.zero_le _), tm_z (m := 0) (fun _ => Nat.zero_le _), tm_z (m := 0) (fun _ => Nat.zero_le _), tm_z (m := 0) (fun _ => Nat.zero_le _), Int32.add_zero, Int32.add_zero, Int32.add_zero]
    show pClr (fun _ => 0) (C * R) (y * C + x) = 0
    rw [pClr_at]
    split <;> rfl
  | yp + 1, hyp, y, x, hy, hx => by
    rw [pHt, Nat.succ_mul]
    exact hF_r (by omega) (fun y x hy hx => hF_t yp (by omega) y x hy hx) C (Nat.le_refl C) y x hy hx
/-- a cell's heat, as the reference sums it: north, east, south, west -/
theorem heat_c {y x : Nat} (hy : y < R) (hx : x < C) : pH0 C R wi fu bu (y * C + x) = tm fu bu (decide (0 < y)) ((y - 1) * C + x) (C * R) (pWind wi 2) + tm fu bu (decide (x + 1 < C)) (y * C + (x + 1)) (C * R) (pWind wi 3) + tm fu bu (decide (y + 1 < R)) ((y + 1) * C + x) (C * R) (pWind wi 0) + tm fu bu (decide (0 < x)) (y * C + (x - 1)) (C * R) (pWind wi 1) := by
  have h := hF_t (wi := wi) (fu := fu) (bu := bu) R (Nat.le_refl R) y x hy hx
  rw [Nat.mul_comm R C] at h
  refine h.trans ?_
  unfold hF
  generalize tm fu bu (decide (0 < y)) ((y - 1) * C + x) (C * R) (pWind wi 2) = a
  generalize tm fu bu (decide (0 < x)) (y * C + (x - 1)) (C * R) (pWind wi 1) = b
  generalize tm fu bu (decide (x + 1 < C)) (y * C + (x + 1)) (C * R) (pWind wi 3) = c
  generalize tm fu bu (decide (y + 1 < R)) ((y + 1) * C + x) (C * R) (pWind wi 0) = d
  rw [Int32.add_assoc a b c, Int32.add_comm b c, ← Int32.add_assoc a c b, Int32.add_assoc (a + c) b d, Int32.add_comm b d, ← Int32.add_assoc (a + c) d b]
end
