/-! ===== zS: the same judgement over the cells that a method touches, told as a list; all other cells stay ===== -/
abbrev zK : Type := List (Nat × va_E)
def zHas (h : List va_E) (K : zK) : Prop := ∀ (i : Nat) (q : Nat × va_E), K[i]? = some q → h[q.1]? = some q.2
def zDj (K : zK) : Prop := ∀ (i j : Nat) (p q : Nat × va_E), K[i]? = some p → K[j]? = some q → p.1 = q.1 → i = j
def zFr (W : List Nat) (h0 h : List va_E) : Prop := h0.length ≤ h.length ∧ ∀ b, b < h0.length → b ∉ W → h[b]? = h0[b]?
def zAl (W : List Nat) (n : Nat) (K : zK) : Prop := ∀ (i : Nat) (q : Nat × va_E), K[i]? = some q → q.1 ∈ W ∨ n ≤ q.1
abbrev zPo : Type := Option Value → zK → Prop
abbrev zB : Type := Launch × zM × Nat × zPo × zK × List va_E × (zK → Prop) × (zG → Prop)
def zQp (Po : zPo) (K0 : zK) (h0 : List va_E) : zQt := fun r h' => ∃ K' : zK, Po r K' ∧ zHas h' K' ∧ zDj K' ∧ zFr (K0.map Prod.fst) h0 h' ∧ zAl (K0.map Prod.fst) h0.length K'
def zXp (Xo : zK → Prop) (K0 : zK) (h0 : List va_E) : zXt := fun h' => ∃ K' : zK, Xo K' ∧ zHas h' K' ∧ zDj K' ∧ zFr (K0.map Prod.fst) h0 h' ∧ zAl (K0.map Prod.fst) h0.length K'
abbrev zBE (B : zB) : zEv := (B.1, B.2.1, B.2.2.1, zQp B.2.2.2.1 B.2.2.2.2.1 B.2.2.2.2.2.1, zXp B.2.2.2.2.2.2.1 B.2.2.2.2.1 B.2.2.2.2.2.1, B.2.2.2.2.2.2.2)
def zS (B : zB) (kc ks pc : Nat) (lv : List (Nat × Value)) (st : List Value) (K : zK) : Prop :=
  ∀ h : List va_E, zHas h K → zDj K → zFr (B.2.2.2.2.1.map Prod.fst) B.2.2.2.2.2.1 h → zAl (B.2.2.2.2.1.map Prod.fst) B.2.2.2.2.2.1.length K → zR (zBE B) kc ks pc lv st h
theorem zHas.set {h : List va_E} {K : zK} {i a : Nat} {e e' : va_E} (H : zHas h K) (D : zDj K) (hi : K[i]? = some (a, e)) : zHas (h.set a e') (K.set i (a, e')) := by
  intro j q hq
  rw [List.getElem?_set] at hq ⊢
  by_cases hj : i = j
  · subst hj
    rw [if_pos rfl] at hq
    split at hq
    · cases hq
      have := (List.getElem?_eq_some_iff.mp (H i _ hi)).1
      simp [this]
    · cases hq
  · rw [if_neg hj] at hq
    have hne : a ≠ q.1 := fun z => hj (D i j (a, e) q hi hq z)
    rw [if_neg hne]
    exact H j q hq
theorem zset_fst {K : zK} {i j a : Nat} {e e' : va_E} {q : Nat × va_E} (hi : K[i]? = some (a, e)) (hq : (K.set i (a, e'))[j]? = some q) : ∃ q', K[j]? = some q' ∧ q'.1 = q.1 := by
  rw [List.getElem?_set] at hq
  by_cases hj : i = j
  · subst hj
    rw [if_pos rfl] at hq
    split at hq
    · cases hq
      exact ⟨_, hi, rfl⟩
    · cases hq
  · rw [if_neg hj] at hq
    exact ⟨q, hq, rfl⟩
theorem zDj.set {K : zK} {i a : Nat} {e e' : va_E} (D : zDj K) (hi : K[i]? = some (a, e)) : zDj (K.set i (a, e')) := by
  intro x y p q hx hy hxy
  obtain ⟨p', h1, h2⟩ := zset_fst hi hx
  obtain ⟨q', h3, h4⟩ := zset_fst hi hy
  exact D x y p' q' h1 h3 (by rw [h2, h4]; exact hxy)
theorem zAl.set {W : List Nat} {n : Nat} {K : zK} {i a : Nat} {e e' : va_E} (L : zAl W n K) (hi : K[i]? = some (a, e)) : zAl W n (K.set i (a, e')) := by
  intro x q hx
  obtain ⟨p', h1, h2⟩ := zset_fst hi hx
  rw [← h2]
  exact L x p' h1
theorem zFr.set {W : List Nat} {h0 h : List va_E} {a : Nat} {e' : va_E} (F : zFr W h0 h) (ha : a ∈ W ∨ h0.length ≤ a) : zFr W h0 (h.set a e') := by
  refine ⟨by rw [List.length_set]; exact F.1, fun b hb hw => ?_⟩
  rw [List.getElem?_set]
  have : a ≠ b := by
    rintro rfl
    rcases ha with q | q
    · exact hw q
    · omega
  rw [if_neg this]
  exact F.2 b hb hw
theorem zHas.lt {h : List va_E} {K : zK} {i : Nat} {q : Nat × va_E} (H : zHas h K) (hi : K[i]? = some q) : q.1 < h.length := (List.getElem?_eq_some_iff.mp (H i q hi)).1
theorem zHas.push {h : List va_E} {K : zK} {e : va_E} (H : zHas h K) : zHas (h ++ [e]) (K ++ [(h.length, e)]) := by
  intro i q hq
  by_cases hi : i < K.length
  · rw [List.getElem?_append_left hi] at hq
    rw [List.getElem?_append_left (H.lt hq)]
    exact H i q hq
  · rw [List.getElem?_append_right (Nat.not_lt.mp hi)] at hq
    rcases Nat.eq_zero_or_pos (i - K.length) with h0 | h0
    · rw [h0] at hq
      cases hq
      simp
    · rw [List.getElem?_eq_none (by simp; omega)] at hq
      cases hq
theorem zDj.push {h : List va_E} {K : zK} {e : va_E} (H : zHas h K) (D : zDj K) : zDj (K ++ [(h.length, e)]) := by
  have key : ∀ (i : Nat) (q : Nat × va_E), (K ++ [(h.length, e)])[i]? = some q → (i < K.length ∧ K[i]? = some q ∧ q.1 < h.length) ∨ (i = K.length ∧ q.1 = h.length) := by
    intro i q hq
    by_cases hi : i < K.length
    · rw [List.getElem?_append_left hi] at hq
      exact Or.inl ⟨hi, hq, H.lt hq⟩
    · rw [List.getElem?_append_right (Nat.not_lt.mp hi)] at hq
      rcases Nat.eq_zero_or_pos (i - K.length) with h0 | h0
      · rw [h0] at hq
        cases hq
        exact Or.inr ⟨by omega, rfl⟩
      · rw [List.getElem?_eq_none (by simp; omega)] at hq
        cases hq
  intro i j p q hi hj hpq
  rcases key i p hi with ⟨a1, a2, a3⟩ | ⟨a1, a2⟩ <;> rcases key j q hj with ⟨b1, b2, b3⟩ | ⟨b1, b2⟩
  · exact D i j p q a2 b2 hpq
  · omega
  · omega
  · omega
theorem zAl.push {W : List Nat} {n a : Nat} {K : zK} {e : va_E} (L : zAl W n K) (ha : n ≤ a) : zAl W n (K ++ [(a, e)]) := by
  intro i q hq
  by_cases hi : i < K.length
  · rw [List.getElem?_append_left hi] at hq
    exact L i q hq
  · rw [List.getElem?_append_right (Nat.not_lt.mp hi)] at hq
    rcases Nat.eq_zero_or_pos (i - K.length) with h0 | h0
    · rw [h0] at hq
      cases hq
      exact Or.inr ha
    · rw [List.getElem?_eq_none (by simp; omega)] at hq
      cases hq
theorem zFr.push {W : List Nat} {h0 h : List va_E} {e : va_E} (F : zFr W h0 h) : zFr W h0 (h ++ [e]) := by
  refine ⟨by rw [List.length_append]; exact Nat.le_trans F.1 (Nat.le_add_right _ _), fun b hb hw => ?_⟩
  rw [List.getElem?_append_left (Nat.lt_of_lt_of_le hb F.1)]
  exact F.2 b hb hw
/-- some of the cells, told by their places -/
def zPk (K : zK) (is : List Nat) (K' : zK) : Prop := is.map (fun i => K[i]?) = K'.map some
theorem zPk.at {K K' : zK} {is : List Nat} (P : zPk K is K') {k : Nat} {q : Nat × va_E} (hk : K'[k]? = some q) : ∃ i, is[k]? = some i ∧ K[i]? = some q := by
  have h1 : (is.map (fun i => K[i]?))[k]? = some (some q) := by rw [P, List.getElem?_map, hk]; rfl
  rw [List.getElem?_map] at h1
  cases hi : is[k]? with
  | none => rw [hi] at h1; cases h1
  | some i => rw [hi] at h1; exact ⟨i, rfl, Option.some.inj h1⟩
theorem zHas.pk {h : List va_E} {K K' : zK} {is : List Nat} (H : zHas h K) (P : zPk K is K') : zHas h K' := by
  intro k q hk
  obtain ⟨i, -, hi⟩ := P.at hk
  exact H i q hi
theorem zAl.pk {W : List Nat} {n : Nat} {K K' : zK} {is : List Nat} (L : zAl W n K) (P : zPk K is K') : zAl W n K' := by
  intro k q hk
  obtain ⟨i, -, hi⟩ := P.at hk
  exact L i q hi
theorem znd_inj : ∀ {is : List Nat}, va_nd is = true → ∀ {i j x : Nat}, is[i]? = some x → is[j]? = some x → i = j := by
  intro is
  induction is with
  | nil => intro _ i j x h; cases h
  | cons a t ih =>
    intro hn i j x hi hj
    simp only [va_nd, Bool.and_eq_true, Bool.not_eq_true', decide_eq_false_iff_not] at hn
    cases i with
    | zero =>
      cases j with
      | zero => rfl
      | succ j =>
        exfalso
        have h1 : a = x := by simpa using hi
        have h2 : t[j]? = some x := by simpa using hj
        subst h1
        have := List.mem_of_getElem? h2
        simp_all
    | succ i =>
      cases j with
      | zero =>
        exfalso
        have h1 : a = x := by simpa using hj
        have h2 : t[i]? = some x := by simpa using hi
        subst h1
        have := List.mem_of_getElem? h2
        simp_all
      | succ j =>
        have h1 : t[i]? = some x := by simpa using hi
        have h2 : t[j]? = some x := by simpa using hj
        exact congrArg Nat.succ (ih hn.2 h1 h2)
theorem zDj.pk {K K' : zK} {is : List Nat} (D : zDj K) (P : zPk K is K') (n : va_nd is = true) : zDj K' := by
  intro i j p q hi hj hpq
  obtain ⟨x, hx, hx2⟩ := P.at hi
  obtain ⟨y, hy, hy2⟩ := P.at hj
  have := D x y p q hx2 hy2 hpq
  subst this
  exact znd_inj n hx hy
/-- a call, told by the cells that it touches -/
def zSp (l : Launch) (M : zM) (dd kc ks : Nat) (as : List Value) (K : zK) (Po : zPo) : Prop := ∀ h : List va_E, zHas h K → zDj K → zCall l M dd kc ks as h (zQp Po K h)
theorem zSp.of {l : Launch} {M : zM} {dd kc ks : Nat} {as : List Value} {K : zK} {Po : zPo} (hy : plainName M.1.cls = true) (hL : (lg_sl as).length ≤ M.2.2.1) (k : ∀ h0 : List va_E, zS (l, M, dd, Po, K, h0, (fun _ => False), (fun _ => True)) kc ks 0 (lv_args 0 as) [] K) : zSp l M dd kc ks as K Po := by
  intro h H D
  refine zCall.of hy hL ?_
  have hk := k h h H D ⟨Nat.le_refl _, fun _ _ _ => rfl⟩ (fun i q hq => Or.inl (List.mem_map.mpr ⟨q, List.mem_of_getElem? hq, rfl⟩))
  intro G p e s m args below meth c A ad0 n0 mc ms Z F
  refine hk G p e s m args below meth c A ad0 n0 mc ms Z ?_
  obtain ⟨f1, f2, f3, f4, f5, f6, f7, f8, f9, f10, f11, f12, f13, f14⟩ := F
  refine ⟨f1, f2, f3, f4, f5, f6, f7, f8, f9, f10, f11, f12, fun t ht => f13 t ?_, f14⟩
  obtain ⟨o, b1, b2, b3⟩ := ht
  refine ⟨o, b1, b2, ?_⟩
  rcases b3 with ⟨b3, -⟩ | ⟨q, -, E9, ce, L, ⟨-, ⟨h9, ad9, ⟨K9, b4, -⟩, -⟩, -⟩, -⟩
  · exact b3.elim
  · exact b4.elim
theorem zSp.weaken {l : Launch} {M : zM} {dd kc ks : Nat} {as : List Value} {K : zK} {Po Po' : zPo} (C : zSp l M dd kc ks as K Po) (hP : ∀ r K', Po r K' → Po' r K') : zSp l M dd kc ks as K Po' := by
  intro h H D G ad sz hc ha
  have := C h H D G ad sz hc ha
  have hq : zQ G ad h.length (va_A (zW G ad h) sz) (zQp Po K h) = zQ G ad h.length (va_A (zW G ad h) sz) (zQp Po K h) := rfl
  intro p e hadm hcas hclk s m args below hfr hap hpc htr
  obtain ⟨k, o, t, h1, h2, ⟨⟨⟨r, h', ad', g1, ⟨K', g2, g3⟩, g4⟩, g5⟩, g6⟩⟩ := this p e hadm hcas hclk s m args below hfr hap hpc htr
  exact ⟨k, o, t, h1, h2, ⟨⟨⟨r, h', ad', g1, ⟨K', hP _ _ g2, g3⟩, g4⟩, g5⟩, g6⟩⟩
section ZSA
variable {B : zB} {kc ks pc : Nat} {lv : List (Nat × Value)} {st stk : List Value} {K : zK}
theorem zs_K {K' : zK} (is : List Nat) (P : zPk K is K') (n : va_nd is = true) (k : zS B kc ks pc lv st K') : zS B kc ks pc lv st K :=
  fun h H D F L => k h (H.pk P) (D.pk P n) F (L.pk P)
theorem zs_lv {lv' : List (Nat × Value)} (is : List Nat) (hl : lv_pick lv is = lv') (k : zS B kc ks pc lv' st K) : zS B kc ks pc lv st K := fun h H D F L => zr_lv is hl (k h H D F L)
theorem zs_kc {kc' ks' : Nat} (h1 : kc' ≤ kc) (h2 : ks' ≤ ks) (k : zS B kc' ks' pc lv st K) : zS B kc ks pc lv st K := fun h H D F L => zr_kc h1 h2 (k h H D F L)
theorem zs_iconst {n : Int} {v : Int32} (d : decode B.2.1.2.1 pc = .ok (.iconst n, 1)) (hv : (Int32.ofInt n = v)) (k : zS B kc ks (pc + 1) lv (.int v :: st) K) : zS B kc ks pc lv st K := fun h H D F L => zr_iconst d hv (k h H D F L)
theorem zs_bipush {n : Int} {v : Int32} (d : decode B.2.1.2.1 pc = .ok (.bipush n, 2)) (hv : ((Int8.ofInt n).toInt32 = v)) (k : zS B kc ks (pc + 2) lv (.int v :: st) K) : zS B kc ks pc lv st K := fun h H D F L => zr_bipush d hv (k h H D F L)
theorem zs_sipush {n : Int} {v : Int32} (d : decode B.2.1.2.1 pc = .ok (.sipush n, 3)) (hv : ((Int16.ofInt n).toInt32 = v)) (k : zS B kc ks (pc + 3) lv (.int v :: st) K) : zS B kc ks pc lv st K := fun h H D F L => zr_sipush d hv (k h H D F L)
theorem zs_lconst {n : Fin 2} {v : Int64} (d : decode B.2.1.2.1 pc = .ok (.lconst n, 1)) (hv : Int64.ofNat (n : Nat) = v) (k : zS B kc ks (pc + 1) lv (.long v :: st) K) : zS B kc ks pc lv st K := fun h H D F L => zr_lconst d hv (k h H D F L)
theorem zs_null (d : decode B.2.1.2.1 pc = .ok (.aconst_null, 1)) (k : zS B kc ks (pc + 1) lv (.null :: st) K) : zS B kc ks pc lv st K := fun h H D F L => zr_null d (k h H D F L)
theorem zs_ldc {idx : Nat} {v : Int32} (d : decode B.2.1.2.1 pc = .ok (.ldc idx, 2)) (w : Cond.constant B.2.1.1.cls idx v ∈ zTs) (k : zS B kc ks (pc + 2) lv (.int v :: st) K) : zS B kc ks pc lv st K := fun h H D F L => zr_ldc d w (k h H D F L)
theorem zs_ldcw {idx : Nat} {v : Int32} (d : decode B.2.1.2.1 pc = .ok (.ldc_w idx, 3)) (w : Cond.constant B.2.1.1.cls idx v ∈ zTs) (k : zS B kc ks (pc + 3) lv (.int v :: st) K) : zS B kc ks pc lv st K := fun h H D F L => zr_ldcw d w (k h H D F L)
theorem zs_ldc2 {idx : Nat} {v : Int64} (d : decode B.2.1.2.1 pc = .ok (.ldc2_w idx, 3)) (w : Cond.constantLong B.2.1.1.cls idx v ∈ zTs) (k : zS B kc ks (pc + 3) lv (.long v :: st) K) : zS B kc ks pc lv st K := fun h H D F L => zr_ldc2 d w (k h H D F L)
theorem zs_iload {i : Nat} {x : Int32} (d : decode B.2.1.2.1 pc = .ok (.iload i, 2)) (hl : zget lv i = some (.int x)) (k : zS B kc ks (pc + 2) lv (.int x :: st) K) : zS B kc ks pc lv st K := fun h H D F L => zr_iload d hl (k h H D F L)
theorem zs_iload_n {i : Fin 4} {x : Int32} (d : decode B.2.1.2.1 pc = .ok (.iload_n i, 1)) (hl : zget lv i.val = some (.int x)) (k : zS B kc ks (pc + 1) lv (.int x :: st) K) : zS B kc ks pc lv st K := fun h H D F L => zr_iload_n d hl (k h H D F L)
theorem zs_lload {i : Nat} {x : Int64} (d : decode B.2.1.2.1 pc = .ok (.lload i, 2)) (hl : zget lv i = some (.long x)) (k : zS B kc ks (pc + 2) lv (.long x :: st) K) : zS B kc ks pc lv st K := fun h H D F L => zr_lload d hl (k h H D F L)
theorem zs_lload_n {i : Fin 4} {x : Int64} (d : decode B.2.1.2.1 pc = .ok (.lload_n i, 1)) (hl : zget lv i.val = some (.long x)) (k : zS B kc ks (pc + 1) lv (.long x :: st) K) : zS B kc ks pc lv st K := fun h H D F L => zr_lload_n d hl (k h H D F L)
theorem zs_aload {i : Nat} {v : Value} (d : decode B.2.1.2.1 pc = .ok (.aload i, 2)) (hl : zget lv i = some v) (hv : zrf v = true) (k : zS B kc ks (pc + 2) lv (v :: st) K) : zS B kc ks pc lv st K := fun h H D F L => zr_aload d hl hv (k h H D F L)
theorem zs_aload_n {i : Fin 4} {v : Value} (d : decode B.2.1.2.1 pc = .ok (.aload_n i, 1)) (hl : zget lv i.val = some v) (hv : zrf v = true) (k : zS B kc ks (pc + 1) lv (v :: st) K) : zS B kc ks pc lv st K := fun h H D F L => zr_aload_n d hl hv (k h H D F L)
theorem zs_istore {i : Nat} {x : Int32} {lv' : List (Nat × Value)} (d : decode B.2.1.2.1 pc = .ok (.istore i, 2)) (hn : i < B.2.1.2.2.1) (hl : zst lv i (.int x) = lv') (k : zS B kc ks (pc + 2) lv' st K) : zS B kc ks pc lv (.int x :: st) K := fun h H D F L => zr_istore d hn hl (k h H D F L)
theorem zs_istore_n {i : Fin 4} {x : Int32} {lv' : List (Nat × Value)} (d : decode B.2.1.2.1 pc = .ok (.istore_n i, 1)) (hn : i.val < B.2.1.2.2.1) (hl : zst lv i.val (.int x) = lv') (k : zS B kc ks (pc + 1) lv' st K) : zS B kc ks pc lv (.int x :: st) K := fun h H D F L => zr_istore_n d hn hl (k h H D F L)
theorem zs_lstore {i : Nat} {x : Int64} {lv' : List (Nat × Value)} (d : decode B.2.1.2.1 pc = .ok (.lstore i, 2)) (hn : i + 1 < B.2.1.2.2.1) (hl : zstL lv i (.long x) = lv') (k : zS B kc ks (pc + 2) lv' st K) : zS B kc ks pc lv (.long x :: st) K := fun h H D F L => zr_lstore d hn hl (k h H D F L)
theorem zs_lstore_n {i : Fin 4} {x : Int64} {lv' : List (Nat × Value)} (d : decode B.2.1.2.1 pc = .ok (.lstore_n i, 1)) (hn : i.val + 1 < B.2.1.2.2.1) (hl : zstL lv i.val (.long x) = lv') (k : zS B kc ks (pc + 1) lv' st K) : zS B kc ks pc lv (.long x :: st) K := fun h H D F L => zr_lstore_n d hn hl (k h H D F L)
theorem zs_astore {i : Nat} {v : Value} {lv' : List (Nat × Value)} (d : decode B.2.1.2.1 pc = .ok (.astore i, 2)) (hn : i < B.2.1.2.2.1) (hv : zrf v = true) (hl : zst lv i v = lv') (k : zS B kc ks (pc + 2) lv' st K) : zS B kc ks pc lv (v :: st) K := fun h H D F L => zr_astore d hn hv hl (k h H D F L)
theorem zs_astore_n {i : Fin 4} {v : Value} {lv' : List (Nat × Value)} (d : decode B.2.1.2.1 pc = .ok (.astore_n i, 1)) (hn : i.val < B.2.1.2.2.1) (hv : zrf v = true) (hl : zst lv i.val v = lv') (k : zS B kc ks (pc + 1) lv' st K) : zS B kc ks pc lv (v :: st) K := fun h H D F L => zr_astore_n d hn hv hl (k h H D F L)
theorem zs_iinc {i : Nat} {n : Int} {x v : Int32} {lv' : List (Nat × Value)} (d : decode B.2.1.2.1 pc = .ok (.iinc i n, 3)) (hk : zget lv i = some (.int x)) (hv : x + Int32.ofInt n = v) (hn : i < B.2.1.2.2.1) (hl : zst lv i (.int v) = lv') (k : zS B kc ks (pc + 3) lv' st K) : zS B kc ks pc lv st K := fun h H D F L => zr_iinc d hk hv hn hl (k h H D F L)
theorem zs_iadd {x y : Int32} (d : decode B.2.1.2.1 pc = .ok (.iadd, 1)) (k : zS B kc ks (pc + 1) lv (.int (x + y) :: st) K) : zS B kc ks pc lv (.int y :: .int x :: st) K := fun h H D F L => zr_iadd d (k h H D F L)
theorem zs_isub {x y : Int32} (d : decode B.2.1.2.1 pc = .ok (.isub, 1)) (k : zS B kc ks (pc + 1) lv (.int (x - y) :: st) K) : zS B kc ks pc lv (.int y :: .int x :: st) K := fun h H D F L => zr_isub d (k h H D F L)
theorem zs_imul {x y : Int32} (d : decode B.2.1.2.1 pc = .ok (.imul, 1)) (k : zS B kc ks (pc + 1) lv (.int (x * y) :: st) K) : zS B kc ks pc lv (.int y :: .int x :: st) K := fun h H D F L => zr_imul d (k h H D F L)
theorem zs_iand {x y : Int32} (d : decode B.2.1.2.1 pc = .ok (.iand, 1)) (k : zS B kc ks (pc + 1) lv (.int (x &&& y) :: st) K) : zS B kc ks pc lv (.int y :: .int x :: st) K := fun h H D F L => zr_iand d (k h H D F L)
theorem zs_ior {x y : Int32} (d : decode B.2.1.2.1 pc = .ok (.ior, 1)) (k : zS B kc ks (pc + 1) lv (.int (x ||| y) :: st) K) : zS B kc ks pc lv (.int y :: .int x :: st) K := fun h H D F L => zr_ior d (k h H D F L)
theorem zs_ixor {x y : Int32} (d : decode B.2.1.2.1 pc = .ok (.ixor, 1)) (k : zS B kc ks (pc + 1) lv (.int (x ^^^ y) :: st) K) : zS B kc ks pc lv (.int y :: .int x :: st) K := fun h H D F L => zr_ixor d (k h H D F L)
theorem zs_ishl {x y : Int32} (d : decode B.2.1.2.1 pc = .ok (.ishl, 1)) (k : zS B kc ks (pc + 1) lv (.int (x <<< (y &&& 31)) :: st) K) : zS B kc ks pc lv (.int y :: .int x :: st) K := fun h H D F L => zr_ishl d (k h H D F L)
theorem zs_ishr {x y : Int32} (d : decode B.2.1.2.1 pc = .ok (.ishr, 1)) (k : zS B kc ks (pc + 1) lv (.int (x >>> (y &&& 31)) :: st) K) : zS B kc ks pc lv (.int y :: .int x :: st) K := fun h H D F L => zr_ishr d (k h H D F L)
theorem zs_ladd {x y : Int64} (d : decode B.2.1.2.1 pc = .ok (.ladd, 1)) (k : zS B kc ks (pc + 1) lv (.long (x + y) :: st) K) : zS B kc ks pc lv (.long y :: .long x :: st) K := fun h H D F L => zr_ladd d (k h H D F L)
theorem zs_lsub {x y : Int64} (d : decode B.2.1.2.1 pc = .ok (.lsub, 1)) (k : zS B kc ks (pc + 1) lv (.long (x - y) :: st) K) : zS B kc ks pc lv (.long y :: .long x :: st) K := fun h H D F L => zr_lsub d (k h H D F L)
theorem zs_lmul {x y : Int64} (d : decode B.2.1.2.1 pc = .ok (.lmul, 1)) (k : zS B kc ks (pc + 1) lv (.long (x * y) :: st) K) : zS B kc ks pc lv (.long y :: .long x :: st) K := fun h H D F L => zr_lmul d (k h H D F L)
theorem zs_idiv {x y : Int32} (d : decode B.2.1.2.1 pc = .ok (.idiv, 1)) (hne : ¬ y = 0) (k : zS B kc ks (pc + 1) lv (.int (x / y) :: st) K) : zS B kc ks pc lv (.int y :: .int x :: st) K := fun h H D F L => zr_idiv d hne (k h H D F L)
theorem zs_irem {x y : Int32} (d : decode B.2.1.2.1 pc = .ok (.irem, 1)) (hne : ¬ y = 0) (k : zS B kc ks (pc + 1) lv (.int (x - x / y * y) :: st) K) : zS B kc ks pc lv (.int y :: .int x :: st) K := fun h H D F L => zr_irem d hne (k h H D F L)
theorem zs_iushr {x y v : Int32} (d : decode B.2.1.2.1 pc = .ok (.iushr, 1)) (hv : (x.toUInt32 >>> (y.toUInt32 &&& Int32.toUInt32 31)).toInt32 = v) (k : zS B kc ks (pc + 1) lv (.int v :: st) K) : zS B kc ks pc lv (.int y :: .int x :: st) K := fun h H D F L => zr_iushr d hv (k h H D F L)
theorem zs_ineg {x : Int32} (d : decode B.2.1.2.1 pc = .ok (.ineg, 1)) (k : zS B kc ks (pc + 1) lv (.int (-x) :: st) K) : zS B kc ks pc lv (.int x :: st) K := fun h H D F L => zr_ineg d (k h H D F L)
theorem zs_i2l {x : Int32} {v : Int64} (d : decode B.2.1.2.1 pc = .ok (.i2l, 1)) (hv : x.toInt64 = v) (k : zS B kc ks (pc + 1) lv (.long v :: st) K) : zS B kc ks pc lv (.int x :: st) K := fun h H D F L => zr_i2l d hv (k h H D F L)
theorem zs_lcmp {x y : Int64} (d : decode B.2.1.2.1 pc = .ok (.lcmp, 1)) (k : zS B kc ks (pc + 1) lv (.int (lg_cmp x y) :: st) K) : zS B kc ks pc lv (.long y :: .long x :: st) K := fun h H D F L => zr_lcmp d (k h H D F L)
theorem zs_dup {v : Value} (d : decode B.2.1.2.1 pc = .ok (.dup, 1)) (hv : v.category = 1) (k : zS B kc ks (pc + 1) lv (v :: v :: st) K) : zS B kc ks pc lv (v :: st) K := fun h H D F L => zr_dup d hv (k h H D F L)
theorem zs_pop {v : Value} (d : decode B.2.1.2.1 pc = .ok (.pop, 1)) (hv : v.category = 1) (k : zS B kc ks (pc + 1) lv st K) : zS B kc ks pc lv (v :: st) K := fun h H D F L => zr_pop d hv (k h H D F L)
theorem zs_dup2 {v u : Value} (d : decode B.2.1.2.1 pc = .ok (.dup2, 1)) (hv : v.category = 1) (hu : u.category = 1) (k : zS B kc ks (pc + 1) lv (v :: u :: v :: u :: st) K) : zS B kc ks pc lv (v :: u :: st) K := fun h H D F L => zr_dup2 d hv hu (k h H D F L)
theorem zs_dup_x1 {v u : Value} (d : decode B.2.1.2.1 pc = .ok (.dup_x1, 1)) (hv : v.category = 1) (hu : u.category = 1) (k : zS B kc ks (pc + 1) lv (v :: u :: v :: st) K) : zS B kc ks pc lv (v :: u :: st) K := fun h H D F L => zr_dup_x1 d hv hu (k h H D F L)
theorem zs_if_eq {x : Int32} {off : Int} {tgt : Nat} (d : decode B.2.1.2.1 pc = .ok (.ifCond .eq off, 3)) (ht : (pc : Int) + off = (tgt : Int)) (kt : x = 0 → zS B kc ks tgt lv st K) (kf : ¬ (x = 0) → zS B kc ks (pc + 3) lv st K) : zS B kc ks pc lv (.int x :: st) K := fun h H D F L => zr_if_eq d ht (fun q => kt q h H D F L) (fun q => kf q h H D F L)
theorem zs_if_ne {x : Int32} {off : Int} {tgt : Nat} (d : decode B.2.1.2.1 pc = .ok (.ifCond .ne off, 3)) (ht : (pc : Int) + off = (tgt : Int)) (kt : ¬ x = 0 → zS B kc ks tgt lv st K) (kf : x = 0 → zS B kc ks (pc + 3) lv st K) : zS B kc ks pc lv (.int x :: st) K := fun h H D F L => zr_if_ne d ht (fun q => kt q h H D F L) (fun q => kf q h H D F L)
theorem zs_if_lt {x : Int32} {off : Int} {tgt : Nat} (d : decode B.2.1.2.1 pc = .ok (.ifCond .lt off, 3)) (ht : (pc : Int) + off = (tgt : Int)) (kt : x < 0 → zS B kc ks tgt lv st K) (kf : ¬ (x < 0) → zS B kc ks (pc + 3) lv st K) : zS B kc ks pc lv (.int x :: st) K := fun h H D F L => zr_if_lt d ht (fun q => kt q h H D F L) (fun q => kf q h H D F L)
theorem zs_if_ge {x : Int32} {off : Int} {tgt : Nat} (d : decode B.2.1.2.1 pc = .ok (.ifCond .ge off, 3)) (ht : (pc : Int) + off = (tgt : Int)) (kt : 0 ≤ x → zS B kc ks tgt lv st K) (kf : ¬ (0 ≤ x) → zS B kc ks (pc + 3) lv st K) : zS B kc ks pc lv (.int x :: st) K := fun h H D F L => zr_if_ge d ht (fun q => kt q h H D F L) (fun q => kf q h H D F L)
theorem zs_if_gt {x : Int32} {off : Int} {tgt : Nat} (d : decode B.2.1.2.1 pc = .ok (.ifCond .gt off, 3)) (ht : (pc : Int) + off = (tgt : Int)) (kt : 0 < x → zS B kc ks tgt lv st K) (kf : ¬ (0 < x) → zS B kc ks (pc + 3) lv st K) : zS B kc ks pc lv (.int x :: st) K := fun h H D F L => zr_if_gt d ht (fun q => kt q h H D F L) (fun q => kf q h H D F L)
theorem zs_if_le {x : Int32} {off : Int} {tgt : Nat} (d : decode B.2.1.2.1 pc = .ok (.ifCond .le off, 3)) (ht : (pc : Int) + off = (tgt : Int)) (kt : x ≤ 0 → zS B kc ks tgt lv st K) (kf : ¬ (x ≤ 0) → zS B kc ks (pc + 3) lv st K) : zS B kc ks pc lv (.int x :: st) K := fun h H D F L => zr_if_le d ht (fun q => kt q h H D F L) (fun q => kf q h H D F L)
theorem zs_icmp_eq {x y : Int32} {off : Int} {tgt : Nat} (d : decode B.2.1.2.1 pc = .ok (.if_icmp .eq off, 3)) (ht : (pc : Int) + off = (tgt : Int)) (kt : x = y → zS B kc ks tgt lv st K) (kf : ¬ (x = y) → zS B kc ks (pc + 3) lv st K) : zS B kc ks pc lv (.int y :: .int x :: st) K := fun h H D F L => zr_icmp_eq d ht (fun q => kt q h H D F L) (fun q => kf q h H D F L)
theorem zs_icmp_ne {x y : Int32} {off : Int} {tgt : Nat} (d : decode B.2.1.2.1 pc = .ok (.if_icmp .ne off, 3)) (ht : (pc : Int) + off = (tgt : Int)) (kt : ¬ x = y → zS B kc ks tgt lv st K) (kf : x = y → zS B kc ks (pc + 3) lv st K) : zS B kc ks pc lv (.int y :: .int x :: st) K := fun h H D F L => zr_icmp_ne d ht (fun q => kt q h H D F L) (fun q => kf q h H D F L)
theorem zs_icmp_lt {x y : Int32} {off : Int} {tgt : Nat} (d : decode B.2.1.2.1 pc = .ok (.if_icmp .lt off, 3)) (ht : (pc : Int) + off = (tgt : Int)) (kt : x < y → zS B kc ks tgt lv st K) (kf : ¬ (x < y) → zS B kc ks (pc + 3) lv st K) : zS B kc ks pc lv (.int y :: .int x :: st) K := fun h H D F L => zr_icmp_lt d ht (fun q => kt q h H D F L) (fun q => kf q h H D F L)
theorem zs_icmp_ge {x y : Int32} {off : Int} {tgt : Nat} (d : decode B.2.1.2.1 pc = .ok (.if_icmp .ge off, 3)) (ht : (pc : Int) + off = (tgt : Int)) (kt : y ≤ x → zS B kc ks tgt lv st K) (kf : ¬ (y ≤ x) → zS B kc ks (pc + 3) lv st K) : zS B kc ks pc lv (.int y :: .int x :: st) K := fun h H D F L => zr_icmp_ge d ht (fun q => kt q h H D F L) (fun q => kf q h H D F L)
theorem zs_icmp_gt {x y : Int32} {off : Int} {tgt : Nat} (d : decode B.2.1.2.1 pc = .ok (.if_icmp .gt off, 3)) (ht : (pc : Int) + off = (tgt : Int)) (kt : y < x → zS B kc ks tgt lv st K) (kf : ¬ (y < x) → zS B kc ks (pc + 3) lv st K) : zS B kc ks pc lv (.int y :: .int x :: st) K := fun h H D F L => zr_icmp_gt d ht (fun q => kt q h H D F L) (fun q => kf q h H D F L)
theorem zs_icmp_le {x y : Int32} {off : Int} {tgt : Nat} (d : decode B.2.1.2.1 pc = .ok (.if_icmp .le off, 3)) (ht : (pc : Int) + off = (tgt : Int)) (kt : x ≤ y → zS B kc ks tgt lv st K) (kf : ¬ (x ≤ y) → zS B kc ks (pc + 3) lv st K) : zS B kc ks pc lv (.int y :: .int x :: st) K := fun h H D F L => zr_icmp_le d ht (fun q => kt q h H D F L) (fun q => kf q h H D F L)
theorem zs_goto {off : Int} {tgt : Nat} (d : decode B.2.1.2.1 pc = .ok (.goto off, 3)) (ht : (pc : Int) + off = (tgt : Int)) (k : zS B kc ks tgt lv st K) : zS B kc ks pc lv st K := fun h H D F L => zr_goto d ht (k h H D F L)
theorem zs_tableOut {dflt lo hi : Int} {offs : Array Int} {len : Nat} {x : Int32} {tgt : Nat} (d : decode B.2.1.2.1 pc = .ok (.tableswitch dflt lo hi offs, len)) (hx : x.toInt < lo ∨ hi < x.toInt) (ht : (pc : Int) + dflt = (tgt : Int)) (k : zS B kc ks tgt lv st K) : zS B kc ks pc lv (.int x :: st) K := fun h H D F L => zr_tableOut d hx ht (k h H D F L)
theorem zs_tableIn {dflt lo hi : Int} {offs : Array Int} {len : Nat} {x : Int32} {off : Int} {tgt : Nat} (d : decode B.2.1.2.1 pc = .ok (.tableswitch dflt lo hi offs, len)) (h1 : ¬ x.toInt < lo) (h2 : ¬ hi < x.toInt) (ho : offs[(x.toInt - lo).toNat]? = some off) (ht : (pc : Int) + off = (tgt : Int)) (k : zS B kc ks tgt lv st K) : zS B kc ks pc lv (.int x :: st) K := fun h H D F L => zr_tableIn d h1 h2 ho ht (k h H D F L)
theorem zs_ifnonnull {v : Value} {off : Int} {tgt : Nat} (d : decode B.2.1.2.1 pc = .ok (.ifnonnull off, 3)) (ht : (pc : Int) + off = (tgt : Int)) (hv : zrf v = true) (kt : ¬ v = .null → zS B kc ks tgt lv st K) (kf : v = .null → zS B kc ks (pc + 3) lv st K) : zS B kc ks pc lv (v :: st) K := fun h H D F L => zr_ifnonnull d ht hv (fun q => kt q h H D F L) (fun q => kf q h H D F L)
theorem zs_acmp_eq {u v : Value} {off : Int} {tgt : Nat} (d : decode B.2.1.2.1 pc = .ok (.if_acmp .eq off, 3)) (ht : (pc : Int) + off = (tgt : Int)) (hv : zwd v = true) (hu : zwd u = true) (kt : v = u → zS B kc ks tgt lv st K) (kf : ¬ (v = u) → zS B kc ks (pc + 3) lv st K) : zS B kc ks pc lv (u :: v :: st) K := fun h H D F L => zr_acmp_eq d ht hv hu (fun q => kt q h H D F L) (fun q => kf q h H D F L)
theorem zs_acmp_ne {u v : Value} {off : Int} {tgt : Nat} (d : decode B.2.1.2.1 pc = .ok (.if_acmp .ne off, 3)) (ht : (pc : Int) + off = (tgt : Int)) (hv : zwd v = true) (hu : zwd u = true) (kt : ¬ v = u → zS B kc ks tgt lv st K) (kf : v = u → zS B kc ks (pc + 3) lv st K) : zS B kc ks pc lv (u :: v :: st) K := fun h H D F L => zr_acmp_ne d ht hv hu (fun q => kt q h H D F L) (fun q => kf q h H D F L)
theorem zs_get {idx ci k a : Nat} {ty : FieldType} {fin : Bool} {fs : List Value} {v : Value} (i : Nat) (d : decode B.2.1.2.1 pc = .ok (.getfield idx, 3)) (f : zFd B.2.1.1.cls idx ci k ty fin) (hc : K[i]? = some (a, .inr (ci, fs))) (hv : fs[k]? = some v) (k : zS B kc ks (pc + 3) lv (v :: st) K) : zS B kc ks pc lv (.ref a :: st) K :=
  fun h H D F L => zr_get d f (H i _ hc) hv (k h H D F L)
theorem zs_put {idx ci k a : Nat} {ty : FieldType} {fs : List Value} {v : Value} (i : Nat) (d : decode B.2.1.2.1 pc = .ok (.putfield idx, 3)) (f : zFd B.2.1.1.cls idx ci k ty false) (hc : K[i]? = some (a, .inr (ci, fs))) (hl : k < fs.length) (hp : zPv ty v) (k : zS B kc ks (pc + 3) lv st (K.set i (a, .inr (ci, fs.set k v)))) : zS B kc ks pc lv (v :: .ref a :: st) K :=
  fun h H D F L => zr_put d f (H i _ hc) hl hp (k _ (H.set D hc) (D.set hc) (F.set (L i _ hc)) (L.set hc))
theorem zs_putF {idx ci k a : Nat} {ty : FieldType} {fs : List Value} {v : Value} (i : Nat) (d : decode B.2.1.2.1 pc = .ok (.putfield idx, 3)) (f : zFd B.2.1.1.cls idx ci k ty true) (hc : K[i]? = some (a, .inr (ci, fs))) (hl : k < fs.length) (hp : zPv ty v) (hi : B.2.1.1.name = "<init>") (ho : ∀ (C : String) (T : u_T) (N : Nat), vwCl[ci]? = some (C, T, N) → C = B.2.1.1.cls) (k : zS B kc ks (pc + 3) lv st (K.set i (a, .inr (ci, fs.set k v)))) : zS B kc ks pc lv (v :: .ref a :: st) K :=
  fun h H D F L => zr_putF d f (H i _ hc) hl hp hi ho (k _ (H.set D hc) (D.set hc) (F.set (L i _ hc)) (L.set hc))
theorem zs_iald {a n : Nat} {f : Nat → Int32} {j : Int32} (i : Nat) (d : decode B.2.1.2.1 pc = .ok (.iaload, 1)) (ha : K[i]? = some (a, .inl (0, n, .inl f))) (hin : vp_in j n) (k : zS B kc ks (pc + 1) lv (.int (f j.toNatClampNeg) :: st) K) : zS B kc ks pc lv (.int j :: .ref a :: st) K :=
  fun h H D F L => zr_iald d (H i _ ha) hin (k h H D F L)
theorem zs_zald {a n : Nat} {f : Nat → Int32} {j : Int32} (i : Nat) (d : decode B.2.1.2.1 pc = .ok (.baload, 1)) (ha : K[i]? = some (a, .inl (1, n, .inl f))) (hin : vp_in j n) (k : zS B kc ks (pc + 1) lv (.int (f j.toNatClampNeg) :: st) K) : zS B kc ks pc lv (.int j :: .ref a :: st) K :=
  fun h H D F L => zr_zald d (H i _ ha) hin (k h H D F L)
theorem zs_lald {a n : Nat} {f : Nat → Int64} {j : Int32} (i : Nat) (d : decode B.2.1.2.1 pc = .ok (.laload, 1)) (ha : K[i]? = some (a, .inl (2, n, .inr (.inl f)))) (hin : vp_in j n) (k : zS B kc ks (pc + 1) lv (.long (f j.toNatClampNeg) :: st) K) : zS B kc ks pc lv (.int j :: .ref a :: st) K :=
  fun h H D F L => zr_lald d (H i _ ha) hin (k h H D F L)
theorem zs_iast {a n : Nat} {f : Nat → Int32} {j : Int32} {x : Int32} (i : Nat) (d : decode B.2.1.2.1 pc = .ok (.iastore, 1)) (ha : K[i]? = some (a, .inl (0, n, .inl f))) (hin : vp_in j n) (k : zS B kc ks (pc + 1) lv st (K.set i (a, .inl (0, n, .inl (upd f j.toNatClampNeg x))))) : zS B kc ks pc lv (.int x :: .int j :: .ref a :: st) K :=
  fun h H D F L => zr_iast d (H i _ ha) hin (k _ (H.set D ha) (D.set ha) (F.set (L i _ ha)) (L.set ha))
theorem zs_last {a n : Nat} {f : Nat → Int64} {j : Int32} {x : Int64} (i : Nat) (d : decode B.2.1.2.1 pc = .ok (.lastore, 1)) (ha : K[i]? = some (a, .inl (2, n, .inr (.inl f)))) (hin : vp_in j n) (k : zS B kc ks (pc + 1) lv st (K.set i (a, .inl (2, n, .inr (.inl (vp_updL f j.toNatClampNeg x)))))) : zS B kc ks pc lv (.long x :: .int j :: .ref a :: st) K :=
  fun h H D F L => zr_last d (H i _ ha) hin (k _ (H.set D ha) (D.set ha) (F.set (L i _ ha)) (L.set ha))
theorem zs_zast {a n : Nat} {f : Nat → Int32} {j : Int32} {x : Int32} (i : Nat) (d : decode B.2.1.2.1 pc = .ok (.bastore, 1)) (ha : K[i]? = some (a, .inl (1, n, .inl f))) (hin : vp_in j n) (hx : x = 0 ∨ x = 1) (k : zS B kc ks (pc + 1) lv st (K.set i (a, .inl (1, n, .inl (upd f j.toNatClampNeg x))))) : zS B kc ks pc lv (.int x :: .int j :: .ref a :: st) K :=
  fun h H D F L => zr_zast d (H i _ ha) hin hx (k _ (H.set D ha) (D.set ha) (F.set (L i _ ha)) (L.set ha))
theorem zs_alen {a t : Nat} {x : vp_A} {v : Int32} (i : Nat) (d : decode B.2.1.2.1 pc = .ok (.arraylength, 1)) (ha : K[i]? = some (a, .inl (t, x))) (ht : t < 5) (hv : Int32.ofNat x.1 = v) (k : zS B kc ks (pc + 1) lv (.int v :: st) K) : zS B kc ks pc lv (.ref a :: st) K :=
  fun h H D F L => zr_alen d (H i _ ha) ht hv (k h H D F L)
theorem zs_aald3 {a n b : Nat} {f : Nat → Option Nat} {j : Int32} (i : Nat) (d : decode B.2.1.2.1 pc = .ok (.aaload, 1)) (ha : K[i]? = some (a, .inl (3, n, .inr (.inr (.inr (.inr f)))))) (hin : vp_in j n) (hb : f j.toNatClampNeg = some b) (k : zS B kc ks (pc + 1) lv (.ref b :: st) K) : zS B kc ks pc lv (.int j :: .ref a :: st) K :=
  fun h H D F L => zr_aald3 d (H i _ ha) hin hb (k h H D F L)
theorem zs_aast3 {a n b ci : Nat} {f : Nat → Option Nat} {j : Int32} {vs : List Value} {T : u_T} {N : Nat} (i i2 : Nat) (d : decode B.2.1.2.1 pc = .ok (.aastore, 1)) (ha : K[i]? = some (a, .inl (3, n, .inr (.inr (.inr (.inr f)))))) (hin : vp_in j n) (hb : K[i2]? = some (b, .inr (ci, vs))) (hc : vwCl[ci]? = some ("PailRow$State", T, N)) (k : zS B kc ks (pc + 1) lv st (K.set i (a, .inl (3, n, .inr (.inr (.inr (.inr (va_up f j.toNatClampNeg (some b))))))))) : zS B kc ks pc lv (.ref b :: .int j :: .ref a :: st) K :=
  fun h H D F L => zr_aast3 d (H i _ ha) hin (H i2 _ hb) hc (k _ (H.set D ha) (D.set ha) (F.set (L i _ ha)) (L.set ha))
theorem zs_anew3 {n : Int32} {N idx : Nat} (d : decode B.2.1.2.1 pc = .ok (.anewarray idx, 3)) (w : Cond.classLink B.2.1.1.cls idx "PailRow$State" ∈ zTs) (hn : ¬ n < 0) (hN : n.toNatClampNeg = N) (hb : N ≤ 65536) (hk : 1 ≤ kc) (hs : N ≤ ks) (k : ∀ q : Nat, zS B (kc - 1) (ks - N) (pc + 3) lv (.ref q :: st) (K ++ [(q, .inl (3, N, .inr (.inr (.inr (.inr (fun _ => none))))))])) : zS B kc ks pc lv (.int n :: st) K :=
  fun h H D F L => zr_anew3 d w hn hN hb hk hs (k h.length _ H.push (D.push H) F.push (L.push F.1))
theorem zs_aald4 {a n b : Nat} {f : Nat → Option Nat} {j : Int32} (i : Nat) (d : decode B.2.1.2.1 pc = .ok (.aaload, 1)) (ha : K[i]? = some (a, .inl (4, n, .inr (.inr (.inr (.inr f)))))) (hin : vp_in j n) (hb : f j.toNatClampNeg = some b) (k : zS B kc ks (pc + 1) lv (.ref b :: st) K) : zS B kc ks pc lv (.int j :: .ref a :: st) K :=
  fun h H D F L => zr_aald4 d (H i _ ha) hin hb (k h H D F L)
theorem zs_aast4 {a n b ci : Nat} {f : Nat → Option Nat} {j : Int32} {vs : List Value} {T : u_T} {N : Nat} (i i2 : Nat) (d : decode B.2.1.2.1 pc = .ok (.aastore, 1)) (ha : K[i]? = some (a, .inl (4, n, .inr (.inr (.inr (.inr f)))))) (hin : vp_in j n) (hb : K[i2]? = some (b, .inr (ci, vs))) (hc : vwCl[ci]? = some ("PailRow$Fire", T, N)) (k : zS B kc ks (pc + 1) lv st (K.set i (a, .inl (4, n, .inr (.inr (.inr (.inr (va_up f j.toNatClampNeg (some b))))))))) : zS B kc ks pc lv (.ref b :: .int j :: .ref a :: st) K :=
  fun h H D F L => zr_aast4 d (H i _ ha) hin (H i2 _ hb) hc (k _ (H.set D ha) (D.set ha) (F.set (L i _ ha)) (L.set ha))
theorem zs_anew4 {n : Int32} {N idx : Nat} (d : decode B.2.1.2.1 pc = .ok (.anewarray idx, 3)) (w : Cond.classLink B.2.1.1.cls idx "PailRow$Fire" ∈ zTs) (hn : ¬ n < 0) (hN : n.toNatClampNeg = N) (hb : N ≤ 65536) (hk : 1 ≤ kc) (hs : N ≤ ks) (k : ∀ q : Nat, zS B (kc - 1) (ks - N) (pc + 3) lv (.ref q :: st) (K ++ [(q, .inl (4, N, .inr (.inr (.inr (.inr (fun _ => none))))))])) : zS B kc ks pc lv (.int n :: st) K :=
  fun h H D F L => zr_anew4 d w hn hN hb hk hs (k h.length _ H.push (D.push H) F.push (L.push F.1))
theorem zs_newa_int {n : Int32} {N : Nat} (d : decode B.2.1.2.1 pc = .ok (.newarray .int, 2)) (hn : ¬ n < 0) (hN : n.toNatClampNeg = N) (hb : N ≤ 65536) (hk : 1 ≤ kc) (hs : N ≤ ks) (k : ∀ q : Nat, zS B (kc - 1) (ks - N) (pc + 2) lv (.ref q :: st) (K ++ [(q, .inl (0, N, .inl (fun _ => 0)))])) : zS B kc ks pc lv (.int n :: st) K :=
  fun h H D F L => zr_newa_int d hn hN hb hk hs (k h.length _ H.push (D.push H) F.push (L.push F.1))
theorem zs_newa_boolean {n : Int32} {N : Nat} (d : decode B.2.1.2.1 pc = .ok (.newarray .boolean, 2)) (hn : ¬ n < 0) (hN : n.toNatClampNeg = N) (hb : N ≤ 65536) (hk : 1 ≤ kc) (hs : N ≤ ks) (k : ∀ q : Nat, zS B (kc - 1) (ks - N) (pc + 2) lv (.ref q :: st) (K ++ [(q, .inl (1, N, .inl (fun _ => 0)))])) : zS B kc ks pc lv (.int n :: st) K :=
  fun h H D F L => zr_newa_boolean d hn hN hb hk hs (k h.length _ H.push (D.push H) F.push (L.push F.1))
theorem zs_newa_long {n : Int32} {N : Nat} (d : decode B.2.1.2.1 pc = .ok (.newarray .long, 2)) (hn : ¬ n < 0) (hN : n.toNatClampNeg = N) (hb : N ≤ 65536) (hk : 1 ≤ kc) (hs : N ≤ ks) (k : ∀ q : Nat, zS B (kc - 1) (ks - N) (pc + 2) lv (.ref q :: st) (K ++ [(q, .inl (2, N, .inr (.inl (fun _ => 0))))])) : zS B kc ks pc lv (.int n :: st) K :=
  fun h H D F L => zr_newa_long d hn hN hb hk hs (k h.length _ H.push (D.push H) F.push (L.push F.1))
theorem zs_new {idx ci : Nat} {fs : List Value} (d : decode B.2.1.2.1 pc = .ok (.new idx, 3)) (w : zNew B.2.1.1.cls idx ci fs) (hk : 1 ≤ kc) (hs : fs.length ≤ ks) (k : ∀ q : Nat, zS B (kc - 1) (ks - fs.length) (pc + 3) lv (.ref q :: st) (K ++ [(q, .inr (ci, fs))])) : zS B kc ks pc lv st K :=
  fun h H D F L => zr_new d w hk hs (k h.length _ H.push (D.push H) F.push (L.push F.1))
theorem zs_objInit {idx a : Nat} (d : decode B.2.1.2.1 pc = .ok (.invokespecial idx, 3)) (w : Cond.methodLink B.2.1.1.cls idx objectInit ∈ zTs) (hd : 1 ≤ B.2.2.1) (hst : ((st.map (zV (fun _ => 0) (fun _ => 0))).map fun v => v.category).sum ≤ 8) (k : zS B kc ks (pc + 3) lv st K) : zS B kc ks pc lv (.ref a :: st) K :=
  fun h H D F L => zr_objInit d w hd hst (k h H D F L)
theorem zs_iret {x : Int32} (d : decode B.2.1.2.1 pc = .ok (.ireturn, 1)) (hr : B.2.1.2.2.2 = some .int) (q : B.2.2.2.1 (some (.int x)) K) : zS B kc ks pc lv [.int x] K :=
  fun h H D F L => zr_iret d hr ⟨K, q, H, D, F, L⟩
theorem zs_zret {x : Int32} (d : decode B.2.1.2.1 pc = .ok (.ireturn, 1)) (hr : B.2.1.2.2.2 = some .boolean) (hx : x = 0 ∨ x = 1) (q : B.2.2.2.1 (some (.int x)) K) : zS B kc ks pc lv [.int x] K :=
  fun h H D F L => zr_zret d hr hx ⟨K, q, H, D, F, L⟩
theorem zs_lret {x : Int64} (d : decode B.2.1.2.1 pc = .ok (.lreturn, 1)) (hr : B.2.1.2.2.2 = some .long) (q : B.2.2.2.1 (some (.long x)) K) : zS B kc ks pc lv [.long x] K :=
  fun h H D F L => zr_lret d hr ⟨K, q, H, D, F, L⟩
theorem zs_vret (d : decode B.2.1.2.1 pc = .ok (.return_, 1)) (hr : B.2.1.2.2.2 = none) (q : B.2.2.2.1 none K) : zS B kc ks pc lv [] K :=
  fun h H D F L => zr_vret d hr ⟨K, q, H, D, F, L⟩
theorem zs_aret {v : Value} {rt : FieldType} (d : decode B.2.1.2.1 pc = .ok (.areturn, 1)) (hr : B.2.1.2.2.2 = some rt) (hrt : (∃ n, rt = .object n) ∨ ∃ t, rt = .array t) (hv : zrf v = true) (q : B.2.2.2.1 (some v) K) : zS B kc ks pc lv [v] K :=
  fun h H D F L => zr_aret d hr hrt hv ⟨K, q, H, D, F, L⟩
theorem zs_mmax {idx : Nat} {x y : Int32} (d : decode B.2.1.2.1 pc = .ok (.invokestatic idx, 3)) (w : Cond.methodLink B.2.1.1.cls idx Lib.Math.max.name ∈ zTs) (w1 : Cond.static Lib.Math.max.name ∈ zTs) (w2 : Cond.initialized "java/lang/Math" ∈ zTs) (w3 : Cond.code Lib.Math.max.name Lib.Math.max.code 2 (some .int) ∈ zTs) (hd : 1 ≤ B.2.2.1) (hst : (st.map fun v => v.category).sum ≤ 8) (k : zS B kc ks (pc + 3) lv (.int (if x < y then y else x) :: st) K) : zS B kc ks pc lv (.int y :: .int x :: st) K := fun h H D F L => zr_mmax d w w1 w2 w3 hd hst (k h H D F L)
theorem zs_mmin {idx : Nat} {x y : Int32} (d : decode B.2.1.2.1 pc = .ok (.invokestatic idx, 3)) (w : Cond.methodLink B.2.1.1.cls idx Lib.Math.min.name ∈ zTs) (w1 : Cond.static Lib.Math.min.name ∈ zTs) (w2 : Cond.initialized "java/lang/Math" ∈ zTs) (w3 : Cond.code Lib.Math.min.name Lib.Math.min.code 2 (some .int) ∈ zTs) (hd : 1 ≤ B.2.2.1) (hst : (st.map fun v => v.category).sum ≤ 8) (k : zS B kc ks (pc + 3) lv (.int (if y < x then y else x) :: st) K) : zS B kc ks pc lv (.int y :: .int x :: st) K := fun h H D F L => zr_mmin d w w1 w2 w3 hd hst (k h H D F L)
theorem zs_mabs {idx : Nat} {x : Int32} (d : decode B.2.1.2.1 pc = .ok (.invokestatic idx, 3)) (w : Cond.methodLink B.2.1.1.cls idx Lib.Math.abs.name ∈ zTs) (w1 : Cond.static Lib.Math.abs.name ∈ zTs) (w2 : Cond.initialized "java/lang/Math" ∈ zTs) (w3 : Cond.code Lib.Math.abs.name Lib.Math.abs.code 1 (some .int) ∈ zTs) (hd : 1 ≤ B.2.2.1) (hst : (st.map fun v => v.category).sum ≤ 8) (k : zS B kc ks (pc + 3) lv (.int (if 0 ≤ x then x else 0 - x) :: st) K) : zS B kc ks pc lv (.int x :: st) K := fun h H D F L => zr_mabs d w w1 w2 w3 hd hst (k h H D F L)
theorem zs_copy {idx a a0 n1 n2 : Nat} {f g : Nat → Int32} {sp dp n : Int32} (i0 i : Nat) (d : decode B.2.1.2.1 pc = .ok (.invokestatic idx, 3)) (w : Cond.methodLink B.2.1.1.cls idx arraycopyName ∈ zTs) (w1 : Cond.native arraycopyName ∈ zTs) (w2 : Cond.static arraycopyName ∈ zTs) (w3 : Cond.initialized "java/lang/System" ∈ zTs) (hd : 1 ≤ B.2.2.1) (hst : (st.map fun v => v.category).sum ≤ 8) (ha0 : K[i0]? = some (a0, .inl (0, n1, .inl f))) (ha : K[i]? = some (a, .inl (0, n2, .inl g))) (h1 : ¬ sp < 0) (h2 : ¬ dp < 0) (h3 : ¬ n < 0) (h4 : sp.toNatClampNeg + n.toNatClampNeg ≤ n1) (h5 : dp.toNatClampNeg + n.toNatClampNeg ≤ n2)
    (k : zS B kc ks (pc + 3) lv st (K.set i (a, .inl (0, n2, .inl (va_cpy f g sp.toNatClampNeg dp.toNatClampNeg n.toNatClampNeg))))) : zS B kc ks pc lv (.int n :: .int dp :: .ref a :: .int sp :: .ref a0 :: st) K :=
  fun h H D F L => zr_copy d w w1 w2 w3 hd hst (H i0 _ ha0) (H i _ ha) h1 h2 h3 h4 h5 (k _ (H.set D ha) (D.set ha) (F.set (L i _ ha)) (L.set ha))
theorem zs_getsW {idx : Nat} {u : UInt32} (d : decode B.2.1.2.1 pc = .ok (.getstatic idx, 3)) (hu : u.toNat < 29) (w : Cond.fieldLink B.2.1.1.cls idx "PailRow$Word" (zNm.getD u.toNat "") zD10 ∈ zTs) (k : zS B kc ks (pc + 3) lv (.float u :: st) K) : zS B kc ks pc lv st K := fun h H D F L => zr_getsW d hu w (k h H D F L)
theorem zs_getsAll {idx : Nat} (d : decode B.2.1.2.1 pc = .ok (.getstatic idx, 3)) (w : Cond.fieldLink B.2.1.1.cls idx "PailRow$Word" "ALL" "[LPailRow$Word;" ∈ zTs) (k : zS B kc ks (pc + 3) lv (.float 100 :: st) K) : zS B kc ks pc lv st K := fun h H D F L => zr_getsAll d w (k h H D F L)
theorem zs_getsSw {idx : Nat} (d : decode B.2.1.2.1 pc = .ok (.getstatic idx, 3)) (w : Cond.fieldLink B.2.1.1.cls idx "PailRow$1" "$SwitchMap$PailRow$Word" "[I" ∈ zTs) (k : zS B kc ks (pc + 3) lv (.float 101 :: st) K) : zS B kc ks pc lv st K := fun h H D F L => zr_getsSw d w (k h H D F L)
theorem zs_allAt {i : Int32} (d : decode B.2.1.2.1 pc = .ok (.aaload, 1)) (hin : vp_in i 29) (k : zS B kc ks (pc + 1) lv (.float (UInt32.ofNat i.toNatClampNeg) :: st) K) : zS B kc ks pc lv (.int i :: .float 100 :: st) K := fun h H D F L => zr_allAt d hin (k h H D F L)
theorem zs_allLen (d : decode B.2.1.2.1 pc = .ok (.arraylength, 1)) (k : zS B kc ks (pc + 1) lv (.int 29 :: st) K) : zS B kc ks pc lv (.float 100 :: st) K := fun h H D F L => zr_allLen d (k h H D F L)
theorem zs_swAt {i : Int32} (d : decode B.2.1.2.1 pc = .ok (.iaload, 1)) (hin : vp_in i 29) (k : zS B kc ks (pc + 1) lv (.int (zSw.getD i.toNatClampNeg 0) :: st) K) : zS B kc ks pc lv (.int i :: .float 101 :: st) K := fun h H D F L => zr_swAt d hin (k h H D F L)
theorem zs_letters {idx : Nat} {u : UInt32} (d : decode B.2.1.2.1 pc = .ok (.getfield idx, 3)) (hu : u.toNat < 29) (w : Cond.fieldLink B.2.1.1.cls idx "PailRow$Word" "letters" "I" ∈ zTs) (k : zS B kc ks (pc + 3) lv (.int (zLet.getD u.toNat 0) :: st) K) : zS B kc ks pc lv (.float u :: st) K := fun h H D F L => zr_letters d hu w (k h H D F L)
theorem zs_scrLen {L : Nat} {v : Int32} (hL : ∀ G, B.2.2.2.2.2.2.2 G → G.2.2.2.1 = L) (d : decode B.2.1.2.1 pc = .ok (.arraylength, 1)) (hv : Int32.ofNat L = v) (k : zS B kc ks (pc + 1) lv (.int v :: st) K) : zS B kc ks pc lv (.float 102 :: st) K := fun h H D F L => zr_scrLen hL d hv (k h H D F L)
theorem zs_scrAt {L : Nat} {xs : Nat → Int32} {i : Int32} (hL : ∀ G, B.2.2.2.2.2.2.2 G → G.2.2.2.1 = L ∧ G.2.2.2.2 = xs) (d : decode B.2.1.2.1 pc = .ok (.iaload, 1)) (hin : vp_in i L) (k : zS B kc ks (pc + 1) lv (.int (xs i.toNatClampNeg) :: st) K) : zS B kc ks pc lv (.int i :: .float 102 :: st) K := fun h H D F L => zr_scrAt hL d hin (k h H D F L)
end ZSA
section ZSB
variable {B : zB} {kc ks pc : Nat} {lv : List (Nat × Value)} {st stk : List Value} {K Kc Kr : zK} {kc' ks' dd' : Nat} {M : zM} {As : List Value} {Po : zPo}
/-- behind a call: the caller's other cells, and what came back -/
theorem zs_back (is isR : List Nat) (PC : zPk K is Kc) (PR : zPk K isR Kr) (nR : va_nd isR = true) (dis : ∀ i ∈ isR, i ∉ is) (k : ∀ (r : Option Value) (K1 : zK), Po r K1 → zS B (kc - kc') (ks - ks') (pc + 3) lv (r.toList ++ st) (Kr ++ K1))
    {h : List va_E} (H : zHas h K) (D : zDj K) (F : zFr (B.2.2.2.2.1.map Prod.fst) B.2.2.2.2.2.1 h) (L : zAl (B.2.2.2.2.1.map Prod.fst) B.2.2.2.2.2.1.length K) : ∀ (r : Option Value) (h' : List va_E), zQp Po Kc h r h' → h.length ≤ h'.length → zR (zBE B) (kc - kc') (ks - ks') (pc + 3) lv (r.toList ++ st) h' := by
  intro r h' ⟨K1, hp, H1, D1, F1, L1⟩ hn
  have apart : ∀ (i : Nat) (q : Nat × va_E), Kr[i]? = some q → q.1 < h.length ∧ q.1 ∉ Kc.map Prod.fst := by
    intro i q hq
    obtain ⟨x, hx, hx2⟩ := PR.at hq
    refine ⟨H.lt hx2, fun hm => ?_⟩
    obtain ⟨q', hq', he⟩ := List.mem_map.mp hm
    obtain ⟨j, hj⟩ := List.getElem?_of_mem hq'
    obtain ⟨y, hy, hy2⟩ := PC.at hj
    have := D x y q q' hx2 hy2 he.symm
    subst this
    exact dis x (List.mem_of_getElem? hx) (List.mem_of_getElem? hy)
  have sp : ∀ (i : Nat) (q : Nat × va_E), (Kr ++ K1)[i]? = some q → (i < Kr.length ∧ Kr[i]? = some q) ∨ (Kr.length ≤ i ∧ K1[i - Kr.length]? = some q) := by
    intro i q hq
    by_cases hi : i < Kr.length
    · rw [List.getElem?_append_left hi] at hq
      exact Or.inl ⟨hi, hq⟩
    · rw [List.getElem?_append_right (Nat.not_lt.mp hi)] at hq
      exact Or.inr ⟨Nat.not_lt.mp hi, hq⟩
  have DR := D.pk PR nR
  refine k r K1 hp h' (fun i q hq => ?_) (fun i j p q hi hj hpq => ?_) ⟨Nat.le_trans F.1 F1.1, fun b hb hw => ?_⟩ (fun i q hq => ?_)
  · rcases sp i q hq with ⟨-, g⟩ | ⟨-, g⟩
    · obtain ⟨a1, a2⟩ := apart i q g
      rw [F1.2 q.1 a1 a2]
      exact H.pk PR i q g
    · exact H1 _ q g
  · rcases sp i p hi with ⟨a1, a2⟩ | ⟨a1, a2⟩ <;> rcases sp j q hj with ⟨b1, b2⟩ | ⟨b1, b2⟩
    · exact DR i j p q a2 b2 hpq
    · exfalso
      obtain ⟨c1, c2⟩ := apart i p a2
      rcases L1 _ q b2 with g | g
      · exact c2 (hpq ▸ g)
      · omega
    · exfalso
      obtain ⟨c1, c2⟩ := apart j q b2
      rcases L1 _ p a2 with g | g
      · exact c2 (hpq ▸ g)
      · omega
    · have := D1 _ _ p q a2 b2 hpq
      omega
  · have hc : b ∉ Kc.map Prod.fst := by
      intro hm
      obtain ⟨q', hq', he⟩ := List.mem_map.mp hm
      obtain ⟨j, hj⟩ := List.getElem?_of_mem hq'
      obtain ⟨y, hy, hy2⟩ := PC.at hj
      rcases L y q' hy2 with g | g
      · exact hw (he ▸ g)
      · omega
    rw [F1.2 b (Nat.lt_of_lt_of_le hb F.1) hc]
    exact F.2 b hb hw
  · rcases sp i q hq with ⟨-, g⟩ | ⟨-, g⟩
    · exact L.pk PR i q g
    · rcases L1 _ q g with g | g
      · obtain ⟨q', hq', he⟩ := List.mem_map.mp g
        obtain ⟨j, hj⟩ := List.getElem?_of_mem hq'
        rw [← he]
        exact L.pk PC j q' hj
      · exact Or.inr (Nat.le_trans F.1 g)
theorem zs_callV {idx a ci : Nat} {fs : List Value} {T : u_T} {N : Nat} (is isR : List Nat) (j : Nat) (d : decode B.2.1.2.1 pc = .ok (.invokevirtual idx, 3)) (w : zMv B.2.1.1.cls idx M.1 As.length) (cd : zCd M) (he : stk = As.reverse ++ .ref a :: st) (PC : zPk K is Kc) (PR : zPk K isR Kr) (nC : va_nd is = true) (nR : va_nd isR = true) (dis : ∀ i ∈ isR, i ∉ is) (hc : Kc[j]? = some (a, .inr (ci, fs))) (hcl : vwCl[ci]? = some (M.1.cls, T, N)) (hdd : dd' + 1 ≤ B.2.2.1) (hk : kc' ≤ kc) (hs : ks' ≤ ks) (hst : (st.map fun v => v.category).sum ≤ 8)
    (C : zSp B.1 M dd' kc' ks' (.ref a :: As) Kc Po) (k : ∀ (r : Option Value) (K1 : zK), Po r K1 → zS B (kc - kc') (ks - ks') (pc + 3) lv (r.toList ++ st) (Kr ++ K1)) : zS B kc ks pc lv stk K :=
  fun h H D F L => zr_callV d w cd he (H.pk PC j _ hc) hcl hdd hk hs hst (C h (H.pk PC) (D.pk PC nC)) (zs_back is isR PC PR nR dis k H D F L)
theorem zs_callS {idx : Nat} (is isR : List Nat) (d : decode B.2.1.2.1 pc = .ok (.invokestatic idx, 3)) (w : zMs B.2.1.1.cls idx M.1 As.length) (cd : zCd M) (he : stk = As.reverse ++ st) (PC : zPk K is Kc) (PR : zPk K isR Kr) (nC : va_nd is = true) (nR : va_nd isR = true) (dis : ∀ i ∈ isR, i ∉ is) (hdd : dd' + 1 ≤ B.2.2.1) (hk : kc' ≤ kc) (hs : ks' ≤ ks) (hst : (st.map fun v => v.category).sum ≤ 8)
    (C : zSp B.1 M dd' kc' ks' As Kc Po) (k : ∀ (r : Option Value) (K1 : zK), Po r K1 → zS B (kc - kc') (ks - ks') (pc + 3) lv (r.toList ++ st) (Kr ++ K1)) : zS B kc ks pc lv stk K :=
  fun h H D F L => zr_callS d w cd he hdd hk hs hst (C h (H.pk PC) (D.pk PC nC)) (zs_back is isR PC PR nR dis k H D F L)
theorem zs_callI {idx a : Nat} (is isR : List Nat) (d : decode B.2.1.2.1 pc = .ok (.invokespecial idx, 3)) (w : zMi B.2.1.1.cls idx M.1 As.length) (cd : zCd M) (hret : M.2.2.2 = none) (he : stk = As.reverse ++ .ref a :: st) (PC : zPk K is Kc) (PR : zPk K isR Kr) (nC : va_nd is = true) (nR : va_nd isR = true) (dis : ∀ i ∈ isR, i ∉ is) (hdd : dd' + 1 ≤ B.2.2.1) (hk : kc' ≤ kc) (hs : ks' ≤ ks) (hst : (st.map fun v => v.category).sum ≤ 8)
    (C : zSp B.1 M dd' kc' ks' (.ref a :: As) Kc Po) (k : ∀ (r : Option Value) (K1 : zK), Po r K1 → zS B (kc - kc') (ks - ks') (pc + 3) lv (r.toList ++ st) (Kr ++ K1)) : zS B kc ks pc lv stk K :=
  fun h H D F L => zr_callI d w cd hret he hdd hk hs hst (C h (H.pk PC) (D.pk PC nC)) (zs_back is isR PC PR nR dis k H D F L)
theorem zs_callSN {idx : Nat} (is isR : List Nat) (d : decode B.2.1.2.1 pc = .ok (.invokestatic idx, 3)) (hw : (B.2.1.1.cls = "PailRow$Yard" ∧ idx = 175) ∨ (B.2.1.1.cls = "PailRow$Runners" ∧ idx = 49)) (hM : M.1 = yX12_cutUp) (hws : Cond.static M.1 ∈ zTs ∧ Cond.initialized M.1.cls ∈ zTs ∧ zDs M.1 As.length) (cd : zCd M) (he : stk = As.reverse ++ st) (PC : zPk K is Kc) (PR : zPk K isR Kr) (nC : va_nd is = true) (nR : va_nd isR = true) (dis : ∀ i ∈ isR, i ∉ is) (hdd : dd' + 1 ≤ B.2.2.1) (hk : kc' ≤ kc) (hs : ks' ≤ ks) (hst : (st.map fun v => v.category).sum ≤ 8)
    (C : zSp B.1 M dd' kc' ks' As Kc Po) (k : ∀ (r : Option Value) (K1 : zK), Po r K1 → zS B (kc - kc') (ks - ks') (pc + 3) lv (r.toList ++ st) (Kr ++ K1)) : zS B kc ks pc lv stk K :=
  fun h H D F L => zr_callSN d hw hM hws cd he hdd hk hs hst (C h (H.pk PC) (D.pk PC nC)) (zs_back is isR PC PR nR dis k H D F L)
end ZSB
