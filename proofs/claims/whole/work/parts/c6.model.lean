/-! ===== the first of the least ===== -/
def lxE (n : Nat) (c d : Nat → Nat) : Prop := ∀ q, q < n → c q = d q
def lxL (n : Nat) (c d : Nat → Nat) : Prop := ∃ p, p < n ∧ (∀ q, q < p → c q = d q) ∧ c p < d p
theorem lx_tri : ∀ (n : Nat) (c d : Nat → Nat), lxE n c d ∨ lxL n c d ∨ lxL n d c
  | 0, c, d => Or.inl (fun q h => absurd h (Nat.not_lt_zero q))
  | n + 1, c, d => by
    rcases lx_tri n c d with h | ⟨p, h1, h2, h3⟩ | ⟨p, h1, h2, h3⟩
    · by_cases e : c n = d n
      · exact Or.inl (fun q hq => (Nat.lt_or_eq_of_le (Nat.le_of_lt_succ hq)).elim (h q) (fun z => z ▸ e))
      · by_cases l : c n < d n
        · exact Or.inr (Or.inl ⟨n, Nat.lt_succ_self n, h, l⟩)
        · exact Or.inr (Or.inr ⟨n, Nat.lt_succ_self n, fun q hq => (h q hq).symm, by omega⟩)
    · exact Or.inr (Or.inl ⟨p, by omega, h2, h3⟩)
    · exact Or.inr (Or.inr ⟨p, by omega, h2, h3⟩)
theorem lxL_as {n : Nat} {c d : Nat → Nat} (h : lxL n c d) (h' : lxL n d c) : False := by
  obtain ⟨p, h1, h2, h3⟩ := h
  obtain ⟨q, g1, g2, g3⟩ := h'
  rcases Nat.lt_trichotomy p q with e | e | e
  · have := g2 p e; omega
  · subst e; omega
  · have := h2 q e; omega
theorem lxL_ne {n : Nat} {c d : Nat → Nat} (h : lxL n c d) (h' : lxE n c d) : False := by
  obtain ⟨p, h1, h2, h3⟩ := h
  have := h' p h1
  omega
theorem lxL_e {n : Nat} {c c' d : Nat → Nat} (h : lxE n c c') (hl : lxL n c' d) : lxL n c d := by
  obtain ⟨p, h1, h2, h3⟩ := hl
  exact ⟨p, h1, fun q hq => (h q (by omega)).trans (h2 q hq), by rw [h p h1]; exact h3⟩
/-- o is the champion of Q: of the least cost, the first of those -/
def chm (V : (Nat → Nat) → Prop) (cost : (Nat → Nat) → Nat) (n : Nat) (Q : (Nat → Nat) → Prop) : Option (Nat × (Nat → Nat)) → Prop
  | none => ∀ c, V c → ¬ Q c
  | some (bp, b) => V b ∧ Q b ∧ cost b = bp ∧ ∀ c, V c → Q c → bp ≤ cost c ∧ (cost c = bp → lxE n b c ∨ lxL n b c)
section
variable {V Q Q' R : (Nat → Nat) → Prop} {cost : (Nat → Nat) → Nat} {n : Nat}
theorem chm_q (h : ∀ c, V c → (Q c ↔ Q' c)) : ∀ {o : Option (Nat × (Nat → Nat))}, chm V cost n Q o → chm V cost n Q' o
  | none, hc => fun c hV hQ => hc c hV ((h c hV).mpr hQ)
  | some (bp, b), hc => ⟨hc.1, (h b hc.1).mp hc.2.1, hc.2.2.1, fun c hV hQ => hc.2.2.2 c hV ((h c hV).mpr hQ)⟩
theorem chm_u {bp bp' : Nat} {b b' : Nat → Nat} (h : chm V cost n Q (some (bp, b))) (h' : chm V cost n Q (some (bp', b'))) : bp = bp' ∧ lxE n b b' := by
  obtain ⟨a1, a2, a3, a4⟩ := h
  obtain ⟨b1, b2, b3, b4⟩ := h'
  have e1 := (a4 b' b1 b2).1
  have e2 := (b4 b a1 a2).1
  have e : bp = bp' := by omega
  refine ⟨e, ?_⟩
  rcases (a4 b' b1 b2).2 (by omega) with h | h
  · exact h
  · rcases (b4 b a1 a2).2 (by omega) with g | g
    · exact fun q hq => (g q hq).symm
    · exact (lxL_as h g).elim
theorem chm_k {bp : Nat} {b : Nat → Nat} (h : chm V cost n Q (some (bp, b))) (hR : ∀ c, V c → R c → bp ≤ cost c ∧ (cost c = bp → lxE n b c ∨ lxL n b c)) : chm V cost n (fun c => Q c ∨ R c) (some (bp, b)) :=
  ⟨h.1, Or.inl h.2.1, h.2.2.1, fun c hV hc => hc.elim (h.2.2.2 c hV) (hR c hV)⟩
theorem chm_n {o : Option (Nat × (Nat → Nat))} {c0 : Nat → Nat} (h : chm V cost n Q o) (hV0 : V c0) (hR0 : R c0) (ho : ∀ bp b, o = some (bp, b) → cost c0 < bp) (hR : ∀ c, V c → R c → cost c0 ≤ cost c ∧ (cost c = cost c0 → lxE n c0 c ∨ lxL n c0 c)) : chm V cost n (fun c => Q c ∨ R c) (some (cost c0, c0)) := by
  refine ⟨hV0, Or.inr hR0, rfl, fun c hV hc => hc.elim (fun hQ => ?_) (hR c hV)⟩
  cases o with
  | none => exact absurd hQ (h c hV)
  | some q =>
    obtain ⟨bp, b⟩ := q
    have h1 := ho bp b rfl
    have h2 := (h.2.2.2 c hV hQ).1
    exact ⟨by omega, fun e => by omega⟩
end
/-! ===== orders of a row, and how long they take ===== -/
/-- an order of n: each once -/
def oV (n : Nat) (c : Nat → Nat) : Prop := (∀ p, p < n → c p < n) ∧ ∀ p q, p < n → q < n → c p = c q → p = q
/-- how often x stands among the first k -/
def oCn (c : Nat → Nat) (x : Nat) : Nat → Nat
  | 0 => 0
  | k + 1 => oCn c x k + (if c k = x then 1 else 0)
theorem oCn_0 {c : Nat → Nat} {x : Nat} : ∀ k, (∀ p, p < k → ¬ c p = x) → oCn c x k = 0
  | 0, _ => rfl
  | k + 1, h => by rw [oCn, oCn_0 k (fun p hp => h p (by omega)), if_neg (h k (by omega))]
theorem oCn_1 {c : Nat → Nat} {x : Nat} : ∀ k, (∀ p q, p < k → q < k → c p = c q → p = q) → oCn c x k ≤ 1
  | 0, _ => Nat.zero_le _
  | k + 1, h => by
    rw [oCn]
    by_cases e : c k = x
    · rw [oCn_0 k (fun p hp q => by have := h p k (by omega) (by omega) (by omega); omega), if_pos e]; omega
    · rw [if_neg e]
      exact oCn_1 k (fun p q hp hq => h p q (by omega) (by omega))
theorem oCn_s {c : Nat → Nat} {n : Nat} : ∀ k, (∀ p, p < k → c p < n) → nSum (fun x => oCn c x k) n = k
  | 0, _ => nSum_0 n
  | k + 1, h => by
    show nSum (fun x => oCn c x k + (if c k = x then 1 else 0)) n = k + 1
    rw [nSum_a, oCn_s k (fun p hp => h p (by omega)), nSum_1, if_pos (h k (by omega))]
theorem nSum_lt {f : Nat → Nat} {x : Nat} : ∀ n, (∀ j, j < n → f j ≤ 1) → x < n → f x = 0 → nSum f n < n
  | 0, _, h, _ => absurd h (Nat.not_lt_zero x)
  | n + 1, h1, hx, h0 => by
    have hb : ∀ m, m ≤ n + 1 → nSum f m ≤ m := by
      intro m
      induction m with
      | zero => exact fun _ => Nat.le_refl _
      | succ m ih =>
        intro hm
        have := ih (by omega)
        have := h1 m (by omega)
        show nSum f m + f m ≤ m + 1
        omega
    show nSum f n + f n < n + 1
    by_cases e : x = n
    · have := hb n (by omega)
      rw [← e] at this ⊢
      omega
    · have := nSum_lt n (fun j hj => h1 j (by omega)) (by omega) h0
      have := h1 n (by omega)
      omega
theorem oV_on {n : Nat} {c : Nat → Nat} (h : oV n c) {x : Nat} (hx : x < n) : ∃ p, p < n ∧ c p = x := by
  by_cases e : ∃ p, p < n ∧ c p = x
  · exact e
  · have h0 := oCn_0 (c := c) (x := x) n (fun p hp q => e ⟨p, hp, q⟩)
    have h1 := nSum_lt (f := fun y => oCn c y n) n (fun y _ => oCn_1 n h.2) hx h0
    rw [oCn_s n h.1] at h1
    omega
theorem pPd_ge {D : zYd} {f : Nat → Nat} {n p : Nat} : ∀ k, p < k → nTime D.1 D.2.2.2.1 (f p) p n ≤ pPd D f n k
  | 0, h => absurd h (Nat.not_lt_zero p)
  | k + 1, h => by
    rw [pPd]
    by_cases e : p = k
    · subst e; exact Nat.le_max_right _ _
    · exact Nat.le_trans (pPd_ge k (by omega)) (Nat.le_max_left _ _)
theorem pPd_lub {D : zYd} {f : Nat → Nat} {n X : Nat} : ∀ k, (∀ p, p < k → nTime D.1 D.2.2.2.1 (f p) p n ≤ X) → pPd D f n k ≤ X
  | 0, _ => Nat.zero_le _
  | k + 1, h => Nat.max_le.mpr ⟨pPd_lub k (fun p hp => h p (by omega)), h k (by omega)⟩
theorem pPd_m {D : zYd} {f : Nat → Nat} {n j k : Nat} (h : j ≤ k) : pPd D f n j ≤ pPd D f n k := pPd_lub j (fun p hp => pPd_ge k (by omega))
/-- how long an order takes -/
abbrev oC (D : zYd) (a : Nat → Nat) (n : Nat) (c : Nat → Nat) : Nat := pPd D (fun p => a (c p)) n n
theorem oC_e {D : zYd} {a c c' : Nat → Nat} {n : Nat} (h : lxE n c c') : oC D a n c = oC D a n c' := pPd_c n (fun i hi => by rw [h i hi])
theorem nTime_mid {Y hdd : Nat → Nat} {m p q n : Nat} (h1 : ¬ p = n - 1) (h2 : ¬ p = 0) (h3 : ¬ q = n - 1) (h4 : ¬ q = 0) : nTime Y hdd m p n = nTime Y hdd m q n := by
  unfold nTime
  rw [if_neg h1, if_neg h2, if_neg h3, if_neg h4]
theorem oC_le {D : zYd} {a c c' : Nat → Nat} {n : Nat} (hn : 2 ≤ n) (h : oV n c) (h' : oV n c') (e0 : c 0 = c' 0) (e1 : c (n - 1) = c' (n - 1)) : oC D a n c ≤ oC D a n c' := by
  refine pPd_lub n (fun p hp => ?_)
  by_cases hp0 : p = 0
  · subst hp0
    show nTime _ _ (a (c 0)) 0 n ≤ _
    rw [e0]
    exact pPd_ge (f := fun p => a (c' p)) n hp
  · by_cases hp1 : p = n - 1
    · rw [hp1]
      show nTime _ _ (a (c (n - 1))) (n - 1) n ≤ _
      rw [e1]
      exact pPd_ge (f := fun p => a (c' p)) n (by omega)
    · obtain ⟨q, hq, e⟩ := oV_on h' (h.1 p hp)
      have hq0 : ¬ q = 0 := fun z => hp0 (h.2 p 0 hp (by omega) (by rw [← e, z, e0]))
      have hq1 : ¬ q = n - 1 := fun z => hp1 (h.2 p (n - 1) hp (by omega) (by rw [← e, z, e1]))
      rw [nTime_mid hp1 hp0 hq1 hq0]
      show nTime _ _ (a (c p)) q n ≤ _
      rw [← e]
      exact pPd_ge (f := fun p => a (c' p)) n hq
/-- the d-th draws, the t-th throws, the others as they stand -/
abbrev aI (n d t : Nat) : Nat → Nat := arrF (fun i => i) n d t
theorem aI_f (f : Nat → Nat) (n d t x : Nat) : arrF f n d t x = f (aI n d t x) := by
  unfold aI arrF
  by_cases h : x = 0
  · rw [if_pos h, if_pos h]
  · by_cases h2 : x = n - 1
    · rw [if_neg h, if_neg h, if_pos h2, if_pos h2]
    · rw [if_neg h, if_neg h, if_neg h2, if_neg h2]
theorem aI_0 {n d t : Nat} : aI n d t 0 = d := if_pos rfl
theorem aI_1 {n d t : Nat} (hn : 2 ≤ n) : aI n d t (n - 1) = t := by
  unfold aI arrF
  rw [if_neg (by omega), if_pos rfl]
theorem aI_m {n d t p : Nat} (h : ¬ p = 0) (h2 : ¬ p = n - 1) : aI n d t p = oIx d t p := by
  unfold aI arrF
  rw [if_neg h, if_neg h2]
theorem oIx_p {d t p : Nat} (hp : 1 ≤ p) (hdt : ¬ d = t) : (¬ oIx d t p = d) ∧ (¬ oIx d t p = t) ∧ oIx d t p ≤ p + 1 := by
  unfold oIx
  refine ⟨?_, ?_, ?_⟩
  · split
    · omega
    · split <;> omega
  · split
    · omega
    · split <;> omega
  · split
    · omega
    · split <;> omega
theorem oIx_l {d t p q : Nat} (hp : 1 ≤ p) (hpq : p < q) (hdt : ¬ d = t) : oIx d t p < oIx d t q := by
  unfold oIx
  by_cases a1 : p - 1 < min d t
  · rw [if_pos a1]
    by_cases b1 : q - 1 < min d t
    · rw [if_pos b1]; omega
    · rw [if_neg b1]
      by_cases b2 : q < max d t
      · rw [if_pos b2]; omega
      · rw [if_neg b2]; omega
  · rw [if_neg a1, if_neg (show ¬ q - 1 < min d t by omega)]
    by_cases a2 : p < max d t
    · rw [if_pos a2]
      by_cases b2 : q < max d t
      · rw [if_pos b2]; omega
      · rw [if_neg b2]; omega
    · rw [if_neg a2, if_neg (show ¬ q < max d t by omega)]; omega
theorem oIx_o {d t p u : Nat} (hp : 1 ≤ p) (hu : u < oIx d t p) (h1 : ¬ u = d) (h2 : ¬ u = t) (hdt : ¬ d = t) : ∃ q, 1 ≤ q ∧ q < p ∧ oIx d t q = u := by
  by_cases c1 : u < min d t
  · refine ⟨u + 1, by omega, ?_, ?_⟩
    · unfold oIx at hu
      split at hu
      · omega
      · omega
    · unfold oIx
      rw [if_pos (by omega)]
      omega
  · by_cases c2 : u < max d t
    · refine ⟨u, by omega, ?_, ?_⟩
      · unfold oIx at hu
        split at hu
        · omega
        · split at hu <;> omega
      · unfold oIx
        rw [if_neg (by omega), if_pos c2]
    · refine ⟨u - 1, by omega, ?_, ?_⟩
      · unfold oIx at hu
        split at hu
        · omega
        · split at hu <;> omega
      · unfold oIx
        rw [if_neg (by omega), if_neg (by omega)]
        omega
theorem aI_V {n d t : Nat} (hn : 2 ≤ n) (hd : d < n) (ht : t < n) (hdt : ¬ d = t) : oV n (aI n d t) := by
  have hv : ∀ p, p < n → ¬ p = 0 → ¬ p = n - 1 → aI n d t p = oIx d t p ∧ ¬ oIx d t p = d ∧ ¬ oIx d t p = t ∧ oIx d t p < n := fun p hp h0 h1 => by
    obtain ⟨a1, a2, a3⟩ := oIx_p (d := d) (t := t) (p := p) (by omega) hdt
    exact ⟨aI_m h0 h1, a1, a2, by omega⟩
  refine ⟨fun p hp => ?_, fun p q hp hq e => ?_⟩
  · by_cases h0 : p = 0
    · rw [h0, aI_0]; exact hd
    · by_cases h1 : p = n - 1
      · rw [h1, aI_1 hn]; exact ht
      · rw [(hv p hp h0 h1).1]; exact (hv p hp h0 h1).2.2.2
  · by_cases p0 : p = 0
    · rw [p0, aI_0] at e
      by_cases q0 : q = 0
      · omega
      · by_cases q1 : q = n - 1
        · rw [q1, aI_1 hn] at e; exact absurd e hdt
        · obtain ⟨a1, a2, a3, a4⟩ := hv q hq q0 q1
          rw [a1] at e; exact absurd e.symm a2
    · by_cases p1 : p = n - 1
      · rw [p1, aI_1 hn] at e
        by_cases q0 : q = 0
        · rw [q0, aI_0] at e; exact absurd e.symm hdt
        · by_cases q1 : q = n - 1
          · omega
          · obtain ⟨a1, a2, a3, a4⟩ := hv q hq q0 q1
            rw [a1] at e; exact absurd e.symm a3
      · obtain ⟨a1, a2, a3, a4⟩ := hv p hp p0 p1
        rw [a1] at e
        by_cases q0 : q = 0
        · rw [q0, aI_0] at e; exact absurd e a2
        · by_cases q1 : q = n - 1
          · rw [q1, aI_1 hn] at e; exact absurd e a3
          · rw [(hv q hq q0 q1).1] at e
            rcases Nat.lt_trichotomy p q with z | z | z
            · have := oIx_l (d := d) (t := t) (by omega) z hdt; omega
            · exact z
            · have := oIx_l (d := d) (t := t) (by omega) z hdt; omega
/-- it comes first of those that begin so and end no later -/
theorem aI_lx {n d t : Nat} {c : Nat → Nat} (hn : 2 ≤ n) (hd : d < n) (ht : t < n) (hdt : ¬ d = t) (hc : oV n c) (c0 : c 0 = d) (c1 : c (n - 1) ≤ t) : lxE n (aI n d t) c ∨ lxL n (aI n d t) c := by
  rcases lx_tri n (aI n d t) c with h | h | ⟨p, hp, he, hl⟩
  · exact Or.inl h
  · exact Or.inr h
  · exfalso
    have hA := aI_V hn hd ht hdt
    have hp0 : ¬ p = 0 := fun z => by rw [z, c0, aI_0] at hl; omega
    have hnotin : ∀ q, q < p → ¬ c q = c p := fun q hq z => by have := hc.2 q p (by omega) hp z; omega
    by_cases hp1 : p = n - 1
    · rw [hp1, aI_1 hn] at hl
      obtain ⟨q, hq, e⟩ := oV_on hc ht
      have hqn : ¬ q = n - 1 := fun z => by rw [z] at e; omega
      have hq2 := he q (by omega)
      have := hA.2 q (n - 1) hq (by omega) (by rw [← hq2, e, aI_1 hn])
      omega
    · rw [aI_m hp0 hp1] at hl
      have hvd : ¬ c p = d := fun z => by have := hc.2 p 0 hp (by omega) (by rw [z, c0]); omega
      have key : ∀ u, u < oIx d t p → ¬ u = d → ¬ u = t → ∃ q, q < p ∧ c q = u := fun u h1 h2 h3 => by
        obtain ⟨q, q1, q2, q3⟩ := oIx_o (by omega) h1 h2 h3 hdt
        exact ⟨q, q2, by rw [he q q2, aI_m (by omega) (by omega), q3]⟩
      by_cases hvt : c p = t
      · have ht' : ¬ c (n - 1) = t := fun z => by have := hc.2 (n - 1) p (by omega) hp (by rw [z, hvt]); omega
        have ht2 : ¬ c (n - 1) = d := fun z => by have := hc.2 (n - 1) 0 (by omega) (by omega) (by rw [z, c0]); omega
        obtain ⟨q, q1, q2⟩ := key (c (n - 1)) (by omega) ht2 ht'
        have := hc.2 q (n - 1) (by omega) (by omega) q2
        omega
      · obtain ⟨q, q1, q2⟩ := key (c p) hl hvd hvt
        exact hnotin q q1 q2
/-! ===== the class's best order is the champion ===== -/
/-- what the class has of it -/
def bSt (g : Nat → Nat) (n : Nat) (st : Nat × (Nat → Nat)) : Option (Nat × (Nat → Nat)) → Prop
  | none => st.1 = 2147483647
  | some (bp, b) => st.1 = bp ∧ (∃ d t, d < n ∧ t < n ∧ (¬ d = t) ∧ b = aI n d t) ∧ ∀ p, p < n → st.2 p = g (b p)
def bQ (n d j : Nat) (c : Nat → Nat) : Prop := c 0 < d ∨ (c 0 = d ∧ j ≤ c (n - 1))
theorem bT_c {D : zYd} {g : Nat → Nat} {n d : Nat} (hD : yI D) (hn : 2 ≤ n) (hd : d < n) : ∀ (j : Nat) (st : Nat × (Nat → Nat)) (o : Option (Nat × (Nat → Nat))), j ≤ n → bSt g n st o → chm (oV n) (oC D g n) n (bQ n d j) o → ∃ o', bSt g n (bT D g n d j st) o' ∧ chm (oV n) (oC D g n) n (bQ n (d + 1) n) o'
  | 0, st, o, _, hs, hc => ⟨o, hs, chm_q (fun c hV => ⟨fun h => Or.inl (by rcases h with h | h <;> omega), fun h => by
      rcases h with h | h
      · by_cases e : c 0 < d
        · exact Or.inl e
        · exact Or.inr ⟨by omega, Nat.zero_le _⟩
      · have := hV.1 (n - 1) (by omega); omega⟩) hc⟩
  | j + 1, st, o, hj, hs, hc => by
    rw [bT]
    by_cases e : j = d
    · rw [if_pos e]
      refine bT_c hD hn hd j st o (by omega) hs (chm_q (fun c hV => ⟨fun h => ?_, fun h => ?_⟩) hc)
      · rcases h with h | h
        · exact Or.inl h
        · exact Or.inr ⟨h.1, by omega⟩
      · rcases h with h | h
        · exact Or.inl h
        · refine Or.inr ⟨h.1, ?_⟩
          by_cases z : c (n - 1) = j
          · have := hV.2 (n - 1) 0 (by omega) (by omega) (by rw [z, e, h.1])
            omega
          · omega
    · rw [if_neg e]
      have hA := aI_V hn hd (show j < n by omega) (fun z => e z.symm)
      have hcost : pPd D (arrF g n d j) n n = oC D g n (aI n d j) := pPd_c n (fun i hi => aI_f g n d j i)
      have hsame : ∀ c, oV n c → (c 0 = d ∧ c (n - 1) = j) → oC D g n c = oC D g n (aI n d j) := fun c hV h => Nat.le_antisymm (oC_le hn hV hA (by rw [h.1, aI_0]) (by rw [h.2, aI_1 hn])) (oC_le hn hA hV (by rw [h.1, aI_0]) (by rw [h.2, aI_1 hn]))
      have hQ : ∀ c, oV n c → ((bQ n d (j + 1) c ∨ (c 0 = d ∧ c (n - 1) = j)) ↔ bQ n d j c) := fun c hV => ⟨fun h => by
        rcases h with (h | h) | h
        · exact Or.inl h
        · exact Or.inr ⟨h.1, by omega⟩
        · exact Or.inr ⟨h.1, by omega⟩, fun h => by
        rcases h with h | h
        · exact Or.inl (Or.inl h)
        · by_cases z : c (n - 1) = j
          · exact Or.inr ⟨h.1, z⟩
          · exact Or.inl (Or.inr ⟨h.1, by omega⟩)⟩
      rw [hcost]
      by_cases l : oC D g n (aI n d j) < st.1
      · rw [if_pos l]
        refine bT_c hD hn hd j _ (some (oC D g n (aI n d j), aI n d j)) (by omega) ⟨rfl, ⟨d, j, hd, by omega, fun z => e z.symm, rfl⟩, fun p hp => (nCl_s hp).trans (aI_f g n d j p)⟩ (chm_q hQ (chm_n hc hA ⟨aI_0, aI_1 hn⟩ (fun bp b ho => ?_) (fun c hV h => ⟨by rw [hsame c hV h]; exact Nat.le_refl _, fun _ => aI_lx hn hd (by omega) (fun z => e z.symm) hV h.1 (by omega)⟩)))
        subst ho
        rw [← hs.1]
        exact l
      · rw [if_neg l]
        refine bT_c hD hn hd j st o (by omega) hs (chm_q hQ ?_)
        cases o with
        | none =>
          have h1 : st.1 = 2147483647 := hs
          have := pPd_le (D := D) (f := fun p => g (aI n d j p)) hD hn n
          exact absurd (show oC D g n (aI n d j) < st.1 by rw [h1]; exact Nat.lt_of_le_of_lt this (by decide)) l
        | some q =>
          obtain ⟨bp, b⟩ := q
          obtain ⟨s1, ⟨d', t', hd', ht', hdt', rfl⟩, s3⟩ := hs
          refine chm_k hc (fun c hV h => ⟨by rw [hsame c hV h]; omega, fun _ => ?_⟩)
          rcases hc.2.1 with z | z
          · have z : aI n d' t' 0 < d := z
            exact Or.inr ⟨0, by omega, fun q hq => absurd hq (Nat.not_lt_zero q), by rw [h.1]; exact z⟩
          · rw [aI_0, aI_1 hn] at z
            exact aI_lx hn hd' ht' hdt' hV (by rw [h.1, z.1]) (by omega)
theorem bO_c {D : zYd} {g : Nat → Nat} {n : Nat} (hD : yI D) (hn : 2 ≤ n) : ∀ (m d : Nat) (st : Nat × (Nat → Nat)) (o : Option (Nat × (Nat → Nat))), d + m = n → bSt g n st o → chm (oV n) (oC D g n) n (fun c => c 0 < d) o → ∃ o', bSt g n (bO D g n m d st) o' ∧ chm (oV n) (oC D g n) n (fun _ => True) o'
  | 0, d, st, o, hm, hs, hc => ⟨o, hs, chm_q (fun c hV => ⟨fun _ => trivial, fun _ => by have := hV.1 0 (by omega); omega⟩) hc⟩
  | m + 1, d, st, o, hm, hs, hc => by
    obtain ⟨o', h1, h2⟩ := bT_c hD hn (show d < n by omega) n st o (Nat.le_refl n) hs (chm_q (fun c hV => ⟨fun h => Or.inl h, fun h => by
      rcases h with h | h
      · exact h
      · have := hV.1 (n - 1) (by omega); omega⟩) hc)
    exact bO_c hD hn m (d + 1) _ o' (by omega) h1 (chm_q (fun c hV => ⟨fun h => by
      rcases h with h | h
      · exact h
      · have := hV.1 (n - 1) (by omega); omega, fun h => Or.inl h⟩) h2)
/-- so the class's answer is the champion's -/
theorem bO_all {D : zYd} {g : Nat → Nat} {n bp : Nat} {b : Nat → Nat} (hD : yI D) (hn : 2 ≤ n) (h : chm (oV n) (oC D g n) n (fun _ => True) (some (bp, b))) : (bO D g n n 0 (2147483647, fun _ => 0)).1 = bp ∧ ∀ p, p < n → (bO D g n n 0 (2147483647, fun _ => 0)).2 p = g (b p) := by
  obtain ⟨o', h1, h2⟩ := bO_c (g := g) hD hn n 0 (2147483647, fun _ => 0) none (by omega) rfl (fun c _ h => absurd h (Nat.not_lt_zero _))
  cases o' with
  | none => exact absurd trivial (h2 b h.1)
  | some q =>
    obtain ⟨bp', b'⟩ := q
    obtain ⟨e1, e2⟩ := chm_u h2 h
    exact ⟨h1.1.trans e1, fun p hp => (h1.2.2 p hp).trans (congrArg g (e2 p hp))⟩
