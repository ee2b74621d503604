/-! ===== choices of houses, one after the other ===== -/
/-- a rising choice of k among n -/
def hV (n k : Nat) (c : Nat → Nat) : Prop := (∀ p, p < k → c p < n) ∧ ∀ p, p + 1 < k → c p < c (p + 1)
theorem hV_d {n k : Nat} {c : Nat → Nat} (h : hV n k c) : ∀ (r p : Nat), p + r < k → c p + r ≤ c (p + r)
  | 0, p, _ => Nat.le_refl _
  | r + 1, p, hr => by
    have h1 := hV_d h r p (by omega)
    have h2 := h.2 (p + r) (by omega)
    rw [show p + (r + 1) = p + r + 1 by omega]
    omega
theorem hV_m {n k p : Nat} {c : Nat → Nat} (h : hV n k c) (hp : p < k) : c p + k ≤ n + p := by
  have h1 := hV_d h (k - 1 - p) p (by omega)
  have h2 := h.1 (p + (k - 1 - p)) (by omega)
  omega
theorem lxL_t {n : Nat} {c d f : Nat → Nat} (h : lxL n c d) (h' : lxL n d f) : lxL n c f := by
  obtain ⟨p, h1, h2, h3⟩ := h
  obtain ⟨q, g1, g2, g3⟩ := h'
  rcases Nat.lt_trichotomy p q with e | e | e
  · exact ⟨p, h1, fun r hr => (h2 r hr).trans (g2 r (by omega)), by rw [← g2 p e]; exact h3⟩
  · subst e
    exact ⟨p, h1, fun r hr => (h2 r hr).trans (g2 r hr), by omega⟩
  · exact ⟨q, g1, fun r hr => (h2 r (by omega)).trans (g2 r hr), by rw [h2 q e]; exact g3⟩
theorem nLs_s {at_ : Nat → Nat} {n k : Nat} : ∀ (m j : Nat), nLs at_ n k m = some j → j < m ∧ at_ j < n - k + j ∧ ∀ q, j < q → q < m → n - k + q ≤ at_ q
  | 0, j, h => by cases h
  | m + 1, j, h => by
    rw [nLs] at h
    by_cases e : n - k + m ≤ at_ m
    · rw [if_pos e] at h
      obtain ⟨a1, a2, a3⟩ := nLs_s m j h
      exact ⟨by omega, a2, fun q h1 h2 => (Nat.lt_or_eq_of_le (Nat.le_of_lt_succ h2)).elim (a3 q h1) (fun z => z ▸ e)⟩
    · rw [if_neg e] at h
      cases h
      exact ⟨Nat.lt_succ_self _, by omega, fun q h1 h2 => by omega⟩
theorem nLs_n {at_ : Nat → Nat} {n k : Nat} : ∀ (m : Nat), nLs at_ n k m = none → ∀ q, q < m → n - k + q ≤ at_ q
  | 0, _, q, hq => absurd hq (Nat.not_lt_zero q)
  | m + 1, h, q, hq => by
    rw [nLs] at h
    by_cases e : n - k + m ≤ at_ m
    · rw [if_pos e] at h
      exact (Nat.lt_or_eq_of_le (Nat.le_of_lt_succ hq)).elim (nLs_n m h q) (fun z => z ▸ e)
    · rw [if_neg e] at h; cases h
theorem lx_le {n : Nat} {c d : Nat → Nat} : ∀ (m : Nat), m ≤ n → (∀ q, q < m → c q ≤ d q) → (∀ q, q < m → c q = d q) ∨ ∃ p, p < m ∧ (∀ q, q < p → c q = d q) ∧ c p < d p
  | 0, _, _ => Or.inl (fun q h => absurd h (Nat.not_lt_zero q))
  | m + 1, hm, h => by
    rcases lx_le (n := n) m (by omega) (fun q hq => h q (by omega)) with h1 | ⟨p, h1, h2, h3⟩
    · by_cases e : c m = d m
      · exact Or.inl (fun q hq => (Nat.lt_or_eq_of_le (Nat.le_of_lt_succ hq)).elim (h1 q) (fun z => z ▸ e))
      · exact Or.inr ⟨m, Nat.lt_succ_self m, h1, by have := h m (Nat.lt_succ_self m); omega⟩
    · exact Or.inr ⟨p, by omega, h2, h3⟩
theorem nAt2_l {at_ : Nat → Nat} {k j i : Nat} (h : i < j) : nAt2 at_ k j i = at_ i := if_pos h
theorem nAt2_g {at_ : Nat → Nat} {k j i : Nat} (h : ¬ i < j) (hk : i < k) : nAt2 at_ k j i = at_ j + 1 + (i - j) := by
  unfold nAt2
  rw [if_neg h, if_pos hk]
/-- behind a choice comes the next -/
theorem nNx_t {at_ : Nat → Nat} {n k j : Nat} (hV0 : hV n k at_) (hj : nLs at_ n k k = some j) : hV n k (nAt2 at_ k j) ∧ ∀ c, hV n k c → (lxL k c (nAt2 at_ k j) ↔ (lxL k c at_ ∨ lxE k c at_)) := by
  obtain ⟨a1, a2, a3⟩ := nLs_s k j hj
  have hlt : lxL k at_ (nAt2 at_ k j) := ⟨j, a1, fun q hq => (nAt2_l hq).symm, by rw [nAt2_g (Nat.lt_irrefl j) a1]; omega⟩
  refine ⟨⟨fun p hp => ?_, fun p hp => ?_⟩, fun c hV => ⟨fun ⟨p, h1, h2, h3⟩ => ?_, fun h => ?_⟩⟩
  · by_cases h : p < j
    · rw [nAt2_l h]; exact hV0.1 p hp
    · have hj0 := hV_d hV0 j 0 (by omega)
      rw [Nat.zero_add] at hj0
      rw [nAt2_g h hp]; omega
  · by_cases h : p + 1 < j
    · rw [nAt2_l (by omega), nAt2_l h]; exact hV0.2 p hp
    · by_cases h2 : p < j
      · rw [nAt2_l h2, nAt2_g h hp]
        have := hV0.2 p hp
        have e : p + 1 = j := by omega
        rw [e] at this
        omega
      · rw [nAt2_g h2 (by omega), nAt2_g h hp]; omega
  · by_cases c1 : p < j
    · exact Or.inl ⟨p, h1, fun q hq => (h2 q hq).trans (nAt2_l (by omega)), by rw [nAt2_l c1] at h3; exact h3⟩
    · by_cases c2 : p = j
      · subst c2
        rw [nAt2_g (Nat.lt_irrefl p) h1] at h3
        have hle : ∀ q, q < k → c q ≤ at_ q := fun q hq => by
          rcases Nat.lt_trichotomy q p with e | e | e
          · rw [h2 q e, nAt2_l e]; exact Nat.le_refl _
          · subst e; omega
          · have := hV_m hV hq
            have := a3 q e hq
            omega
        rcases lx_le (n := k) k (Nat.le_refl k) hle with z | z
        · exact Or.inr z
        · exact Or.inl z
      · have e := h2 j (by omega)
        rw [nAt2_g (Nat.lt_irrefl j) a1] at e
        rw [nAt2_g c1 h1] at h3
        have := hV_d hV (p - j) j (by omega)
        rw [show j + (p - j) = p by omega] at this
        omega
  · rcases h with h | h
    · exact lxL_t h hlt
    · exact lxL_e h hlt
theorem nNx_f {at_ : Nat → Nat} {n k : Nat} (hj : nLs at_ n k k = none) : ∀ c, hV n k c → (lxL k c at_ ∨ lxE k c at_) := fun c hV => by
  have h := nLs_n k hj
  rcases lx_le (n := k) (c := c) (d := at_) k (Nat.le_refl k) (fun q hq => by
    have := hV_m hV hq
    have := h q hq
    omega) with z | z
  · exact Or.inr z
  · exact Or.inl z
theorem nLs_c {a b : Nat → Nat} {n k : Nat} : ∀ m, (∀ q, q < m → a q = b q) → nLs a n k m = nLs b n k m
  | 0, _ => rfl
  | m + 1, h => by rw [nLs, nLs, h m (Nat.lt_succ_self m), nLs_c m (fun q hq => h q (by omega))]
theorem pNe_c {H a b : Nat → Nat} {h : Nat} : ∀ k, (∀ q, q < k → a q = b q) → pNe H a h k = pNe H b h k
  | 0, _ => rfl
  | k + 1, e => by rw [pNe, pNe, e k (Nat.lt_succ_self k), pNe_c k (fun q hq => e q (by omega))]
theorem pGw_c {H a b : Nat → Nat} {k : Nat} (e : ∀ q, q < k → a q = b q) : ∀ n, pGw H a k n = pGw H b k n
  | 0 => rfl
  | n + 1 => by rw [pGw, pGw, pGw_c e n, pNe_c k e]
/-! ===== how many there are at most ===== -/
def lGt (l : List Nat) : Nat → Nat := fun i => l.getD i 0
def lNx (n k : Nat) (l : List Nat) : Option (List Nat) := match nLs (lGt l) n k k with
  | none => none
  | some j => some ((List.range k).map (nAt2 (lGt l) k j))
def lGo (n k : Nat) : Nat → List Nat → Bool
  | 0, _ => false
  | q + 1, l => match lNx n k l with
    | none => true
    | some l' => lGo n k q l'
theorem lGo_all : ∀ n, n < 13 → ∀ k, k < 7 → (k = 0 ∨ n < k ∨ lGo n k 1000 (List.range k) = true) := by decide +kernel
theorem lGt_m {f : Nat → Nat} {k i : Nat} (h : i < k) : lGt ((List.range k).map f) i = f i := by
  unfold lGt
  rw [List.getD_eq_getElem?_getD, List.getElem?_map, List.getElem?_range h]
  rfl
theorem lGt_r {k i : Nat} (h : i < k) : lGt (List.range k) i = i := by
  unfold lGt
  rw [List.getD_eq_getElem?_getD, List.getElem?_range h]
  rfl
/-- what the class has of it -/
def hSt (H : Nat → Nat) (k : Nat) (fi : Nat → Nat) (le : Nat) : Option (Nat × (Nat → Nat)) → Prop
  | none => le = 2147483647
  | some (bp, b) => le = bp ∧ ∀ p, p < k → fi p = H (b p)
theorem hLp_c {H : Nat → Nat} {n k : Nat} (hB : ∀ c, hV n k c → pGw H c k n < 2147483647) : ∀ (q : Nat) (at_ fi : Nat → Nat) (le : Nat) (l : List Nat) (o : Option (Nat × (Nat → Nat))), lGo n k q l = true → (∀ i, i < k → at_ i = lGt l i) → hV n k at_ → hSt H k fi le o → chm (hV n k) (fun c => pGw H c k n) k (fun c => lxL k c at_) o → ∃ o', hSt H k (hLp H n k q at_ fi le true).1 (hLp H n k q at_ fi le true).2 o' ∧ chm (hV n k) (fun c => pGw H c k n) k (fun _ => True) o'
  | 0, _, _, _, _, _, h, _, _, _, _ => absurd (show false = true from h) (by decide)
  | q + 1, at_, fi, le, l, o, hg, hl, hv, hs, hc => by
    have hR : ∀ c, hV n k c → lxE k c at_ → pGw H at_ k n ≤ pGw H c k n ∧ (pGw H c k n = pGw H at_ k n → lxE k at_ c ∨ lxL k at_ c) := fun c hV hE => ⟨Nat.le_of_eq (pGw_c (fun q hq => (hE q hq).symm) n), fun _ => Or.inl (fun q hq => (hE q hq).symm)⟩
    have hcase : ∃ o2, hSt H k (if pGw H at_ k n < le then nCl (fun i => H (at_ i)) fi k else fi) (if pGw H at_ k n < le then pGw H at_ k n else le) o2 ∧ chm (hV n k) (fun c => pGw H c k n) k (fun c => lxL k c at_ ∨ lxE k c at_) o2 := by
      by_cases e : pGw H at_ k n < le
      · rw [if_pos e, if_pos e]
        refine ⟨some (pGw H at_ k n, at_), ⟨rfl, fun p hp => nCl_s hp⟩, chm_n hc hv (fun q hq => rfl) (fun bp b ho => ?_) hR⟩
        subst ho
        rw [← hs.1]
        exact e
      · rw [if_neg e, if_neg e]
        cases o with
        | none =>
          have h1 : le = 2147483647 := hs
          have := hB at_ hv
          omega
        | some q =>
          obtain ⟨bp, b⟩ := q
          refine ⟨some (bp, b), hs, chm_k hc (fun c hV hE => ?_)⟩
          have h1 := (hR c hV hE).1
          have h2 := hs.1
          refine ⟨by omega, fun _ => Or.inr ?_⟩
          obtain ⟨p, p1, p2, p3⟩ := hc.2.1
          exact ⟨p, p1, fun q hq => (p2 q hq).trans (hE q (by omega)).symm, by rw [hE p p1]; exact p3⟩
    obtain ⟨o2, hs2, hc2⟩ := hcase
    rw [hLp, if_neg (by decide)]
    rw [lGo] at hg
    have hls := nLs_c (n := n) (k := k) k hl
    unfold lNx at hg
    unfold nNx
    rw [hls]
    cases hj : nLs (lGt l) n k k with
    | none =>
      have hz : ∀ (m : Nat) (a f : Nat → Nat) (v : Nat), hLp H n k m a f v false = (f, v) := fun m a f v => by
        cases m with
        | zero => rfl
        | succ m => rw [hLp, if_pos rfl]
      show ∃ o', hSt H k (hLp H n k q at_ _ _ false).1 (hLp H n k q at_ _ _ false).2 o' ∧ _
      rw [hz]
      exact ⟨o2, hs2, chm_q (fun c hV => ⟨fun _ => trivial, fun _ => nNx_f (hls.trans hj) c hV⟩) hc2⟩
    | some j =>
      rw [hj] at hg
      have hnx := nNx_t hv (hls.trans hj)
      exact hLp_c hB q (nAt2 at_ k j) _ _ _ o2 hg (fun i hi => by
        rw [lGt_m hi]
        unfold nAt2
        have hjk := (nLs_s k j hj).1
        rw [hl j hjk]
        split
        · exact hl i hi
        · rfl) hnx.1 hs2 (chm_q (fun c hV => (hnx.2 c hV).symm) hc2)
theorem pNe_b {H c : Nat → Nat} {h k : Nat} (hH : H h ≤ 99 ∧ H (c 0) ≤ 99) : ∀ m, pNe H c h (m + 1) ≤ 99
  | 0 => Nat.le_trans (Nat.min_le_right _ _) (by show nDs (H h) (H (c 0)) ≤ 99; unfold nDs; omega)
  | m + 1 => Nat.le_trans (Nat.min_le_left _ _) (pNe_b (k := k) hH m)
theorem pGw_b {H c : Nat → Nat} {k : Nat} (hk : 1 ≤ k) : ∀ n, (∀ h, h < n → H h ≤ 99) → H (c 0) ≤ 99 → pGw H c k n ≤ 99
  | 0, _, _ => Nat.zero_le _
  | n + 1, h1, h2 => Nat.max_le.mpr ⟨pGw_b hk n (fun h hh => h1 h (by omega)) h2, by
    have := pNe_b (k := k) (H := H) (c := c) (h := n) ⟨h1 n (Nat.lt_succ_self n), h2⟩ (k - 1)
    rwa [show k - 1 + 1 = k by omega] at this⟩
/-- so the class's hooks are the champion's -/
theorem hLp_all {H : Nat → Nat} {n k bp : Nat} {b : Nat → Nat} (hn : n ≤ 12) (hk : 1 ≤ k ∧ k ≤ 6) (hkn : k ≤ n) (hH : ∀ h, h < n → H h ≤ 99) (h : chm (hV n k) (fun c => pGw H c k n) k (fun _ => True) (some (bp, b))) : (hLp H n k 1000 (nCl (fun i => i) (fun _ => 0) k) (fun _ => 0) 2147483647 true).2 = bp ∧ ∀ p, p < k → (hLp H n k 1000 (nCl (fun i => i) (fun _ => 0) k) (fun _ => 0) 2147483647 true).1 p = H (b p) := by
  have hg : lGo n k 1000 (List.range k) = true := by
    rcases lGo_all n (by omega) k (by omega) with e | e | e
    · omega
    · omega
    · exact e
  have h0 : ∀ i, i < k → nCl (fun i => i) (fun _ => 0) k i = i := fun i hi => nCl_s hi
  obtain ⟨o', h1, h2⟩ := hLp_c (H := H) (n := n) (k := k) (fun c hV => Nat.lt_of_le_of_lt (pGw_b hk.1 n hH (hH _ (hV.1 0 (by omega)))) (by decide)) 1000 (nCl (fun i => i) (fun _ => 0) k) (fun _ => 0) 2147483647 (List.range k) none hg (fun i hi => by rw [h0 i hi, lGt_r hi]) ⟨fun p hp => by rw [h0 p hp]; omega, fun p hp => by rw [h0 p (by omega), h0 (p + 1) hp]; omega⟩ rfl (fun c hV ⟨p, p1, p2, p3⟩ => by
    rw [h0 p p1] at p3
    have := hV_d hV p 0 (by omega)
    rw [Nat.zero_add] at this
    omega)
  cases o' with
  | none => exact absurd trivial (h2 b h.1)
  | some q =>
    obtain ⟨bp', b'⟩ := q
    obtain ⟨e1, e2⟩ := chm_u h2 h
    exact ⟨h1.1.trans e1, fun p hp => (h1.2 p hp).trans (congrArg H (e2 p hp))⟩
