/-! ===== the reference: tryHooks whole ===== -/
/-- i hooks stand already, as σ says; the next from fr on -/
def hPre (H : Nat → Nat) (n k i : Nat) (σ hk : Nat → Nat) (fr : Nat) (Q : (Nat → Nat) → Prop) : Prop := (∀ p, p < i → σ p < n) ∧ (∀ p, p + 1 < i → σ p < σ (p + 1)) ∧ (∀ p, p < i → hk p = H (σ p)) ∧ (i = 0 → fr = 0) ∧ (0 < i → fr = σ (i - 1) + 1) ∧ fr ≤ n ∧ ∀ c, hV n k c → Q c → ∀ c', hV n k c' → lxE i c' σ → lxL k c c'
abbrev hPost (mo : Nat) (e : Nat → Nat) (w : Int64) (H : Nat → Nat) (n k i : Nat) (σ : Nat → Nat) (g : Nat → Int32) (hk : Nat → Nat) (Q : (Nat → Nat) → Prop) (r : Option Value) (K' : zK) : Prop := r = none ∧ ∃ (g' : Nat → Int32) (hk' hb' : Nat → Nat) (o' : Option (Nat × (Nat → Nat))), mFr [62] g g' ∧ chm (hV n k) (fun c => pGw H c k n) k (fun c => Q c ∨ lxE i c σ) o' ∧ tHk g' hb' H k o' ∧ (∀ p, p < i → hk' p = hk p) ∧ K' = [(mo, .inr (11, fMo e g' w)), ((e 57), .inl (0, 12, .inl (nF H))), ((e 58), .inl (0, 6, .inl (nF hk'))), ((e 59), .inl (0, 6, .inl (nF hb')))]
def rHt (l : Launch) (dd mo : Nat) (e : Nat → Nat) (w : Int64) (H : Nat → Nat) (n k i : Nat) : Prop := ∀ (σ : Nat → Nat) (fr : Nat) (g : Nat → Int32) (hk hb : Nat → Nat) (o : Option (Nat × (Nat → Nat))) (Q : (Nat → Nat) → Prop), g 61 = nI n → hPre H n k i σ hk fr Q → chm (hV n k) (fun c => pGw H c k n) k Q o → tHk g hb H k o → zSp l mX13_tryHooks dd 0 0 [.ref mo, .int (nI i), .int (nI k), .int (nI fr)] [(mo, .inr (11, fMo e g w)), ((e 57), .inl (0, 12, .inl (nF H))), ((e 58), .inl (0, 6, .inl (nF hk))), ((e 59), .inl (0, 6, .inl (nF hb)))] (fun r K' => hPost mo e w H n k i σ g hk Q r K')
set_option maxRecDepth 100000 in
theorem lp_th4 {l : Launch} {dd : Nat} {Po : zPo} {K0 : zK} {h0 : List va_E} {Xo : zK → Prop} {Gc : zG → Prop} (mo : Nat) (e : Nat → Nat) (g : Nat → Int32) (w : Int64) (H : Nat → Nat) (n k i : Nat) (σ hk0 : Nat → Nat) (fr : Nat) (Q : (Nat → Nat) → Prop) (hd : 1 ≤ dd) (hn : n ≤ 12) (hkk : 1 ≤ k ∧ k ≤ 6) (hik : i < k) (hpre : hPre H n k i σ hk0 fr Q) (hrec : rHt l (dd - 1) mo e w H n k (i + 1)) (hP : ∀ r K', hPost mo e w H n k i σ g hk0 Q r K' → Po r K') : ∀ (q h : Nat), h + q = n → fr ≤ h → ∀ (g1 : Nat → Int32) (hk hb : Nat → Nat) (o : Option (Nat × (Nat → Nat))), mFr [62] g g1 → g1 61 = nI n → (∀ p, p < i → hk p = hk0 p) → chm (hV n k) (fun c => pGw H c k n) k (fun c => Q c ∨ (lxE i c σ ∧ c i < h)) o → tHk g1 hb H k o → zS (l, mX13_tryHooks, dd, Po, K0, h0, Xo, Gc) 0 0 152 [(0, .ref mo), (1, .int (nI i)), (2, .int (nI k)), (4, .int (nI h))] [] [(mo, .inr (11, fMo e g1 w)), ((e 57), .inl (0, 12, .inl (nF H))), ((e 58), .inl (0, 6, .inl (nF hk))), ((e 59), .inl (0, 6, .inl (nF hb)))] := by
  obtain ⟨hs1, hs2, hs3, hs4, hs5, hs6, hQ0⟩ := hpre
  intro q
  induction q with
  | zero =>
    intro h hi hfh g1 hk hb o hfr h61 hod hc hB
    refine zs_iload dX13_tryHooks_152 rfl ?_
    refine zs_aload_n dX13_tryHooks_154 rfl rfl ?_
    refine zs_get 0 dX13_tryHooks_155 zf_RX13_411 rfl (v := .int (g1 61)) rfl ?_
    refine zs_as (y := nI n) h61 ?_
    refine zs_icmp_ge (tgt := 192) dX13_tryHooks_158 (by decide) (fun c_1 => ?_) (fun c_1 => (c_1 (by rw [show h = n by omega]; exact Int32.le_refl _) : False).elim)
    have hin : h = n := by omega
    subst hin
    exact zs_vret dX13_tryHooks_192 rfl (hP _ _ ⟨rfl, g1, hk, hb, o, hfr, chm_q (fun c hV => ⟨fun z => z.elim Or.inl (fun y => Or.inr y.1), fun z => z.elim Or.inl (fun y => Or.inr ⟨y, hV.1 i hik⟩)⟩) hc, hB, hod, rfl⟩)
  | succ q ih =>
    intro h hi hfh g1 hk hb o hfr h61 hod hc hB
    refine zs_iload dX13_tryHooks_152 rfl ?_
    refine zs_aload_n dX13_tryHooks_154 rfl rfl ?_
    refine zs_get 0 dX13_tryHooks_155 zf_RX13_411 rfl (v := .int (g1 61)) rfl ?_
    refine zs_as (y := nI n) h61 ?_
    refine zs_icmp_ge (tgt := 192) dX13_tryHooks_158 (by decide) (fun c_1 => (nI_ge (show h < n by omega) (by omega) c_1 : False).elim) (fun c_1 => ?_)
    have hpre2 : hPre H n k (i + 1) (un σ i h) (un hk i (H h)) (h + 1) (fun c => Q c ∨ (lxE i c σ ∧ c i < h)) := by
      refine ⟨fun p hp => ?_, fun p hp => ?_, fun p hp => ?_, fun z => absurd z (by omega), fun _ => by rw [show i + 1 - 1 = i by omega, un_s], by omega, fun c hV hQc c' hV' hE => ?_⟩
      · by_cases z : p = i
        · rw [z, un_s]; omega
        · rw [un_n z]; exact hs1 p (by omega)
      · by_cases z : p + 1 = i
        · rw [z, un_s, un_n (show p ≠ i by omega)]
          have h4 := hs5 (by omega)
          rw [show i - 1 = p by omega] at h4
          omega
        · rw [un_n z, un_n (show p ≠ i by omega)]; exact hs2 p (by omega)
      · by_cases z : p = i
        · rw [z, un_s, un_s]
        · rw [un_n z, un_n z, hod p (by omega)]; exact hs3 p (by omega)
      · have hE2 : lxE i c' σ := fun q hq => (hE q (by omega)).trans (un_n (by omega))
        rcases hQc with z | z
        · exact hQ0 c hV z c' hV' hE2
        · refine ⟨i, hik, fun q hq => (z.1 q hq).trans (hE2 q hq).symm, ?_⟩
          have h3 := hE i (by omega)
          rw [un_s] at h3
          have := z.2
          omega
    refine zs_aload_n dX13_tryHooks_161 rfl rfl ?_
    refine zs_get 0 dX13_tryHooks_162 zf_RX13_96 rfl (v := .ref (e 58)) rfl ?_
    refine zs_iload_n dX13_tryHooks_165 rfl ?_
    refine zs_aload_n dX13_tryHooks_166 rfl rfl ?_
    refine zs_get 0 dX13_tryHooks_167 zf_RX13_93 rfl (v := .ref (e 57)) rfl ?_
    refine zs_iload dX13_tryHooks_170 rfl ?_
    refine zs_iald 1 dX13_tryHooks_172 rfl (vp_in_nI (by omega) (by omega)) ?_
    refine zs_as (y := nI (H h)) (by rw [nI_c (n := h) (by omega)]; rfl) ?_
    refine zs_iast 2 dX13_tryHooks_173 rfl (vp_in_nI (by omega) (by omega)) ?_
    rw [nI_c (n := i) (by omega), nF_u]
    show zS _ _ _ _ _ _ [(mo, .inr (11, fMo e g1 w)), ((e 57), .inl (0, 12, .inl (nF H))), ((e 58), .inl (0, 6, .inl (nF (un hk i (H h))))), ((e 59), .inl (0, 6, .inl (nF hb)))]
    refine zs_aload_n dX13_tryHooks_174 rfl rfl ?_
    refine zs_iload_n dX13_tryHooks_175 rfl ?_
    refine zs_iconst (v := nI 1) dX13_tryHooks_176 (by decide) ?_
    refine zs_iadd dX13_tryHooks_177 ?_
    refine zs_as (y := nI (i + 1)) (nI_add _ _) ?_
    refine zs_iload_n dX13_tryHooks_178 rfl ?_
    refine zs_iload dX13_tryHooks_179 rfl ?_
    refine zs_iconst (v := nI 1) dX13_tryHooks_181 (by decide) ?_
    refine zs_iadd dX13_tryHooks_182 ?_
    refine zs_as (y := nI (h + 1)) (nI_add _ _) ?_
    refine zs_callV (M := mX13_tryHooks) (As := [.int (nI (i + 1)), .int (nI k), .int (nI (h + 1))]) (st := []) (Kc := [(mo, .inr (11, fMo e g1 w)), ((e 57), .inl (0, 12, .inl (nF H))), ((e 58), .inl (0, 6, .inl (nF (un hk i (H h))))), ((e 59), .inl (0, 6, .inl (nF hb)))]) (Kr := []) [0, 1, 2, 3] [] 0 dX13_tryHooks_183 zl_RX13_417 kX13_tryHooks rfl rfl rfl rfl rfl (by decide) rfl rfl (show dd - 1 + 1 ≤ dd by omega) (Nat.zero_le _) (Nat.zero_le _) (Nat.le_of_ble_eq_true rfl) (hrec (un σ i h) (h + 1) g1 (un hk i (H h)) hb o (fun c => Q c ∨ (lxE i c σ ∧ c i < h)) h61 hpre2 hc hB) (fun r K1 hr => ?_)
    obtain ⟨rfl, g', hk', hb', o', hfr', hc', hB', hhk', rfl⟩ := hr
    refine zs_K (K' := [(mo, .inr (11, fMo e g' w)), ((e 57), .inl (0, 12, .inl (nF H))), ((e 58), .inl (0, 6, .inl (nF hk'))), ((e 59), .inl (0, 6, .inl (nF hb')))]) [0, 1, 2, 3] rfl (by decide) ?_
    refine zs_iinc (v := (nI (h + 1))) (lv' := [(4, .int (nI (h + 1))), (0, .ref mo), (1, .int (nI i)), (2, .int (nI k))]) dX13_tryHooks_186 rfl (nI_add _ 1) (Nat.le_of_ble_eq_true rfl) rfl ?_
    refine zs_goto (tgt := 152) dX13_tryHooks_189 (by decide) ?_
    refine zs_lv [1, 2, 3, 0] rfl ?_
    refine ih (h + 1) (by omega) (by omega) g' hk' hb' o' (mFr_t hfr hfr' (by decide) (by decide)) ((hfr' 61 (by decide)).trans h61) (fun p hp => (hhk' p (by omega)).trans ((un_n (by omega)).trans (hod p hp))) (chm_q (fun c hV => ⟨fun z => ?_, fun z => ?_⟩) hc') hB'
    · rcases z with (z | z) | z
      · exact Or.inl z
      · exact Or.inr ⟨z.1, by omega⟩
      · exact Or.inr ⟨fun q hq => (z q (by omega)).trans (un_n (by omega)), by have h3 := z i (by omega); rw [un_s] at h3; omega⟩
    · rcases z with z | z
      · exact Or.inl (Or.inl z)
      · by_cases y : c i = h
        · exact Or.inr (fun q hq => (Nat.lt_or_eq_of_le (Nat.le_of_lt_succ hq)).elim (fun x => (z.1 q x).trans (un_n (by omega)).symm) (fun x => by rw [x, un_s]; exact y))
        · exact Or.inl (Or.inr ⟨z.1, by omega⟩)
set_option maxRecDepth 100000 in
theorem th_leaf (l : Launch) (dd mo : Nat) (e : Nat → Nat) (w : Int64) (H : Nat → Nat) (n k : Nat) (hd : 2 ≤ dd) (hn : n ≤ 12) (hkk : 1 ≤ k ∧ k ≤ 6) (hH : ∀ h, h < n → H h ≤ 99) : rHt l dd mo e w H n k k := by
  intro σ fr g hk hb o Q h61 hpre hc hB
  refine zSp.of (by decide) (Nat.le_of_ble_eq_true rfl) (fun h0 => ?_)
  show zS _ 0 0 0 [(0, .ref mo), (1, .int (nI k)), (2, .int (nI k)), (3, .int (nI fr))] [] [(mo, .inr (11, fMo e g w)), ((e 57), .inl (0, 12, .inl (nF H))), ((e 58), .inl (0, 6, .inl (nF hk))), ((e 59), .inl (0, 6, .inl (nF hb)))]
  refine zs_iload_n dX13_tryHooks_0 rfl ?_
  refine zs_iload_n dX13_tryHooks_1 rfl ?_
  refine zs_icmp_ne (tgt := 149) dX13_tryHooks_2 (by decide) (fun c_1 => (c_1 rfl : False).elim) (fun c_1 => ?_)
  refine zs_iconst (v := nI 0) dX13_tryHooks_5 (by decide) ?_
  refine zs_istore (lv' := [(4, .int (nI 0)), (0, .ref mo), (1, .int (nI k)), (2, .int (nI k)), (3, .int (nI fr))]) dX13_tryHooks_6 (Nat.le_of_ble_eq_true rfl) rfl ?_
  refine zs_iconst (v := nI 0) dX13_tryHooks_8 (by decide) ?_
  refine zs_istore (lv' := [(5, .int (nI 0)), (4, .int (nI 0)), (0, .ref mo), (1, .int (nI k)), (2, .int (nI k)), (3, .int (nI fr))]) dX13_tryHooks_9 (Nat.le_of_ble_eq_true rfl) rfl ?_
  refine zs_lv [2, 3, 4, 5, 1, 0] rfl ?_
  refine lp_th2 mo e g w H n k σ hk hb (nI fr) k hn hkk hH hpre.1 h61 hpre.2.2.1 ?_ n 0 (Nat.zero_add _)
  have hfar := pGw_b (H := H) (c := σ) hkk.1 n hH (hH _ (hpre.1 0 (by omega)))
  cases o with
  | none =>
    refine zs_aload_n dX13_tryHooks_95 rfl rfl ?_
    refine zs_get 0 dX13_tryHooks_96 zf_RX13_414 rfl (v := .int (g 62)) rfl ?_
    refine zs_as (y := -1) hB ?_
    refine zs_iconst (v := (-1)) dX13_tryHooks_99 (by decide) ?_
    refine zs_icmp_eq (tgt := 113) dX13_tryHooks_100 (by decide) (fun c_2 => ?_) (fun c_2 => (by first | exact absurd c_2 (by decide) | exact absurd (by decide) c_2 : False).elim)
    refine zs_aload_n dX13_tryHooks_113 rfl rfl ?_
    refine zs_iload dX13_tryHooks_114 rfl ?_
    refine zs_put 0 dX13_tryHooks_116 zf_RX13_414 rfl (Nat.le_of_ble_eq_true rfl) (zPv_i _) ?_
    show zS _ _ _ _ _ _ [(mo, .inr (11, fMo e (upd g 62 (nI (pGw H σ k n))) w)), ((e 57), .inl (0, 12, .inl (nF H))), ((e 58), .inl (0, 6, .inl (nF hk))), ((e 59), .inl (0, 6, .inl (nF hb)))]
    refine zs_iconst (v := nI 0) dX13_tryHooks_119 (by decide) ?_
    refine zs_istore (lv' := [(5, .int (nI 0)), (0, .ref mo), (1, .int (nI k)), (2, .int (nI k)), (3, .int (nI fr)), (4, .int (nI (pGw H σ k n)))]) dX13_tryHooks_120 (Nat.le_of_ble_eq_true rfl) rfl ?_
    refine zs_lv [1, 2, 3, 0] rfl ?_
    refine zs_eq (K' := [(mo, .inr (11, fMo e (upd g 62 (nI (pGw H σ k n))) w)), ((e 57), .inl (0, 12, .inl (nF H))), ((e 58), .inl (0, 6, .inl (nF hk))), ((e 59), .inl (0, 6, .inl (nF (nCl hk hb 0))))]) (by rw [nCl_0]) ?_
    refine lp_th3 mo e (upd g 62 (nI (pGw H σ k n))) w H n k σ hk hb k hkk ?_ k 0 (Nat.zero_add _)
    exact zs_vret dX13_tryHooks_148 rfl ⟨rfl, (upd g 62 (nI (pGw H σ k n))), hk, nCl hk hb k, some (pGw H σ k n, σ), mFr_u mFr_r (by decide), chm_n hc ⟨hpre.1, hpre.2.1⟩ (fun q hq => rfl) (fun bp b h => absurd h (by simp)) (fun c hV hE => ⟨Nat.le_of_eq (pGw_c (fun q hq => (hE q hq).symm) n), fun _ => Or.inl (fun q hq => (hE q hq).symm)⟩), ⟨rfl, by omega, fun p hp => (nCl_s hp).trans (hpre.2.2.1 p hp)⟩, fun p hp => rfl, rfl⟩
  | some q =>
    obtain ⟨bp, b⟩ := q
    have hbp := hB.2.1
    refine zs_aload_n dX13_tryHooks_95 rfl rfl ?_
    refine zs_get 0 dX13_tryHooks_96 zf_RX13_414 rfl (v := .int (g 62)) rfl ?_
    refine zs_as (y := nI bp) hB.1 ?_
    refine zs_iconst (v := (-1)) dX13_tryHooks_99 (by decide) ?_
    refine zs_icmp_eq (tgt := 113) dX13_tryHooks_100 (by decide) (fun c_3 => (nI_m1 (by omega) c_3 : False).elim) (fun c_3 => ?_)
    refine zs_iload dX13_tryHooks_103 rfl ?_
    refine zs_aload_n dX13_tryHooks_105 rfl rfl ?_
    refine zs_get 0 dX13_tryHooks_106 zf_RX13_414 rfl (v := .int (g 62)) rfl ?_
    refine zs_as (y := nI bp) hB.1 ?_
    refine zs_icmp_lt (tgt := 113) dX13_tryHooks_109 (by decide) (fun c_4 => ?_) (fun c_4 => ?_)
    · have c_4 : (pGw H σ k n) < bp := by have hc := c_4; rw [nI_lt' (by omega) (by omega)] at hc; exact hc
      refine zs_aload_n dX13_tryHooks_113 rfl rfl ?_
      refine zs_iload dX13_tryHooks_114 rfl ?_
      refine zs_put 0 dX13_tryHooks_116 zf_RX13_414 rfl (Nat.le_of_ble_eq_true rfl) (zPv_i _) ?_
      show zS _ _ _ _ _ _ [(mo, .inr (11, fMo e (upd g 62 (nI (pGw H σ k n))) w)), ((e 57), .inl (0, 12, .inl (nF H))), ((e 58), .inl (0, 6, .inl (nF hk))), ((e 59), .inl (0, 6, .inl (nF hb)))]
      refine zs_iconst (v := nI 0) dX13_tryHooks_119 (by decide) ?_
      refine zs_istore (lv' := [(5, .int (nI 0)), (0, .ref mo), (1, .int (nI k)), (2, .int (nI k)), (3, .int (nI fr)), (4, .int (nI (pGw H σ k n)))]) dX13_tryHooks_120 (Nat.le_of_ble_eq_true rfl) rfl ?_
      refine zs_lv [1, 2, 3, 0] rfl ?_
      refine zs_eq (K' := [(mo, .inr (11, fMo e (upd g 62 (nI (pGw H σ k n))) w)), ((e 57), .inl (0, 12, .inl (nF H))), ((e 58), .inl (0, 6, .inl (nF hk))), ((e 59), .inl (0, 6, .inl (nF (nCl hk hb 0))))]) (by rw [nCl_0]) ?_
      refine lp_th3 mo e (upd g 62 (nI (pGw H σ k n))) w H n k σ hk hb k hkk ?_ k 0 (Nat.zero_add _)
      exact zs_vret dX13_tryHooks_148 rfl ⟨rfl, (upd g 62 (nI (pGw H σ k n))), hk, nCl hk hb k, some (pGw H σ k n, σ), mFr_u mFr_r (by decide), chm_n hc ⟨hpre.1, hpre.2.1⟩ (fun q hq => rfl) (fun bp' b' h => by cases h; show pGw H σ k n < bp; omega) (fun c hV hE => ⟨Nat.le_of_eq (pGw_c (fun q hq => (hE q hq).symm) n), fun _ => Or.inl (fun q hq => (hE q hq).symm)⟩), ⟨rfl, by omega, fun p hp => (nCl_s hp).trans (hpre.2.2.1 p hp)⟩, fun p hp => rfl, rfl⟩
    · have c_4 : ¬ ((pGw H σ k n) < bp) := by have hc := c_4; rw [nI_lt' (by omega) (by omega)] at hc; exact hc
      exact zs_vret dX13_tryHooks_112 rfl ⟨rfl, g, hk, hb, some (bp, b), mFr_r, chm_k hc (fun c hV hE => ⟨by rw [pGw_c hE n]; omega, fun _ => Or.inr (hpre.2.2.2.2.2.2 b hc.1 hc.2.1 c hV hE)⟩), hB, fun p hp => rfl, rfl⟩
set_option maxRecDepth 100000 in
theorem th_node (l : Launch) (dd mo : Nat) (e : Nat → Nat) (w : Int64) (H : Nat → Nat) (n k i : Nat) (hd : 1 ≤ dd) (hn : n ≤ 12) (hkk : 1 ≤ k ∧ k ≤ 6) (hik : i < k) (hrec : i < k → rHt l (dd - 1) mo e w H n k (i + 1)) : rHt l dd mo e w H n k i := by
  intro σ fr g hk hb o Q h61 hpre hc hB
  refine zSp.of (by decide) (Nat.le_of_ble_eq_true rfl) (fun h0 => ?_)
  show zS _ 0 0 0 [(0, .ref mo), (1, .int (nI i)), (2, .int (nI k)), (3, .int (nI fr))] [] [(mo, .inr (11, fMo e g w)), ((e 57), .inl (0, 12, .inl (nF H))), ((e 58), .inl (0, 6, .inl (nF hk))), ((e 59), .inl (0, 6, .inl (nF hb)))]
  refine zs_iload_n dX13_tryHooks_0 rfl ?_
  refine zs_iload_n dX13_tryHooks_1 rfl ?_
  refine zs_icmp_ne (tgt := 149) dX13_tryHooks_2 (by decide) (fun c_1 => ?_) (fun c_1 => (absurd (show i = k from by rw [nI_eq' (by omega) (by omega)] at c_1; exact c_1) (by omega) : False).elim)
  refine zs_iload_n dX13_tryHooks_149 rfl ?_
  refine zs_istore (lv' := [(4, .int (nI fr)), (0, .ref mo), (1, .int (nI i)), (2, .int (nI k)), (3, .int (nI fr))]) dX13_tryHooks_150 (Nat.le_of_ble_eq_true rfl) rfl ?_
  have hik2 : i < k := by omega
  refine zs_lv [1, 2, 3, 0] rfl ?_
  refine lp_th4 (g := g) mo e w H n k i σ hk fr Q (by omega) hn hkk hik2 hpre (hrec hik2) (fun r K1 h => h) (n - fr) fr (by have := hpre.2.2.2.2.2.1; omega) (Nat.le_refl _) g hk hb o mFr_r h61 (fun p hp => rfl) (chm_q (fun c hV => ⟨fun h => Or.inl h, fun h => h.elim id (fun z => ?_)⟩) hc) hB
  exfalso
  have z2 := z.2
  by_cases h0 : i = 0
  · have := hpre.2.2.2.1 h0; omega
  · have h5 := hpre.2.2.2.2.1 (by omega)
    have h6 := hV.2 (i - 1) (by omega)
    rw [show i - 1 + 1 = i by omega, z.1 (i - 1) (by omega)] at h6
    omega
theorem s_mTryHooks (l : Launch) (mo : Nat) (e : Nat → Nat) (w : Int64) (H : Nat → Nat) (n k : Nat) (hn : n ≤ 12) (hkk : 1 ≤ k ∧ k ≤ 6) (hH : ∀ h, h < n → H h ≤ 99) : ∀ (q i dd : Nat), i + q = k → q + 2 ≤ dd → rHt l dd mo e w H n k i
  | 0, i, dd, hi, hd => by
    have e1 : i = k := by omega
    subst e1
    exact th_leaf l dd mo e w H n i (by omega) hn hkk hH
  | q + 1, i, dd, hi, hd => th_node l dd mo e w H n k i (by omega) hn hkk (by omega) (fun _ => s_mTryHooks l mo e w H n k hn hkk hH q (i + 1) (dd - 1) (by omega) (by omega))
