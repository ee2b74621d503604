/-! ===== the reference: aims, what is meant ===== -/
/-- k minutes in which nobody throws -/
def rqI (C R : Nat) (wi : Int32) : Nat → zF1 → zF1
  | 0, F => F
  | k + 1, F => rqI C R wi k (f1 C R wi F (-1) 0)
def rW (C R : Nat) (wi : Int32) (M : Nat) (F : zF1) (rs : zSs) : zSs :=
  if ¬ rs.1 = -1 ∧ rs.1 ≤ (rqI C R wi (20 - M) F).2.1 then rs else ((rqI C R wi (20 - M) F).2.1, rs.2.1, pCl rs.2.1 rs.2.2 M)
def rqA (C R : Nat) (wi v : Int32) (M : Nat) : Nat → zF1 → zSs → zSs
  | 0, F, rs => rW C R wi M F rs
  | d + 1, F, rs => foW C R wi v (rqA C R wi v M d) (M - (d + 1)) F (-1) (chL F.1.2.2 (foW C R wi v (rqA C R wi v M d) (M - (d + 1)) F) rs (C * R)).2
theorem mMin_n {C R : Nat} {wi : Int32} {s : zFs} (v u : Int32) : mMin C R wi s (-1) v = mMin C R wi s (-1) u ∧ mLs C R s (-1) v = mLs C R s (-1) u ∧ mBn C R wi s (-1) v = mBn C R wi s (-1) u := by
  have e : mW C R s (-1) v = mW C R s (-1) u := pWe_1.trans pWe_1.symm
  have e2 : mB C R s (-1) v = mB C R s (-1) u := by unfold mB; rw [e]
  have e3 : mN C R wi s (-1) v = mN C R wi s (-1) u := by unfold mN; rw [e, e2]
  refine ⟨?_, ?_, ?_⟩
  · unfold mMin; rw [e, e2, e3]
  · unfold mLs; rw [e2]
  · unfold mBn; rw [e3]
theorem f1_n {C R : Nat} {wi : Int32} {F : zF1} (v u : Int32) : f1 C R wi F (-1) v = f1 C R wi F (-1) u := by
  unfold f1
  have h := mMin_n (C := C) (R := R) (wi := wi) (s := F.1) v u
  rw [h.1, h.2.1, h.2.2]
theorem pCnt_n (f : Nat → Int32) : ∀ n, ∃ q, q ≤ n ∧ pCnt f n = nI q
  | 0 => ⟨0, Nat.le_refl _, rfl⟩
  | n + 1 => by
    obtain ⟨q, h1, h2⟩ := pCnt_n f n
    by_cases h : f n = 0
    · exact ⟨q, by omega, by rw [pCnt_z h, h2]⟩
    · exact ⟨q + 1, by omega, by rw [pCnt_s h, h2]; exact nI_add q 1⟩
theorem pCnt_0 {f : Nat → Int32} : ∀ {n : Nat}, n < 1000 → pCnt f n = 0 → ∀ j, j < n → f j = 0
  | 0, _, _, j, hj => absurd hj (Nat.not_lt_zero j)
  | n + 1, hn, h, j, hj => by
    obtain ⟨q, h1, h2⟩ := pCnt_n f n
    by_cases hf : f n = 0
    · rw [pCnt_z hf] at h
      by_cases e : j = n
      · rw [e]; exact hf
      · exact pCnt_0 (by omega) h j (by omega)
    · rw [pCnt_s hf, h2, show (1 : Int32) = nI 1 from rfl, nI_add, show (0 : Int32) = nI 0 from rfl, nI_eq' (by omega) (by omega)] at h
      omega
theorem pCnt_00 {f : Nat → Int32} : ∀ {n : Nat}, (∀ j, j < n → f j = 0) → pCnt f n = 0
  | 0, _ => rfl
  | n + 1, h => by rw [pCnt_z (h n (Nat.lt_succ_self n))]; exact pCnt_00 (fun j hj => h j (by omega))
theorem tm_zz {fu bu : Nat → Int32} {P : Bool} {u m : Nat} {w : Int32} (h : ∀ j, j < m → bu j = 0) : tm fu bu P u m w = 0 := if_neg (fun z => z.2.2 (h u z.2.1))
theorem pH0_z {C R : Nat} {wi : Int32} {fu bu : Nat → Int32} (h : ∀ j, j < C * R → bu j = 0) {k : Nat} (hk : k < C * R) : pH0 C R wi fu bu k = 0 := by
  have hC : 0 < C := by
    rcases Nat.eq_zero_or_pos C with q | q
    · rw [q, Nat.zero_mul] at hk; omega
    · exact q
  have e := heat_c (wi := wi) (fu := fu) (bu := bu) (Nat.div_lt_of_lt_mul hk) (Nat.mod_lt k hC)
  rw [Nat.div_add_mod'] at e
  rw [e, tm_zz h, tm_zz h, tm_zz h, tm_zz h]
  rfl
/-- a fire with a count of what is lost and of what burns -/
def nF1 (n V L : Nat) (F : zF1) : Prop := fK n V F.1 ∧ F.2.1 = nI L ∧ F.2.2 = pCnt F.1.2.2 n
theorem f1_N {C R V L u : Nat} {wi : Int32} {F : zF1} {c : Int32} (h : nF1 (C * R) V L F) (hn : C * R ≤ 64) (hc : aC (C * R) c) : ∃ q, q ≤ 64 ∧ nF1 (C * R) (V + u) (L + q) (f1 C R wi F c (nI u)) := by
  obtain ⟨q, h1, h2⟩ := pCnt_n (mB C R F.1 c (nI u)) (C * R)
  refine ⟨q, by omega, fK_min h.1 hn hc, ?_, (mBn_e F.1 c (nI u)).symm⟩
  show F.2.1 + mLs C R F.1 c (nI u) = nI (L + q)
  rw [show mLs C R F.1 c (nI u) = nI q from h2, h.2.1, nI_add]
theorem f1_00 {C R V L : Nat} {wi : Int32} {F : zF1} (h : nF1 (C * R) V L F) (hn : C * R ≤ 64) : ∃ q, q ≤ 64 ∧ nF1 (C * R) V (L + q) (f1 C R wi F (-1) 0) := f1_N (u := 0) h hn (Or.inl rfl)
theorem f1_out {C R V L : Nat} {wi : Int32} {F : zF1} (h : nF1 (C * R) V L F) (hn : C * R ≤ 64) (hV : V < 2147483648) (hz : F.2.2 = 0) : nF1 (C * R) V L (f1 C R wi F (-1) 0) ∧ (f1 C R wi F (-1) 0).2 = F.2 := by
  have hb := pCnt_0 (by omega) (h.2.2.symm.trans hz)
  have hB : mB C R F.1 (-1) 0 = F.1.2.2 := pBu_1
  have hW : mW C R F.1 (-1) 0 = F.1.2.1 := pWe_1
  have hL : mLs C R F.1 (-1) 0 = 0 := by unfold mLs; rw [hB]; exact pCnt_00 hb
  have hN : mBn C R wi F.1 (-1) 0 = 0 := by
    unfold mBn
    refine pCnt_00 (fun j hj => ?_)
    unfold mN nBu
    rw [hB, hW, if_pos (hb j hj), pH0_z hb hj]
    by_cases q : F.1.1 j ≤ 0
    · rw [if_pos q]
    · rw [if_neg q]
      obtain ⟨x, hx, hw⟩ := h.1.2 j hj
      rw [if_pos (by rw [hw]; exact w5 (by omega))]
  have e2 : (f1 C R wi F (-1) 0).2 = F.2 := by
    show (F.2.1 + mLs C R F.1 (-1) 0, mBn C R wi F.1 (-1) 0) = F.2
    rw [hL, hN, Int32.add_zero, ← hz]
  refine ⟨⟨?_, by rw [e2]; exact h.2.1, (mBn_e F.1 (-1) 0).symm⟩, e2⟩
  exact fK_min (u := 0) h.1 hn (Or.inl rfl)
theorem rI_out {C R V L : Nat} {wi : Int32} (hn : C * R ≤ 64) (hV : V < 2147483648) : ∀ (k : Nat) {F : zF1}, nF1 (C * R) V L F → F.2.2 = 0 → (rqI C R wi k F).2.1 = nI L
  | 0, _, h, _ => h.2.1
  | k + 1, F, h, hz => by
    obtain ⟨h1, h2⟩ := f1_out (wi := wi) h hn hV hz
    exact rI_out hn hV k h1 (by rw [h2]; exact hz)
theorem rI_N {C R V : Nat} {wi : Int32} (hn : C * R ≤ 64) : ∀ (k : Nat) {L : Nat} {F : zF1}, nF1 (C * R) V L F → ∃ L2, L ≤ L2 ∧ L2 ≤ L + 64 * k ∧ (rqI C R wi k F).2.1 = nI L2
  | 0, L, F, h => ⟨L, Nat.le_refl _, by omega, h.2.1⟩
  | k + 1, L, F, h => by
    obtain ⟨q, hq, h1⟩ := f1_00 (wi := wi) h hn
    obtain ⟨L2, h2, h3, h4⟩ := rI_N hn k h1
    exact ⟨L2, by omega, by omega, h4⟩
theorem wg_eq {C R V : Nat} {wi : Int32} {least : Int32} (hn : C * R ≤ 64) (hV : V < 2147483648) : ∀ (k : Nat) {L : Nat} {F : zF1}, L + 64 * k < 2147483648 → nF1 (C * R) V L F → (least ≤ (wgL C R wi least k F).2.1 ↔ least ≤ (rqI C R wi k F).2.1) ∧ (¬ least ≤ (wgL C R wi least k F).2.1 → (wgL C R wi least k F).2.1 = (rqI C R wi k F).2.1)
  | 0, L, F, _, _ => ⟨Iff.rfl, fun _ => rfl⟩
  | k + 1, L, F, hL, h => by
    by_cases hz : F.2.2 ≤ 0
    · have hz0 : F.2.2 = 0 := by
        obtain ⟨q, h1, h2⟩ := pCnt_n F.1.2.2 (C * R)
        rw [h.2.2, h2] at hz ⊢
        rw [show (0 : Int32) = nI 0 from rfl, nI_le' (by omega) (by omega)] at hz
        rw [show q = 0 by omega]; rfl
      rw [wgL_z hz, rI_out hn hV (k + 1) h hz0, h.2.1]
      exact ⟨Iff.rfl, fun _ => rfl⟩
    · by_cases hl : least ≤ F.2.1
      · rw [wgL_y hl]
        refine ⟨⟨fun _ => ?_, fun _ => hl⟩, fun z => absurd hl z⟩
        obtain ⟨L2, h2, h3, h4⟩ := rI_N (wi := wi) hn (k + 1) h
        rw [h4]
        rw [h.2.1] at hl
        exact Int32.le_trans hl ((nI_le' (by omega) (by omega)).mpr h2)
      · obtain ⟨q, hq, h1⟩ := f1_00 (wi := wi) h hn
        have e : wgL C R wi least (k + 1) F = wgL C R wi least k (f1 C R wi F (-1) 0) := by rw [wgL, if_neg hz, if_neg hl]
        rw [e]
        exact wg_eq hn hV k (by omega) h1
/-- the class's search against the reference's -/
def sqR (M m : Nat) (ss rs : zSs) : Prop := ((rs.1 = -1 ∧ ss.1 = 2147483647) ∨ (∃ q, q < 2147483647 ∧ rs.1 = nI q ∧ ss.1 = nI q ∧ ∀ j, j < M → ss.2.2 j = rs.2.2 j)) ∧ ∀ j, j < m → ss.2.1 j = rs.2.1 j
theorem mx_le {q : Nat} (h : q < 2147483647) : ¬ (2147483647 : Int32) ≤ nI q := by
  rw [show (2147483647 : Int32) = nI 2147483647 from rfl, nI_le' (by omega) (by omega)]; omega
theorem sR_leaf {C R V L M : Nat} {wi : Int32} {F : zF1} {ss rs : zSs} (hn : C * R ≤ 64) (hM : M ≤ 3) (hV : V < 2147483648) (hL : L + 64 * 20 < 2147483647) (h : nF1 (C * R) V L F) (hr : sqR M M ss rs) : sqR M M (if ss.1 ≤ F.2.1 then ss else wgh C R wi M F ss) (rW C R wi M F rs) := by
  obtain ⟨L2, h2, h3, h4⟩ := rI_N (wi := wi) hn (20 - M) h
  have h3' : L2 < 2147483647 := by omega
  obtain ⟨w1, w2⟩ := wg_eq (wi := wi) (least := ss.1) hn hV (20 - M) (by omega) h
  rw [h4] at w1 w2
  have hbest : ∀ j, j < M → pCl ss.2.1 ss.2.2 3 j = pCl rs.2.1 rs.2.2 M j := fun j hj => by
    rw [show pCl ss.2.1 ss.2.2 3 j = ss.2.1 j from if_pos (by omega), show pCl rs.2.1 rs.2.2 M j = rs.2.1 j from if_pos hj]
    exact hr.2 j hj
  unfold rW
  rw [h4, h.2.1]
  rcases hr.1 with ⟨e1, e2⟩ | ⟨q, hq, e1, e2, -⟩
  · have eR : (if ¬ rs.1 = -1 ∧ rs.1 ≤ nI L2 then rs else (nI L2, rs.2.1, pCl rs.2.1 rs.2.2 M)) = (nI L2, rs.2.1, pCl rs.2.1 rs.2.2 M) := if_neg (fun z => z.1 e1)
    rw [eR, if_neg (show ¬ ss.1 ≤ nI L by rw [e2]; exact mx_le (by omega))]
    have hno : ¬ ss.1 ≤ (wgL C R wi ss.1 (20 - M) F).2.1 := fun z => by
      have h := w1.mp z
      rw [e2] at h
      exact mx_le h3' h
    unfold wgh
    rw [if_neg hno, w2 hno]
    exact ⟨Or.inr ⟨L2, h3', rfl, rfl, hbest⟩, hr.2⟩
  · have hne : ¬ rs.1 = -1 := by rw [e1]; exact nI_ne1 (by omega)
    by_cases hp : nI q ≤ nI L2
    · have eR : (if ¬ rs.1 = -1 ∧ rs.1 ≤ nI L2 then rs else (nI L2, rs.2.1, pCl rs.2.1 rs.2.2 M)) = rs := if_pos ⟨hne, by rw [e1]; exact hp⟩
      rw [eR]
      have hw : ss.1 ≤ (wgL C R wi ss.1 (20 - M) F).2.1 := w1.mpr (by rw [e2]; exact hp)
      by_cases hc : ss.1 ≤ nI L
      · rw [if_pos hc]; exact hr
      · rw [if_neg hc]
        unfold wgh
        rw [if_pos hw]; exact hr
    · have eR : (if ¬ rs.1 = -1 ∧ rs.1 ≤ nI L2 then rs else (nI L2, rs.2.1, pCl rs.2.1 rs.2.2 M)) = (nI L2, rs.2.1, pCl rs.2.1 rs.2.2 M) := if_neg (fun z => hp (by rw [← e1]; exact z.2))
      rw [eR]
      have hw : ¬ ss.1 ≤ (wgL C R wi ss.1 (20 - M) F).2.1 := fun z => hp (by rw [← e2]; exact w1.mp z)
      have hc : ¬ ss.1 ≤ nI L := fun z => hp (by rw [← e2]; exact Int32.le_trans z ((nI_le' (by omega) (by omega)).mpr h2))
      rw [if_neg hc]
      unfold wgh
      rw [if_neg hw, w2 hw]
      exact ⟨Or.inr ⟨L2, h3', rfl, rfl, hbest⟩, hr.2⟩
/-- where more is lost already than in the best, nothing is found -/
def sU (m : Nat) (rs rt : zSs) : Prop := rt.1 = rs.1 ∧ rt.2.2 = rs.2.2 ∧ ∀ j, j < m → rt.2.1 j = rs.2.1 j
theorem chL_P {P : zSs → Prop} {bu : Nat → Int32} {fo : Int32 → zSs → zSs} {ss : zSs} (h0 : P ss) : ∀ i, (∀ k, k < i → ∀ s, P s → P (fo (nI k) s)) → P (chL bu fo ss i).2
  | 0, _ => h0
  | i + 1, h => by
    have h1 := chL_P (bu := bu) h0 i (fun k hk => h k (by omega))
    rw [chL]
    split
    · exact h1
    · split
      · exact h1
      · exact h i (Nat.lt_succ_self i) _ h1
set_option maxRecDepth 10000 in
theorem rA_U {C R M u q : Nat} {wi : Int32} (hn : C * R ≤ 64) (hq : q < 2147483647) : ∀ (d : Nat) {V L : Nat} {F : zF1} {rs : zSs}, d ≤ M → V + u * d ≤ 100000 → L + 64 * (d + 20) ≤ 100000 → nF1 (C * R) V L F → rs.1 = nI q → q ≤ L → sU (M - d) rs (rqA C R wi (nI u) M d F rs) := by
  intro d
  induction d with
  | zero =>
    intro V L F rs _ _ hL h hr hqL
    obtain ⟨L2, h2, h3, h4⟩ := rI_N (wi := wi) hn (20 - M) h
    have hc : ¬ rs.1 = -1 ∧ rs.1 ≤ (rqI C R wi (20 - M) F).2.1 := ⟨by rw [hr]; exact nI_ne1 (by omega), by rw [hr, h4]; exact (nI_le' (by omega) (by omega)).mpr (by omega)⟩
    show sU (M - 0) rs (rW C R wi M F rs)
    unfold rW
    rw [if_pos hc]
    exact ⟨rfl, rfl, fun _ _ => rfl⟩
  | succ d ih =>
    intro V L F rs hd hV hL h hr hqL
    have hV2 : V + u + u * d ≤ 100000 := by rw [Nat.mul_succ] at hV; omega
    have step : ∀ c, aC (C * R) c → ∀ rt, sU (M - (d + 1)) rs rt → sU (M - (d + 1)) rs (foW C R wi (nI u) (rqA C R wi (nI u) M d) (M - (d + 1)) F c rt) := fun c hc rt ht => by
      obtain ⟨x, hx, h1⟩ := f1_N (u := u) (wi := wi) h hn hc
      have h2 := ih (V := V + u) (L := L + x) (rs := (rt.1, upd rt.2.1 (M - (d + 1)) (aOf c (nI C)), rt.2.2)) (by omega) hV2 (by omega) h1 (ht.1.trans hr) (by omega)
      refine ⟨h2.1.trans ht.1, h2.2.1.trans ht.2.1, fun j hj => (h2.2.2 j (by omega)).trans ((if_neg (by omega)).trans (ht.2.2 j hj))⟩
    have h0 : sU (M - (d + 1)) rs rs := ⟨rfl, rfl, fun _ _ => rfl⟩
    exact step (-1) (Or.inl rfl) _ (chL_P (P := sU (M - (d + 1)) rs) h0 (C * R) (fun k hk s hs => step (nI k) (Or.inr ⟨k, hk, rfl⟩) s hs))
theorem sR_U {M m : Nat} {ss rs rt : zSs} (h : sqR M m ss rs) (hu : sU m rs rt) : sqR M m ss rt := by
  refine ⟨by rw [hu.1, hu.2.1]; exact h.1, fun j hj => (h.2 j hj).trans (hu.2.2 j hj).symm⟩
theorem chL_R {bu : Nat → Int32} {fo go : Int32 → zSs → zSs} {ss rs : zSs} {Q : zSs → zSs → Prop} (h0 : Q ss rs) : ∀ i, (∀ k, k < i → ∀ s t, Q s t → Q (fo (nI k) s) (go (nI k) t)) → (chL bu fo ss i).1 = (chL bu go rs i).1 ∧ Q (chL bu fo ss i).2 (chL bu go rs i).2
  | 0, _ => ⟨rfl, h0⟩
  | i + 1, h => by
    obtain ⟨h1, h2⟩ := chL_R (bu := bu) h0 i (fun k hk => h k (by omega))
    rw [chL, chL]
    by_cases q : 8 ≤ (chL bu fo ss i).1
    · have q' : 8 ≤ (chL bu go rs i).1 := by rw [← h1]; exact q
      rw [if_pos q, if_pos q']; exact ⟨h1, h2⟩
    · have q' : ¬ 8 ≤ (chL bu go rs i).1 := by rw [← h1]; exact q
      rw [if_neg q, if_neg q']
      by_cases q2 : bu i = 0
      · rw [if_pos q2, if_pos q2]; exact ⟨h1, h2⟩
      · rw [if_neg q2, if_neg q2]; exact ⟨by show _ + 1 = _ + 1; rw [h1], h i (Nat.lt_succ_self i) _ _ h2⟩
theorem chA_leaf {C R M k : Nat} {wi v : Int32} {F : zF1} {ss : zSs} (h : M + k ≤ 3) : chA C R wi v M k F ss = if ss.1 ≤ F.2.1 then ss else wgh C R wi M F ss := by
  cases k with
  | zero =>
    show chO C R wi v M (fun _ ss => ss) 3 F ss = _
    unfold chO
    rw [if_pos (show M ≤ 3 by omega)]
  | succ k =>
    show chO C R wi v M (chA C R wi v M k) (2 - k) F ss = _
    unfold chO
    rw [if_pos (show M ≤ 2 - k by omega)]
set_option maxRecDepth 10000 in
theorem rA_ch {C R M u : Nat} {wi : Int32} (hn : C * R ≤ 64) (hM : M ≤ 3) : ∀ (d : Nat) {V L : Nat} {F : zF1} {ss rs : zSs}, d ≤ M → V + u * d ≤ 100000 → L + 64 * (d + 20) ≤ 100000 → nF1 (C * R) V L F → sqR M (M - d) ss rs → sqR M (M - d) (chA C R wi (nI u) M (3 - M + d) F ss) (rqA C R wi (nI u) M d F rs) := by
  intro d
  induction d with
  | zero =>
    intro V L F ss rs _ hV hL h hr
    rw [chA_leaf (by omega)]
    exact sR_leaf hn hM (by omega) (by omega) h hr
  | succ d ih =>
    intro V L F ss rs hd hV hL h hr
    have hV2 : V + u + u * d ≤ 100000 := by rw [Nat.mul_succ] at hV; omega
    by_cases hp : ss.1 ≤ F.2.1
    · have e : chA C R wi (nI u) M (3 - M + (d + 1)) F ss = ss := by
        show chO C R wi (nI u) M (chA C R wi (nI u) M (3 - M + d)) (2 - (3 - M + d)) F ss = ss
        unfold chO
        rw [if_pos hp]
      rw [e]
      rcases hr.1 with ⟨e1, e2⟩ | ⟨q, hq, e1, e2, -⟩
      · rw [e2, h.2.1] at hp
        exact absurd hp (mx_le (by omega))
      · rw [e2, h.2.1, nI_le' (by omega) (by omega)] at hp
        exact sR_U hr (rA_U (u := u) (wi := wi) hn hq (d + 1) hd hV hL h e1 hp)
    · have e : chA C R wi (nI u) M (3 - M + (d + 1)) F ss = foW C R wi (nI u) (chA C R wi (nI u) M (3 - M + d)) (M - (d + 1)) F (-1) (chL F.1.2.2 (foW C R wi (nI u) (chA C R wi (nI u) M (3 - M + d)) (M - (d + 1)) F) ss (C * R)).2 := by
        show chO C R wi (nI u) M (chA C R wi (nI u) M (3 - M + d)) (2 - (3 - M + d)) F ss = _
        unfold chO
        rw [if_neg hp, show 2 - (3 - M + d) = M - (d + 1) by omega, if_neg (show ¬ M ≤ M - (d + 1) by omega)]
      rw [e]
      have step : ∀ c, aC (C * R) c → ∀ s t, sqR M (M - (d + 1)) s t → sqR M (M - (d + 1)) (foW C R wi (nI u) (chA C R wi (nI u) M (3 - M + d)) (M - (d + 1)) F c s) (foW C R wi (nI u) (rqA C R wi (nI u) M d) (M - (d + 1)) F c t) := fun c hc s t ht => by
        obtain ⟨x, hx, h1⟩ := f1_N (u := u) (wi := wi) h hn hc
        have hrow : ∀ j, j < M - d → upd s.2.1 (M - (d + 1)) (aOf c (nI C)) j = upd t.2.1 (M - (d + 1)) (aOf c (nI C)) j := fun j hj => by
          by_cases q : j = M - (d + 1)
          · rw [q, upd_s, upd_s]
          · exact (if_neg q).trans ((ht.2 j (by omega)).trans (if_neg q).symm)
        have h2 := ih (V := V + u) (L := L + x) (ss := (s.1, upd s.2.1 (M - (d + 1)) (aOf c (nI C)), s.2.2)) (rs := (t.1, upd t.2.1 (M - (d + 1)) (aOf c (nI C)), t.2.2)) (by omega) hV2 (by omega) h1 ⟨ht.1, hrow⟩
        exact ⟨h2.1, fun j hj => h2.2 j (by omega)⟩
      obtain ⟨-, h3⟩ := chL_R (bu := F.1.2.2) (Q := sqR M (M - (d + 1))) hr (C * R) (fun k hk s t hs => step (nI k) (Or.inr ⟨k, hk, rfl⟩) s t hs)
      exact step (-1) (Or.inl rfl) _ _ h3
theorem rI_ag {C R : Nat} {wi : Int32} (hn : C * R ≤ 64) : ∀ (k : Nat) {F G : zF1}, zAg1 (C * R) F G → zAg1 (C * R) (rqI C R wi k F) (rqI C R wi k G)
  | 0, _, _, h => h
  | k + 1, _, _, h => rI_ag hn k (f1_ag hn h (-1) 0)
theorem rW_ag {C R M : Nat} {wi : Int32} (hn : C * R ≤ 64) {F G : zF1} {rs : zSs} (h : zAg1 (C * R) F G) : rW C R wi M F rs = rW C R wi M G rs := by
  have e : (rqI C R wi (20 - M) F).2 = (rqI C R wi (20 - M) G).2 := (rI_ag hn (20 - M) h).2
  unfold rW
  rw [e]
theorem rA_ag {C R M : Nat} {wi v : Int32} (hn : C * R ≤ 64) : ∀ (d : Nat) {F G : zF1} {rs : zSs}, zAg1 (C * R) F G → rqA C R wi v M d F rs = rqA C R wi v M d G rs
  | 0, _, _, _, h => rW_ag hn h
  | d + 1, F, G, rs, h => by
    have hf : ∀ x ss, foW C R wi v (rqA C R wi v M d) (M - (d + 1)) F x ss = foW C R wi v (rqA C R wi v M d) (M - (d + 1)) G x ss := fun x ss => rA_ag hn d (f1_ag hn h x v)
    show foW C R wi v (rqA C R wi v M d) (M - (d + 1)) F (-1) _ = foW C R wi v (rqA C R wi v M d) (M - (d + 1)) G (-1) _
    rw [hf, chL_ag h.1.2.2 hf rs (C * R) (Nat.le_refl _)]
set_option maxRecDepth 10000 in
theorem rA_t {C R M u : Nat} {wi : Int32} (hn : C * R ≤ 64) : ∀ (d : Nat) {V L : Nat} {F : zF1} {rs : zSs}, L + 64 * (d + 20) ≤ 100000 → nF1 (C * R) V L F → ¬ (rqA C R wi (nI u) M d F rs).1 = -1 := by
  intro d
  induction d with
  | zero =>
    intro V L F rs hL h
    obtain ⟨L2, h2, h3, h4⟩ := rI_N (wi := wi) hn (20 - M) h
    show ¬ (rW C R wi M F rs).1 = -1
    unfold rW
    by_cases q : ¬ rs.1 = -1 ∧ rs.1 ≤ (rqI C R wi (20 - M) F).2.1
    · rw [if_pos q]; exact q.1
    · rw [if_neg q]
      show ¬ (rqI C R wi (20 - M) F).2.1 = -1
      rw [h4]; exact nI_ne1 (by omega)
  | succ d ih =>
    intro V L F rs hL h
    obtain ⟨x, hx, h1⟩ := f1_N (u := u) (wi := wi) (c := -1) h hn (Or.inl rfl)
    exact ih (V := V + u) (L := L + x) (by omega) h1
theorem aims_e {C R M u V L : Nat} {wi : Int32} {F : zF1} (hn : C * R ≤ 64) (hM : M ≤ 3) (hV : V + u * M ≤ 100000) (hL : L + 64 * (M + 20) ≤ 100000) (h : nF1 (C * R) V L F) (row best : Nat → Int32) (s2 : (Nat → Int32) × (Nat → Int32)) : (chA C R wi (nI u) M 3 F (2147483647, s2)).1 = (rqA C R wi (nI u) M M F (-1, row, best)).1 ∧ ∀ j, j < M → (chA C R wi (nI u) M 3 F (2147483647, s2)).2.2 j = (rqA C R wi (nI u) M M F (-1, row, best)).2.2 j := by
  have h1 := rA_ch (u := u) (wi := wi) hn hM M (ss := (2147483647, s2)) (rs := (-1, row, best)) (Nat.le_refl _) hV hL h ⟨Or.inl ⟨rfl, rfl⟩, fun j hj => absurd hj (by omega)⟩
  rw [Nat.sub_add_cancel hM] at h1
  have h2 := rA_t (u := u) (wi := wi) (M := M) (rs := (-1, row, best)) hn M hL h
  rcases h1.1 with ⟨e1, e2⟩ | ⟨q, hq, e1, e2, e3⟩
  · exact absurd e1 h2
  · exact ⟨e2.trans e1.symm, e3⟩
