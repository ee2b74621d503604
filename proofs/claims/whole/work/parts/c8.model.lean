/-! ===== the reference: tryOrder whole ===== -/
set_option maxRecDepth 100000 in
theorem to_17 {l : Launch} {dd : Nat} {h0 : List va_E} (mo : Nat) (e : Nat → Nat) (g : Nat → Int32) (w : Int64) (nw : Nat → Int32) (D : zYd) (M : zRs) (a : Nat → Nat) (n : Nat) (k : Nat) (σ : Nat → Nat) (m : Nat) (od br : Nat → Nat) (o : Option (Nat × (Nat → Nat))) (Q : (Nat → Nat) → Prop) (hd : 3 ≤ dd) (hR : yR D nw) (hD : yI D) (hn : 2 ≤ n ∧ n ≤ 7) (hap : ∀ i, i < n → a i < D.1 0) (hk : k ≤ n) (hpre : tPre D a n k σ m od Q) (hc : chm (oV n) (oC D a n) n Q o) (hB : tBs g br a n o) (h52 : g 52 = nI n) (hlt : ∀ bp b, o = some (bp, b) → pSg D a σ n k < bp) (hrec : k < n → tOr l (dd - 1) mo e w nw D M a n (k + 1)) : zS (l, mX13_tryOrder, dd, (fun r K' => tPost mo e w nw D M a n k σ g od Q r K'), [(mo, .inr (11, fMo e (mg g M.1) w)), ((e 14), .inl (0, 800, .inl nw)), ((e 24), .inl (0, 12, .inl (nF (M.2 24)))), ((e 25), .inl (0, 12, .inl (nF (M.2 25)))), ((e 26), .inl (0, 12, .inl (nF (M.2 26)))), ((e 27), .inl (0, 12, .inl (nF (M.2 27)))), ((e 28), .inl (0, 360, .inl (nF (M.2 28)))), ((e 29), .inl (0, 12, .inl (nF (M.2 29)))), ((e 30), .inl (0, 12, .inl (nF (M.2 30)))), ((e 31), .inl (0, 30, .inl (nF (M.2 31)))), ((e 32), .inl (0, 12, .inl (nF (M.2 32)))), ((e 46), .inl (0, 7, .inl (nF od))), ((e 47), .inl (0, 7, .inl (nF a))), ((e 48), .inl (0, 7, .inl (nF br)))], h0, (fun _ => False), (fun _ => True)) 0 0 17 [(0, .ref mo), (1, .int (nI k)), (2, .int (nI m)), (3, .int (nI (pSg D a σ n k)))] [] [(mo, .inr (11, fMo e (mg g M.1) w)), ((e 14), .inl (0, 800, .inl nw)), ((e 24), .inl (0, 12, .inl (nF (M.2 24)))), ((e 25), .inl (0, 12, .inl (nF (M.2 25)))), ((e 26), .inl (0, 12, .inl (nF (M.2 26)))), ((e 27), .inl (0, 12, .inl (nF (M.2 27)))), ((e 28), .inl (0, 360, .inl (nF (M.2 28)))), ((e 29), .inl (0, 12, .inl (nF (M.2 29)))), ((e 30), .inl (0, 12, .inl (nF (M.2 30)))), ((e 31), .inl (0, 30, .inl (nF (M.2 31)))), ((e 32), .inl (0, 12, .inl (nF (M.2 32)))), ((e 46), .inl (0, 7, .inl (nF od))), ((e 47), .inl (0, 7, .inl (nF a))), ((e 48), .inl (0, 7, .inl (nF br)))] := by
  refine zs_iload_n dX13_tryOrder_17 rfl ?_
  refine zs_aload_n dX13_tryOrder_18 rfl rfl ?_
  refine zs_get 0 dX13_tryOrder_19 zf_RX13_389 rfl (v := .int (g 52)) rfl ?_
  refine zs_as (y := nI n) h52 ?_
  refine zs_icmp_ne (tgt := 60) dX13_tryOrder_22 (by decide) (fun c_1 => ?_) (fun c_1 => ?_)
  · have c_1 : ¬ (k = n) := by have hc := c_1; rw [nI_eq' (by omega) (by omega)] at hc; exact hc
    refine zs_iconst (v := nI 0) dX13_tryOrder_60 (by decide) ?_
    refine zs_istore (lv' := [(4, .int (nI 0)), (0, .ref mo), (1, .int (nI k)), (2, .int (nI m)), (3, .int (nI (pSg D a σ n k)))]) dX13_tryOrder_61 (Nat.le_of_ble_eq_true rfl) rfl ?_
    have hkn : k < n := by omega
    refine zs_lv [1, 2, 3, 4, 0] rfl ?_
    exact lp_to2 (g := g) mo e w nw D M a n k σ m od Q hd hR hD hn hap hkn hpre (hrec hkn) (fun r K1 h => h) n 0 (Nat.zero_add _) g od br o mFr_r h52 (fun p hp => rfl) (chm_q (fun c hV => ⟨fun h => Or.inl h, fun h => h.elim id (fun z => absurd z.2 (Nat.not_lt_zero _))⟩) hc) hB
  · have c_1 : k = n := by have hc := c_1; rw [nI_eq' (by omega) (by omega)] at hc; exact hc
    refine zs_aload_n dX13_tryOrder_25 rfl rfl ?_
    refine zs_iload_n dX13_tryOrder_26 rfl ?_
    refine zs_put 0 dX13_tryOrder_27 zf_RX13_386 rfl (Nat.le_of_ble_eq_true rfl) (zPv_i _) ?_
    show zS _ _ _ _ _ _ [(mo, .inr (11, fMo e (mg (upd g 50 (nI (pSg D a σ n k))) M.1) w)), ((e 14), .inl (0, 800, .inl nw)), ((e 24), .inl (0, 12, .inl (nF (M.2 24)))), ((e 25), .inl (0, 12, .inl (nF (M.2 25)))), ((e 26), .inl (0, 12, .inl (nF (M.2 26)))), ((e 27), .inl (0, 12, .inl (nF (M.2 27)))), ((e 28), .inl (0, 360, .inl (nF (M.2 28)))), ((e 29), .inl (0, 12, .inl (nF (M.2 29)))), ((e 30), .inl (0, 12, .inl (nF (M.2 30)))), ((e 31), .inl (0, 30, .inl (nF (M.2 31)))), ((e 32), .inl (0, 12, .inl (nF (M.2 32)))), ((e 46), .inl (0, 7, .inl (nF od))), ((e 47), .inl (0, 7, .inl (nF a))), ((e 48), .inl (0, 7, .inl (nF br)))]
    refine zs_iconst (v := nI 0) dX13_tryOrder_30 (by decide) ?_
    refine zs_istore (lv' := [(4, .int (nI 0)), (0, .ref mo), (1, .int (nI k)), (2, .int (nI m)), (3, .int (nI (pSg D a σ n k)))]) dX13_tryOrder_31 (Nat.le_of_ble_eq_true rfl) rfl ?_
    refine zs_lv [1, 2, 3, 4, 0] rfl ?_
    refine zs_eq (K' := [(mo, .inr (11, fMo e (mg (upd g 50 (nI (pSg D a σ n k))) M.1) w)), ((e 14), .inl (0, 800, .inl nw)), ((e 24), .inl (0, 12, .inl (nF (M.2 24)))), ((e 25), .inl (0, 12, .inl (nF (M.2 25)))), ((e 26), .inl (0, 12, .inl (nF (M.2 26)))), ((e 27), .inl (0, 12, .inl (nF (M.2 27)))), ((e 28), .inl (0, 360, .inl (nF (M.2 28)))), ((e 29), .inl (0, 12, .inl (nF (M.2 29)))), ((e 30), .inl (0, 12, .inl (nF (M.2 30)))), ((e 31), .inl (0, 30, .inl (nF (M.2 31)))), ((e 32), .inl (0, 12, .inl (nF (M.2 32)))), ((e 46), .inl (0, 7, .inl (nF od))), ((e 47), .inl (0, 7, .inl (nF a))), ((e 48), .inl (0, 7, .inl (nF (nCl od br 0))))]) (by rw [nCl_0]) ?_
    refine lp_to1 mo e (upd g 50 (nI (pSg D a σ n k))) w nw D M a n od br k m (pSg D a σ n k) (by omega) ?_ k 0 (Nat.zero_add _)
    have hkn : k = n := by omega
    subst hkn
    exact zs_vret dX13_tryOrder_59 rfl ⟨rfl, upd g 50 (nI (pSg D a σ k k)), od, nCl od br k, some (pSg D a σ k k, σ), mFr_u mFr_r (by decide), chm_lf hc hpre.1 hpre.2.1 hlt, ⟨rfl, Nat.le_trans (pPd_le hD hn.1 k) (by decide), fun p hp => (nCl_s hp).trans (hpre.2.2.1 p hp)⟩, fun p hp => rfl, rfl⟩
set_option maxRecDepth 100000 in
theorem s_mTryOrder (l : Launch) (mo : Nat) (e : Nat → Nat) (g : Nat → Int32) (w : Int64) (nw : Nat → Int32) (D : zYd) (M : zRs) (a : Nat → Nat) (n : Nat) (hR : yR D nw) (hD : yI D) (hn : 2 ≤ n ∧ n ≤ 7) (hap : ∀ i, i < n → a i < D.1 0) : ∀ (q k dd : Nat), k + q = n → q + 3 ≤ dd → tOr l dd mo e w nw D M a n k := by
  intro q
  induction q with
  | zero =>
    intro k dd hk hd σ m g od br o Q h52 hpre hc hB
    have hk : k ≤ n := by omega
    have hd : 3 ≤ dd := by omega
    have hlg : (pSg D a σ n k) ≤ 100 := pPd_le hD hn.1 k
    have hrec : k < n → tOr l (dd - 1) mo e w nw D M a n (k + 1) := fun h => absurd h (by omega)
    refine zSp.of (by decide) (Nat.le_of_ble_eq_true rfl) (fun h0 => ?_)
    show zS _ 0 0 0 [(0, .ref mo), (1, .int (nI k)), (2, .int (nI m)), (3, .int (nI (pSg D a σ n k)))] [] [(mo, .inr (11, fMo e (mg g M.1) w)), ((e 14), .inl (0, 800, .inl nw)), ((e 24), .inl (0, 12, .inl (nF (M.2 24)))), ((e 25), .inl (0, 12, .inl (nF (M.2 25)))), ((e 26), .inl (0, 12, .inl (nF (M.2 26)))), ((e 27), .inl (0, 12, .inl (nF (M.2 27)))), ((e 28), .inl (0, 360, .inl (nF (M.2 28)))), ((e 29), .inl (0, 12, .inl (nF (M.2 29)))), ((e 30), .inl (0, 12, .inl (nF (M.2 30)))), ((e 31), .inl (0, 30, .inl (nF (M.2 31)))), ((e 32), .inl (0, 12, .inl (nF (M.2 32)))), ((e 46), .inl (0, 7, .inl (nF od))), ((e 47), .inl (0, 7, .inl (nF a))), ((e 48), .inl (0, 7, .inl (nF br)))]
    cases o with
    | none =>
      refine zs_aload_n dX13_tryOrder_0 rfl rfl ?_
      refine zs_get 0 dX13_tryOrder_1 zf_RX13_386 rfl (v := .int (g 50)) rfl ?_
      refine zs_as (y := -1) hB ?_
      refine zs_iconst (v := (-1)) dX13_tryOrder_4 (by decide) ?_
      refine zs_icmp_eq (tgt := 17) dX13_tryOrder_5 (by decide) (fun c_1 => ?_) (fun c_1 => (by first | exact absurd c_1 (by decide) | exact absurd (by decide) c_1 : False).elim)
      refine zs_lv [0, 1, 2, 3] rfl ?_
      exact to_17 mo e g w nw D M a n k σ m od br none Q hd hR hD hn hap hk hpre hc hB h52 (fun bp b h => absurd h (by simp)) hrec
    | some q =>
      obtain ⟨bp, b⟩ := q
      have hbp := hB.2.1
      refine zs_aload_n dX13_tryOrder_0 rfl rfl ?_
      refine zs_get 0 dX13_tryOrder_1 zf_RX13_386 rfl (v := .int (g 50)) rfl ?_
      refine zs_as (y := nI bp) hB.1 ?_
      refine zs_iconst (v := (-1)) dX13_tryOrder_4 (by decide) ?_
      refine zs_icmp_eq (tgt := 17) dX13_tryOrder_5 (by decide) (fun c_1 => (nI_m1 (by omega) c_1 : False).elim) (fun c_1 => ?_)
      refine zs_iload_n dX13_tryOrder_8 rfl ?_
      refine zs_aload_n dX13_tryOrder_9 rfl rfl ?_
      refine zs_get 0 dX13_tryOrder_10 zf_RX13_386 rfl (v := .int (g 50)) rfl ?_
      refine zs_as (y := nI bp) hB.1 ?_
      refine zs_icmp_lt (tgt := 17) dX13_tryOrder_13 (by decide) (fun c_2 => ?_) (fun c_2 => ?_)
      · have c_2 : (pSg D a σ n k) < bp := by have hc := c_2; rw [nI_lt' (by omega) (by omega)] at hc; exact hc
        refine zs_lv [0, 1, 2, 3] rfl ?_
        exact to_17 mo e g w nw D M a n k σ m od br (some (bp, b)) Q hd hR hD hn hap hk hpre hc hB h52 (fun bp' b' h => by cases h; omega) hrec
      · have c_2 : ¬ ((pSg D a σ n k) < bp) := by have hc := c_2; rw [nI_lt' (by omega) (by omega)] at hc; exact hc
        exact zs_vret dX13_tryOrder_16 rfl ⟨rfl, g, od, br, some (bp, b), mFr_r, chm_pr hk hc hpre.2.2.2.2.2 (by omega), hB, fun p hp => rfl, rfl⟩
  | succ q ih =>
    intro k dd hk hd σ m g od br o Q h52 hpre hc hB
    have hrec : k < n → tOr l (dd - 1) mo e w nw D M a n (k + 1) := fun h => ih (k + 1) (dd - 1) (by omega) (by omega)
    have hk : k ≤ n := by omega
    have hd : 3 ≤ dd := by omega
    have hlg : (pSg D a σ n k) ≤ 100 := pPd_le hD hn.1 k
    refine zSp.of (by decide) (Nat.le_of_ble_eq_true rfl) (fun h0 => ?_)
    show zS _ 0 0 0 [(0, .ref mo), (1, .int (nI k)), (2, .int (nI m)), (3, .int (nI (pSg D a σ n k)))] [] [(mo, .inr (11, fMo e (mg g M.1) w)), ((e 14), .inl (0, 800, .inl nw)), ((e 24), .inl (0, 12, .inl (nF (M.2 24)))), ((e 25), .inl (0, 12, .inl (nF (M.2 25)))), ((e 26), .inl (0, 12, .inl (nF (M.2 26)))), ((e 27), .inl (0, 12, .inl (nF (M.2 27)))), ((e 28), .inl (0, 360, .inl (nF (M.2 28)))), ((e 29), .inl (0, 12, .inl (nF (M.2 29)))), ((e 30), .inl (0, 12, .inl (nF (M.2 30)))), ((e 31), .inl (0, 30, .inl (nF (M.2 31)))), ((e 32), .inl (0, 12, .inl (nF (M.2 32)))), ((e 46), .inl (0, 7, .inl (nF od))), ((e 47), .inl (0, 7, .inl (nF a))), ((e 48), .inl (0, 7, .inl (nF br)))]
    cases o with
    | none =>
      refine zs_aload_n dX13_tryOrder_0 rfl rfl ?_
      refine zs_get 0 dX13_tryOrder_1 zf_RX13_386 rfl (v := .int (g 50)) rfl ?_
      refine zs_as (y := -1) hB ?_
      refine zs_iconst (v := (-1)) dX13_tryOrder_4 (by decide) ?_
      refine zs_icmp_eq (tgt := 17) dX13_tryOrder_5 (by decide) (fun c_1 => ?_) (fun c_1 => (by first | exact absurd c_1 (by decide) | exact absurd (by decide) c_1 : False).elim)
      refine zs_lv [0, 1, 2, 3] rfl ?_
      exact to_17 mo e g w nw D M a n k σ m od br none Q hd hR hD hn hap hk hpre hc hB h52 (fun bp b h => absurd h (by simp)) hrec
    | some q =>
      obtain ⟨bp, b⟩ := q
      have hbp := hB.2.1
      refine zs_aload_n dX13_tryOrder_0 rfl rfl ?_
      refine zs_get 0 dX13_tryOrder_1 zf_RX13_386 rfl (v := .int (g 50)) rfl ?_
      refine zs_as (y := nI bp) hB.1 ?_
      refine zs_iconst (v := (-1)) dX13_tryOrder_4 (by decide) ?_
      refine zs_icmp_eq (tgt := 17) dX13_tryOrder_5 (by decide) (fun c_1 => (nI_m1 (by omega) c_1 : False).elim) (fun c_1 => ?_)
      refine zs_iload_n dX13_tryOrder_8 rfl ?_
      refine zs_aload_n dX13_tryOrder_9 rfl rfl ?_
      refine zs_get 0 dX13_tryOrder_10 zf_RX13_386 rfl (v := .int (g 50)) rfl ?_
      refine zs_as (y := nI bp) hB.1 ?_
      refine zs_icmp_lt (tgt := 17) dX13_tryOrder_13 (by decide) (fun c_2 => ?_) (fun c_2 => ?_)
      · have c_2 : (pSg D a σ n k) < bp := by have hc := c_2; rw [nI_lt' (by omega) (by omega)] at hc; exact hc
        refine zs_lv [0, 1, 2, 3] rfl ?_
        exact to_17 mo e g w nw D M a n k σ m od br (some (bp, b)) Q hd hR hD hn hap hk hpre hc hB h52 (fun bp' b' h => by cases h; omega) hrec
      · have c_2 : ¬ ((pSg D a σ n k) < bp) := by have hc := c_2; rw [nI_lt' (by omega) (by omega)] at hc; exact hc
        exact zs_vret dX13_tryOrder_16 rfl ⟨rfl, g, od, br, some (bp, b), mFr_r, chm_pr hk hc hpre.2.2.2.2.2 (by omega), hB, fun p hp => rfl, rfl⟩
