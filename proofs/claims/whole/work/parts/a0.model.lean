/-! ===== the reference: a sentence as a tree, and the readers of its ones ===== -/
/-- node k is the root of what the steps a to k say -/
def sTr (nd : Nat → Int32) (S : zSe) : Nat → Nat → Nat → Prop
  | 0, _, _ => False
  | q + 1, k, a =>
    (k = a ∧ nd (4 * k) = nI 4 ∧ S.2.2.1 k = 0) ∨
    (k = a ∧ nd (4 * k) = nI 5 ∧ 1 ≤ S.2.2.1 k ∧ S.2.2.1 k ≤ 5 ∧ nd (4 * k + 1) = nI (S.2.2.1 k - 1) ∧ nd (4 * k + 2) = nI (S.2.2.2.2 k) ∧ nd (4 * k + 3) = nI (S.2.2.2.1 k) ∧ S.2.2.2.2 k ≤ 99999999 ∧ (S.2.2.2.1 k = 60 ∨ S.2.2.2.1 k = 61 ∨ S.2.2.2.1 k = 62)) ∨
    (∃ x, k = x + 1 ∧ nd (4 * k) = nI 1 ∧ nd (4 * k + 1) = nI x ∧ S.2.2.1 k = 6 ∧ sTr nd S q x a) ∨
    (∃ x y, k = y + 1 ∧ a ≤ x ∧ x < y ∧ ((S.2.2.1 k = 7 ∧ nd (4 * k) = nI 2) ∨ (S.2.2.1 k = 8 ∧ nd (4 * k) = nI 3)) ∧ nd (4 * k + 1) = nI x ∧ nd (4 * k + 2) = nI y ∧ sTr nd S q x a ∧ sTr nd S q y (x + 1))
theorem sTr_s {nd : Nat → Int32} {S : zSe} : ∀ (q k a : Nat), sTr nd S q k a → sTr nd S (q + 1) k a
  | 0, _, _, h => h.elim
  | q + 1, k, a, h => by
    rcases h with h | h | ⟨x, h1, h2, h3, h4, h5⟩ | ⟨x, y, h1, h2, h3, h4, h5, h6, h7, h8⟩
    · exact Or.inl h
    · exact Or.inr (Or.inl h)
    · exact Or.inr (Or.inr (Or.inl ⟨x, h1, h2, h3, h4, sTr_s q x a h5⟩))
    · exact Or.inr (Or.inr (Or.inr ⟨x, y, h1, h2, h3, h4, h5, h6, sTr_s q x a h7, sTr_s q y (x + 1) h8⟩))
theorem sTr_a {nd : Nat → Int32} {S : zSe} {q k a : Nat} (h : sTr nd S q k a) : ∀ r, sTr nd S (q + r) k a
  | 0 => h
  | r + 1 => sTr_s _ _ _ (sTr_a h r)
theorem sTr_l {nd : Nat → Int32} {S : zSe} {q q' k a : Nat} (h : sTr nd S q k a) (hq : q ≤ q') : sTr nd S q' k a := by
  have := sTr_a h (q' - q)
  rwa [show q + (q' - q) = q' by omega] at this
/-- the tree at k -/
def sT (nd : Nat → Int32) (S : zSe) (k a : Nat) : Prop := sTr nd S (k + 1) k a
/-- what was said and laid before stays -/
def sAl (nd nd' : Nat → Int32) (S S' : zSe) : Prop := S.2.1 ≤ S'.2.1 ∧ (∀ j, j < 4 * S.2.1 → nd' j = nd j) ∧ (∀ i, i < S.2.1 → S'.2.2.1 i = S.2.2.1 i ∧ S'.2.2.2.1 i = S.2.2.2.1 i ∧ S'.2.2.2.2 i = S.2.2.2.2 i)
theorem sAl_r {nd : Nat → Int32} {S : zSe} : sAl nd nd S S := ⟨Nat.le_refl _, fun _ _ => rfl, fun _ _ => ⟨rfl, rfl, rfl⟩⟩
theorem sAl_t {n1 n2 n3 : Nat → Int32} {S1 S2 S3 : zSe} (h : sAl n1 n2 S1 S2) (h2 : sAl n2 n3 S2 S3) : sAl n1 n3 S1 S3 := by
  obtain ⟨a1, a2, a3⟩ := h
  obtain ⟨b1, b2, b3⟩ := h2
  refine ⟨by omega, fun j hj => (b2 j (by omega)).trans (a2 j hj), fun i hi => ?_⟩
  have c1 := a3 i hi
  have c2 := b3 i (by omega)
  exact ⟨c2.1.trans c1.1, c2.2.1.trans c1.2.1, c2.2.2.trans c1.2.2⟩
theorem sTr_o {nd nd' : Nat → Int32} {S S' : zSe} {m : Nat} (h1 : ∀ j, j < 4 * m → nd' j = nd j) (h2 : ∀ i, i < m → S'.2.2.1 i = S.2.2.1 i ∧ S'.2.2.2.1 i = S.2.2.2.1 i ∧ S'.2.2.2.2 i = S.2.2.2.2 i) : ∀ (q k a : Nat), k < m → sTr nd S q k a → sTr nd' S' q k a
  | 0, _, _, _, h => h.elim
  | q + 1, k, a, hk, h => by
    have e := h2 k hk
    rcases h with ⟨c1, c2, c3⟩ | ⟨c1, c2, c3, c4, c5, c6, c7, c8, c9⟩ | ⟨x, c1, c2, c3, c4, c5⟩ | ⟨x, y, c1, c2, c3, c4, c5, c6, c7, c8⟩
    · exact Or.inl ⟨c1, by rw [h1 _ (by omega)]; exact c2, by rw [e.1]; exact c3⟩
    · exact Or.inr (Or.inl ⟨c1, by rw [h1 _ (by omega)]; exact c2, by rw [e.1]; exact c3, by rw [e.1]; exact c4, by rw [h1 _ (by omega), e.1]; exact c5, by rw [h1 _ (by omega), e.2.2]; exact c6, by rw [h1 _ (by omega), e.2.1]; exact c7, by rw [e.2.2]; exact c8, by rw [e.2.1]; exact c9⟩)
    · exact Or.inr (Or.inr (Or.inl ⟨x, c1, by rw [h1 _ (by omega)]; exact c2, by rw [h1 _ (by omega)]; exact c3, by rw [e.1]; exact c4, sTr_o h1 h2 q x a (by omega) c5⟩))
    · exact Or.inr (Or.inr (Or.inr ⟨x, y, c1, c2, c3, by rw [e.1, h1 _ (by omega)]; exact c4, by rw [h1 _ (by omega)]; exact c5, by rw [h1 _ (by omega)]; exact c6, sTr_o h1 h2 q x a (by omega) c7, sTr_o h1 h2 q y (x + 1) (by omega) c8⟩))
theorem sT_o {nd nd' : Nat → Int32} {S S' : zSe} {k a : Nat} (h : sAl nd nd' S S') (hk : k < S.2.1) (ht : sT nd S k a) : sT nd' S' k a := sTr_o h.2.1 h.2.2 _ _ _ hk ht
/-- a node laid -/
def nLay (nd : Nat → Int32) (k : Nat) (w a b r : Int32) : Nat → Int32 := upd (upd (upd (upd nd (4 * k) w) (4 * k + 1) a) (4 * k + 2) b) (4 * k + 3) r
theorem nLay_o {nd : Nat → Int32} {k j : Nat} {w a b r : Int32} (h : j < 4 * k) : nLay nd k w a b r j = nd j := by
  unfold nLay
  rw [upd_x (by omega), upd_x (by omega), upd_x (by omega), upd_x (by omega)]
theorem nLay_0 {nd : Nat → Int32} {k : Nat} {w a b r : Int32} : nLay nd k w a b r (4 * k) = w ∧ nLay nd k w a b r (4 * k + 1) = a ∧ nLay nd k w a b r (4 * k + 2) = b ∧ nLay nd k w a b r (4 * k + 3) = r := by
  unfold nLay
  refine ⟨?_, ?_, ?_, upd_s _ _ _⟩
  · rw [upd_x (by omega), upd_x (by omega), upd_x (by omega), upd_s]
  · rw [upd_x (by omega), upd_x (by omega), upd_s]
  · rw [upd_x (by omega), upd_s]
theorem sAl_ad {nd : Nat → Int32} {S : zSe} {w a b r : Int32} {j c v : Nat} : sAl nd (nLay nd S.2.1 w a b r) S (sAd S j c v) :=
  ⟨Nat.le_succ _, fun j hj => nLay_o hj, fun i hi => ⟨un_n (by omega), un_n (by omega), un_n (by omega)⟩⟩
theorem sT_out {nd : Nat → Int32} {S : zSe} {a b r : Int32} : sT (nLay nd S.2.1 (nI 4) a b r) (sAd S 0 0 0) S.2.1 S.2.1 := Or.inl ⟨rfl, nLay_0.1, un_s _ _ _⟩
theorem sT_cmp {nd : Nat → Int32} {S : zSe} {m c v : Nat} (hm : 1 ≤ m ∧ m ≤ 5) (hv : v ≤ 99999999) (hc : c = 60 ∨ c = 61 ∨ c = 62) : sT (nLay nd S.2.1 (nI 5) (nI (m - 1)) (nI v) (nI c)) (sAd S m c v) S.2.1 S.2.1 := by
  have e := nLay_0 (nd := nd) (k := S.2.1) (w := nI 5) (a := nI (m - 1)) (b := nI v) (r := nI c)
  have e1 : (sAd S m c v).2.2.1 S.2.1 = m := un_s _ _ _
  have e2 : (sAd S m c v).2.2.2.1 S.2.1 = c := un_s _ _ _
  have e3 : (sAd S m c v).2.2.2.2 S.2.1 = v := un_s _ _ _
  exact Or.inr (Or.inl ⟨rfl, e.1, by rw [e1]; exact hm.1, by rw [e1]; exact hm.2, by rw [e1]; exact e.2.1, by rw [e3]; exact e.2.2.1, by rw [e2]; exact e.2.2.2, by rw [e3]; exact hv, by rw [e2]; exact hc⟩)
theorem sT_not {nd : Nat → Int32} {S : zSe} {a : Nat} {b r : Int32} (hS : 1 ≤ S.2.1) (h : sT nd S (S.2.1 - 1) a) : sT (nLay nd S.2.1 (nI 1) (nI (S.2.1 - 1)) b r) (sAd S 6 0 0) S.2.1 a := by
  have e := nLay_0 (nd := nd) (k := S.2.1) (w := nI 1) (a := nI (S.2.1 - 1)) (b := b) (r := r)
  have h2 := sT_o (sAl_ad (nd := nd) (S := S) (w := nI 1) (a := nI (S.2.1 - 1)) (b := b) (r := r) (j := 6) (c := 0) (v := 0)) (show S.2.1 - 1 < S.2.1 by omega) h
  exact Or.inr (Or.inr (Or.inl ⟨S.2.1 - 1, by omega, e.1, e.2.1, un_s _ _ _, sTr_l h2 (by omega)⟩))
theorem sT_two {nd : Nat → Int32} {S : zSe} {a x j w : Nat} {r : Int32} (hj : (j = 7 ∧ w = 2) ∨ (j = 8 ∧ w = 3)) (hx : a ≤ x ∧ x + 1 < S.2.1) (h1 : sT nd S x a) (h : sT nd S (S.2.1 - 1) (x + 1)) : sT (nLay nd S.2.1 (nI w) (nI x) (nI (S.2.1 - 1)) r) (sAd S j 0 0) S.2.1 a := by
  have e := nLay_0 (nd := nd) (k := S.2.1) (w := nI w) (a := nI x) (b := nI (S.2.1 - 1)) (r := r)
  have al := sAl_ad (nd := nd) (S := S) (w := nI w) (a := nI x) (b := nI (S.2.1 - 1)) (r := r) (j := j) (c := 0) (v := 0)
  have h2 := sT_o al (show S.2.1 - 1 < S.2.1 by omega) h
  have h3 := sT_o al (show x < S.2.1 by omega) h1
  refine Or.inr (Or.inr (Or.inr ⟨x, S.2.1 - 1, by omega, hx.1, by omega, ?_, e.2.1, e.2.2.1, sTr_l h3 (by omega), sTr_l h2 (by omega)⟩))
  rcases hj with ⟨rfl, rfl⟩ | ⟨rfl, rfl⟩
  · exact Or.inl ⟨un_s _ _ _, e.1⟩
  · exact Or.inr ⟨un_s _ _ _, e.1⟩
theorem tNu_mx {t : zTk} (h : tOK t) : tNu t 0 2147483647 = tNu t 0 99999999 := by
  unfold tNu
  by_cases h3 : t.1 = 3
  · have := h.2.2.2.2.1 h3
    rw [if_pos h3, if_pos h3, if_neg (show ¬ 2147483647 < t.2.2.2.1 by omega), if_neg (show ¬ 99999999 < t.2.2.2.1 by omega)]
  · rw [if_neg h3, if_neg h3]
theorem mFr_fs {g g1 : Nat → Int32} {k : Nat} {t : zTk} (h : mFr [5, 6, 7, 8, 9, 13, 87, 88, 90] g g1) : mFr [5, 6, 7, 8, 9, 10, 11, 13, 87, 88, 90] g (mFa g1 k t) := mFr_u (mFr_u (fun j hj => h j (fun hq => hj ((by decide : ∀ x ∈ [5, 6, 7, 8, 9, 13, 87, 88, 90], x ∈ [5, 6, 7, 8, 9, 10, 11, 13, 87, 88, 90]) j hq))) (by decide)) (by decide)
theorem dX13_lays_0 : decode cX13_lays 0 = .ok (.iconst 4, 1) := by decide +kernel
theorem dX13_lays_1 : decode cX13_lays 1 = .ok (.aload_n 0, 1) := by decide +kernel
theorem dX13_lays_2 : decode cX13_lays 2 = .ok (.getfield 503, 3) := by decide +kernel
theorem dX13_lays_5 : decode cX13_lays 5 = .ok (.imul, 1) := by decide +kernel
theorem dX13_lays_6 : decode cX13_lays 6 = .ok (.istore 5, 2) := by decide +kernel
theorem dX13_lays_8 : decode cX13_lays 8 = .ok (.aload_n 0, 1) := by decide +kernel
theorem dX13_lays_9 : decode cX13_lays 9 = .ok (.getfield 145, 3) := by decide +kernel
theorem dX13_lays_12 : decode cX13_lays 12 = .ok (.iload 5, 2) := by decide +kernel
theorem dX13_lays_14 : decode cX13_lays 14 = .ok (.iload_n 1, 1) := by decide +kernel
theorem dX13_lays_15 : decode cX13_lays 15 = .ok (.iastore, 1) := by decide +kernel
theorem dX13_lays_16 : decode cX13_lays 16 = .ok (.aload_n 0, 1) := by decide +kernel
theorem dX13_lays_17 : decode cX13_lays 17 = .ok (.getfield 145, 3) := by decide +kernel
theorem dX13_lays_20 : decode cX13_lays 20 = .ok (.iload 5, 2) := by decide +kernel
theorem dX13_lays_22 : decode cX13_lays 22 = .ok (.iconst 1, 1) := by decide +kernel
theorem dX13_lays_23 : decode cX13_lays 23 = .ok (.iadd, 1) := by decide +kernel
theorem dX13_lays_24 : decode cX13_lays 24 = .ok (.iload_n 2, 1) := by decide +kernel
theorem dX13_lays_25 : decode cX13_lays 25 = .ok (.iastore, 1) := by decide +kernel
theorem dX13_lays_26 : decode cX13_lays 26 = .ok (.aload_n 0, 1) := by decide +kernel
theorem dX13_lays_27 : decode cX13_lays 27 = .ok (.getfield 145, 3) := by decide +kernel
theorem dX13_lays_30 : decode cX13_lays 30 = .ok (.iload 5, 2) := by decide +kernel
theorem dX13_lays_32 : decode cX13_lays 32 = .ok (.iconst 2, 1) := by decide +kernel
theorem dX13_lays_33 : decode cX13_lays 33 = .ok (.iadd, 1) := by decide +kernel
theorem dX13_lays_34 : decode cX13_lays 34 = .ok (.iload_n 3, 1) := by decide +kernel
theorem dX13_lays_35 : decode cX13_lays 35 = .ok (.iastore, 1) := by decide +kernel
theorem dX13_lays_36 : decode cX13_lays 36 = .ok (.aload_n 0, 1) := by decide +kernel
theorem dX13_lays_37 : decode cX13_lays 37 = .ok (.getfield 145, 3) := by decide +kernel
theorem dX13_lays_40 : decode cX13_lays 40 = .ok (.iload 5, 2) := by decide +kernel
theorem dX13_lays_42 : decode cX13_lays 42 = .ok (.iconst 3, 1) := by decide +kernel
theorem dX13_lays_43 : decode cX13_lays 43 = .ok (.iadd, 1) := by decide +kernel
theorem dX13_lays_44 : decode cX13_lays 44 = .ok (.iload 4, 2) := by decide +kernel
theorem dX13_lays_46 : decode cX13_lays 46 = .ok (.iastore, 1) := by decide +kernel
theorem dX13_lays_47 : decode cX13_lays 47 = .ok (.aload_n 0, 1) := by decide +kernel
theorem dX13_lays_48 : decode cX13_lays 48 = .ok (.dup, 1) := by decide +kernel
theorem dX13_lays_49 : decode cX13_lays 49 = .ok (.getfield 503, 3) := by decide +kernel
theorem dX13_lays_52 : decode cX13_lays 52 = .ok (.iconst 1, 1) := by decide +kernel
theorem dX13_lays_53 : decode cX13_lays 53 = .ok (.iadd, 1) := by decide +kernel
theorem dX13_lays_54 : decode cX13_lays 54 = .ok (.putfield 503, 3) := by decide +kernel
theorem dX13_lays_57 : decode cX13_lays 57 = .ok (.aload_n 0, 1) := by decide +kernel
theorem dX13_lays_58 : decode cX13_lays 58 = .ok (.getfield 503, 3) := by decide +kernel
theorem dX13_lays_61 : decode cX13_lays 61 = .ok (.iconst 1, 1) := by decide +kernel
theorem dX13_lays_62 : decode cX13_lays 62 = .ok (.isub, 1) := by decide +kernel
theorem dX13_lays_63 : decode cX13_lays 63 = .ok (.ireturn, 1) := by decide +kernel
set_option maxRecDepth 100000 in
theorem s_mLays (l : Launch) (dd : Nat) (mo : Nat) (e : Nat → Nat) (g : Nat → Int32) (w : Int64) (nd : Nat → Int32) (k : Nat) (x a b r : Int32) (hk : k < 60) (h87 : g 87 = nI k) : zSp l mX13_lays dd 0 0 [.ref mo, .int x, .int a, .int b, .int r] [(mo, .inr (11, fMo e g w)), ((e 86), .inl (0, 240, .inl nd))] (fun rr K' => rr = some (.int (nI k)) ∧ K' = [(mo, .inr (11, fMo e (upd g 87 (nI (k + 1))) w))] ++ [((e 86), .inl (0, 240, .inl (nLay nd k x a b r)))]) := by
  refine zSp.of (by decide) (Nat.le_of_ble_eq_true rfl) (fun h0 => ?_)
  show zS _ 0 0 0 [(0, .ref mo), (1, .int x), (2, .int a), (3, .int b), (4, .int r)] [] [(mo, .inr (11, fMo e g w)), ((e 86), .inl (0, 240, .inl nd))]
  refine zs_iconst (v := nI 4) dX13_lays_0 (by decide) ?_
  refine zs_aload_n dX13_lays_1 rfl rfl ?_
  refine zs_get 0 dX13_lays_2 zf_RX13_503 rfl (v := .int (g 87)) rfl ?_
  refine zs_as (y := nI k) h87 ?_
  refine zs_imul dX13_lays_5 ?_
  refine zs_as (y := nI (4 * k)) (nI_mul _ _) ?_
  refine zs_istore (lv' := [(5, .int (nI (4 * k))), (0, .ref mo), (1, .int x), (2, .int a), (3, .int b), (4, .int r)]) dX13_lays_6 (Nat.le_of_ble_eq_true rfl) rfl ?_
  refine zs_aload_n dX13_lays_8 rfl rfl ?_
  refine zs_get 0 dX13_lays_9 zf_RX13_145 rfl (v := .ref (e 86)) rfl ?_
  refine zs_iload dX13_lays_12 rfl ?_
  refine zs_iload_n dX13_lays_14 rfl ?_
  refine zs_iast 1 dX13_lays_15 rfl (vp_in_nI (by omega) (by omega)) ?_
  rw [nI_c (n := 4 * k) (by omega)]
  show zS _ _ _ _ _ _ [(mo, .inr (11, fMo e g w)), ((e 86), .inl (0, 240, .inl (upd nd (4 * k) x)))]
  refine zs_aload_n dX13_lays_16 rfl rfl ?_
  refine zs_get 0 dX13_lays_17 zf_RX13_145 rfl (v := .ref (e 86)) rfl ?_
  refine zs_iload dX13_lays_20 rfl ?_
  refine zs_iconst (v := nI 1) dX13_lays_22 (by decide) ?_
  refine zs_iadd dX13_lays_23 ?_
  refine zs_as (y := nI ((4 * k) + 1)) (nI_add _ _) ?_
  refine zs_iload_n dX13_lays_24 rfl ?_
  refine zs_iast 1 dX13_lays_25 rfl (vp_in_nI (by omega) (by omega)) ?_
  rw [nI_c (n := (4 * k) + 1) (by omega)]
  show zS _ _ _ _ _ _ [(mo, .inr (11, fMo e g w)), ((e 86), .inl (0, 240, .inl (upd (upd nd (4 * k) x) ((4 * k) + 1) a)))]
  refine zs_aload_n dX13_lays_26 rfl rfl ?_
  refine zs_get 0 dX13_lays_27 zf_RX13_145 rfl (v := .ref (e 86)) rfl ?_
  refine zs_iload dX13_lays_30 rfl ?_
  refine zs_iconst (v := nI 2) dX13_lays_32 (by decide) ?_
  refine zs_iadd dX13_lays_33 ?_
  refine zs_as (y := nI ((4 * k) + 2)) (nI_add _ _) ?_
  refine zs_iload_n dX13_lays_34 rfl ?_
  refine zs_iast 1 dX13_lays_35 rfl (vp_in_nI (by omega) (by omega)) ?_
  rw [nI_c (n := (4 * k) + 2) (by omega)]
  show zS _ _ _ _ _ _ [(mo, .inr (11, fMo e g w)), ((e 86), .inl (0, 240, .inl (upd (upd (upd nd (4 * k) x) ((4 * k) + 1) a) ((4 * k) + 2) b)))]
  refine zs_aload_n dX13_lays_36 rfl rfl ?_
  refine zs_get 0 dX13_lays_37 zf_RX13_145 rfl (v := .ref (e 86)) rfl ?_
  refine zs_iload dX13_lays_40 rfl ?_
  refine zs_iconst (v := nI 3) dX13_lays_42 (by decide) ?_
  refine zs_iadd dX13_lays_43 ?_
  refine zs_as (y := nI ((4 * k) + 3)) (nI_add _ _) ?_
  refine zs_iload dX13_lays_44 rfl ?_
  refine zs_iast 1 dX13_lays_46 rfl (vp_in_nI (by omega) (by omega)) ?_
  rw [nI_c (n := (4 * k) + 3) (by omega)]
  show zS _ _ _ _ _ _ [(mo, .inr (11, fMo e g w)), ((e 86), .inl (0, 240, .inl (upd (upd (upd (upd nd (4 * k) x) ((4 * k) + 1) a) ((4 * k) + 2) b) ((4 * k) + 3) r)))]
  refine zs_aload_n dX13_lays_47 rfl rfl ?_
  refine zs_dup dX13_lays_48 rfl ?_
  refine zs_get 0 dX13_lays_49 zf_RX13_503 rfl (v := .int (g 87)) rfl ?_
  refine zs_as (y := nI k) h87 ?_
  refine zs_iconst (v := nI 1) dX13_lays_52 (by decide) ?_
  refine zs_iadd dX13_lays_53 ?_
  refine zs_as (y := nI (k + 1)) (nI_add _ _) ?_
  refine zs_put 0 dX13_lays_54 zf_RX13_503 rfl (Nat.le_of_ble_eq_true rfl) (zPv_i _) ?_
  show zS _ _ _ _ _ _ [(mo, .inr (11, fMo e (upd g 87 (nI (k + 1))) w)), ((e 86), .inl (0, 240, .inl (upd (upd (upd (upd nd (4 * k) x) ((4 * k) + 1) a) ((4 * k) + 2) b) ((4 * k) + 3) r)))]
  refine zs_aload_n dX13_lays_57 rfl rfl ?_
  refine zs_get 0 dX13_lays_58 zf_RX13_503 rfl (v := .int (nI (k + 1))) rfl ?_
  refine zs_iconst (v := nI 1) dX13_lays_61 (by decide) ?_
  refine zs_isub dX13_lays_62 ?_
  refine zs_as (y := nI ((k + 1) - 1)) (nI_sub (by omega)) ?_
  refine zs_as (y := nI k) (congrArg nI (by omega)) ?_
  exact zs_iret dX13_lays_63 rfl ⟨rfl, rfl⟩
/-- what a reader of the reference makes of it, by what the class's makes -/
abbrev sPo (mo : Nat) (e : Nat → Nat) (n L : Nat) (bt : Nat → Nat) (S : zSe) (g nd : Nat → Int32) (G : zPs) (r : Option Value) (K' : zK) : Prop :=
  (G.1 = 0 ∧ r = some (.int 1) ∧ ∃ g' w' nd', mFr [5, 6, 7, 8, 9, 13, 87, 88, 90] g g' ∧ mTk n L G.2.1 g' w' ∧ tW n L G.2.1 ∧ g' 87 = nI G.2.2.2.2.1 ∧ g' 88 = nI G.2.2.2.1 ∧ g' 90 = nI (G.2.2.2.2.1 - 1) ∧ S.2.1 < G.2.2.2.2.1 ∧ sAl nd nd' S G.2.2.2 ∧ sT nd' G.2.2.2 (G.2.2.2.2.1 - 1) S.2.1 ∧ K' = [(mo, .inr (11, fMo e g' w')), ((e 1), .inl (0, 740, .inl (nF bt))), ((e 86), .inl (0, 240, .inl (nd')))]) ∨
  (¬ G.1 = 0 ∧ r = some (.int 0) ∧ ∃ g' w' nd', mFr [5, 6, 7, 8, 9, 10, 11, 13, 87, 88, 90] g g' ∧ g' 10 = nI G.1 ∧ g' 11 = nI G.2.1.2.1 ∧ K' = [(mo, .inr (11, fMo e g' w')), ((e 1), .inl (0, 740, .inl (nF bt))), ((e 86), .inl (0, 240, .inl (nd')))])
/-- a reader of the reference reads as f does -/
def rCt (l : Launch) (me : zM) (dd d : Nat) (mo : Nat) (e : Nat → Nat) (n L : Nat) (bt : Nat → Nat) (f : zTk → Nat → zSe → zPs) : Prop := ∀ (t : zTk) (tk : Nat) (S : zSe) (g : Nat → Int32) (w : Int64) (nd : Nat → Int32), g 3 = nI n → g 4 = nI L → mTk n L t g w → tW n L t → tOK t → tk ≤ 99999999 → sB S → g 87 = nI S.2.1 → g 88 = nI S.1 → g 89 = nI (8 - d) → zSp l me dd 0 0 [.ref mo] [(mo, .inr (11, fMo e g w)), ((e 1), .inl (0, 740, .inl (nF bt))), ((e 86), .inl (0, 240, .inl nd))] (fun r K' => sPo mo e n L bt S g nd (f t tk S) r K')
theorem dX13_readCompare_0 : decode cX13_readCompare 0 = .ok (.aload_n 0, 1) := by decide +kernel
theorem dX13_readCompare_1 : decode cX13_readCompare 1 = .ok (.bipush 60, 2) := by decide +kernel
theorem dX13_readCompare_3 : decode cX13_readCompare 3 = .ok (.invokevirtual 229, 3) := by decide +kernel
theorem dX13_readCompare_6 : decode cX13_readCompare 6 = .ok (.ifCond .ne 27, 3) := by decide +kernel
theorem dX13_readCompare_9 : decode cX13_readCompare 9 = .ok (.aload_n 0, 1) := by decide +kernel
theorem dX13_readCompare_10 : decode cX13_readCompare 10 = .ok (.bipush 61, 2) := by decide +kernel
theorem dX13_readCompare_12 : decode cX13_readCompare 12 = .ok (.invokevirtual 229, 3) := by decide +kernel
theorem dX13_readCompare_15 : decode cX13_readCompare 15 = .ok (.ifCond .ne 18, 3) := by decide +kernel
theorem dX13_readCompare_18 : decode cX13_readCompare 18 = .ok (.aload_n 0, 1) := by decide +kernel
theorem dX13_readCompare_19 : decode cX13_readCompare 19 = .ok (.bipush 62, 2) := by decide +kernel
theorem dX13_readCompare_21 : decode cX13_readCompare 21 = .ok (.invokevirtual 229, 3) := by decide +kernel
theorem dX13_readCompare_24 : decode cX13_readCompare 24 = .ok (.ifCond .ne 9, 3) := by decide +kernel
theorem dX13_readCompare_27 : decode cX13_readCompare 27 = .ok (.aload_n 0, 1) := by decide +kernel
theorem dX13_readCompare_28 : decode cX13_readCompare 28 = .ok (.iconst 1, 1) := by decide +kernel
theorem dX13_readCompare_29 : decode cX13_readCompare 29 = .ok (.invokevirtual 216, 3) := by decide +kernel
theorem dX13_readCompare_32 : decode cX13_readCompare 32 = .ok (.ireturn, 1) := by decide +kernel
theorem dX13_readCompare_33 : decode cX13_readCompare 33 = .ok (.aload_n 0, 1) := by decide +kernel
theorem dX13_readCompare_34 : decode cX13_readCompare 34 = .ok (.getfield 180, 3) := by decide +kernel
theorem dX13_readCompare_37 : decode cX13_readCompare 37 = .ok (.istore_n 2, 1) := by decide +kernel
theorem dX13_readCompare_38 : decode cX13_readCompare 38 = .ok (.aload_n 0, 1) := by decide +kernel
theorem dX13_readCompare_39 : decode cX13_readCompare 39 = .ok (.invokevirtual 226, 3) := by decide +kernel
theorem dX13_readCompare_42 : decode cX13_readCompare 42 = .ok (.aload_n 0, 1) := by decide +kernel
theorem dX13_readCompare_43 : decode cX13_readCompare 43 = .ok (.iconst 0, 1) := by decide +kernel
theorem dX13_readCompare_44 : decode cX13_readCompare 44 = .ok (.ldc_w 536, 3) := by decide +kernel
theorem dX13_readCompare_47 : decode cX13_readCompare 47 = .ok (.invokevirtual 251, 3) := by decide +kernel
theorem dX13_readCompare_50 : decode cX13_readCompare 50 = .ok (.ifCond .ne 5, 3) := by decide +kernel
theorem dX13_readCompare_53 : decode cX13_readCompare 53 = .ok (.iconst 0, 1) := by decide +kernel
theorem dX13_readCompare_54 : decode cX13_readCompare 54 = .ok (.ireturn, 1) := by decide +kernel
theorem dX13_readCompare_55 : decode cX13_readCompare 55 = .ok (.aload_n 0, 1) := by decide +kernel
theorem dX13_readCompare_56 : decode cX13_readCompare 56 = .ok (.aload_n 0, 1) := by decide +kernel
theorem dX13_readCompare_57 : decode cX13_readCompare 57 = .ok (.iconst 5, 1) := by decide +kernel
theorem dX13_readCompare_58 : decode cX13_readCompare 58 = .ok (.iload_n 1, 1) := by decide +kernel
theorem dX13_readCompare_59 : decode cX13_readCompare 59 = .ok (.bipush 24, 2) := by decide +kernel
theorem dX13_readCompare_61 : decode cX13_readCompare 61 = .ok (.isub, 1) := by decide +kernel
theorem dX13_readCompare_62 : decode cX13_readCompare 62 = .ok (.aload_n 0, 1) := by decide +kernel
theorem dX13_readCompare_63 : decode cX13_readCompare 63 = .ok (.getfield 223, 3) := by decide +kernel
theorem dX13_readCompare_66 : decode cX13_readCompare 66 = .ok (.iload_n 2, 1) := by decide +kernel
theorem dX13_readCompare_67 : decode cX13_readCompare 67 = .ok (.invokevirtual 512, 3) := by decide +kernel
theorem dX13_readCompare_70 : decode cX13_readCompare 70 = .ok (.putfield 509, 3) := by decide +kernel
theorem dX13_readCompare_73 : decode cX13_readCompare 73 = .ok (.iconst 1, 1) := by decide +kernel
theorem dX13_readCompare_74 : decode cX13_readCompare 74 = .ok (.ireturn, 1) := by decide +kernel
theorem tAt_i {t : zTk} {c : Nat} (h : tAt t c = true) : t.1 = 4 ∧ t.2.2.2.1 = c := by
  rw [tAt, Bool.and_eq_true] at h
  exact ⟨of_decide_eq_true h.1, of_decide_eq_true h.2⟩
set_option maxRecDepth 100000 in
theorem s_mReadCompare (l : Launch) (dd : Nat) (mo : Nat) (e : Nat → Nat) (n L : Nat) (bt : Nat → Nat) (k : Nat) (t : zTk) (tk : Nat) (S : zSe) (g : Nat → Int32) (w : Int64) (nd : Nat → Int32) (hd : 3 ≤ dd) (hn : n ≤ 740) (hL : L ≤ 740) (hbt : ∀ j, bt j < 256) (hk : 24 ≤ k ∧ k ≤ 28) (h3 : g 3 = nI n) (h4 : g 4 = nI L) (hT : mTk n L t g w) (hW : tW n L t) (hO : tOK t) (htk : tk ≤ 99999999) (hS : sB S) (h87 : g 87 = nI S.2.1) (h88 : g 88 = nI S.1) (h40 : S.2.1 < 40) : zSp l mX13_readCompare dd 0 0 [.ref mo, .int (nI k)] [(mo, .inr (11, fMo e g w)), ((e 1), .inl (0, 740, .inl (nF bt))), ((e 86), .inl (0, 240, .inl nd))] (fun r K' => sPo mo e n L bt S g nd (sCmp bt n L (k - 23) t tk S) r K') := by
  refine zSp.of (by decide) (Nat.le_of_ble_eq_true rfl) (fun h0 => ?_)
  show zS _ 0 0 0 [(0, .ref mo), (1, .int (nI k))] [] [(mo, .inr (11, fMo e g w)), ((e 1), .inl (0, 740, .inl (nF bt))), ((e 86), .inl (0, 240, .inl nd))]
  refine zs_aload_n dX13_readCompare_0 rfl rfl ?_
  refine zs_bipush (v := nI 60) dX13_readCompare_1 (by decide) ?_
  refine zs_callV (M := mX13_isSign) (As := [.int (nI 60)]) (st := []) (Kc := [(mo, .inr (11, fMo e g w))]) (Kr := [((e 1), .inl (0, 740, .inl (nF bt))), ((e 86), .inl (0, 240, .inl nd))]) [0] [1, 2] 0 dX13_readCompare_3 zl_RX13_229 kX13_isSign rfl rfl rfl rfl rfl (by decide) rfl rfl (show dd - 1 + 1 ≤ dd by omega) (Nat.zero_le _) (Nat.zero_le _) (Nat.le_of_ble_eq_true rfl) (s_mIsSign l (dd - 1) mo e g w n L t 60 hT hW hO (by decide)) (fun r K1 hr => ?_)
  obtain ⟨rfl, rfl⟩ := hr
  refine zs_K (K' := [(mo, .inr (11, fMo e g w)), ((e 1), .inl (0, 740, .inl (nF bt))), ((e 86), .inl (0, 240, .inl nd))]) [2, 0, 1] rfl (by decide) ?_
  refine zs_if_ne (tgt := 33) dX13_readCompare_6 (by decide) (fun c_1 => ?_) (fun c_1 => ?_)
  · have hs60 := bI_t c_1
    have hns : ¬ (tAt t 60 = false ∧ tAt t 61 = false ∧ tAt t 62 = false) := fun h => by have := h.1; rw [hs60] at this; exact absurd this (by decide)
    have h4k : t.1 = 4 ∧ t.2.2.2.1 = 60 := tAt_i hs60
    refine zs_aload_n dX13_readCompare_33 rfl rfl ?_
    refine zs_get 0 dX13_readCompare_34 zf_RX13_180 rfl (v := .int (g 9)) rfl ?_
    refine zs_as (y := nI t.2.2.2.1) (hT.2.2.2.1 h4k.1) ?_
    refine zs_istore_n (lv' := [(2, .int (nI t.2.2.2.1)), (0, .ref mo), (1, .int (nI k))]) dX13_readCompare_37 (Nat.le_of_ble_eq_true rfl) rfl ?_
    refine zs_aload_n dX13_readCompare_38 rfl rfl ?_
    refine zs_callV (M := mX13_go) (As := []) (st := []) (Kc := [(mo, .inr (11, fMo e g w)), ((e 1), .inl (0, 740, .inl (nF bt)))]) (Kr := [((e 86), .inl (0, 240, .inl nd))]) [0, 1] [2] 0 dX13_readCompare_39 zl_RX13_226 kX13_go rfl rfl rfl rfl rfl (by decide) rfl rfl (show dd - 1 + 1 ≤ dd by omega) (Nat.zero_le _) (Nat.zero_le _) (Nat.le_of_ble_eq_true rfl) (s_mGoT l (dd - 1) mo e g w n L bt t (by omega) hn hL hbt h3 h4 hT hW (show ¬ t.1 = 0 by omega)) (fun r K1 hr => ?_)
    obtain ⟨rfl, g1, w1, hfr1, hT1, rfl⟩ := hr
    refine zs_K (K' := [(mo, .inr (11, fMo e g1 w1)), ((e 1), .inl (0, 740, .inl (nF bt))), ((e 86), .inl (0, 240, .inl nd))]) [1, 2, 0] rfl (by decide) ?_
    have fr1 : mFr [5, 6, 7, 8, 9, 13, 87, 88, 90] g g1 := mFr_t (mFr_r : mFr [5, 6, 7, 8, 9, 13, 87, 88, 90] g g) hfr1 (by decide) (by decide)
    have h3_1 : g1 3 = nI n := (hfr1 3 (by decide)).trans h3
    have h4_1 : g1 4 = nI L := (hfr1 4 (by decide)).trans h4
    have h23_1 : g1 23 = g 23 := hfr1 23 (by decide)
    have hO_1 := nxt_OK (L := L) (τ := t) hbt hn
    have h14_1 := hO_1.1
    have hkd_1 := mKd_4 (n := n) (L := L) hO_1.1
    refine zs_aload_n dX13_readCompare_42 rfl rfl ?_
    refine zs_iconst (v := nI 0) dX13_readCompare_43 (by decide) ?_
    refine zs_ldcw (v := 99999999) dX13_readCompare_44 zk_RX13_536 ?_
    refine zs_callV (M := mX13_readNumber) (As := [.int (nI 0), .int (nI 99999999)]) (st := []) (Kc := [(mo, .inr (11, fMo e g1 w1)), ((e 1), .inl (0, 740, .inl (nF bt)))]) (Kr := [((e 86), .inl (0, 240, .inl nd))]) [0, 1] [2] 0 dX13_readCompare_47 zl_RX13_251 kX13_readNumber rfl rfl rfl rfl rfl (by decide) rfl rfl (show dd - 1 + 1 ≤ dd by omega) (Nat.zero_le _) (Nat.zero_le _) (Nat.le_of_ble_eq_true rfl) (s_mReadNumber l (dd - 1) mo e g1 w1 n L bt (nxt bt n L t) 0 99999999 (by omega) hn hL hbt h3_1 h4_1 hT1 (nxt_W (b := bt) (n := n) (L := L) (τ := t)) hO_1 (by omega) (by omega)) (fun r K1 hr => ?_)
    rcases hr with ⟨hq2, rfl, g2, w2, hfr2, h13_2, hT2, rfl⟩ | ⟨hq2, rfl, rfl⟩
    · refine zs_K (K' := [(mo, .inr (11, fMo e g2 w2)), ((e 1), .inl (0, 740, .inl (nF bt))), ((e 86), .inl (0, 240, .inl nd))]) [1, 2, 0] rfl (by decide) ?_
      have fr2 : mFr [5, 6, 7, 8, 9, 13, 87, 88, 90] g g2 := mFr_t (fr1 : mFr [5, 6, 7, 8, 9, 13, 87, 88, 90] g g1) hfr2 (by decide) (by decide)
      have h3_2 : g2 3 = nI n := (hfr2 3 (by decide)).trans h3_1
      have h4_2 : g2 4 = nI L := (hfr2 4 (by decide)).trans h4_1
      have h23_2 : g2 23 = g1 23 := hfr2 23 (by decide)
      have hO_2 := nxt_OK (L := L) (τ := (nxt bt n L t)) hbt hn
      have h14_2 := hO_2.1
      have hkd_2 := mKd_4 (n := n) (L := L) hO_2.1
      have hr2 := tNu_r hq2
      refine zs_if_ne (tgt := 55) dX13_readCompare_50 (by decide) (fun c_2 => ?_) (fun c_2 => (by first | exact absurd c_2 (by decide) | exact absurd (by decide) c_2 : False).elim)
      refine zs_aload_n dX13_readCompare_55 rfl rfl ?_
      refine zs_aload_n dX13_readCompare_56 rfl rfl ?_
      refine zs_iconst (v := nI 5) dX13_readCompare_57 (by decide) ?_
      refine zs_iload_n dX13_readCompare_58 rfl ?_
      refine zs_bipush (v := nI 24) dX13_readCompare_59 (by decide) ?_
      refine zs_isub dX13_readCompare_61 ?_
      refine zs_as (y := nI (k - 24)) (nI_sub (by omega)) ?_
      refine zs_aload_n dX13_readCompare_62 rfl rfl ?_
      refine zs_get 0 dX13_readCompare_63 zf_RX13_223 rfl (v := .int (g2 13)) rfl ?_
      refine zs_as (y := nI (nxt bt n L t).2.2.2.1) h13_2 ?_
      refine zs_iload_n dX13_readCompare_66 rfl ?_
      refine zs_callV (M := mX13_lays) (As := [.int (nI 5), .int (nI (k - 24)), .int (nI (nxt bt n L t).2.2.2.1), .int (nI t.2.2.2.1)]) (st := [.ref mo]) (Kc := [(mo, .inr (11, fMo e g2 w2)), ((e 86), .inl (0, 240, .inl nd))]) (Kr := [((e 1), .inl (0, 740, .inl (nF bt)))]) [0, 2] [1] 0 dX13_readCompare_67 zl_RX13_512 kX13_lays rfl rfl rfl rfl rfl (by decide) rfl rfl (show dd - 1 + 1 ≤ dd by omega) (Nat.zero_le _) (Nat.zero_le _) (Nat.le_of_ble_eq_true rfl) (s_mLays l (dd - 1) mo e g2 w2 nd S.2.1 (nI 5) (nI (k - 24)) (nI (nxt bt n L t).2.2.2.1) (nI t.2.2.2.1) (by omega) ((hfr2 87 (by decide)).trans ((hfr1 87 (by decide)).trans h87))) (fun r K1 hr => ?_)
      obtain ⟨rfl, rfl⟩ := hr
      refine zs_K (K' := [(mo, .inr (11, fMo e (upd g2 87 (nI (S.2.1 + 1))) w2)), ((e 1), .inl (0, 740, .inl (nF bt))), ((e 86), .inl (0, 240, .inl (nLay nd S.2.1 (nI 5) (nI (k - 24)) (nI (nxt bt n L t).2.2.2.1) (nI t.2.2.2.1))))]) [1, 0, 2] rfl (by decide) ?_
      have hcm := sT_cmp (nd := nd) (S := S) (m := k - 23) (c := t.2.2.2.1) (v := (nxt bt n L t).2.2.2.1) (by omega) (by omega) (by rw [h4k.2]; decide)
      rw [show k - 23 - 1 = k - 24 by omega] at hcm
      refine zs_put 0 dX13_readCompare_70 zf_RX13_509 rfl (Nat.le_of_ble_eq_true rfl) (zPv_i _) ?_
      show zS _ _ _ _ _ _ [(mo, .inr (11, fMo e (upd (upd g2 87 (nI (S.2.1 + 1))) 90 (nI S.2.1)) w2)), ((e 1), .inl (0, 740, .inl (nF bt))), ((e 86), .inl (0, 240, .inl (nLay nd S.2.1 (nI 5) (nI (k - 24)) (nI (nxt bt n L t).2.2.2.1) (nI t.2.2.2.1))))]
      refine zs_iconst (v := nI 1) dX13_readCompare_73 (by decide) ?_
      have er : (sCmp bt n L (k - 23) t tk S) = (0, nxt bt n L (nxt bt n L t), (nxt bt n L t).2.2.2.1, sAd S (k - 23) t.2.2.2.1 (nxt bt n L t).2.2.2.1) := by rw [sCmp, if_neg hns, if_pos (by rw [tNu_mx hO_1]; exact hq2)]
      exact zs_zret dX13_readCompare_74 rfl (Or.inr rfl) (Or.inl ⟨by rw [er], rfl, (upd (upd g2 87 (nI (S.2.1 + 1))) 90 (nI S.2.1)), w2, (nLay nd S.2.1 (nI 5) (nI (k - 24)) (nI (nxt bt n L t).2.2.2.1) (nI t.2.2.2.1)), mFr_u (mFr_u fr2 (by decide)) (by decide), by rw [er]; exact mTk_f hT2 rfl rfl rfl rfl rfl, by rw [er]; exact nxt_W, by rw [er]; rfl, by rw [er]; exact ((hfr2 88 (by decide)).trans (hfr1 88 (by decide))).trans h88, by rw [er]; rfl, by rw [er]; exact Nat.lt_succ_self _, by rw [er]; exact sAl_ad, by rw [er]; exact hcm, rfl⟩)
    · refine zs_K (K' := [(mo, .inr (11, fMo e (mFa g1 (tNu (nxt bt n L t) 0 99999999) (nxt bt n L t)) w1)), ((e 1), .inl (0, 740, .inl (nF bt))), ((e 86), .inl (0, 240, .inl nd))]) [1, 2, 0] rfl (by decide) ?_
      refine zs_if_ne (tgt := 55) dX13_readCompare_50 (by decide) (fun c_3 => (by first | exact absurd c_3 (by decide) | exact absurd (by decide) c_3 : False).elim) (fun c_3 => ?_)
      refine zs_iconst (v := nI 0) dX13_readCompare_53 (by decide) ?_
      have e1 : (sCmp bt n L (k - 23) t tk S).1 = (tNu (nxt bt n L t) 0 99999999) ∧ (sCmp bt n L (k - 23) t tk S).2.1 = (nxt bt n L t) := by rw [sCmp, if_neg hns, if_neg (by rw [tNu_mx hO_1]; exact hq2), tNu_mx hO_1]; exact ⟨rfl, rfl⟩
      exact zs_zret dX13_readCompare_54 rfl (Or.inl rfl) (Or.inr ⟨by rw [e1.1]; exact hq2, rfl, mFa g1 (tNu (nxt bt n L t) 0 99999999) (nxt bt n L t), w1, nd, mFr_fs fr1, by rw [e1.1]; rfl, by rw [e1.2]; rfl, rfl⟩)
  · have hs60 := bI_f c_1
    refine zs_aload_n dX13_readCompare_9 rfl rfl ?_
    refine zs_bipush (v := nI 61) dX13_readCompare_10 (by decide) ?_
    refine zs_callV (M := mX13_isSign) (As := [.int (nI 61)]) (st := []) (Kc := [(mo, .inr (11, fMo e g w))]) (Kr := [((e 1), .inl (0, 740, .inl (nF bt))), ((e 86), .inl (0, 240, .inl nd))]) [0] [1, 2] 0 dX13_readCompare_12 zl_RX13_229 kX13_isSign rfl rfl rfl rfl rfl (by decide) rfl rfl (show dd - 1 + 1 ≤ dd by omega) (Nat.zero_le _) (Nat.zero_le _) (Nat.le_of_ble_eq_true rfl) (s_mIsSign l (dd - 1) mo e g w n L t 61 hT hW hO (by decide)) (fun r K1 hr => ?_)
    obtain ⟨rfl, rfl⟩ := hr
    refine zs_K (K' := [(mo, .inr (11, fMo e g w)), ((e 1), .inl (0, 740, .inl (nF bt))), ((e 86), .inl (0, 240, .inl nd))]) [2, 0, 1] rfl (by decide) ?_
    refine zs_if_ne (tgt := 33) dX13_readCompare_15 (by decide) (fun c_4 => ?_) (fun c_4 => ?_)
    · have hs61 := bI_t c_4
      have hns : ¬ (tAt t 60 = false ∧ tAt t 61 = false ∧ tAt t 62 = false) := fun h => by have := h.2.1; rw [hs61] at this; exact absurd this (by decide)
      have h4k : t.1 = 4 ∧ t.2.2.2.1 = 61 := tAt_i hs61
      refine zs_aload_n dX13_readCompare_33 rfl rfl ?_
      refine zs_get 0 dX13_readCompare_34 zf_RX13_180 rfl (v := .int (g 9)) rfl ?_
      refine zs_as (y := nI t.2.2.2.1) (hT.2.2.2.1 h4k.1) ?_
      refine zs_istore_n (lv' := [(2, .int (nI t.2.2.2.1)), (0, .ref mo), (1, .int (nI k))]) dX13_readCompare_37 (Nat.le_of_ble_eq_true rfl) rfl ?_
      refine zs_aload_n dX13_readCompare_38 rfl rfl ?_
      refine zs_callV (M := mX13_go) (As := []) (st := []) (Kc := [(mo, .inr (11, fMo e g w)), ((e 1), .inl (0, 740, .inl (nF bt)))]) (Kr := [((e 86), .inl (0, 240, .inl nd))]) [0, 1] [2] 0 dX13_readCompare_39 zl_RX13_226 kX13_go rfl rfl rfl rfl rfl (by decide) rfl rfl (show dd - 1 + 1 ≤ dd by omega) (Nat.zero_le _) (Nat.zero_le _) (Nat.le_of_ble_eq_true rfl) (s_mGoT l (dd - 1) mo e g w n L bt t (by omega) hn hL hbt h3 h4 hT hW (show ¬ t.1 = 0 by omega)) (fun r K1 hr => ?_)
      obtain ⟨rfl, g1, w1, hfr1, hT1, rfl⟩ := hr
      refine zs_K (K' := [(mo, .inr (11, fMo e g1 w1)), ((e 1), .inl (0, 740, .inl (nF bt))), ((e 86), .inl (0, 240, .inl nd))]) [1, 2, 0] rfl (by decide) ?_
      have fr1 : mFr [5, 6, 7, 8, 9, 13, 87, 88, 90] g g1 := mFr_t (mFr_r : mFr [5, 6, 7, 8, 9, 13, 87, 88, 90] g g) hfr1 (by decide) (by decide)
      have h3_1 : g1 3 = nI n := (hfr1 3 (by decide)).trans h3
      have h4_1 : g1 4 = nI L := (hfr1 4 (by decide)).trans h4
      have h23_1 : g1 23 = g 23 := hfr1 23 (by decide)
      have hO_1 := nxt_OK (L := L) (τ := t) hbt hn
      have h14_1 := hO_1.1
      have hkd_1 := mKd_4 (n := n) (L := L) hO_1.1
      refine zs_aload_n dX13_readCompare_42 rfl rfl ?_
      refine zs_iconst (v := nI 0) dX13_readCompare_43 (by decide) ?_
      refine zs_ldcw (v := 99999999) dX13_readCompare_44 zk_RX13_536 ?_
      refine zs_callV (M := mX13_readNumber) (As := [.int (nI 0), .int (nI 99999999)]) (st := []) (Kc := [(mo, .inr (11, fMo e g1 w1)), ((e 1), .inl (0, 740, .inl (nF bt)))]) (Kr := [((e 86), .inl (0, 240, .inl nd))]) [0, 1] [2] 0 dX13_readCompare_47 zl_RX13_251 kX13_readNumber rfl rfl rfl rfl rfl (by decide) rfl rfl (show dd - 1 + 1 ≤ dd by omega) (Nat.zero_le _) (Nat.zero_le _) (Nat.le_of_ble_eq_true rfl) (s_mReadNumber l (dd - 1) mo e g1 w1 n L bt (nxt bt n L t) 0 99999999 (by omega) hn hL hbt h3_1 h4_1 hT1 (nxt_W (b := bt) (n := n) (L := L) (τ := t)) hO_1 (by omega) (by omega)) (fun r K1 hr => ?_)
      rcases hr with ⟨hq2, rfl, g2, w2, hfr2, h13_2, hT2, rfl⟩ | ⟨hq2, rfl, rfl⟩
      · refine zs_K (K' := [(mo, .inr (11, fMo e g2 w2)), ((e 1), .inl (0, 740, .inl (nF bt))), ((e 86), .inl (0, 240, .inl nd))]) [1, 2, 0] rfl (by decide) ?_
        have fr2 : mFr [5, 6, 7, 8, 9, 13, 87, 88, 90] g g2 := mFr_t (fr1 : mFr [5, 6, 7, 8, 9, 13, 87, 88, 90] g g1) hfr2 (by decide) (by decide)
        have h3_2 : g2 3 = nI n := (hfr2 3 (by decide)).trans h3_1
        have h4_2 : g2 4 = nI L := (hfr2 4 (by decide)).trans h4_1
        have h23_2 : g2 23 = g1 23 := hfr2 23 (by decide)
        have hO_2 := nxt_OK (L := L) (τ := (nxt bt n L t)) hbt hn
        have h14_2 := hO_2.1
        have hkd_2 := mKd_4 (n := n) (L := L) hO_2.1
        have hr2 := tNu_r hq2
        refine zs_if_ne (tgt := 55) dX13_readCompare_50 (by decide) (fun c_5 => ?_) (fun c_5 => (by first | exact absurd c_5 (by decide) | exact absurd (by decide) c_5 : False).elim)
        refine zs_aload_n dX13_readCompare_55 rfl rfl ?_
        refine zs_aload_n dX13_readCompare_56 rfl rfl ?_
        refine zs_iconst (v := nI 5) dX13_readCompare_57 (by decide) ?_
        refine zs_iload_n dX13_readCompare_58 rfl ?_
        refine zs_bipush (v := nI 24) dX13_readCompare_59 (by decide) ?_
        refine zs_isub dX13_readCompare_61 ?_
        refine zs_as (y := nI (k - 24)) (nI_sub (by omega)) ?_
        refine zs_aload_n dX13_readCompare_62 rfl rfl ?_
        refine zs_get 0 dX13_readCompare_63 zf_RX13_223 rfl (v := .int (g2 13)) rfl ?_
        refine zs_as (y := nI (nxt bt n L t).2.2.2.1) h13_2 ?_
        refine zs_iload_n dX13_readCompare_66 rfl ?_
        refine zs_callV (M := mX13_lays) (As := [.int (nI 5), .int (nI (k - 24)), .int (nI (nxt bt n L t).2.2.2.1), .int (nI t.2.2.2.1)]) (st := [.ref mo]) (Kc := [(mo, .inr (11, fMo e g2 w2)), ((e 86), .inl (0, 240, .inl nd))]) (Kr := [((e 1), .inl (0, 740, .inl (nF bt)))]) [0, 2] [1] 0 dX13_readCompare_67 zl_RX13_512 kX13_lays rfl rfl rfl rfl rfl (by decide) rfl rfl (show dd - 1 + 1 ≤ dd by omega) (Nat.zero_le _) (Nat.zero_le _) (Nat.le_of_ble_eq_true rfl) (s_mLays l (dd - 1) mo e g2 w2 nd S.2.1 (nI 5) (nI (k - 24)) (nI (nxt bt n L t).2.2.2.1) (nI t.2.2.2.1) (by omega) ((hfr2 87 (by decide)).trans ((hfr1 87 (by decide)).trans h87))) (fun r K1 hr => ?_)
        obtain ⟨rfl, rfl⟩ := hr
        refine zs_K (K' := [(mo, .inr (11, fMo e (upd g2 87 (nI (S.2.1 + 1))) w2)), ((e 1), .inl (0, 740, .inl (nF bt))), ((e 86), .inl (0, 240, .inl (nLay nd S.2.1 (nI 5) (nI (k - 24)) (nI (nxt bt n L t).2.2.2.1) (nI t.2.2.2.1))))]) [1, 0, 2] rfl (by decide) ?_
        have hcm := sT_cmp (nd := nd) (S := S) (m := k - 23) (c := t.2.2.2.1) (v := (nxt bt n L t).2.2.2.1) (by omega) (by omega) (by rw [h4k.2]; decide)
        rw [show k - 23 - 1 = k - 24 by omega] at hcm
        refine zs_put 0 dX13_readCompare_70 zf_RX13_509 rfl (Nat.le_of_ble_eq_true rfl) (zPv_i _) ?_
        show zS _ _ _ _ _ _ [(mo, .inr (11, fMo e (upd (upd g2 87 (nI (S.2.1 + 1))) 90 (nI S.2.1)) w2)), ((e 1), .inl (0, 740, .inl (nF bt))), ((e 86), .inl (0, 240, .inl (nLay nd S.2.1 (nI 5) (nI (k - 24)) (nI (nxt bt n L t).2.2.2.1) (nI t.2.2.2.1))))]
        refine zs_iconst (v := nI 1) dX13_readCompare_73 (by decide) ?_
        have er : (sCmp bt n L (k - 23) t tk S) = (0, nxt bt n L (nxt bt n L t), (nxt bt n L t).2.2.2.1, sAd S (k - 23) t.2.2.2.1 (nxt bt n L t).2.2.2.1) := by rw [sCmp, if_neg hns, if_pos (by rw [tNu_mx hO_1]; exact hq2)]
        exact zs_zret dX13_readCompare_74 rfl (Or.inr rfl) (Or.inl ⟨by rw [er], rfl, (upd (upd g2 87 (nI (S.2.1 + 1))) 90 (nI S.2.1)), w2, (nLay nd S.2.1 (nI 5) (nI (k - 24)) (nI (nxt bt n L t).2.2.2.1) (nI t.2.2.2.1)), mFr_u (mFr_u fr2 (by decide)) (by decide), by rw [er]; exact mTk_f hT2 rfl rfl rfl rfl rfl, by rw [er]; exact nxt_W, by rw [er]; rfl, by rw [er]; exact ((hfr2 88 (by decide)).trans (hfr1 88 (by decide))).trans h88, by rw [er]; rfl, by rw [er]; exact Nat.lt_succ_self _, by rw [er]; exact sAl_ad, by rw [er]; exact hcm, rfl⟩)
      · refine zs_K (K' := [(mo, .inr (11, fMo e (mFa g1 (tNu (nxt bt n L t) 0 99999999) (nxt bt n L t)) w1)), ((e 1), .inl (0, 740, .inl (nF bt))), ((e 86), .inl (0, 240, .inl nd))]) [1, 2, 0] rfl (by decide) ?_
        refine zs_if_ne (tgt := 55) dX13_readCompare_50 (by decide) (fun c_6 => (by first | exact absurd c_6 (by decide) | exact absurd (by decide) c_6 : False).elim) (fun c_6 => ?_)
        refine zs_iconst (v := nI 0) dX13_readCompare_53 (by decide) ?_
        have e1 : (sCmp bt n L (k - 23) t tk S).1 = (tNu (nxt bt n L t) 0 99999999) ∧ (sCmp bt n L (k - 23) t tk S).2.1 = (nxt bt n L t) := by rw [sCmp, if_neg hns, if_neg (by rw [tNu_mx hO_1]; exact hq2), tNu_mx hO_1]; exact ⟨rfl, rfl⟩
        exact zs_zret dX13_readCompare_54 rfl (Or.inl rfl) (Or.inr ⟨by rw [e1.1]; exact hq2, rfl, mFa g1 (tNu (nxt bt n L t) 0 99999999) (nxt bt n L t), w1, nd, mFr_fs fr1, by rw [e1.1]; rfl, by rw [e1.2]; rfl, rfl⟩)
    · have hs61 := bI_f c_4
      refine zs_aload_n dX13_readCompare_18 rfl rfl ?_
      refine zs_bipush (v := nI 62) dX13_readCompare_19 (by decide) ?_
      refine zs_callV (M := mX13_isSign) (As := [.int (nI 62)]) (st := []) (Kc := [(mo, .inr (11, fMo e g w))]) (Kr := [((e 1), .inl (0, 740, .inl (nF bt))), ((e 86), .inl (0, 240, .inl nd))]) [0] [1, 2] 0 dX13_readCompare_21 zl_RX13_229 kX13_isSign rfl rfl rfl rfl rfl (by decide) rfl rfl (show dd - 1 + 1 ≤ dd by omega) (Nat.zero_le _) (Nat.zero_le _) (Nat.le_of_ble_eq_true rfl) (s_mIsSign l (dd - 1) mo e g w n L t 62 hT hW hO (by decide)) (fun r K1 hr => ?_)
      obtain ⟨rfl, rfl⟩ := hr
      refine zs_K (K' := [(mo, .inr (11, fMo e g w)), ((e 1), .inl (0, 740, .inl (nF bt))), ((e 86), .inl (0, 240, .inl nd))]) [2, 0, 1] rfl (by decide) ?_
      refine zs_if_ne (tgt := 33) dX13_readCompare_24 (by decide) (fun c_7 => ?_) (fun c_7 => ?_)
      · have hs62 := bI_t c_7
        have hns : ¬ (tAt t 60 = false ∧ tAt t 61 = false ∧ tAt t 62 = false) := fun h => by have := h.2.2; rw [hs62] at this; exact absurd this (by decide)
        have h4k : t.1 = 4 ∧ t.2.2.2.1 = 62 := tAt_i hs62
        refine zs_aload_n dX13_readCompare_33 rfl rfl ?_
        refine zs_get 0 dX13_readCompare_34 zf_RX13_180 rfl (v := .int (g 9)) rfl ?_
        refine zs_as (y := nI t.2.2.2.1) (hT.2.2.2.1 h4k.1) ?_
        refine zs_istore_n (lv' := [(2, .int (nI t.2.2.2.1)), (0, .ref mo), (1, .int (nI k))]) dX13_readCompare_37 (Nat.le_of_ble_eq_true rfl) rfl ?_
        refine zs_aload_n dX13_readCompare_38 rfl rfl ?_
        refine zs_callV (M := mX13_go) (As := []) (st := []) (Kc := [(mo, .inr (11, fMo e g w)), ((e 1), .inl (0, 740, .inl (nF bt)))]) (Kr := [((e 86), .inl (0, 240, .inl nd))]) [0, 1] [2] 0 dX13_readCompare_39 zl_RX13_226 kX13_go rfl rfl rfl rfl rfl (by decide) rfl rfl (show dd - 1 + 1 ≤ dd by omega) (Nat.zero_le _) (Nat.zero_le _) (Nat.le_of_ble_eq_true rfl) (s_mGoT l (dd - 1) mo e g w n L bt t (by omega) hn hL hbt h3 h4 hT hW (show ¬ t.1 = 0 by omega)) (fun r K1 hr => ?_)
        obtain ⟨rfl, g1, w1, hfr1, hT1, rfl⟩ := hr
        refine zs_K (K' := [(mo, .inr (11, fMo e g1 w1)), ((e 1), .inl (0, 740, .inl (nF bt))), ((e 86), .inl (0, 240, .inl nd))]) [1, 2, 0] rfl (by decide) ?_
        have fr1 : mFr [5, 6, 7, 8, 9, 13, 87, 88, 90] g g1 := mFr_t (mFr_r : mFr [5, 6, 7, 8, 9, 13, 87, 88, 90] g g) hfr1 (by decide) (by decide)
        have h3_1 : g1 3 = nI n := (hfr1 3 (by decide)).trans h3
        have h4_1 : g1 4 = nI L := (hfr1 4 (by decide)).trans h4
        have h23_1 : g1 23 = g 23 := hfr1 23 (by decide)
        have hO_1 := nxt_OK (L := L) (τ := t) hbt hn
        have h14_1 := hO_1.1
        have hkd_1 := mKd_4 (n := n) (L := L) hO_1.1
        refine zs_aload_n dX13_readCompare_42 rfl rfl ?_
        refine zs_iconst (v := nI 0) dX13_readCompare_43 (by decide) ?_
        refine zs_ldcw (v := 99999999) dX13_readCompare_44 zk_RX13_536 ?_
        refine zs_callV (M := mX13_readNumber) (As := [.int (nI 0), .int (nI 99999999)]) (st := []) (Kc := [(mo, .inr (11, fMo e g1 w1)), ((e 1), .inl (0, 740, .inl (nF bt)))]) (Kr := [((e 86), .inl (0, 240, .inl nd))]) [0, 1] [2] 0 dX13_readCompare_47 zl_RX13_251 kX13_readNumber rfl rfl rfl rfl rfl (by decide) rfl rfl (show dd - 1 + 1 ≤ dd by omega) (Nat.zero_le _) (Nat.zero_le _) (Nat.le_of_ble_eq_true rfl) (s_mReadNumber l (dd - 1) mo e g1 w1 n L bt (nxt bt n L t) 0 99999999 (by omega) hn hL hbt h3_1 h4_1 hT1 (nxt_W (b := bt) (n := n) (L := L) (τ := t)) hO_1 (by omega) (by omega)) (fun r K1 hr => ?_)
        rcases hr with ⟨hq2, rfl, g2, w2, hfr2, h13_2, hT2, rfl⟩ | ⟨hq2, rfl, rfl⟩
        · refine zs_K (K' := [(mo, .inr (11, fMo e g2 w2)), ((e 1), .inl (0, 740, .inl (nF bt))), ((e 86), .inl (0, 240, .inl nd))]) [1, 2, 0] rfl (by decide) ?_
          have fr2 : mFr [5, 6, 7, 8, 9, 13, 87, 88, 90] g g2 := mFr_t (fr1 : mFr [5, 6, 7, 8, 9, 13, 87, 88, 90] g g1) hfr2 (by decide) (by decide)
          have h3_2 : g2 3 = nI n := (hfr2 3 (by decide)).trans h3_1
          have h4_2 : g2 4 = nI L := (hfr2 4 (by decide)).trans h4_1
          have h23_2 : g2 23 = g1 23 := hfr2 23 (by decide)
          have hO_2 := nxt_OK (L := L) (τ := (nxt bt n L t)) hbt hn
          have h14_2 := hO_2.1
          have hkd_2 := mKd_4 (n := n) (L := L) hO_2.1
          have hr2 := tNu_r hq2
          refine zs_if_ne (tgt := 55) dX13_readCompare_50 (by decide) (fun c_8 => ?_) (fun c_8 => (by first | exact absurd c_8 (by decide) | exact absurd (by decide) c_8 : False).elim)
          refine zs_aload_n dX13_readCompare_55 rfl rfl ?_
          refine zs_aload_n dX13_readCompare_56 rfl rfl ?_
          refine zs_iconst (v := nI 5) dX13_readCompare_57 (by decide) ?_
          refine zs_iload_n dX13_readCompare_58 rfl ?_
          refine zs_bipush (v := nI 24) dX13_readCompare_59 (by decide) ?_
          refine zs_isub dX13_readCompare_61 ?_
          refine zs_as (y := nI (k - 24)) (nI_sub (by omega)) ?_
          refine zs_aload_n dX13_readCompare_62 rfl rfl ?_
          refine zs_get 0 dX13_readCompare_63 zf_RX13_223 rfl (v := .int (g2 13)) rfl ?_
          refine zs_as (y := nI (nxt bt n L t).2.2.2.1) h13_2 ?_
          refine zs_iload_n dX13_readCompare_66 rfl ?_
          refine zs_callV (M := mX13_lays) (As := [.int (nI 5), .int (nI (k - 24)), .int (nI (nxt bt n L t).2.2.2.1), .int (nI t.2.2.2.1)]) (st := [.ref mo]) (Kc := [(mo, .inr (11, fMo e g2 w2)), ((e 86), .inl (0, 240, .inl nd))]) (Kr := [((e 1), .inl (0, 740, .inl (nF bt)))]) [0, 2] [1] 0 dX13_readCompare_67 zl_RX13_512 kX13_lays rfl rfl rfl rfl rfl (by decide) rfl rfl (show dd - 1 + 1 ≤ dd by omega) (Nat.zero_le _) (Nat.zero_le _) (Nat.le_of_ble_eq_true rfl) (s_mLays l (dd - 1) mo e g2 w2 nd S.2.1 (nI 5) (nI (k - 24)) (nI (nxt bt n L t).2.2.2.1) (nI t.2.2.2.1) (by omega) ((hfr2 87 (by decide)).trans ((hfr1 87 (by decide)).trans h87))) (fun r K1 hr => ?_)
          obtain ⟨rfl, rfl⟩ := hr
          refine zs_K (K' := [(mo, .inr (11, fMo e (upd g2 87 (nI (S.2.1 + 1))) w2)), ((e 1), .inl (0, 740, .inl (nF bt))), ((e 86), .inl (0, 240, .inl (nLay nd S.2.1 (nI 5) (nI (k - 24)) (nI (nxt bt n L t).2.2.2.1) (nI t.2.2.2.1))))]) [1, 0, 2] rfl (by decide) ?_
          have hcm := sT_cmp (nd := nd) (S := S) (m := k - 23) (c := t.2.2.2.1) (v := (nxt bt n L t).2.2.2.1) (by omega) (by omega) (by rw [h4k.2]; decide)
          rw [show k - 23 - 1 = k - 24 by omega] at hcm
          refine zs_put 0 dX13_readCompare_70 zf_RX13_509 rfl (Nat.le_of_ble_eq_true rfl) (zPv_i _) ?_
          show zS _ _ _ _ _ _ [(mo, .inr (11, fMo e (upd (upd g2 87 (nI (S.2.1 + 1))) 90 (nI S.2.1)) w2)), ((e 1), .inl (0, 740, .inl (nF bt))), ((e 86), .inl (0, 240, .inl (nLay nd S.2.1 (nI 5) (nI (k - 24)) (nI (nxt bt n L t).2.2.2.1) (nI t.2.2.2.1))))]
          refine zs_iconst (v := nI 1) dX13_readCompare_73 (by decide) ?_
          have er : (sCmp bt n L (k - 23) t tk S) = (0, nxt bt n L (nxt bt n L t), (nxt bt n L t).2.2.2.1, sAd S (k - 23) t.2.2.2.1 (nxt bt n L t).2.2.2.1) := by rw [sCmp, if_neg hns, if_pos (by rw [tNu_mx hO_1]; exact hq2)]
          exact zs_zret dX13_readCompare_74 rfl (Or.inr rfl) (Or.inl ⟨by rw [er], rfl, (upd (upd g2 87 (nI (S.2.1 + 1))) 90 (nI S.2.1)), w2, (nLay nd S.2.1 (nI 5) (nI (k - 24)) (nI (nxt bt n L t).2.2.2.1) (nI t.2.2.2.1)), mFr_u (mFr_u fr2 (by decide)) (by decide), by rw [er]; exact mTk_f hT2 rfl rfl rfl rfl rfl, by rw [er]; exact nxt_W, by rw [er]; rfl, by rw [er]; exact ((hfr2 88 (by decide)).trans (hfr1 88 (by decide))).trans h88, by rw [er]; rfl, by rw [er]; exact Nat.lt_succ_self _, by rw [er]; exact sAl_ad, by rw [er]; exact hcm, rfl⟩)
        · refine zs_K (K' := [(mo, .inr (11, fMo e (mFa g1 (tNu (nxt bt n L t) 0 99999999) (nxt bt n L t)) w1)), ((e 1), .inl (0, 740, .inl (nF bt))), ((e 86), .inl (0, 240, .inl nd))]) [1, 2, 0] rfl (by decide) ?_
          refine zs_if_ne (tgt := 55) dX13_readCompare_50 (by decide) (fun c_9 => (by first | exact absurd c_9 (by decide) | exact absurd (by decide) c_9 : False).elim) (fun c_9 => ?_)
          refine zs_iconst (v := nI 0) dX13_readCompare_53 (by decide) ?_
          have e1 : (sCmp bt n L (k - 23) t tk S).1 = (tNu (nxt bt n L t) 0 99999999) ∧ (sCmp bt n L (k - 23) t tk S).2.1 = (nxt bt n L t) := by rw [sCmp, if_neg hns, if_neg (by rw [tNu_mx hO_1]; exact hq2), tNu_mx hO_1]; exact ⟨rfl, rfl⟩
          exact zs_zret dX13_readCompare_54 rfl (Or.inl rfl) (Or.inr ⟨by rw [e1.1]; exact hq2, rfl, mFa g1 (tNu (nxt bt n L t) 0 99999999) (nxt bt n L t), w1, nd, mFr_fs fr1, by rw [e1.1]; rfl, by rw [e1.2]; rfl, rfl⟩)
      · have hs62 := bI_f c_7
        refine zs_aload_n dX13_readCompare_27 rfl rfl ?_
        refine zs_iconst (v := nI 1) dX13_readCompare_28 (by decide) ?_
        refine zs_callV (M := mX13_bad) (As := [.int (nI 1)]) (st := []) (Kc := [(mo, .inr (11, fMo e g w))]) (Kr := [((e 1), .inl (0, 740, .inl (nF bt))), ((e 86), .inl (0, 240, .inl nd))]) [0] [1, 2] 0 dX13_readCompare_29 zl_RX13_216 kX13_bad rfl rfl rfl rfl rfl (by decide) rfl rfl (show dd - 1 + 1 ≤ dd by omega) (Nat.zero_le _) (Nat.zero_le _) (Nat.le_of_ble_eq_true rfl) (s_mBad l (dd - 1) mo e g w n L t 1 hT hW hO) (fun r K1 hr => ?_)
        rw [mBad_e (by first | (intro; rfl) | (intro h; unfold mKd at h; split at h <;> omega))] at hr
        obtain ⟨rfl, rfl⟩ := hr
        refine zs_K (K' := [(mo, .inr (11, fMo e (mFa g 1 t) w)), ((e 1), .inl (0, 740, .inl (nF bt))), ((e 86), .inl (0, 240, .inl nd))]) [2, 0, 1] rfl (by decide) ?_
        have e1 : (sCmp bt n L (k - 23) t tk S).1 = 1 ∧ (sCmp bt n L (k - 23) t tk S).2.1 = t := by rw [sCmp, if_pos ⟨hs60, hs61, hs62⟩]; exact ⟨rfl, rfl⟩
        exact zs_zret dX13_readCompare_32 rfl (Or.inl rfl) (Or.inr ⟨by rw [e1.1]; exact (show ¬ (1 : Nat) = 0 by decide), rfl, mFa g 1 t, w, nd, mFr_fs mFr_r, by rw [e1.1]; rfl, by rw [e1.2]; rfl, rfl⟩)
