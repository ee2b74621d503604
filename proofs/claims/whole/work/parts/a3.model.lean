/-! ===== the reference: sentence() ===== -/
theorem s_mOneA (l : Launch) (mo : Nat) (e : Nat → Nat) (n L : Nat) (bt : Nat → Nat) (hn : n ≤ 740) (hL : L ≤ 740) (hbt : ∀ j, bt j < 256) : ∀ d, d ≤ 8 → ∀ dd, 4 * d + 8 ≤ dd → rCt l mX13_readOne dd d mo e n L bt (sOne bt n L d)
  | 0, _, dd, h => s_mOne0 l dd mo e n L bt hn hL hbt (by omega)
  | d + 1, h8, dd, h => s_mOneS l dd d mo e n L bt hn hL hbt (by omega) (by omega)
      (s_mBracket l (dd - 1) d mo e n L bt hn hL hbt (by omega) _ (sJo_G hbt hn (sJo_G hbt hn (sOne_G hbt hn d)))
        (s_mOr l (dd - 1 - 1) d mo e n L bt hn hL hbt (by omega) _ (sJo_G hbt hn (sOne_G hbt hn d))
          (s_mAnd l (dd - 1 - 1 - 1) d mo e n L bt hn hL hbt (by omega) _ (sOne_G hbt hn d)
            (s_mOneA l mo e n L bt hn hL hbt d (by omega) (dd - 1 - 1 - 1 - 1) (by omega)))))
      (s_mNot l (dd - 1) d mo e n L bt hn hL hbt (by omega) _ (sOne_G hbt hn d) (s_mOneA l mo e n L bt hn hL hbt d (by omega) (dd - 1 - 1) (by omega)))
theorem s_mOrA (l : Launch) (mo : Nat) (e : Nat → Nat) (n L : Nat) (bt : Nat → Nat) (hn : n ≤ 740) (hL : L ≤ 740) (hbt : ∀ j, bt j < 256) (dd : Nat) (h : 42 ≤ dd) : rCt l mX13_readOr dd 8 mo e n L bt (sJo bt n L 20 8 (sJo bt n L 21 7 (sOne bt n L 8))) :=
  s_mOr l dd 8 mo e n L bt hn hL hbt (by omega) _ (sJo_G hbt hn (sOne_G hbt hn 8)) (s_mAnd l (dd - 1) 8 mo e n L bt hn hL hbt (by omega) _ (sOne_G hbt hn 8) (s_mOneA l mo e n L bt hn hL hbt 8 (Nat.le_refl _) (dd - 1 - 1) (by omega)))
/-- the reference's sentence -/
def mSn (S : zSe) (nw : Nat → Int32) : Prop := (S.1 = 0 → nw 540 = nI 0) ∧ (¬ S.1 = 0 → nw 540 = nI 1 ∧ nw 541 = nI (S.2.1 - 1) ∧ 0 < S.2.1 ∧ S.2.1 ≤ 40 ∧ sT (fun j => nw (550 + j)) S (S.2.1 - 1) 0)
theorem sT_n {nd nd' : Nat → Int32} {S : zSe} {k a m : Nat} (h : ∀ j, j < 4 * m → nd' j = nd j) (hk : k < m) (ht : sT nd S k a) : sT nd' S k a := sTr_o h (fun _ _ => ⟨rfl, rfl, rfl⟩) _ _ _ hk ht

theorem dX13_sentence_0 : decode cX13_sentence 0 = .ok (.aload_n 0, 1) := by decide +kernel
theorem dX13_sentence_1 : decode cX13_sentence 1 = .ok (.sipush 200, 3) := by decide +kernel
theorem dX13_sentence_4 : decode cX13_sentence 4 = .ok (.invokevirtual 282, 3) := by decide +kernel
theorem dX13_sentence_7 : decode cX13_sentence 7 = .ok (.aload_n 0, 1) := by decide +kernel
theorem dX13_sentence_8 : decode cX13_sentence 8 = .ok (.iconst 0, 1) := by decide +kernel
theorem dX13_sentence_9 : decode cX13_sentence 9 = .ok (.putfield 503, 3) := by decide +kernel
theorem dX13_sentence_12 : decode cX13_sentence 12 = .ok (.aload_n 0, 1) := by decide +kernel
theorem dX13_sentence_13 : decode cX13_sentence 13 = .ok (.iconst 0, 1) := by decide +kernel
theorem dX13_sentence_14 : decode cX13_sentence 14 = .ok (.putfield 518, 3) := by decide +kernel
theorem dX13_sentence_17 : decode cX13_sentence 17 = .ok (.aload_n 0, 1) := by decide +kernel
theorem dX13_sentence_18 : decode cX13_sentence 18 = .ok (.iconst 0, 1) := by decide +kernel
theorem dX13_sentence_19 : decode cX13_sentence 19 = .ok (.putfield 521, 3) := by decide +kernel
theorem dX13_sentence_22 : decode cX13_sentence 22 = .ok (.aload_n 0, 1) := by decide +kernel
theorem dX13_sentence_23 : decode cX13_sentence 23 = .ok (.invokevirtual 533, 3) := by decide +kernel
theorem dX13_sentence_26 : decode cX13_sentence 26 = .ok (.ifCond .ne 10, 3) := by decide +kernel
theorem dX13_sentence_29 : decode cX13_sentence 29 = .ok (.iconst (-1), 1) := by decide +kernel
theorem dX13_sentence_30 : decode cX13_sentence 30 = .ok (.aload_n 0, 1) := by decide +kernel
theorem dX13_sentence_31 : decode cX13_sentence 31 = .ok (.getfield 213, 3) := by decide +kernel
theorem dX13_sentence_34 : decode cX13_sentence 34 = .ok (.isub, 1) := by decide +kernel
theorem dX13_sentence_35 : decode cX13_sentence 35 = .ok (.ireturn, 1) := by decide +kernel
theorem dX13_sentence_36 : decode cX13_sentence 36 = .ok (.aload_n 0, 1) := by decide +kernel
theorem dX13_sentence_37 : decode cX13_sentence 37 = .ok (.getfield 170, 3) := by decide +kernel
theorem dX13_sentence_40 : decode cX13_sentence 40 = .ok (.ifCond .eq 16, 3) := by decide +kernel
theorem dX13_sentence_43 : decode cX13_sentence 43 = .ok (.aload_n 0, 1) := by decide +kernel
theorem dX13_sentence_44 : decode cX13_sentence 44 = .ok (.iconst 1, 1) := by decide +kernel
theorem dX13_sentence_45 : decode cX13_sentence 45 = .ok (.invokevirtual 216, 3) := by decide +kernel
theorem dX13_sentence_48 : decode cX13_sentence 48 = .ok (.pop, 1) := by decide +kernel
theorem dX13_sentence_49 : decode cX13_sentence 49 = .ok (.iconst (-1), 1) := by decide +kernel
theorem dX13_sentence_50 : decode cX13_sentence 50 = .ok (.aload_n 0, 1) := by decide +kernel
theorem dX13_sentence_51 : decode cX13_sentence 51 = .ok (.getfield 213, 3) := by decide +kernel
theorem dX13_sentence_54 : decode cX13_sentence 54 = .ok (.isub, 1) := by decide +kernel
theorem dX13_sentence_55 : decode cX13_sentence 55 = .ok (.ireturn, 1) := by decide +kernel
theorem dX13_sentence_56 : decode cX13_sentence 56 = .ok (.aload_n 0, 1) := by decide +kernel
theorem dX13_sentence_57 : decode cX13_sentence 57 = .ok (.getfield 13, 3) := by decide +kernel
theorem dX13_sentence_60 : decode cX13_sentence 60 = .ok (.sipush 540, 3) := by decide +kernel
theorem dX13_sentence_63 : decode cX13_sentence 63 = .ok (.iconst 1, 1) := by decide +kernel
theorem dX13_sentence_64 : decode cX13_sentence 64 = .ok (.iastore, 1) := by decide +kernel
theorem dX13_sentence_65 : decode cX13_sentence 65 = .ok (.aload_n 0, 1) := by decide +kernel
theorem dX13_sentence_66 : decode cX13_sentence 66 = .ok (.getfield 13, 3) := by decide +kernel
theorem dX13_sentence_69 : decode cX13_sentence 69 = .ok (.sipush 541, 3) := by decide +kernel
theorem dX13_sentence_72 : decode cX13_sentence 72 = .ok (.aload_n 0, 1) := by decide +kernel
theorem dX13_sentence_73 : decode cX13_sentence 73 = .ok (.getfield 509, 3) := by decide +kernel
theorem dX13_sentence_76 : decode cX13_sentence 76 = .ok (.iastore, 1) := by decide +kernel
theorem dX13_sentence_77 : decode cX13_sentence 77 = .ok (.iconst 0, 1) := by decide +kernel
theorem dX13_sentence_78 : decode cX13_sentence 78 = .ok (.istore_n 1, 1) := by decide +kernel
theorem dX13_sentence_79 : decode cX13_sentence 79 = .ok (.iload_n 1, 1) := by decide +kernel
theorem dX13_sentence_80 : decode cX13_sentence 80 = .ok (.sipush 240, 3) := by decide +kernel
theorem dX13_sentence_83 : decode cX13_sentence 83 = .ok (.if_icmp .ge 25, 3) := by decide +kernel
theorem dX13_sentence_86 : decode cX13_sentence 86 = .ok (.aload_n 0, 1) := by decide +kernel
theorem dX13_sentence_87 : decode cX13_sentence 87 = .ok (.getfield 13, 3) := by decide +kernel
theorem dX13_sentence_90 : decode cX13_sentence 90 = .ok (.sipush 550, 3) := by decide +kernel
theorem dX13_sentence_93 : decode cX13_sentence 93 = .ok (.iload_n 1, 1) := by decide +kernel
theorem dX13_sentence_94 : decode cX13_sentence 94 = .ok (.iadd, 1) := by decide +kernel
theorem dX13_sentence_95 : decode cX13_sentence 95 = .ok (.aload_n 0, 1) := by decide +kernel
theorem dX13_sentence_96 : decode cX13_sentence 96 = .ok (.getfield 145, 3) := by decide +kernel
theorem dX13_sentence_99 : decode cX13_sentence 99 = .ok (.iload_n 1, 1) := by decide +kernel
theorem dX13_sentence_100 : decode cX13_sentence 100 = .ok (.iaload, 1) := by decide +kernel
theorem dX13_sentence_101 : decode cX13_sentence 101 = .ok (.iastore, 1) := by decide +kernel
theorem dX13_sentence_102 : decode cX13_sentence 102 = .ok (.iinc 1 1, 3) := by decide +kernel
theorem dX13_sentence_105 : decode cX13_sentence 105 = .ok (.goto (-26), 3) := by decide +kernel
theorem dX13_sentence_108 : decode cX13_sentence 108 = .ok (.aload_n 0, 1) := by decide +kernel
theorem dX13_sentence_109 : decode cX13_sentence 109 = .ok (.getfield 518, 3) := by decide +kernel
theorem dX13_sentence_112 : decode cX13_sentence 112 = .ok (.ireturn, 1) := by decide +kernel
set_option maxRecDepth 100000 in
theorem lp_msen {l : Launch} {dd : Nat} {Po : zPo} {K0 : zK} {h0 : List va_E} {Xo : zK → Prop} {Gc : zG → Prop} (mo : Nat) (e : Nat → Nat) (g : Nat → Int32) (w : Int64) (bt : Nat → Nat) (nw nd : Nat → Int32) 
    (hk : zS (l, mX13_sentence, dd, Po, K0, h0, Xo, Gc) 0 0 108 [(0, .ref mo)] [] [(mo, .inr (11, fMo e g w)), ((e 1), .inl (0, 740, .inl (nF bt))), ((e 14), .inl (0, 800, .inl (pCo nd nw 550 240))), ((e 86), .inl (0, 240, .inl nd))]) :
    ∀ (m i : Nat) , i + m = 240 → zS (l, mX13_sentence, dd, Po, K0, h0, Xo, Gc) 0 0 79 [(0, .ref mo), (1, .int (nI i))] [] [(mo, .inr (11, fMo e g w)), ((e 1), .inl (0, 740, .inl (nF bt))), ((e 14), .inl (0, 800, .inl (pCo nd nw 550 i))), ((e 86), .inl (0, 240, .inl nd))] := by
  intro m
  induction m with
  | zero =>
    intro i hi
    refine zs_iload_n dX13_sentence_79 rfl ?_
    refine zs_sipush (v := nI 240) dX13_sentence_80 (by decide) ?_
    refine zs_icmp_ge (tgt := 108) dX13_sentence_83 (by decide) (fun c_1 => ?_) (fun c_1 => (c_1 (by rw [show i = 240 by omega]; exact Int32.le_refl _) : False).elim)
    rw [show i = 240 by omega]
    refine zs_lv [0] rfl ?_
    exact hk
  | succ m ih =>
    intro i hi
    refine zs_iload_n dX13_sentence_79 rfl ?_
    refine zs_sipush (v := nI 240) dX13_sentence_80 (by decide) ?_
    refine zs_icmp_ge (tgt := 108) dX13_sentence_83 (by decide) (fun c_1 => (nI_ge (show i < 240 by omega) (by omega) c_1 : False).elim) (fun c_1 => ?_)
    refine zs_aload_n dX13_sentence_86 rfl rfl ?_
    refine zs_get 0 dX13_sentence_87 zf_RX13_13 rfl (v := .ref (e 14)) rfl ?_
    refine zs_sipush (v := nI 550) dX13_sentence_90 (by decide) ?_
    refine zs_iload_n dX13_sentence_93 rfl ?_
    refine zs_iadd dX13_sentence_94 ?_
    refine zs_as (y := nI (550 + i)) (nI_add _ _) ?_
    refine zs_aload_n dX13_sentence_95 rfl rfl ?_
    refine zs_get 0 dX13_sentence_96 zf_RX13_145 rfl (v := .ref (e 86)) rfl ?_
    refine zs_iload_n dX13_sentence_99 rfl ?_
    refine zs_iald 3 dX13_sentence_100 rfl (vp_in_nI (by omega) (by omega)) ?_
    refine zs_as (y := nd i) (by rw [nI_c (n := i) (by omega)]) ?_
    refine zs_iast 2 dX13_sentence_101 rfl (vp_in_nI (by omega) (by omega)) ?_
    rw [nI_c (n := 550 + i) (by omega)]
    rw [pCo_u (f := nd) (nw := nw) (a := 550) (k := i) rfl]
    show zS _ _ _ _ _ _ [(mo, .inr (11, fMo e g w)), ((e 1), .inl (0, 740, .inl (nF bt))), ((e 14), .inl (0, 800, .inl (pCo nd nw 550 (i + 1)))), ((e 86), .inl (0, 240, .inl nd))]
    refine zs_iinc (v := (nI (i + 1))) (lv' := [(1, .int (nI (i + 1))), (0, .ref mo)]) dX13_sentence_102 rfl (nI_add _ 1) (Nat.le_of_ble_eq_true rfl) rfl ?_
    refine zs_goto (tgt := 79) dX13_sentence_105 (by decide) ?_
    refine zs_lv [1, 0] rfl ?_
    exact ih (i + 1) (by omega)
set_option maxRecDepth 100000 in
theorem s_mSentence (l : Launch) (dd : Nat) (mo : Nat) (e : Nat → Nat) (g : Nat → Int32) (w : Int64) (n L : Nat) (bt : Nat → Nat) (v tk : Nat) (S2 : zSe) (nw nd : Nat → Int32) (hd : 43 ≤ dd) (hn : n ≤ 740) (hL : L = 200) (hbt : ∀ j, bt j < 256) (hb : g 22 = 0 ∨ g 22 = 1) (h2 : g 2 = nI n) (htk : tk ≤ 99999999) : zSp l mX13_sentence dd 0 0 [.ref mo] [(mo, .inr (11, fMo e g w)), ((e 1), .inl (0, 740, .inl (nF bt))), ((e 14), .inl (0, 800, .inl nw)), ((e 86), .inl (0, 240, .inl nd))] (fun r K' => ((sRd bt n L (nxt bt n L (0, 0, 0, v, none)) tk S2).1 = 0 ∧ r = some (.int (nI (sRd bt n L (nxt bt n L (0, 0, 0, v, none)) tk S2).2.2.2.1)) ∧ ∃ g' w' nw' nd', mFr [0, 2, 3, 4, 5, 6, 7, 8, 9, 10, 11, 13, 22, 23, 87, 88, 89, 90] g g' ∧ (g' 0 = nI 0 ∧ g' 2 = nI 0 ∧ g' 10 = nI 0 ∧ g' 22 = 1) ∧ (∀ j, j < 540 → nw' j = mLay g nw j) ∧ mSn (sRd bt n L (nxt bt n L (0, 0, 0, v, none)) tk S2).2.2.2 nw' ∧ K' = [(mo, .inr (11, fMo e g' w')), ((e 1), .inl (0, 740, .inl (nF bt))), ((e 14), .inl (0, 800, .inl (nw'))), ((e 86), .inl (0, 240, .inl (nd')))]) ∨ (¬ (sRd bt n L (nxt bt n L (0, 0, 0, v, none)) tk S2).1 = 0 ∧ r = some (.int (-1 - nI (sRd bt n L (nxt bt n L (0, 0, 0, v, none)) tk S2).2.1.2.1)) ∧ ∃ g' w' nd', mFr [0, 2, 3, 4, 5, 6, 7, 8, 9, 10, 11, 13, 22, 23, 87, 88, 89, 90] g g' ∧ (g' 0 = nI 0 ∧ g' 2 = nI 0 ∧ g' 10 = nI (sRd bt n L (nxt bt n L (0, 0, 0, v, none)) tk S2).1 ∧ g' 22 = 1) ∧ K' = [(mo, .inr (11, fMo e g' w')), ((e 1), .inl (0, 740, .inl (nF bt))), ((e 14), .inl (0, 800, .inl (mLay g nw))), ((e 86), .inl (0, 240, .inl (nd')))])) := by
  refine zSp.of (by decide) (Nat.le_of_ble_eq_true rfl) (fun h0 => ?_)
  show zS _ 0 0 0 [(0, .ref mo)] [] [(mo, .inr (11, fMo e g w)), ((e 1), .inl (0, 740, .inl (nF bt))), ((e 14), .inl (0, 800, .inl nw)), ((e 86), .inl (0, 240, .inl nd))]
  have hFG : sG (sJo bt n L 20 8 (sJo bt n L 21 7 (sOne bt n L 8))) := sJo_G hbt hn (sJo_G hbt hn (sOne_G hbt hn 8))
  refine zs_aload_n dX13_sentence_0 rfl rfl ?_
  refine zs_sipush (v := nI 200) dX13_sentence_1 (by decide) ?_
  refine zs_as (y := nI L) (by rw [hL]) ?_
  refine zs_callV (M := mX13_begin) (As := [.int (nI L)]) (st := []) (Kc := [(mo, .inr (11, fMo e g w)), ((e 1), .inl (0, 740, .inl (nF bt))), ((e 14), .inl (0, 800, .inl nw))]) (Kr := [((e 86), .inl (0, 240, .inl nd))]) [0, 1, 2] [3] 0 dX13_sentence_4 zl_RX13_282 kX13_begin rfl rfl rfl rfl rfl (by decide) rfl rfl (show dd - 1 + 1 ≤ dd by omega) (Nat.zero_le _) (Nat.zero_le _) (Nat.le_of_ble_eq_true rfl) (s_mBegin l (dd - 1) mo e g w n L bt nw (by omega) hn (by omega) hbt hb h2) (fun r K1 hr => ?_)
  obtain ⟨rfl, g1, w1, hfr1, ⟨q0, q2, q3, q4, q10, q22⟩, hT1, rfl⟩ := hr
  refine zs_K (K' := [(mo, .inr (11, fMo e g1 w1)), ((e 1), .inl (0, 740, .inl (nF bt))), ((e 14), .inl (0, 800, .inl (mLay g nw))), ((e 86), .inl (0, 240, .inl nd))]) [1, 2, 3, 0] rfl (by decide) ?_
  refine zs_aload_n dX13_sentence_7 rfl rfl ?_
  refine zs_iconst (v := nI 0) dX13_sentence_8 (by decide) ?_
  refine zs_put 0 dX13_sentence_9 zf_RX13_503 rfl (Nat.le_of_ble_eq_true rfl) (zPv_i _) ?_
  show zS _ _ _ _ _ _ [(mo, .inr (11, fMo e (upd g1 87 (nI 0)) w1)), ((e 1), .inl (0, 740, .inl (nF bt))), ((e 14), .inl (0, 800, .inl (mLay g nw))), ((e 86), .inl (0, 240, .inl nd))]
  refine zs_aload_n dX13_sentence_12 rfl rfl ?_
  refine zs_iconst (v := nI 0) dX13_sentence_13 (by decide) ?_
  refine zs_put 0 dX13_sentence_14 zf_RX13_518 rfl (Nat.le_of_ble_eq_true rfl) (zPv_i _) ?_
  show zS _ _ _ _ _ _ [(mo, .inr (11, fMo e (upd (upd g1 87 (nI 0)) 88 (nI 0)) w1)), ((e 1), .inl (0, 740, .inl (nF bt))), ((e 14), .inl (0, 800, .inl (mLay g nw))), ((e 86), .inl (0, 240, .inl nd))]
  refine zs_aload_n dX13_sentence_17 rfl rfl ?_
  refine zs_iconst (v := nI 0) dX13_sentence_18 (by decide) ?_
  refine zs_put 0 dX13_sentence_19 zf_RX13_521 rfl (Nat.le_of_ble_eq_true rfl) (zPv_i _) ?_
  show zS _ _ _ _ _ _ [(mo, .inr (11, fMo e (upd (upd (upd g1 87 (nI 0)) 88 (nI 0)) 89 (nI 0)) w1)), ((e 1), .inl (0, 740, .inl (nF bt))), ((e 14), .inl (0, 800, .inl (mLay g nw))), ((e 86), .inl (0, 240, .inl nd))]
  refine zs_aload_n dX13_sentence_22 rfl rfl ?_
  refine zs_callV (M := mX13_readOr) (As := []) (st := []) (Kc := [(mo, .inr (11, fMo e (upd (upd (upd g1 87 (nI 0)) 88 (nI 0)) 89 (nI 0)) w1)), ((e 1), .inl (0, 740, .inl (nF bt))), ((e 86), .inl (0, 240, .inl nd))]) (Kr := [((e 14), .inl (0, 800, .inl (mLay g nw)))]) [0, 1, 3] [2] 0 dX13_sentence_23 zl_RX13_533 kX13_readOr rfl rfl rfl rfl rfl (by decide) rfl rfl (show dd - 1 + 1 ≤ dd by omega) (Nat.zero_le _) (Nat.zero_le _) (Nat.le_of_ble_eq_true rfl) (s_mOrA l mo e n L bt hn (by omega) hbt (dd - 1) (by omega) (nxt bt n L (0, 0, 0, v, none)) tk (0, 0, S2.2.2) (upd (upd (upd g1 87 (nI 0)) 88 (nI 0)) 89 (nI 0)) w1 nd q3 q4 (mTk_f (hT1 v) rfl rfl rfl rfl rfl) nxt_W (nxt_OK hbt hn) htk ⟨Nat.zero_le _, Nat.zero_le _⟩ rfl rfl rfl) (fun r K1 hr => ?_)
  have hR2 := hFG (nxt bt n L (0, 0, 0, v, none)) tk (0, 0, S2.2.2) (nxt_OK hbt hn) htk ⟨Nat.zero_le _, Nat.zero_le _⟩
  generalize hG2 : (sJo bt n L 20 8 (sJo bt n L 21 7 (sOne bt n L 8))) (nxt bt n L (0, 0, 0, v, none)) tk (0, 0, S2.2.2) = G2 at hr hR2
  rcases hr with ⟨hq2, rfl, g2, w2, nd2, hfr2, hT2, hW2, h87_2, h88_2, h90_2, hlt2, hal2, hsT2, rfl⟩ | ⟨hq2, rfl, g2, w2, nd2, hfr2, h10_2, h11_2, rfl⟩
  · refine zs_K (K' := [(mo, .inr (11, fMo e g2 w2)), ((e 1), .inl (0, 740, .inl (nF bt))), ((e 14), .inl (0, 800, .inl (mLay g nw))), ((e 86), .inl (0, 240, .inl nd2))]) [1, 2, 0, 3] rfl (by decide) ?_
    have h14 := hR2.1.1
    have hkd := mKd_4 (n := n) (L := L) hR2.1.1
    have hS4 := hR2.2.2.2.1
    have hS5 : G2.2.2.2.2.1 + 2 * 0 + 1 ≤ 0 + 2 * G2.2.2.2.1 := hR2.2.2.2.2 hq2
    have hlt2 : 0 < G2.2.2.2.2.1 := hlt2
    refine zs_if_ne (tgt := 36) dX13_sentence_26 (by decide) (fun c_1 => ?_) (fun c_1 => (by first | exact absurd c_1 (by decide) | exact absurd (by decide) c_1 : False).elim)
    refine zs_aload_n dX13_sentence_36 rfl rfl ?_
    refine zs_get 0 dX13_sentence_37 zf_RX13_170 rfl (v := .int (g2 7)) rfl ?_
    refine zs_as (y := nI (mKd n L G2.2.1)) (mTk_7 hT2) ?_
    refine zs_if_eq (tgt := 56) dX13_sentence_40 (by decide) (fun c_2 => ?_) (fun c_2 => ?_)
    · have c_2 : (mKd n L G2.2.1) = 0 := by have hc := c_2; rw [show (0 : Int32) = nI 0 from rfl] at hc; rw [nI_eq' (by omega) (by omega)] at hc; exact hc
      have hte : tEn n L G2.2.1 = true := by have h := mKd_0 c_2; rw [tEn, decide_eq_true h.1, decide_eq_true h.2]; rfl
      refine zs_aload_n dX13_sentence_56 rfl rfl ?_
      refine zs_get 0 dX13_sentence_57 zf_RX13_13 rfl (v := .ref (e 14)) rfl ?_
      refine zs_sipush (v := nI 540) dX13_sentence_60 (by decide) ?_
      refine zs_iconst (v := nI 1) dX13_sentence_63 (by decide) ?_
      refine zs_iast 2 dX13_sentence_64 rfl (vp_in_nI (by omega) (by omega)) ?_
      rw [nI_c (n := 540) (by omega)]
      show zS _ _ _ _ _ _ [(mo, .inr (11, fMo e g2 w2)), ((e 1), .inl (0, 740, .inl (nF bt))), ((e 14), .inl (0, 800, .inl (upd (mLay g nw) 540 (nI 1)))), ((e 86), .inl (0, 240, .inl nd2))]
      refine zs_aload_n dX13_sentence_65 rfl rfl ?_
      refine zs_get 0 dX13_sentence_66 zf_RX13_13 rfl (v := .ref (e 14)) rfl ?_
      refine zs_sipush (v := nI 541) dX13_sentence_69 (by decide) ?_
      refine zs_aload_n dX13_sentence_72 rfl rfl ?_
      refine zs_get 0 dX13_sentence_73 zf_RX13_509 rfl (v := .int (g2 90)) rfl ?_
      refine zs_as (y := nI (G2.2.2.2.2.1 - 1)) h90_2 ?_
      refine zs_iast 2 dX13_sentence_76 rfl (vp_in_nI (by omega) (by omega)) ?_
      rw [nI_c (n := 541) (by omega)]
      show zS _ _ _ _ _ _ [(mo, .inr (11, fMo e g2 w2)), ((e 1), .inl (0, 740, .inl (nF bt))), ((e 14), .inl (0, 800, .inl (upd (upd (mLay g nw) 540 (nI 1)) 541 (nI (G2.2.2.2.2.1 - 1))))), ((e 86), .inl (0, 240, .inl nd2))]
      refine zs_iconst (v := nI 0) dX13_sentence_77 (by decide) ?_
      refine zs_istore_n (lv' := [(1, .int (nI 0)), (0, .ref mo)]) dX13_sentence_78 (Nat.le_of_ble_eq_true rfl) rfl ?_
      refine zs_lv [1, 0] rfl ?_
      refine zs_eq (K' := [(mo, .inr (11, fMo e g2 w2)), ((e 1), .inl (0, 740, .inl (nF bt))), ((e 14), .inl (0, 800, .inl (pCo nd2 (upd (upd (mLay g nw) 540 (nI 1)) 541 (nI (G2.2.2.2.2.1 - 1))) 550 0))), ((e 86), .inl (0, 240, .inl nd2))]) (by rw [pCo_0]) ?_
      refine lp_msen mo e g2 w2 bt (upd (upd (mLay g nw) 540 (nI 1)) 541 (nI (G2.2.2.2.2.1 - 1))) nd2 ?_ 240 0 (by omega)
      refine zs_aload_n dX13_sentence_108 rfl rfl ?_
      refine zs_get 0 dX13_sentence_109 zf_RX13_518 rfl (v := .int (g2 88)) rfl ?_
      refine zs_as (y := nI G2.2.2.2.1) h88_2 ?_
      have er : (sRd bt n L (nxt bt n L (0, 0, 0, v, none)) tk S2) = (0, G2.2) := by rw [sRd, hG2, if_pos hq2, if_pos hte]
      have hlow : ∀ j, j < 540 → (pCo nd2 (upd (upd (mLay g nw) 540 (nI 1)) 541 (nI (G2.2.2.2.2.1 - 1))) 550 240) j = mLay g nw j := fun j hj => by
        rw [pCo, if_neg (by omega), upd_x (by omega), upd_x (by omega)]
      have hsn : mSn G2.2.2.2 (pCo nd2 (upd (upd (mLay g nw) 540 (nI 1)) 541 (nI (G2.2.2.2.2.1 - 1))) 550 240) := ⟨fun h => absurd h (by omega), fun _ => ⟨rfl, rfl, hlt2, by omega, sT_n (m := 60) (fun j hj => by
        show pCo nd2 (upd (upd (mLay g nw) 540 (nI 1)) 541 (nI (G2.2.2.2.2.1 - 1))) 550 240 (550 + j) = nd2 j
        rw [pCo, if_pos (by omega), show 550 + j - 550 = j by omega]) (by omega) hsT2⟩⟩
      exact zs_iret dX13_sentence_112 rfl (Or.inl ⟨by rw [er], by rw [er], g2, w2, (pCo nd2 (upd (upd (mLay g nw) 540 (nI 1)) 541 (nI (G2.2.2.2.2.1 - 1))) 550 240), nd2, (mFr_t (mFr_t hfr1 (mFr_u (mFr_u (mFr_u mFr_r (by decide)) (by decide)) (by decide) : mFr [0, 2, 3, 4, 5, 6, 7, 8, 9, 10, 11, 13, 22, 23, 87, 88, 89, 90] g1 (upd (upd (upd g1 87 (nI 0)) 88 (nI 0)) 89 (nI 0))) (by decide) (by decide) : mFr [0, 2, 3, 4, 5, 6, 7, 8, 9, 10, 11, 13, 22, 23, 87, 88, 89, 90] g (upd (upd (upd g1 87 (nI 0)) 88 (nI 0)) 89 (nI 0))) hfr2 (by decide) (by decide)), ⟨(hfr2 0 (by decide)).trans q0, (hfr2 2 (by decide)).trans q2, (hfr2 10 (by decide)).trans q10, (hfr2 22 (by decide)).trans q22⟩, hlow, by rw [er]; exact hsn, rfl⟩)
    · have c_2 : ¬ ((mKd n L G2.2.1) = 0) := by have hc := c_2; rw [show (0 : Int32) = nI 0 from rfl] at hc; rw [nI_eq' (by omega) (by omega)] at hc; exact hc
      have htn : ¬ tEn n L G2.2.1 = true := fun h => by
        rw [tEn, Bool.and_eq_true] at h
        exact c_2 (mKd_0i ⟨of_decide_eq_true h.1, of_decide_eq_true h.2⟩)
      refine zs_aload_n dX13_sentence_43 rfl rfl ?_
      refine zs_iconst (v := nI 1) dX13_sentence_44 (by decide) ?_
      refine zs_callV (M := mX13_bad) (As := [.int (nI 1)]) (st := []) (Kc := [(mo, .inr (11, fMo e g2 w2))]) (Kr := [((e 1), .inl (0, 740, .inl (nF bt))), ((e 14), .inl (0, 800, .inl (mLay g nw))), ((e 86), .inl (0, 240, .inl nd2))]) [0] [1, 2, 3] 0 dX13_sentence_45 zl_RX13_216 kX13_bad rfl rfl rfl rfl rfl (by decide) rfl rfl (show dd - 1 + 1 ≤ dd by omega) (Nat.zero_le _) (Nat.zero_le _) (Nat.le_of_ble_eq_true rfl) (s_mBad l (dd - 1) mo e g2 w2 n L G2.2.1 1 hT2 hW2 hR2.1) (fun r K1 hr => ?_)
      rw [mBad_e (fun _ => rfl)] at hr
      obtain ⟨rfl, rfl⟩ := hr
      refine zs_K (K' := [(mo, .inr (11, fMo e (mFa g2 1 G2.2.1) w2)), ((e 1), .inl (0, 740, .inl (nF bt))), ((e 14), .inl (0, 800, .inl (mLay g nw))), ((e 86), .inl (0, 240, .inl nd2))]) [3, 0, 1, 2] rfl (by decide) ?_
      refine zs_pop dX13_sentence_48 rfl ?_
      refine zs_iconst (v := (-1)) dX13_sentence_49 (by decide) ?_
      refine zs_aload_n dX13_sentence_50 rfl rfl ?_
      refine zs_get 0 dX13_sentence_51 zf_RX13_213 rfl (v := .int ((mFa g2 1 G2.2.1) 11)) rfl ?_
      refine zs_as (y := nI G2.2.1.2.1) rfl ?_
      refine zs_isub dX13_sentence_54 ?_
      have er : (sRd bt n L (nxt bt n L (0, 0, 0, v, none)) tk S2).1 = 1 ∧ (sRd bt n L (nxt bt n L (0, 0, 0, v, none)) tk S2).2.1 = G2.2.1 := by rw [sRd, hG2, if_pos hq2, if_neg htn]; exact ⟨rfl, rfl⟩
      exact zs_iret dX13_sentence_55 rfl (Or.inr ⟨by rw [er.1]; decide, by rw [er.2], mFa g2 1 G2.2.1, w2, nd2, mFr_u (mFr_u (mFr_t (mFr_t hfr1 (mFr_u (mFr_u (mFr_u mFr_r (by decide)) (by decide)) (by decide) : mFr [0, 2, 3, 4, 5, 6, 7, 8, 9, 10, 11, 13, 22, 23, 87, 88, 89, 90] g1 (upd (upd (upd g1 87 (nI 0)) 88 (nI 0)) 89 (nI 0))) (by decide) (by decide) : mFr [0, 2, 3, 4, 5, 6, 7, 8, 9, 10, 11, 13, 22, 23, 87, 88, 89, 90] g (upd (upd (upd g1 87 (nI 0)) 88 (nI 0)) 89 (nI 0))) hfr2 (by decide) (by decide)) (by decide)) (by decide), ⟨(hfr2 0 (by decide)).trans q0, (hfr2 2 (by decide)).trans q2, by rw [er.1]; rfl, (hfr2 22 (by decide)).trans q22⟩, rfl⟩)
  · refine zs_K (K' := [(mo, .inr (11, fMo e g2 w2)), ((e 1), .inl (0, 740, .inl (nF bt))), ((e 14), .inl (0, 800, .inl (mLay g nw))), ((e 86), .inl (0, 240, .inl nd2))]) [1, 2, 0, 3] rfl (by decide) ?_
    skip
    refine zs_if_ne (tgt := 36) dX13_sentence_26 (by decide) (fun c_3 => (by first | exact absurd c_3 (by decide) | exact absurd (by decide) c_3 : False).elim) (fun c_3 => ?_)
    refine zs_iconst (v := (-1)) dX13_sentence_29 (by decide) ?_
    refine zs_aload_n dX13_sentence_30 rfl rfl ?_
    refine zs_get 0 dX13_sentence_31 zf_RX13_213 rfl (v := .int (g2 11)) rfl ?_
    refine zs_as (y := nI G2.2.1.2.1) h11_2 ?_
    refine zs_isub dX13_sentence_34 ?_
    have er : (sRd bt n L (nxt bt n L (0, 0, 0, v, none)) tk S2) = G2 := by rw [sRd, hG2, if_neg hq2]
    exact zs_iret dX13_sentence_35 rfl (Or.inr ⟨by rw [er]; exact hq2, by rw [er], g2, w2, nd2, (mFr_t (mFr_t hfr1 (mFr_u (mFr_u (mFr_u mFr_r (by decide)) (by decide)) (by decide) : mFr [0, 2, 3, 4, 5, 6, 7, 8, 9, 10, 11, 13, 22, 23, 87, 88, 89, 90] g1 (upd (upd (upd g1 87 (nI 0)) 88 (nI 0)) 89 (nI 0))) (by decide) (by decide) : mFr [0, 2, 3, 4, 5, 6, 7, 8, 9, 10, 11, 13, 22, 23, 87, 88, 89, 90] g (upd (upd (upd g1 87 (nI 0)) 88 (nI 0)) 89 (nI 0))) hfr2 (by decide) (by decide)), ⟨(hfr2 0 (by decide)).trans q0, (hfr2 2 (by decide)).trans q2, by rw [er]; exact h10_2, (hfr2 22 (by decide)).trans q22⟩, rfl⟩)
