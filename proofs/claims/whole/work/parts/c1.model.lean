/-! ===== the reference: more, moreAt ===== -/
theorem dX13_shared_0 : decode cX13_shared 0 = .ok (.aload_n 0, 1) := by decide +kernel
theorem dX13_shared_1 : decode cX13_shared 1 = .ok (.iload_n 1, 1) := by decide +kernel
theorem dX13_shared_2 : decode cX13_shared 2 = .ok (.iload_n 2, 1) := by decide +kernel
theorem dX13_shared_3 : decode cX13_shared 3 = .ok (.aload_n 0, 1) := by decide +kernel
theorem dX13_shared_4 : decode cX13_shared 4 = .ok (.getfield 39, 3) := by decide +kernel
theorem dX13_shared_7 : decode cX13_shared 7 = .ok (.iload_n 1, 1) := by decide +kernel
theorem dX13_shared_8 : decode cX13_shared 8 = .ok (.iaload, 1) := by decide +kernel
theorem dX13_shared_9 : decode cX13_shared 9 = .ok (.invokevirtual 347, 3) := by decide +kernel
theorem dX13_shared_12 : decode cX13_shared 12 = .ok (.aload_n 0, 1) := by decide +kernel
theorem dX13_shared_13 : decode cX13_shared 13 = .ok (.getfield 84, 3) := by decide +kernel
theorem dX13_shared_16 : decode cX13_shared 16 = .ok (.iload_n 1, 1) := by decide +kernel
theorem dX13_shared_17 : decode cX13_shared 17 = .ok (.iaload, 1) := by decide +kernel
theorem dX13_shared_18 : decode cX13_shared 18 = .ok (.iconst 1, 1) := by decide +kernel
theorem dX13_shared_19 : decode cX13_shared 19 = .ok (.iadd, 1) := by decide +kernel
theorem dX13_shared_20 : decode cX13_shared 20 = .ok (.invokestatic 328, 3) := by decide +kernel
theorem dX13_shared_23 : decode cX13_shared 23 = .ok (.ireturn, 1) := by decide +kernel
theorem dX13_longest_0 : decode cX13_longest 0 = .ok (.iconst 0, 1) := by decide +kernel
theorem dX13_longest_1 : decode cX13_longest 1 = .ok (.istore_n 2, 1) := by decide +kernel
theorem dX13_longest_2 : decode cX13_longest 2 = .ok (.iconst 1, 1) := by decide +kernel
theorem dX13_longest_3 : decode cX13_longest 3 = .ok (.istore_n 3, 1) := by decide +kernel
theorem dX13_longest_4 : decode cX13_longest 4 = .ok (.iload_n 3, 1) := by decide +kernel
theorem dX13_longest_5 : decode cX13_longest 5 = .ok (.iload_n 1, 1) := by decide +kernel
theorem dX13_longest_6 : decode cX13_longest 6 = .ok (.if_icmp .ge 26, 3) := by decide +kernel
theorem dX13_longest_9 : decode cX13_longest 9 = .ok (.aload_n 0, 1) := by decide +kernel
theorem dX13_longest_10 : decode cX13_longest 10 = .ok (.iload_n 3, 1) := by decide +kernel
theorem dX13_longest_11 : decode cX13_longest 11 = .ok (.iload_n 1, 1) := by decide +kernel
theorem dX13_longest_12 : decode cX13_longest 12 = .ok (.invokevirtual 399, 3) := by decide +kernel
theorem dX13_longest_15 : decode cX13_longest 15 = .ok (.aload_n 0, 1) := by decide +kernel
theorem dX13_longest_16 : decode cX13_longest 16 = .ok (.iload_n 2, 1) := by decide +kernel
theorem dX13_longest_17 : decode cX13_longest 17 = .ok (.iload_n 1, 1) := by decide +kernel
theorem dX13_longest_18 : decode cX13_longest 18 = .ok (.invokevirtual 399, 3) := by decide +kernel
theorem dX13_longest_21 : decode cX13_longest 21 = .ok (.if_icmp .le 5, 3) := by decide +kernel
theorem dX13_longest_24 : decode cX13_longest 24 = .ok (.iload_n 3, 1) := by decide +kernel
theorem dX13_longest_25 : decode cX13_longest 25 = .ok (.istore_n 2, 1) := by decide +kernel
theorem dX13_longest_26 : decode cX13_longest 26 = .ok (.iinc 3 1, 3) := by decide +kernel
theorem dX13_longest_29 : decode cX13_longest 29 = .ok (.goto (-25), 3) := by decide +kernel
theorem dX13_longest_32 : decode cX13_longest 32 = .ok (.iload_n 2, 1) := by decide +kernel
theorem dX13_longest_33 : decode cX13_longest 33 = .ok (.ireturn, 1) := by decide +kernel
theorem dX13_more_0 : decode cX13_more 0 = .ok (.aload_n 0, 1) := by decide +kernel
theorem dX13_more_1 : decode cX13_more 1 = .ok (.iconst 0, 1) := by decide +kernel
theorem dX13_more_2 : decode cX13_more 2 = .ok (.putfield 148, 3) := by decide +kernel
theorem dX13_more_5 : decode cX13_more 5 = .ok (.aload_n 0, 1) := by decide +kernel
theorem dX13_more_6 : decode cX13_more 6 = .ok (.iconst 2, 1) := by decide +kernel
theorem dX13_more_7 : decode cX13_more 7 = .ok (.bipush 12, 2) := by decide +kernel
theorem dX13_more_9 : decode cX13_more 9 = .ok (.iconst 1, 1) := by decide +kernel
theorem dX13_more_10 : decode cX13_more 10 = .ok (.invokevirtual 372, 3) := by decide +kernel
theorem dX13_more_13 : decode cX13_more 13 = .ok (.ifCond .eq 13, 3) := by decide +kernel
theorem dX13_more_16 : decode cX13_more 16 = .ok (.iload_n 1, 1) := by decide +kernel
theorem dX13_more_17 : decode cX13_more 17 = .ok (.iconst 0, 1) := by decide +kernel
theorem dX13_more_18 : decode cX13_more 18 = .ok (.bipush 9, 2) := by decide +kernel
theorem dX13_more_20 : decode cX13_more 20 = .ok (.invokestatic 219, 3) := by decide +kernel
theorem dX13_more_23 : decode cX13_more 23 = .ok (.ifCond .ne 5, 3) := by decide +kernel
theorem dX13_more_26 : decode cX13_more 26 = .ok (.iconst (-1), 1) := by decide +kernel
theorem dX13_more_27 : decode cX13_more 27 = .ok (.ireturn, 1) := by decide +kernel
theorem dX13_more_28 : decode cX13_more 28 = .ok (.iconst 0, 1) := by decide +kernel
theorem dX13_more_29 : decode cX13_more 29 = .ok (.istore_n 2, 1) := by decide +kernel
theorem dX13_more_30 : decode cX13_more 30 = .ok (.iload_n 2, 1) := by decide +kernel
theorem dX13_more_31 : decode cX13_more 31 = .ok (.aload_n 0, 1) := by decide +kernel
theorem dX13_more_32 : decode cX13_more 32 = .ok (.getfield 304, 3) := by decide +kernel
theorem dX13_more_35 : decode cX13_more 35 = .ok (.if_icmp .ge 16, 3) := by decide +kernel
theorem dX13_more_38 : decode cX13_more 38 = .ok (.aload_n 0, 1) := by decide +kernel
theorem dX13_more_39 : decode cX13_more 39 = .ok (.getfield 84, 3) := by decide +kernel
theorem dX13_more_42 : decode cX13_more 42 = .ok (.iload_n 2, 1) := by decide +kernel
theorem dX13_more_43 : decode cX13_more 43 = .ok (.iconst 0, 1) := by decide +kernel
theorem dX13_more_44 : decode cX13_more 44 = .ok (.iastore, 1) := by decide +kernel
theorem dX13_more_45 : decode cX13_more 45 = .ok (.iinc 2 1, 3) := by decide +kernel
theorem dX13_more_48 : decode cX13_more 48 = .ok (.goto (-18), 3) := by decide +kernel
theorem dX13_more_51 : decode cX13_more 51 = .ok (.iconst 0, 1) := by decide +kernel
theorem dX13_more_52 : decode cX13_more 52 = .ok (.istore_n 2, 1) := by decide +kernel
theorem dX13_more_53 : decode cX13_more 53 = .ok (.iload_n 2, 1) := by decide +kernel
theorem dX13_more_54 : decode cX13_more 54 = .ok (.iload_n 1, 1) := by decide +kernel
theorem dX13_more_55 : decode cX13_more 55 = .ok (.if_icmp .ge 26, 3) := by decide +kernel
theorem dX13_more_58 : decode cX13_more 58 = .ok (.aload_n 0, 1) := by decide +kernel
theorem dX13_more_59 : decode cX13_more 59 = .ok (.getfield 84, 3) := by decide +kernel
theorem dX13_more_62 : decode cX13_more 62 = .ok (.aload_n 0, 1) := by decide +kernel
theorem dX13_more_63 : decode cX13_more 63 = .ok (.aload_n 0, 1) := by decide +kernel
theorem dX13_more_64 : decode cX13_more 64 = .ok (.getfield 304, 3) := by decide +kernel
theorem dX13_more_67 : decode cX13_more 67 = .ok (.invokevirtual 402, 3) := by decide +kernel
theorem dX13_more_70 : decode cX13_more 70 = .ok (.dup2, 1) := by decide +kernel
theorem dX13_more_71 : decode cX13_more 71 = .ok (.iaload, 1) := by decide +kernel
theorem dX13_more_72 : decode cX13_more 72 = .ok (.iconst 1, 1) := by decide +kernel
theorem dX13_more_73 : decode cX13_more 73 = .ok (.iadd, 1) := by decide +kernel
theorem dX13_more_74 : decode cX13_more 74 = .ok (.iastore, 1) := by decide +kernel
theorem dX13_more_75 : decode cX13_more 75 = .ok (.iinc 2 1, 3) := by decide +kernel
theorem dX13_more_78 : decode cX13_more 78 = .ok (.goto (-25), 3) := by decide +kernel
theorem dX13_more_81 : decode cX13_more 81 = .ok (.aload_n 0, 1) := by decide +kernel
theorem dX13_more_82 : decode cX13_more 82 = .ok (.aload_n 0, 1) := by decide +kernel
theorem dX13_more_83 : decode cX13_more 83 = .ok (.getfield 304, 3) := by decide +kernel
theorem dX13_more_86 : decode cX13_more 86 = .ok (.putfield 405, 3) := by decide +kernel
theorem dX13_more_89 : decode cX13_more 89 = .ok (.iconst 0, 1) := by decide +kernel
theorem dX13_more_90 : decode cX13_more 90 = .ok (.istore_n 2, 1) := by decide +kernel
theorem dX13_more_91 : decode cX13_more 91 = .ok (.iload_n 2, 1) := by decide +kernel
theorem dX13_more_92 : decode cX13_more 92 = .ok (.aload_n 0, 1) := by decide +kernel
theorem dX13_more_93 : decode cX13_more 93 = .ok (.getfield 304, 3) := by decide +kernel
theorem dX13_more_96 : decode cX13_more 96 = .ok (.if_icmp .ge 21, 3) := by decide +kernel
theorem dX13_more_99 : decode cX13_more 99 = .ok (.aload_n 0, 1) := by decide +kernel
theorem dX13_more_100 : decode cX13_more 100 = .ok (.getfield 87, 3) := by decide +kernel
theorem dX13_more_103 : decode cX13_more 103 = .ok (.iload_n 2, 1) := by decide +kernel
theorem dX13_more_104 : decode cX13_more 104 = .ok (.aload_n 0, 1) := by decide +kernel
theorem dX13_more_105 : decode cX13_more 105 = .ok (.getfield 84, 3) := by decide +kernel
theorem dX13_more_108 : decode cX13_more 108 = .ok (.iload_n 2, 1) := by decide +kernel
theorem dX13_more_109 : decode cX13_more 109 = .ok (.iaload, 1) := by decide +kernel
theorem dX13_more_110 : decode cX13_more 110 = .ok (.iastore, 1) := by decide +kernel
theorem dX13_more_111 : decode cX13_more 111 = .ok (.iinc 2 1, 3) := by decide +kernel
theorem dX13_more_114 : decode cX13_more 114 = .ok (.goto (-23), 3) := by decide +kernel
theorem dX13_more_117 : decode cX13_more 117 = .ok (.aload_n 0, 1) := by decide +kernel
theorem dX13_more_118 : decode cX13_more 118 = .ok (.aload_n 0, 1) := by decide +kernel
theorem dX13_more_119 : decode cX13_more 119 = .ok (.aload_n 0, 1) := by decide +kernel
theorem dX13_more_120 : decode cX13_more 120 = .ok (.getfield 304, 3) := by decide +kernel
theorem dX13_more_123 : decode cX13_more 123 = .ok (.invokevirtual 402, 3) := by decide +kernel
theorem dX13_more_126 : decode cX13_more 126 = .ok (.aload_n 0, 1) := by decide +kernel
theorem dX13_more_127 : decode cX13_more 127 = .ok (.getfield 304, 3) := by decide +kernel
theorem dX13_more_130 : decode cX13_more 130 = .ok (.invokevirtual 399, 3) := by decide +kernel
theorem dX13_more_133 : decode cX13_more 133 = .ok (.ireturn, 1) := by decide +kernel
theorem dX13_moreAt_0 : decode cX13_moreAt 0 = .ok (.aload_n 0, 1) := by decide +kernel
theorem dX13_moreAt_1 : decode cX13_moreAt 1 = .ok (.iconst 0, 1) := by decide +kernel
theorem dX13_moreAt_2 : decode cX13_moreAt 2 = .ok (.putfield 148, 3) := by decide +kernel
theorem dX13_moreAt_5 : decode cX13_moreAt 5 = .ok (.iload_n 1, 1) := by decide +kernel
theorem dX13_moreAt_6 : decode cX13_moreAt 6 = .ok (.ifCond .lt 20, 3) := by decide +kernel
theorem dX13_moreAt_9 : decode cX13_moreAt 9 = .ok (.iload_n 1, 1) := by decide +kernel
theorem dX13_moreAt_10 : decode cX13_moreAt 10 = .ok (.aload_n 0, 1) := by decide +kernel
theorem dX13_moreAt_11 : decode cX13_moreAt 11 = .ok (.getfield 405, 3) := by decide +kernel
theorem dX13_moreAt_14 : decode cX13_moreAt 14 = .ok (.if_icmp .ge 12, 3) := by decide +kernel
theorem dX13_moreAt_17 : decode cX13_moreAt 17 = .ok (.aload_n 0, 1) := by decide +kernel
theorem dX13_moreAt_18 : decode cX13_moreAt 18 = .ok (.getfield 87, 3) := by decide +kernel
theorem dX13_moreAt_21 : decode cX13_moreAt 21 = .ok (.iload_n 1, 1) := by decide +kernel
theorem dX13_moreAt_22 : decode cX13_moreAt 22 = .ok (.iaload, 1) := by decide +kernel
theorem dX13_moreAt_23 : decode cX13_moreAt 23 = .ok (.goto 4, 3) := by decide +kernel
theorem dX13_moreAt_26 : decode cX13_moreAt 26 = .ok (.iconst (-1), 1) := by decide +kernel
theorem dX13_moreAt_27 : decode cX13_moreAt 27 = .ok (.ireturn, 1) := by decide +kernel
theorem nSh_c {D : zYd} {f g g' : Nat → Nat} {n p : Nat} (h : g p = g' p) : nSh D f g n p = nSh D f g' n p := by unfold nSh; rw [h]
theorem pSl_c {D : zYd} {f g g' : Nat → Nat} {n : Nat} : ∀ k, k ≤ n → (∀ p, p < n → g p = g' p) → pSl D f g n k = pSl D f g' n k
  | 0, _, _ => rfl
  | k + 1, hk, h => by
    have ih := pSl_c (D := D) (f := f) (g := g) (g' := g') (n := n) k (by omega) h
    have hl : pSl D f g' n k < n := by
      by_cases h0 : k = 0
      · subst h0; exact (show 0 < n by omega)
      · exact Nat.lt_of_lt_of_le (pSl_lt k (by omega)) (by omega)
    rw [pSl, pSl, ih, nSh_c (h k (by omega)), nSh_c (h _ hl)]
/-- who stands beside, as the reference counts them -/
def mBe (D : zYd) (f gb : Nat → Nat) (n : Nat) : Nat → (Nat → Nat)
  | 0 => nCl (fun _ => 0) gb n
  | i + 1 => un (mBe D f gb n i) (pSl D f (mBe D f gb n i) n n) (mBe D f gb n i (pSl D f (mBe D f gb n i) n n) + 1)
theorem mBe_p {D : zYd} {f gb : Nat → Nat} {n : Nat} : ∀ i p, p < n → mBe D f gb n i p = pOth D f n i p
  | 0, p, hp => nCl_s hp
  | i + 1, p, hp => by
    have e := pSl_c (D := D) (f := f) n (Nat.le_refl n) (mBe_p i (D := D) (f := f) (gb := gb) (n := n))
    have hl : pSl D f (pOth D f n i) n n < n := pSl_lt n (by omega)
    rw [mBe, pOth, e, mBe_p i _ hl]
    by_cases q : p = pSl D f (pOth D f n i) n n
    · rw [← q, un_s, un_s]
    · rw [un_n q, un_n q, mBe_p i p hp]
set_option maxRecDepth 100000 in
theorem s_mShared (l : Launch) (dd : Nat) (mo : Nat) (e : Nat → Nat) (g : Nat → Int32) (w : Int64) (nw : Nat → Int32) (D : zYd) (M : zRs) (f gb : Nat → Nat) (n : Nat) (p : Nat) (hd : 4 ≤ dd) (hR : yR D nw) (hD : yI D) (hn : 2 ≤ n ∧ n ≤ 12) (hft : ∀ p, p < n → M.2 24 p = f p) (hfD : ∀ p, p < n → f p < D.1 0) (hgb : ∀ p, p < n → gb p ≤ 100) (hp : p < n) : zSp l mX13_shared dd 0 0 [.ref mo, .int (nI p), .int (nI n)] [(mo, .inr (11, fMo e (mg g M.1) w)), ((e 14), .inl (0, 800, .inl nw)), ((e 24), .inl (0, 12, .inl (nF (M.2 24)))), ((e 25), .inl (0, 12, .inl (nF (M.2 25)))), ((e 26), .inl (0, 12, .inl (nF (M.2 26)))), ((e 27), .inl (0, 12, .inl (nF (M.2 27)))), ((e 28), .inl (0, 360, .inl (nF (M.2 28)))), ((e 29), .inl (0, 12, .inl (nF (M.2 29)))), ((e 30), .inl (0, 12, .inl (nF (M.2 30)))), ((e 31), .inl (0, 30, .inl (nF (M.2 31)))), ((e 32), .inl (0, 12, .inl (nF (M.2 32)))), ((e 53), .inl (0, 12, .inl (nF gb)))] (fun r K' => r = some (.int (nI (nSh D f gb n p))) ∧ K' = kTm mo e g w nw M ++ [((e 53), .inl (0, 12, .inl (nF gb)))]) := by
  refine zSp.of (by decide) (Nat.le_of_ble_eq_true rfl) (fun h0 => ?_)
  show zS _ 0 0 0 [(0, .ref mo), (1, .int (nI p)), (2, .int (nI n))] [] [(mo, .inr (11, fMo e (mg g M.1) w)), ((e 14), .inl (0, 800, .inl nw)), ((e 24), .inl (0, 12, .inl (nF (M.2 24)))), ((e 25), .inl (0, 12, .inl (nF (M.2 25)))), ((e 26), .inl (0, 12, .inl (nF (M.2 26)))), ((e 27), .inl (0, 12, .inl (nF (M.2 27)))), ((e 28), .inl (0, 360, .inl (nF (M.2 28)))), ((e 29), .inl (0, 12, .inl (nF (M.2 29)))), ((e 30), .inl (0, 12, .inl (nF (M.2 30)))), ((e 31), .inl (0, 30, .inl (nF (M.2 31)))), ((e 32), .inl (0, 12, .inl (nF (M.2 32)))), ((e 53), .inl (0, 12, .inl (nF gb)))]
  have hm := hfD p hp
  have hgp := hgb p hp
  have hti : nTime D.1 D.2.2.2.1 (f p) p n ≤ 100 := nTime_le hD.2.2.2.2.2.2.2.2.2.1.2 hD.2.2.2.2.2.2.2.2.2.2.2.2.1.2 hD.2.2.2.2.2.2.2.2.2.2.2.2.2.2.2.2.1.2 hn.1 (hD.2.2.2.2.2.2.2.1 (f p)).1
  refine zs_aload_n dX13_shared_0 rfl rfl ?_
  refine zs_iload_n dX13_shared_1 rfl ?_
  refine zs_iload_n dX13_shared_2 rfl ?_
  refine zs_aload_n dX13_shared_3 rfl rfl ?_
  refine zs_get 0 dX13_shared_4 zf_RX13_39 rfl (v := .ref (e 24)) rfl ?_
  refine zs_iload_n dX13_shared_7 rfl ?_
  refine zs_iald 2 dX13_shared_8 rfl (vp_in_nI (by omega) (by omega)) ?_
  refine zs_as (y := nI (f p)) (by rw [nI_c (n := p) (by omega)]; exact congrArg nI (hft p hp)) ?_
  refine zs_callV (M := mX13_timeOf) (As := [.int (nI p), .int (nI n), .int (nI (f p))]) (st := []) (Kc := [(mo, .inr (11, fMo e (mg g M.1) w)), ((e 14), .inl (0, 800, .inl nw))]) (Kr := [((e 24), .inl (0, 12, .inl (nF (M.2 24)))), ((e 25), .inl (0, 12, .inl (nF (M.2 25)))), ((e 26), .inl (0, 12, .inl (nF (M.2 26)))), ((e 27), .inl (0, 12, .inl (nF (M.2 27)))), ((e 28), .inl (0, 360, .inl (nF (M.2 28)))), ((e 29), .inl (0, 12, .inl (nF (M.2 29)))), ((e 30), .inl (0, 12, .inl (nF (M.2 30)))), ((e 31), .inl (0, 30, .inl (nF (M.2 31)))), ((e 32), .inl (0, 12, .inl (nF (M.2 32)))), ((e 53), .inl (0, 12, .inl (nF gb)))]) [0, 1] [2, 3, 4, 5, 6, 7, 8, 9, 10, 11] 0 dX13_shared_9 zl_RX13_347 kX13_timeOf rfl rfl rfl rfl rfl (by decide) rfl rfl (show dd - 1 + 1 ≤ dd by omega) (Nat.zero_le _) (Nat.zero_le _) (Nat.le_of_ble_eq_true rfl) (s_mTimeOf l (dd - 1) mo e (mg g M.1) w nw D p n (f p) (by omega) hR hD (by omega) (by omega) hm) (fun r K1 hr => ?_)
  obtain ⟨rfl, rfl⟩ := hr
  refine zs_K (K' := [(mo, .inr (11, fMo e (mg g M.1) w)), ((e 14), .inl (0, 800, .inl nw)), ((e 24), .inl (0, 12, .inl (nF (M.2 24)))), ((e 25), .inl (0, 12, .inl (nF (M.2 25)))), ((e 26), .inl (0, 12, .inl (nF (M.2 26)))), ((e 27), .inl (0, 12, .inl (nF (M.2 27)))), ((e 28), .inl (0, 360, .inl (nF (M.2 28)))), ((e 29), .inl (0, 12, .inl (nF (M.2 29)))), ((e 30), .inl (0, 12, .inl (nF (M.2 30)))), ((e 31), .inl (0, 30, .inl (nF (M.2 31)))), ((e 32), .inl (0, 12, .inl (nF (M.2 32)))), ((e 53), .inl (0, 12, .inl (nF gb)))]) [10, 11, 0, 1, 2, 3, 4, 5, 6, 7, 8, 9] rfl (by decide) ?_
  refine zs_aload_n dX13_shared_12 rfl rfl ?_
  refine zs_get 0 dX13_shared_13 zf_RX13_84 rfl (v := .ref (e 53)) rfl ?_
  refine zs_iload_n dX13_shared_16 rfl ?_
  refine zs_iald 11 dX13_shared_17 rfl (vp_in_nI (by omega) (by omega)) ?_
  refine zs_as (y := nI (gb p)) (by rw [nI_c (n := p) (by omega)]; rfl) ?_
  refine zs_iconst (v := nI 1) dX13_shared_18 (by decide) ?_
  refine zs_iadd dX13_shared_19 ?_
  refine zs_as (y := nI ((gb p) + 1)) (nI_add _ _) ?_
  refine zs_callS (M := mX13_up) (As := [.int (nI (nTime D.1 D.2.2.2.1 (f p) p n)), .int (nI ((gb p) + 1))]) (st := []) (Kc := []) (Kr := [(mo, .inr (11, fMo e (mg g M.1) w)), ((e 14), .inl (0, 800, .inl nw)), ((e 24), .inl (0, 12, .inl (nF (M.2 24)))), ((e 25), .inl (0, 12, .inl (nF (M.2 25)))), ((e 26), .inl (0, 12, .inl (nF (M.2 26)))), ((e 27), .inl (0, 12, .inl (nF (M.2 27)))), ((e 28), .inl (0, 360, .inl (nF (M.2 28)))), ((e 29), .inl (0, 12, .inl (nF (M.2 29)))), ((e 30), .inl (0, 12, .inl (nF (M.2 30)))), ((e 31), .inl (0, 30, .inl (nF (M.2 31)))), ((e 32), .inl (0, 12, .inl (nF (M.2 32)))), ((e 53), .inl (0, 12, .inl (nF gb)))]) [] [0, 1, 2, 3, 4, 5, 6, 7, 8, 9, 10, 11] dX13_shared_20 zl_RX13_328 kX13_up rfl rfl rfl rfl rfl (by decide) (show dd - 1 + 1 ≤ dd by omega) (Nat.zero_le _) (Nat.zero_le _) (Nat.le_of_ble_eq_true rfl) (s_mUp l (dd - 1) (nTime D.1 D.2.2.2.1 (f p) p n) ((gb p) + 1) (by omega) (by omega)) (fun r K1 hr => ?_)
  obtain ⟨rfl, rfl⟩ := hr
  refine zs_K (K' := [(mo, .inr (11, fMo e (mg g M.1) w)), ((e 14), .inl (0, 800, .inl nw)), ((e 24), .inl (0, 12, .inl (nF (M.2 24)))), ((e 25), .inl (0, 12, .inl (nF (M.2 25)))), ((e 26), .inl (0, 12, .inl (nF (M.2 26)))), ((e 27), .inl (0, 12, .inl (nF (M.2 27)))), ((e 28), .inl (0, 360, .inl (nF (M.2 28)))), ((e 29), .inl (0, 12, .inl (nF (M.2 29)))), ((e 30), .inl (0, 12, .inl (nF (M.2 30)))), ((e 31), .inl (0, 30, .inl (nF (M.2 31)))), ((e 32), .inl (0, 12, .inl (nF (M.2 32)))), ((e 53), .inl (0, 12, .inl (nF gb)))]) [0, 1, 2, 3, 4, 5, 6, 7, 8, 9, 10, 11] rfl (by decide) ?_
  exact zs_iret dX13_shared_23 rfl ⟨rfl, rfl⟩
set_option maxRecDepth 100000 in
theorem lp_mlo {l : Launch} {dd : Nat} {Po : zPo} {K0 : zK} {h0 : List va_E} {Xo : zK → Prop} {Gc : zG → Prop} (mo : Nat) (e : Nat → Nat) (g : Nat → Int32) (w : Int64) (nw : Nat → Int32) (D : zYd) (M : zRs) (f gb : Nat → Nat) (n : Nat) (hd : 5 ≤ dd) (hR : yR D nw) (hD : yI D) (hn : 2 ≤ n ∧ n ≤ 12) (hft : ∀ p, p < n → M.2 24 p = f p) (hfD : ∀ p, p < n → f p < D.1 0) (hgb : ∀ p, p < n → gb p ≤ 100) (hP : ∀ r K', (r = some (.int (nI (pSl D f gb n n))) ∧ K' = kTm mo e g w nw M ++ [((e 53), .inl (0, 12, .inl (nF gb)))]) → Po r K') : ∀ (m k : Nat), k + m = n → 1 ≤ k → zS (l, mX13_longest, dd, Po, K0, h0, Xo, Gc) 0 0 4 [(0, .ref mo), (1, .int (nI n)), (2, .int (nI (pSl D f gb n k))), (3, .int (nI k))] [] [(mo, .inr (11, fMo e (mg g M.1) w)), ((e 14), .inl (0, 800, .inl nw)), ((e 24), .inl (0, 12, .inl (nF (M.2 24)))), ((e 25), .inl (0, 12, .inl (nF (M.2 25)))), ((e 26), .inl (0, 12, .inl (nF (M.2 26)))), ((e 27), .inl (0, 12, .inl (nF (M.2 27)))), ((e 28), .inl (0, 360, .inl (nF (M.2 28)))), ((e 29), .inl (0, 12, .inl (nF (M.2 29)))), ((e 30), .inl (0, 12, .inl (nF (M.2 30)))), ((e 31), .inl (0, 30, .inl (nF (M.2 31)))), ((e 32), .inl (0, 12, .inl (nF (M.2 32)))), ((e 53), .inl (0, 12, .inl (nF gb)))] := by
  intro m
  induction m with
  | zero =>
    intro k hi hk1
    refine zs_iload_n dX13_longest_4 rfl ?_
    refine zs_iload_n dX13_longest_5 rfl ?_
    refine zs_icmp_ge (tgt := 32) dX13_longest_6 (by decide) (fun c_1 => ?_) (fun c_1 => (c_1 (by rw [show k = n by omega]; exact Int32.le_refl _) : False).elim)
    refine zs_iload_n dX13_longest_32 rfl ?_
    exact zs_iret dX13_longest_33 rfl (hP _ _ ⟨by rw [show k = n by omega], rfl⟩)
  | succ m ih =>
    intro k hi hk1
    refine zs_iload_n dX13_longest_4 rfl ?_
    refine zs_iload_n dX13_longest_5 rfl ?_
    refine zs_icmp_ge (tgt := 32) dX13_longest_6 (by decide) (fun c_1 => (nI_ge (show k < n by omega) (by omega) c_1 : False).elim) (fun c_1 => ?_)
    have hsl : pSl D f gb n k < k := pSl_lt k hk1
    have hs1 := nSh_le (f := f) (g := gb) (p := k) hD hn.1
    have hs2 := nSh_le (f := f) (g := gb) (p := pSl D f gb n k) hD hn.1
    refine zs_aload_n dX13_longest_9 rfl rfl ?_
    refine zs_iload_n dX13_longest_10 rfl ?_
    refine zs_iload_n dX13_longest_11 rfl ?_
    refine zs_callV (M := mX13_shared) (As := [.int (nI k), .int (nI n)]) (st := []) (Kc := [(mo, .inr (11, fMo e (mg g M.1) w)), ((e 14), .inl (0, 800, .inl nw)), ((e 24), .inl (0, 12, .inl (nF (M.2 24)))), ((e 25), .inl (0, 12, .inl (nF (M.2 25)))), ((e 26), .inl (0, 12, .inl (nF (M.2 26)))), ((e 27), .inl (0, 12, .inl (nF (M.2 27)))), ((e 28), .inl (0, 360, .inl (nF (M.2 28)))), ((e 29), .inl (0, 12, .inl (nF (M.2 29)))), ((e 30), .inl (0, 12, .inl (nF (M.2 30)))), ((e 31), .inl (0, 30, .inl (nF (M.2 31)))), ((e 32), .inl (0, 12, .inl (nF (M.2 32)))), ((e 53), .inl (0, 12, .inl (nF gb)))]) (Kr := []) [0, 1, 2, 3, 4, 5, 6, 7, 8, 9, 10, 11] [] 0 dX13_longest_12 zl_RX13_399 kX13_shared rfl rfl rfl rfl rfl (by decide) rfl rfl (show dd - 1 + 1 ≤ dd by omega) (Nat.zero_le _) (Nat.zero_le _) (Nat.le_of_ble_eq_true rfl) (s_mShared l (dd - 1) mo e g w nw D M f gb n k (by omega) hR hD hn hft hfD hgb (by omega)) (fun r K1 hr => ?_)
    obtain ⟨rfl, rfl⟩ := hr
    refine zs_K (K' := [(mo, .inr (11, fMo e (mg g M.1) w)), ((e 14), .inl (0, 800, .inl nw)), ((e 24), .inl (0, 12, .inl (nF (M.2 24)))), ((e 25), .inl (0, 12, .inl (nF (M.2 25)))), ((e 26), .inl (0, 12, .inl (nF (M.2 26)))), ((e 27), .inl (0, 12, .inl (nF (M.2 27)))), ((e 28), .inl (0, 360, .inl (nF (M.2 28)))), ((e 29), .inl (0, 12, .inl (nF (M.2 29)))), ((e 30), .inl (0, 12, .inl (nF (M.2 30)))), ((e 31), .inl (0, 30, .inl (nF (M.2 31)))), ((e 32), .inl (0, 12, .inl (nF (M.2 32)))), ((e 53), .inl (0, 12, .inl (nF gb)))]) [0, 1, 2, 3, 4, 5, 6, 7, 8, 9, 10, 11] rfl (by decide) ?_
    refine zs_aload_n dX13_longest_15 rfl rfl ?_
    refine zs_iload_n dX13_longest_16 rfl ?_
    refine zs_iload_n dX13_longest_17 rfl ?_
    refine zs_callV (M := mX13_shared) (As := [.int (nI (pSl D f gb n k)), .int (nI n)]) (st := [.int (nI (nSh D f gb n k))]) (Kc := [(mo, .inr (11, fMo e (mg g M.1) w)), ((e 14), .inl (0, 800, .inl nw)), ((e 24), .inl (0, 12, .inl (nF (M.2 24)))), ((e 25), .inl (0, 12, .inl (nF (M.2 25)))), ((e 26), .inl (0, 12, .inl (nF (M.2 26)))), ((e 27), .inl (0, 12, .inl (nF (M.2 27)))), ((e 28), .inl (0, 360, .inl (nF (M.2 28)))), ((e 29), .inl (0, 12, .inl (nF (M.2 29)))), ((e 30), .inl (0, 12, .inl (nF (M.2 30)))), ((e 31), .inl (0, 30, .inl (nF (M.2 31)))), ((e 32), .inl (0, 12, .inl (nF (M.2 32)))), ((e 53), .inl (0, 12, .inl (nF gb)))]) (Kr := []) [0, 1, 2, 3, 4, 5, 6, 7, 8, 9, 10, 11] [] 0 dX13_longest_18 zl_RX13_399 kX13_shared rfl rfl rfl rfl rfl (by decide) rfl rfl (show dd - 1 + 1 ≤ dd by omega) (Nat.zero_le _) (Nat.zero_le _) (Nat.le_of_ble_eq_true rfl) (s_mShared l (dd - 1) mo e g w nw D M f gb n (pSl D f gb n k) (by omega) hR hD hn hft hfD hgb (by omega)) (fun r K1 hr => ?_)
    obtain ⟨rfl, rfl⟩ := hr
    refine zs_K (K' := [(mo, .inr (11, fMo e (mg g M.1) w)), ((e 14), .inl (0, 800, .inl nw)), ((e 24), .inl (0, 12, .inl (nF (M.2 24)))), ((e 25), .inl (0, 12, .inl (nF (M.2 25)))), ((e 26), .inl (0, 12, .inl (nF (M.2 26)))), ((e 27), .inl (0, 12, .inl (nF (M.2 27)))), ((e 28), .inl (0, 360, .inl (nF (M.2 28)))), ((e 29), .inl (0, 12, .inl (nF (M.2 29)))), ((e 30), .inl (0, 12, .inl (nF (M.2 30)))), ((e 31), .inl (0, 30, .inl (nF (M.2 31)))), ((e 32), .inl (0, 12, .inl (nF (M.2 32)))), ((e 53), .inl (0, 12, .inl (nF gb)))]) [0, 1, 2, 3, 4, 5, 6, 7, 8, 9, 10, 11] rfl (by decide) ?_
    refine zs_icmp_le (tgt := 26) dX13_longest_21 (by decide) (fun c_2 => ?_) (fun c_2 => ?_)
    · have c_2 : (nSh D f gb n k) ≤ (nSh D f gb n (pSl D f gb n k)) := by have hc := c_2; rw [nI_le' (by omega) (by omega)] at hc; exact hc
      refine zs_iinc (v := (nI (k + 1))) (lv' := [(3, .int (nI (k + 1))), (0, .ref mo), (1, .int (nI n)), (2, .int (nI (pSl D f gb n k)))]) dX13_longest_26 rfl (nI_add _ 1) (Nat.le_of_ble_eq_true rfl) rfl ?_
      refine zs_goto (tgt := 4) dX13_longest_29 (by decide) ?_
      have ek : pSl D f gb n (k + 1) = pSl D f gb n k := by rw [pSl, if_neg (by omega)]
      have hgo := ih (k + 1) (by omega) (by omega)
      rw [ek] at hgo
      refine zs_lv [1, 2, 3, 0] rfl ?_
      exact hgo
    · have c_2 : ¬ ((nSh D f gb n k) ≤ (nSh D f gb n (pSl D f gb n k))) := by have hc := c_2; rw [nI_le' (by omega) (by omega)] at hc; exact hc
      refine zs_iload_n dX13_longest_24 rfl ?_
      refine zs_istore_n (lv' := [(2, .int (nI k)), (0, .ref mo), (1, .int (nI n)), (3, .int (nI k))]) dX13_longest_25 (Nat.le_of_ble_eq_true rfl) rfl ?_
      refine zs_iinc (v := (nI (k + 1))) (lv' := [(3, .int (nI (k + 1))), (2, .int (nI k)), (0, .ref mo), (1, .int (nI n))]) dX13_longest_26 rfl (nI_add _ 1) (Nat.le_of_ble_eq_true rfl) rfl ?_
      refine zs_goto (tgt := 4) dX13_longest_29 (by decide) ?_
      have ek : pSl D f gb n (k + 1) = k := by rw [pSl, if_pos (by omega)]
      have hgo := ih (k + 1) (by omega) (by omega)
      rw [ek] at hgo
      refine zs_lv [2, 3, 1, 0] rfl ?_
      exact hgo
set_option maxRecDepth 100000 in
theorem s_mLongest (l : Launch) (dd : Nat) (mo : Nat) (e : Nat → Nat) (g : Nat → Int32) (w : Int64) (nw : Nat → Int32) (D : zYd) (M : zRs) (f gb : Nat → Nat) (n : Nat) (hd : 5 ≤ dd) (hR : yR D nw) (hD : yI D) (hn : 2 ≤ n ∧ n ≤ 12) (hft : ∀ p, p < n → M.2 24 p = f p) (hfD : ∀ p, p < n → f p < D.1 0) (hgb : ∀ p, p < n → gb p ≤ 100) : zSp l mX13_longest dd 0 0 [.ref mo, .int (nI n)] [(mo, .inr (11, fMo e (mg g M.1) w)), ((e 14), .inl (0, 800, .inl nw)), ((e 24), .inl (0, 12, .inl (nF (M.2 24)))), ((e 25), .inl (0, 12, .inl (nF (M.2 25)))), ((e 26), .inl (0, 12, .inl (nF (M.2 26)))), ((e 27), .inl (0, 12, .inl (nF (M.2 27)))), ((e 28), .inl (0, 360, .inl (nF (M.2 28)))), ((e 29), .inl (0, 12, .inl (nF (M.2 29)))), ((e 30), .inl (0, 12, .inl (nF (M.2 30)))), ((e 31), .inl (0, 30, .inl (nF (M.2 31)))), ((e 32), .inl (0, 12, .inl (nF (M.2 32)))), ((e 53), .inl (0, 12, .inl (nF gb)))] (fun r K' => r = some (.int (nI (pSl D f gb n n))) ∧ K' = kTm mo e g w nw M ++ [((e 53), .inl (0, 12, .inl (nF gb)))]) := by
  refine zSp.of (by decide) (Nat.le_of_ble_eq_true rfl) (fun h0 => ?_)
  show zS _ 0 0 0 [(0, .ref mo), (1, .int (nI n))] [] [(mo, .inr (11, fMo e (mg g M.1) w)), ((e 14), .inl (0, 800, .inl nw)), ((e 24), .inl (0, 12, .inl (nF (M.2 24)))), ((e 25), .inl (0, 12, .inl (nF (M.2 25)))), ((e 26), .inl (0, 12, .inl (nF (M.2 26)))), ((e 27), .inl (0, 12, .inl (nF (M.2 27)))), ((e 28), .inl (0, 360, .inl (nF (M.2 28)))), ((e 29), .inl (0, 12, .inl (nF (M.2 29)))), ((e 30), .inl (0, 12, .inl (nF (M.2 30)))), ((e 31), .inl (0, 30, .inl (nF (M.2 31)))), ((e 32), .inl (0, 12, .inl (nF (M.2 32)))), ((e 53), .inl (0, 12, .inl (nF gb)))]
  refine zs_iconst (v := nI 0) dX13_longest_0 (by decide) ?_
  refine zs_istore_n (lv' := [(2, .int (nI 0)), (0, .ref mo), (1, .int (nI n))]) dX13_longest_1 (Nat.le_of_ble_eq_true rfl) rfl ?_
  refine zs_iconst (v := nI 1) dX13_longest_2 (by decide) ?_
  refine zs_istore_n (lv' := [(3, .int (nI 1)), (2, .int (nI 0)), (0, .ref mo), (1, .int (nI n))]) dX13_longest_3 (Nat.le_of_ble_eq_true rfl) rfl ?_
  have hgo := lp_mlo (l := l) (dd := dd) (Po := fun r K' => r = some (.int (nI (pSl D f gb n n))) ∧ K' = kTm mo e g w nw M ++ [((e 53), .inl (0, 12, .inl (nF gb)))]) (K0 := [(mo, .inr (11, fMo e (mg g M.1) w)), ((e 14), .inl (0, 800, .inl nw)), ((e 24), .inl (0, 12, .inl (nF (M.2 24)))), ((e 25), .inl (0, 12, .inl (nF (M.2 25)))), ((e 26), .inl (0, 12, .inl (nF (M.2 26)))), ((e 27), .inl (0, 12, .inl (nF (M.2 27)))), ((e 28), .inl (0, 360, .inl (nF (M.2 28)))), ((e 29), .inl (0, 12, .inl (nF (M.2 29)))), ((e 30), .inl (0, 12, .inl (nF (M.2 30)))), ((e 31), .inl (0, 30, .inl (nF (M.2 31)))), ((e 32), .inl (0, 12, .inl (nF (M.2 32)))), ((e 53), .inl (0, 12, .inl (nF gb)))]) (h0 := h0) (Xo := fun _ => False) (Gc := fun _ => True) mo e g w nw D M f gb n hd hR hD hn hft hfD hgb (fun r K1 h => h) (n - 1) 1 (by omega) (Nat.le_refl _)
  rw [pSl_1] at hgo
  refine zs_lv [2, 3, 1, 0] rfl ?_
  exact hgo
