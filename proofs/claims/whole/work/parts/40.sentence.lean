/-! ===== a sentence read; whether it holds ===== -/
theorem dX7_readAll_0 : decode cX7_readAll 0 = .ok (.aload_n 0, 1) := by decide +kernel
theorem dX7_readAll_1 : decode cX7_readAll 1 = .ok (.aload_n 1, 1) := by decide +kernel
theorem dX7_readAll_2 : decode cX7_readAll 2 = .ok (.iload_n 2, 1) := by decide +kernel
theorem dX7_readAll_3 : decode cX7_readAll 3 = .ok (.invokevirtual 74, 3) := by decide +kernel
theorem dX7_readAll_6 : decode cX7_readAll 6 = .ok (.ifCond .ne 5, 3) := by decide +kernel
theorem dX7_readAll_9 : decode cX7_readAll 9 = .ok (.iconst 0, 1) := by decide +kernel
theorem dX7_readAll_10 : decode cX7_readAll 10 = .ok (.ireturn, 1) := by decide +kernel
theorem dX7_readAll_11 : decode cX7_readAll 11 = .ok (.iconst 0, 1) := by decide +kernel
theorem dX7_readAll_12 : decode cX7_readAll 12 = .ok (.istore_n 3, 1) := by decide +kernel
theorem dX7_readAll_13 : decode cX7_readAll 13 = .ok (.iload_n 3, 1) := by decide +kernel
theorem dX7_readAll_14 : decode cX7_readAll 14 = .ok (.bipush 20, 2) := by decide +kernel
theorem dX7_readAll_16 : decode cX7_readAll 16 = .ok (.if_icmp .ge 47, 3) := by decide +kernel
theorem dX7_readAll_19 : decode cX7_readAll 19 = .ok (.aload_n 1, 1) := by decide +kernel
theorem dX7_readAll_20 : decode cX7_readAll 20 = .ok (.getfield 54, 3) := by decide +kernel
theorem dX7_readAll_23 : decode cX7_readAll 23 = .ok (.getstatic 77, 3) := by decide +kernel
theorem dX7_readAll_26 : decode cX7_readAll 26 = .ok (.if_acmp .eq 5, 3) := by decide +kernel
theorem dX7_readAll_29 : decode cX7_readAll 29 = .ok (.iconst 1, 1) := by decide +kernel
theorem dX7_readAll_30 : decode cX7_readAll 30 = .ok (.ireturn, 1) := by decide +kernel
theorem dX7_readAll_31 : decode cX7_readAll 31 = .ok (.aload_n 1, 1) := by decide +kernel
theorem dX7_readAll_32 : decode cX7_readAll 32 = .ok (.invokevirtual 63, 3) := by decide +kernel
theorem dX7_readAll_35 : decode cX7_readAll 35 = .ok (.aload_n 0, 1) := by decide +kernel
theorem dX7_readAll_36 : decode cX7_readAll 36 = .ok (.aload_n 1, 1) := by decide +kernel
theorem dX7_readAll_37 : decode cX7_readAll 37 = .ok (.iload_n 2, 1) := by decide +kernel
theorem dX7_readAll_38 : decode cX7_readAll 38 = .ok (.invokevirtual 74, 3) := by decide +kernel
theorem dX7_readAll_41 : decode cX7_readAll 41 = .ok (.ifCond .eq 14, 3) := by decide +kernel
theorem dX7_readAll_44 : decode cX7_readAll 44 = .ok (.aload_n 0, 1) := by decide +kernel
theorem dX7_readAll_45 : decode cX7_readAll 45 = .ok (.bipush 7, 2) := by decide +kernel
theorem dX7_readAll_47 : decode cX7_readAll 47 = .ok (.iconst 0, 1) := by decide +kernel
theorem dX7_readAll_48 : decode cX7_readAll 48 = .ok (.iconst 0, 1) := by decide +kernel
theorem dX7_readAll_49 : decode cX7_readAll 49 = .ok (.invokevirtual 66, 3) := by decide +kernel
theorem dX7_readAll_52 : decode cX7_readAll 52 = .ok (.ifCond .ne 5, 3) := by decide +kernel
theorem dX7_readAll_55 : decode cX7_readAll 55 = .ok (.iconst 0, 1) := by decide +kernel
theorem dX7_readAll_56 : decode cX7_readAll 56 = .ok (.ireturn, 1) := by decide +kernel
theorem dX7_readAll_57 : decode cX7_readAll 57 = .ok (.iinc 3 1, 3) := by decide +kernel
theorem dX7_readAll_60 : decode cX7_readAll 60 = .ok (.goto (-47), 3) := by decide +kernel
theorem dX7_readAll_63 : decode cX7_readAll 63 = .ok (.aload_n 1, 1) := by decide +kernel
theorem dX7_readAll_64 : decode cX7_readAll 64 = .ok (.iconst 4, 1) := by decide +kernel
theorem dX7_readAll_65 : decode cX7_readAll 65 = .ok (.invokevirtual 70, 3) := by decide +kernel
theorem dX7_readAll_68 : decode cX7_readAll 68 = .ok (.ireturn, 1) := by decide +kernel
set_option maxRecDepth 100000 in
theorem lp_readAll {l : Launch} {dd : Nat} {Po : zPo} {K0 : zK} {h0 : List va_E} {Xo : zK → Prop} {Gc : zG → Prop} (x b n L s : Nat) (as : Nat → Nat) (bt : Nat → Nat) (pl : Nat) (v : Nat) (f : zTk → Nat → zSe → zPs) (hd : 3 ≤ dd) (hn : n ≤ 740) (hL : L ≤ 740) (hbt : ∀ j, bt j < 256) (hf : ∀ τ tk S, tOK τ → tk ≤ 99999999 → sB S → zSp l mX7_readOne (dd - 1) 0 0 [.ref s, .ref x, .int (nI v)] [(x, .inr (8, fTx b n L τ 0 pl (nI tk))), (b, .inl (0, 740, .inl (nF bt))), (s, .inr (6, fSen as S.1 S.2.1)), (as 1, .inl (0, 40, .inl (nF S.2.2.1))), (as 2, .inl (0, 40, .inl (nF S.2.2.2.1))), (as 3, .inl (0, 40, .inl (nF S.2.2.2.2)))] (fun r K' => ((f τ tk S).1 = 0 ∧ r = some (.int 1) ∧ K' = kTx x b n L bt (f τ tk S).2.1 0 pl (f τ tk S).2.2.1 ++ kSn s as (f τ tk S).2.2.2) ∨ (¬ (f τ tk S).1 = 0 ∧ r = some (.int 0) ∧ K' = kTx x b n L bt (f τ tk S).2.1 (f τ tk S).1 (f τ tk S).2.1.2.1 (f τ tk S).2.2.1 ++ kSn s as (f τ tk S).2.2.2))) (hg : sG f) (G : zPs) (hP : ∀ r K', (G.1 = 0 ∧ r = some (.int 1) ∧ K' = kTx x b n L bt G.2.1 0 pl G.2.2.1 ++ kSn s as G.2.2.2) ∨ (¬ G.1 = 0 ∧ r = some (.int 0) ∧ K' = kTx x b n L bt G.2.1 G.1 G.2.1.2.1 G.2.2.1 ++ kSn s as G.2.2.2) → Po r K') : ∀ (q i : Nat) (τ : zTk) (tk : Nat) (S : zSe), i + q = 20 → tOK τ → tk ≤ 99999999 → sB S → sJn bt n L 21 7 f q τ tk S = G → zS (l, mX7_readAll, dd, Po, K0, h0, Xo, Gc) 0 0 13 [(0, .ref s), (1, .ref x), (2, .int (nI v)), (3, .int (nI i))] [] [(x, .inr (8, fTx b n L τ 0 pl (nI tk))), (b, .inl (0, 740, .inl (nF bt))), (s, .inr (6, fSen as S.1 S.2.1)), (as 1, .inl (0, 40, .inl (nF S.2.2.1))), (as 2, .inl (0, 40, .inl (nF S.2.2.2.1))), (as 3, .inl (0, 40, .inl (nF S.2.2.2.2)))] := by
  intro q
  induction q with
  | zero =>
    intro i τ tk S hi hτ htk hS hG
    refine zs_iload_n dX7_readAll_13 rfl ?_
    refine zs_bipush (v := nI 20) dX7_readAll_14 (by decide) ?_
    refine zs_icmp_ge (tgt := 63) dX7_readAll_16 (by decide) (fun c_1 => ?_) (fun c_1 => (c_1 (by rw [show i = 20 by omega]; exact Int32.le_refl _) : False).elim)
    refine zs_aload_n dX7_readAll_63 rfl rfl ?_
    refine zs_iconst (v := nI 4) dX7_readAll_64 (by decide) ?_
    refine zs_callV (M := mX9_refuse) (As := [.int (nI 4)]) (st := []) (Kc := [(x, .inr (8, fTx b n L τ 0 pl (nI tk)))]) (Kr := [(b, .inl (0, 740, .inl (nF bt))), (s, .inr (6, fSen as S.1 S.2.1)), (as 1, .inl (0, 40, .inl (nF S.2.2.1))), (as 2, .inl (0, 40, .inl (nF S.2.2.2.1))), (as 3, .inl (0, 40, .inl (nF S.2.2.2.2)))]) [0] [1, 2, 3, 4, 5] 0 dX7_readAll_65 zl_RX7_70 kX9_refuse rfl rfl rfl rfl rfl (by decide) rfl rfl (show dd - 1 + 1 ≤ dd by omega) (Nat.zero_le _) (Nat.zero_le _) (Nat.le_of_ble_eq_true rfl) (s_refuse l (dd - 1) x b n L τ pl 4 (nI tk)) (fun r K1 hr => ?_)
    obtain ⟨rfl, rfl⟩ := hr
    refine zs_K (K' := [(x, .inr (8, fTx b n L τ 4 τ.2.1 (nI tk))), (b, .inl (0, 740, .inl (nF bt))), (s, .inr (6, fSen as S.1 S.2.1)), (as 1, .inl (0, 40, .inl (nF S.2.2.1))), (as 2, .inl (0, 40, .inl (nF S.2.2.2.1))), (as 3, .inl (0, 40, .inl (nF S.2.2.2.2)))]) [5, 0, 1, 2, 3, 4] rfl (by decide) ?_
    have e : G = (4, τ, tk, S) := hG.symm
    exact zs_zret dX7_readAll_68 rfl (Or.inl rfl) (hP _ _ (Or.inr ⟨by rw [e]; exact (show ¬ 4 = 0 by decide), rfl, by rw [e]; rfl⟩))
  | succ q ih =>
    intro i τ tk S hi hτ htk hS hG
    refine zs_iload_n dX7_readAll_13 rfl ?_
    refine zs_bipush (v := nI 20) dX7_readAll_14 (by decide) ?_
    refine zs_icmp_ge (tgt := 63) dX7_readAll_16 (by decide) (fun c_1 => (nI_ge (show i < 20 by omega) (by omega) c_1 : False).elim) (fun c_1 => ?_)
    have hwd := hτ.2.2.2.2.2.2.2.1
    refine zs_aload_n dX7_readAll_19 rfl rfl ?_
    refine zs_get 0 dX7_readAll_20 zf_RX7_54 rfl (v := (wV τ.2.2.2.2)) rfl ?_
    refine zs_getsW (u := 21) dX7_readAll_23 (by decide) zg_RX7_77 ?_
    refine zs_acmp_eq (tgt := 31) dX7_readAll_26 (by decide) (wV_w hwd) rfl (fun c_2 => ?_) (fun c_2 => ?_)
    · refine zs_aload_n dX7_readAll_31 rfl rfl ?_
      refine zs_callV (M := mX9_next) (As := []) (st := []) (Kc := [(x, .inr (8, fTx b n L τ 0 pl (nI tk))), (b, .inl (0, 740, .inl (nF bt)))]) (Kr := [(s, .inr (6, fSen as S.1 S.2.1)), (as 1, .inl (0, 40, .inl (nF S.2.2.1))), (as 2, .inl (0, 40, .inl (nF S.2.2.2.1))), (as 3, .inl (0, 40, .inl (nF S.2.2.2.2)))]) [0, 1] [2, 3, 4, 5] 0 dX7_readAll_32 zl_RX7_63 kX9_next rfl rfl rfl rfl rfl (by decide) rfl rfl (show dd - 1 + 1 ≤ dd by omega) (Nat.zero_le _) (Nat.zero_le _) (Nat.le_of_ble_eq_true rfl) (s_next l (dd - 1) x b n L bt τ 0 pl (nI tk) (by omega) hn hL hbt hτ.2.2.1) (fun r K1 hr => ?_)
      obtain ⟨rfl, rfl⟩ := hr
      refine zs_K (K' := [(x, .inr (8, fTx b n L (nxt bt n L τ) 0 pl (nI tk))), (b, .inl (0, 740, .inl (nF bt))), (s, .inr (6, fSen as S.1 S.2.1)), (as 1, .inl (0, 40, .inl (nF S.2.2.1))), (as 2, .inl (0, 40, .inl (nF S.2.2.2.1))), (as 3, .inl (0, 40, .inl (nF S.2.2.2.2)))]) [4, 5, 0, 1, 2, 3] rfl (by decide) ?_
      refine zs_aload_n dX7_readAll_35 rfl rfl ?_
      refine zs_aload_n dX7_readAll_36 rfl rfl ?_
      refine zs_iload_n dX7_readAll_37 rfl ?_
      have hI := hg (nxt bt n L τ) tk S (nxt_OK hbt hn) htk hS
      refine zs_callV (M := mX7_readOne) (As := [.ref x, .int (nI v)]) (st := []) (Kc := [(x, .inr (8, fTx b n L (nxt bt n L τ) 0 pl (nI tk))), (b, .inl (0, 740, .inl (nF bt))), (s, .inr (6, fSen as S.1 S.2.1)), (as 1, .inl (0, 40, .inl (nF S.2.2.1))), (as 2, .inl (0, 40, .inl (nF S.2.2.2.1))), (as 3, .inl (0, 40, .inl (nF S.2.2.2.2)))]) (Kr := []) [0, 1, 2, 3, 4, 5] [] 2 dX7_readAll_38 zl_RX7_74 kX7_readOne rfl rfl rfl rfl rfl (by decide) rfl rfl (show dd - 1 + 1 ≤ dd by omega) (Nat.zero_le _) (Nat.zero_le _) (Nat.le_of_ble_eq_true rfl) (hf (nxt bt n L τ) tk S (nxt_OK hbt hn) htk hS) (fun r K1 hr => ?_)
      rcases hr with ⟨hq38, rfl, rfl⟩ | ⟨hq38, rfl, rfl⟩
      · have h5 := hI.2.2.2.2 hq38
        have h4 := hI.2.2.2.1
        have hS1 := hS.1
        have hS2 := hS.2
        refine zs_K (K' := [(x, .inr (8, fTx b n L ((f (nxt bt n L τ) tk S).2.1) 0 pl (nI (f (nxt bt n L τ) tk S).2.2.1))), (b, .inl (0, 740, .inl (nF bt))), (s, .inr (6, fSen as ((f (nxt bt n L τ) tk S).2.2.2.1) ((f (nxt bt n L τ) tk S).2.2.2.2.1))), (as 1, .inl (0, 40, .inl (nF ((f (nxt bt n L τ) tk S).2.2.2.2.2.1)))), (as 2, .inl (0, 40, .inl (nF ((f (nxt bt n L τ) tk S).2.2.2.2.2.2.1)))), (as 3, .inl (0, 40, .inl (nF ((f (nxt bt n L τ) tk S).2.2.2.2.2.2.2))))]) [0, 1, 2, 3, 4, 5] rfl (by decide) ?_
        refine zs_if_eq (tgt := 55) dX7_readAll_41 (by decide) (fun c_3 => (by first | exact absurd c_3 (by decide) | exact absurd (by decide) c_3 : False).elim) (fun c_3 => ?_)
        refine zs_aload_n dX7_readAll_44 rfl rfl ?_
        refine zs_bipush (v := nI 7) dX7_readAll_45 (by decide) ?_
        refine zs_iconst (v := nI 0) dX7_readAll_47 (by decide) ?_
        refine zs_iconst (v := nI 0) dX7_readAll_48 (by decide) ?_
        refine zs_callV (M := mX7_add) (As := [.int (nI 7), .int (nI 0), .int (nI 0)]) (st := []) (Kc := [(s, .inr (6, fSen as ((f (nxt bt n L τ) tk S).2.2.2.1) ((f (nxt bt n L τ) tk S).2.2.2.2.1))), (as 1, .inl (0, 40, .inl (nF ((f (nxt bt n L τ) tk S).2.2.2.2.2.1)))), (as 2, .inl (0, 40, .inl (nF ((f (nxt bt n L τ) tk S).2.2.2.2.2.2.1)))), (as 3, .inl (0, 40, .inl (nF ((f (nxt bt n L τ) tk S).2.2.2.2.2.2.2))))]) (Kr := [(x, .inr (8, fTx b n L ((f (nxt bt n L τ) tk S).2.1) 0 pl (nI (f (nxt bt n L τ) tk S).2.2.1))), (b, .inl (0, 740, .inl (nF bt)))]) [2, 3, 4, 5] [0, 1] 0 dX7_readAll_49 zl_RX7_66 kX7_add rfl rfl rfl rfl rfl (by decide) rfl rfl (show dd - 1 + 1 ≤ dd by omega) (Nat.zero_le _) (Nat.zero_le _) (Nat.le_of_ble_eq_true rfl) (s_add l (dd - 1) s as ((f (nxt bt n L τ) tk S).2.2.2) 7 0 0 (by omega)) (fun r K1 hr => ?_)
        obtain ⟨rfl, rfl⟩ := hr
        refine zs_K (K' := [(x, .inr (8, fTx b n L ((f (nxt bt n L τ) tk S).2.1) 0 pl (nI (f (nxt bt n L τ) tk S).2.2.1))), (b, .inl (0, 740, .inl (nF bt))), (s, .inr (6, fSen as ((sAd ((f (nxt bt n L τ) tk S).2.2.2) 7 0 0).1) ((sAd ((f (nxt bt n L τ) tk S).2.2.2) 7 0 0).2.1))), (as 1, .inl (0, 40, .inl (nF ((sAd ((f (nxt bt n L τ) tk S).2.2.2) 7 0 0).2.2.1)))), (as 2, .inl (0, 40, .inl (nF ((sAd ((f (nxt bt n L τ) tk S).2.2.2) 7 0 0).2.2.2.1)))), (as 3, .inl (0, 40, .inl (nF ((sAd ((f (nxt bt n L τ) tk S).2.2.2) 7 0 0).2.2.2.2))))]) [0, 1, 2, 3, 4, 5] rfl (by decide) ?_
        refine zs_if_ne (tgt := 57) dX7_readAll_52 (by decide) (fun c_4 => ?_) (fun c_4 => (absurd c_4 (by decide) : False).elim)
        refine zs_iinc (v := (nI (i + 1))) (lv' := [(3, .int (nI (i + 1))), (0, .ref s), (1, .ref x), (2, .int (nI v))]) dX7_readAll_57 rfl (nI_add _ 1) (Nat.le_of_ble_eq_true rfl) rfl ?_
        refine zs_goto (tgt := 13) dX7_readAll_60 (by decide) ?_
        refine zs_lv [1, 2, 3, 0] rfl ?_
        exact ih (i + 1) (f (nxt bt n L τ) tk S).2.1 (f (nxt bt n L τ) tk S).2.2.1 (sAd (f (nxt bt n L τ) tk S).2.2.2 7 0 0) (by omega) hI.1 hI.2.1 ⟨h4, by show (f (nxt bt n L τ) tk S).2.2.2.2.1 + 1 ≤ 2 * (f (nxt bt n L τ) tk S).2.2.2.1; omega⟩ (by rw [← hG, sJn, if_neg (fun h => h ((wV_e hwd (by decide : 21 < 29)).mp c_2)), if_pos hq38])
      · refine zs_K (K' := [(x, .inr (8, fTx b n L ((f (nxt bt n L τ) tk S).2.1) ((f (nxt bt n L τ) tk S).1) ((f (nxt bt n L τ) tk S).2.1.2.1) (nI (f (nxt bt n L τ) tk S).2.2.1))), (b, .inl (0, 740, .inl (nF bt))), (s, .inr (6, fSen as ((f (nxt bt n L τ) tk S).2.2.2.1) ((f (nxt bt n L τ) tk S).2.2.2.2.1))), (as 1, .inl (0, 40, .inl (nF ((f (nxt bt n L τ) tk S).2.2.2.2.2.1)))), (as 2, .inl (0, 40, .inl (nF ((f (nxt bt n L τ) tk S).2.2.2.2.2.2.1)))), (as 3, .inl (0, 40, .inl (nF ((f (nxt bt n L τ) tk S).2.2.2.2.2.2.2))))]) [0, 1, 2, 3, 4, 5] rfl (by decide) ?_
        refine zs_if_eq (tgt := 55) dX7_readAll_41 (by decide) (fun c_5 => ?_) (fun c_5 => (by first | exact absurd c_5 (by decide) | exact absurd (by decide) c_5 : False).elim)
        refine zs_iconst (v := nI 0) dX7_readAll_55 (by decide) ?_
        have e : G = (f (nxt bt n L τ) tk S) := by rw [← hG, sJn, if_neg (fun h => h ((wV_e hwd (by decide : 21 < 29)).mp c_2)), if_neg hq38]
        exact zs_zret dX7_readAll_56 rfl (Or.inl rfl) (hP _ _ (Or.inr ⟨by rw [e]; exact hq38, rfl, by rw [e]; rfl⟩))
    · refine zs_iconst (v := nI 1) dX7_readAll_29 (by decide) ?_
      have e : G = (0, τ, tk, S) := by rw [← hG, sJn, if_pos (show ¬ τ.2.2.2.2 = some 21 from fun h => c_2 ((wV_e hwd (by decide : 21 < 29)).mpr h))]
      exact zs_zret dX7_readAll_30 rfl (Or.inr rfl) (hP _ _ (Or.inl ⟨by rw [e], rfl, by rw [e]; rfl⟩))
set_option maxRecDepth 100000 in
theorem s_readAll (l : Launch) (dd : Nat) (x b n L s : Nat) (as : Nat → Nat) (bt : Nat → Nat) (pl : Nat) (v : Nat) (f : zTk → Nat → zSe → zPs) (τ : zTk) (tk : Nat) (S : zSe) (hd : 3 ≤ dd) (hn : n ≤ 740) (hL : L ≤ 740) (hbt : ∀ j, bt j < 256) (hf : ∀ τ tk S, tOK τ → tk ≤ 99999999 → sB S → zSp l mX7_readOne (dd - 1) 0 0 [.ref s, .ref x, .int (nI v)] [(x, .inr (8, fTx b n L τ 0 pl (nI tk))), (b, .inl (0, 740, .inl (nF bt))), (s, .inr (6, fSen as S.1 S.2.1)), (as 1, .inl (0, 40, .inl (nF S.2.2.1))), (as 2, .inl (0, 40, .inl (nF S.2.2.2.1))), (as 3, .inl (0, 40, .inl (nF S.2.2.2.2)))] (fun r K' => ((f τ tk S).1 = 0 ∧ r = some (.int 1) ∧ K' = kTx x b n L bt (f τ tk S).2.1 0 pl (f τ tk S).2.2.1 ++ kSn s as (f τ tk S).2.2.2) ∨ (¬ (f τ tk S).1 = 0 ∧ r = some (.int 0) ∧ K' = kTx x b n L bt (f τ tk S).2.1 (f τ tk S).1 (f τ tk S).2.1.2.1 (f τ tk S).2.2.1 ++ kSn s as (f τ tk S).2.2.2))) (hg : sG f) (hτ : tOK τ) (htk : tk ≤ 99999999) (hS : sB S) : zSp l mX7_readAll dd 0 0 [.ref s, .ref x, .int (nI v)] [(x, .inr (8, fTx b n L τ 0 pl (nI tk))), (b, .inl (0, 740, .inl (nF bt))), (s, .inr (6, fSen as S.1 S.2.1)), (as 1, .inl (0, 40, .inl (nF S.2.2.1))), (as 2, .inl (0, 40, .inl (nF S.2.2.2.1))), (as 3, .inl (0, 40, .inl (nF S.2.2.2.2)))] (fun r K' => ((sJo bt n L 21 7 f τ tk S).1 = 0 ∧ r = some (.int 1) ∧ K' = kTx x b n L bt (sJo bt n L 21 7 f τ tk S).2.1 0 pl (sJo bt n L 21 7 f τ tk S).2.2.1 ++ kSn s as (sJo bt n L 21 7 f τ tk S).2.2.2) ∨ (¬ (sJo bt n L 21 7 f τ tk S).1 = 0 ∧ r = some (.int 0) ∧ K' = kTx x b n L bt (sJo bt n L 21 7 f τ tk S).2.1 (sJo bt n L 21 7 f τ tk S).1 (sJo bt n L 21 7 f τ tk S).2.1.2.1 (sJo bt n L 21 7 f τ tk S).2.2.1 ++ kSn s as (sJo bt n L 21 7 f τ tk S).2.2.2)) := by
  refine zSp.of (by decide) (Nat.le_of_ble_eq_true rfl) (fun h0 => ?_)
  show zS _ 0 0 0 [(0, .ref s), (1, .ref x), (2, .int (nI v))] [] [(x, .inr (8, fTx b n L τ 0 pl (nI tk))), (b, .inl (0, 740, .inl (nF bt))), (s, .inr (6, fSen as S.1 S.2.1)), (as 1, .inl (0, 40, .inl (nF S.2.2.1))), (as 2, .inl (0, 40, .inl (nF S.2.2.2.1))), (as 3, .inl (0, 40, .inl (nF S.2.2.2.2)))]
  refine zs_aload_n dX7_readAll_0 rfl rfl ?_
  refine zs_aload_n dX7_readAll_1 rfl rfl ?_
  refine zs_iload_n dX7_readAll_2 rfl ?_
  have hI := hg τ tk S hτ htk hS
  refine zs_callV (M := mX7_readOne) (As := [.ref x, .int (nI v)]) (st := []) (Kc := [(x, .inr (8, fTx b n L τ 0 pl (nI tk))), (b, .inl (0, 740, .inl (nF bt))), (s, .inr (6, fSen as S.1 S.2.1)), (as 1, .inl (0, 40, .inl (nF S.2.2.1))), (as 2, .inl (0, 40, .inl (nF S.2.2.2.1))), (as 3, .inl (0, 40, .inl (nF S.2.2.2.2)))]) (Kr := []) [0, 1, 2, 3, 4, 5] [] 2 dX7_readAll_3 zl_RX7_74 kX7_readOne rfl rfl rfl rfl rfl (by decide) rfl rfl (show dd - 1 + 1 ≤ dd by omega) (Nat.zero_le _) (Nat.zero_le _) (Nat.le_of_ble_eq_true rfl) (hf τ tk S hτ htk hS) (fun r K1 hr => ?_)
  rcases hr with ⟨hq3, rfl, rfl⟩ | ⟨hq3, rfl, rfl⟩
  · have h5 := hI.2.2.2.2 hq3
    have h4 := hI.2.2.2.1
    have hS1 := hS.1
    have hS2 := hS.2
    refine zs_K (K' := [(x, .inr (8, fTx b n L ((f τ tk S).2.1) 0 pl (nI (f τ tk S).2.2.1))), (b, .inl (0, 740, .inl (nF bt))), (s, .inr (6, fSen as ((f τ tk S).2.2.2.1) ((f τ tk S).2.2.2.2.1))), (as 1, .inl (0, 40, .inl (nF ((f τ tk S).2.2.2.2.2.1)))), (as 2, .inl (0, 40, .inl (nF ((f τ tk S).2.2.2.2.2.2.1)))), (as 3, .inl (0, 40, .inl (nF ((f τ tk S).2.2.2.2.2.2.2))))]) [0, 1, 2, 3, 4, 5] rfl (by decide) ?_
    refine zs_if_ne (tgt := 11) dX7_readAll_6 (by decide) (fun c_1 => ?_) (fun c_1 => (by first | exact absurd c_1 (by decide) | exact absurd (by decide) c_1 : False).elim)
    refine zs_iconst (v := nI 0) dX7_readAll_11 (by decide) ?_
    refine zs_istore_n (lv' := [(3, .int (nI 0)), (0, .ref s), (1, .ref x), (2, .int (nI v))]) dX7_readAll_12 (Nat.le_of_ble_eq_true rfl) rfl ?_
    refine zs_lv [1, 2, 3, 0] rfl ?_
    have e : sJo bt n L 21 7 f τ tk S = sJn bt n L 21 7 f 20 (f τ tk S).2.1 (f τ tk S).2.2.1 (f τ tk S).2.2.2 := by rw [sJo, if_pos hq3]
    exact lp_readAll x b n L s as bt pl v f hd hn hL hbt hf hg _ (fun r K1 h => h) 20 0 (f τ tk S).2.1 (f τ tk S).2.2.1 (f τ tk S).2.2.2 rfl hI.1 hI.2.1 ⟨h4, by omega⟩ e.symm
  · refine zs_K (K' := [(x, .inr (8, fTx b n L ((f τ tk S).2.1) ((f τ tk S).1) ((f τ tk S).2.1.2.1) (nI (f τ tk S).2.2.1))), (b, .inl (0, 740, .inl (nF bt))), (s, .inr (6, fSen as ((f τ tk S).2.2.2.1) ((f τ tk S).2.2.2.2.1))), (as 1, .inl (0, 40, .inl (nF ((f τ tk S).2.2.2.2.2.1)))), (as 2, .inl (0, 40, .inl (nF ((f τ tk S).2.2.2.2.2.2.1)))), (as 3, .inl (0, 40, .inl (nF ((f τ tk S).2.2.2.2.2.2.2))))]) [0, 1, 2, 3, 4, 5] rfl (by decide) ?_
    refine zs_if_ne (tgt := 11) dX7_readAll_6 (by decide) (fun c_2 => (by first | exact absurd c_2 (by decide) | exact absurd (by decide) c_2 : False).elim) (fun c_2 => ?_)
    refine zs_iconst (v := nI 0) dX7_readAll_9 (by decide) ?_
    have e : sJo bt n L 21 7 f τ tk S = (f τ tk S) := by rw [sJo, if_neg hq3]
    exact zs_zret dX7_readAll_10 rfl (Or.inl rfl) (Or.inr ⟨by rw [e]; exact hq3, rfl, by rw [e]; rfl⟩)
theorem dX7_readAny_0 : decode cX7_readAny 0 = .ok (.aload_n 0, 1) := by decide +kernel
theorem dX7_readAny_1 : decode cX7_readAny 1 = .ok (.aload_n 1, 1) := by decide +kernel
theorem dX7_readAny_2 : decode cX7_readAny 2 = .ok (.iload_n 2, 1) := by decide +kernel
theorem dX7_readAny_3 : decode cX7_readAny 3 = .ok (.invokevirtual 51, 3) := by decide +kernel
theorem dX7_readAny_6 : decode cX7_readAny 6 = .ok (.ifCond .ne 5, 3) := by decide +kernel
theorem dX7_readAny_9 : decode cX7_readAny 9 = .ok (.iconst 0, 1) := by decide +kernel
theorem dX7_readAny_10 : decode cX7_readAny 10 = .ok (.ireturn, 1) := by decide +kernel
theorem dX7_readAny_11 : decode cX7_readAny 11 = .ok (.iconst 0, 1) := by decide +kernel
theorem dX7_readAny_12 : decode cX7_readAny 12 = .ok (.istore_n 3, 1) := by decide +kernel
theorem dX7_readAny_13 : decode cX7_readAny 13 = .ok (.iload_n 3, 1) := by decide +kernel
theorem dX7_readAny_14 : decode cX7_readAny 14 = .ok (.bipush 20, 2) := by decide +kernel
theorem dX7_readAny_16 : decode cX7_readAny 16 = .ok (.if_icmp .ge 47, 3) := by decide +kernel
theorem dX7_readAny_19 : decode cX7_readAny 19 = .ok (.aload_n 1, 1) := by decide +kernel
theorem dX7_readAny_20 : decode cX7_readAny 20 = .ok (.getfield 54, 3) := by decide +kernel
theorem dX7_readAny_23 : decode cX7_readAny 23 = .ok (.getstatic 58, 3) := by decide +kernel
theorem dX7_readAny_26 : decode cX7_readAny 26 = .ok (.if_acmp .eq 5, 3) := by decide +kernel
theorem dX7_readAny_29 : decode cX7_readAny 29 = .ok (.iconst 1, 1) := by decide +kernel
theorem dX7_readAny_30 : decode cX7_readAny 30 = .ok (.ireturn, 1) := by decide +kernel
theorem dX7_readAny_31 : decode cX7_readAny 31 = .ok (.aload_n 1, 1) := by decide +kernel
theorem dX7_readAny_32 : decode cX7_readAny 32 = .ok (.invokevirtual 63, 3) := by decide +kernel
theorem dX7_readAny_35 : decode cX7_readAny 35 = .ok (.aload_n 0, 1) := by decide +kernel
theorem dX7_readAny_36 : decode cX7_readAny 36 = .ok (.aload_n 1, 1) := by decide +kernel
theorem dX7_readAny_37 : decode cX7_readAny 37 = .ok (.iload_n 2, 1) := by decide +kernel
theorem dX7_readAny_38 : decode cX7_readAny 38 = .ok (.invokevirtual 51, 3) := by decide +kernel
theorem dX7_readAny_41 : decode cX7_readAny 41 = .ok (.ifCond .eq 14, 3) := by decide +kernel
theorem dX7_readAny_44 : decode cX7_readAny 44 = .ok (.aload_n 0, 1) := by decide +kernel
theorem dX7_readAny_45 : decode cX7_readAny 45 = .ok (.bipush 8, 2) := by decide +kernel
theorem dX7_readAny_47 : decode cX7_readAny 47 = .ok (.iconst 0, 1) := by decide +kernel
theorem dX7_readAny_48 : decode cX7_readAny 48 = .ok (.iconst 0, 1) := by decide +kernel
theorem dX7_readAny_49 : decode cX7_readAny 49 = .ok (.invokevirtual 66, 3) := by decide +kernel
theorem dX7_readAny_52 : decode cX7_readAny 52 = .ok (.ifCond .ne 5, 3) := by decide +kernel
theorem dX7_readAny_55 : decode cX7_readAny 55 = .ok (.iconst 0, 1) := by decide +kernel
theorem dX7_readAny_56 : decode cX7_readAny 56 = .ok (.ireturn, 1) := by decide +kernel
theorem dX7_readAny_57 : decode cX7_readAny 57 = .ok (.iinc 3 1, 3) := by decide +kernel
theorem dX7_readAny_60 : decode cX7_readAny 60 = .ok (.goto (-47), 3) := by decide +kernel
theorem dX7_readAny_63 : decode cX7_readAny 63 = .ok (.aload_n 1, 1) := by decide +kernel
theorem dX7_readAny_64 : decode cX7_readAny 64 = .ok (.iconst 4, 1) := by decide +kernel
theorem dX7_readAny_65 : decode cX7_readAny 65 = .ok (.invokevirtual 70, 3) := by decide +kernel
theorem dX7_readAny_68 : decode cX7_readAny 68 = .ok (.ireturn, 1) := by decide +kernel
set_option maxRecDepth 100000 in
theorem lp_readAny {l : Launch} {dd : Nat} {Po : zPo} {K0 : zK} {h0 : List va_E} {Xo : zK → Prop} {Gc : zG → Prop} (x b n L s : Nat) (as : Nat → Nat) (bt : Nat → Nat) (pl : Nat) (v : Nat) (f : zTk → Nat → zSe → zPs) (hd : 3 ≤ dd) (hn : n ≤ 740) (hL : L ≤ 740) (hbt : ∀ j, bt j < 256) (hf : ∀ τ tk S, tOK τ → tk ≤ 99999999 → sB S → zSp l mX7_readAll (dd - 1) 0 0 [.ref s, .ref x, .int (nI v)] [(x, .inr (8, fTx b n L τ 0 pl (nI tk))), (b, .inl (0, 740, .inl (nF bt))), (s, .inr (6, fSen as S.1 S.2.1)), (as 1, .inl (0, 40, .inl (nF S.2.2.1))), (as 2, .inl (0, 40, .inl (nF S.2.2.2.1))), (as 3, .inl (0, 40, .inl (nF S.2.2.2.2)))] (fun r K' => ((f τ tk S).1 = 0 ∧ r = some (.int 1) ∧ K' = kTx x b n L bt (f τ tk S).2.1 0 pl (f τ tk S).2.2.1 ++ kSn s as (f τ tk S).2.2.2) ∨ (¬ (f τ tk S).1 = 0 ∧ r = some (.int 0) ∧ K' = kTx x b n L bt (f τ tk S).2.1 (f τ tk S).1 (f τ tk S).2.1.2.1 (f τ tk S).2.2.1 ++ kSn s as (f τ tk S).2.2.2))) (hg : sG f) (G : zPs) (hP : ∀ r K', (G.1 = 0 ∧ r = some (.int 1) ∧ K' = kTx x b n L bt G.2.1 0 pl G.2.2.1 ++ kSn s as G.2.2.2) ∨ (¬ G.1 = 0 ∧ r = some (.int 0) ∧ K' = kTx x b n L bt G.2.1 G.1 G.2.1.2.1 G.2.2.1 ++ kSn s as G.2.2.2) → Po r K') : ∀ (q i : Nat) (τ : zTk) (tk : Nat) (S : zSe), i + q = 20 → tOK τ → tk ≤ 99999999 → sB S → sJn bt n L 20 8 f q τ tk S = G → zS (l, mX7_readAny, dd, Po, K0, h0, Xo, Gc) 0 0 13 [(0, .ref s), (1, .ref x), (2, .int (nI v)), (3, .int (nI i))] [] [(x, .inr (8, fTx b n L τ 0 pl (nI tk))), (b, .inl (0, 740, .inl (nF bt))), (s, .inr (6, fSen as S.1 S.2.1)), (as 1, .inl (0, 40, .inl (nF S.2.2.1))), (as 2, .inl (0, 40, .inl (nF S.2.2.2.1))), (as 3, .inl (0, 40, .inl (nF S.2.2.2.2)))] := by
  intro q
  induction q with
  | zero =>
    intro i τ tk S hi hτ htk hS hG
    refine zs_iload_n dX7_readAny_13 rfl ?_
    refine zs_bipush (v := nI 20) dX7_readAny_14 (by decide) ?_
    refine zs_icmp_ge (tgt := 63) dX7_readAny_16 (by decide) (fun c_1 => ?_) (fun c_1 => (c_1 (by rw [show i = 20 by omega]; exact Int32.le_refl _) : False).elim)
    refine zs_aload_n dX7_readAny_63 rfl rfl ?_
    refine zs_iconst (v := nI 4) dX7_readAny_64 (by decide) ?_
    refine zs_callV (M := mX9_refuse) (As := [.int (nI 4)]) (st := []) (Kc := [(x, .inr (8, fTx b n L τ 0 pl (nI tk)))]) (Kr := [(b, .inl (0, 740, .inl (nF bt))), (s, .inr (6, fSen as S.1 S.2.1)), (as 1, .inl (0, 40, .inl (nF S.2.2.1))), (as 2, .inl (0, 40, .inl (nF S.2.2.2.1))), (as 3, .inl (0, 40, .inl (nF S.2.2.2.2)))]) [0] [1, 2, 3, 4, 5] 0 dX7_readAny_65 zl_RX7_70 kX9_refuse rfl rfl rfl rfl rfl (by decide) rfl rfl (show dd - 1 + 1 ≤ dd by omega) (Nat.zero_le _) (Nat.zero_le _) (Nat.le_of_ble_eq_true rfl) (s_refuse l (dd - 1) x b n L τ pl 4 (nI tk)) (fun r K1 hr => ?_)
    obtain ⟨rfl, rfl⟩ := hr
    refine zs_K (K' := [(x, .inr (8, fTx b n L τ 4 τ.2.1 (nI tk))), (b, .inl (0, 740, .inl (nF bt))), (s, .inr (6, fSen as S.1 S.2.1)), (as 1, .inl (0, 40, .inl (nF S.2.2.1))), (as 2, .inl (0, 40, .inl (nF S.2.2.2.1))), (as 3, .inl (0, 40, .inl (nF S.2.2.2.2)))]) [5, 0, 1, 2, 3, 4] rfl (by decide) ?_
    have e : G = (4, τ, tk, S) := hG.symm
    exact zs_zret dX7_readAny_68 rfl (Or.inl rfl) (hP _ _ (Or.inr ⟨by rw [e]; exact (show ¬ 4 = 0 by decide), rfl, by rw [e]; rfl⟩))
  | succ q ih =>
    intro i τ tk S hi hτ htk hS hG
    refine zs_iload_n dX7_readAny_13 rfl ?_
    refine zs_bipush (v := nI 20) dX7_readAny_14 (by decide) ?_
    refine zs_icmp_ge (tgt := 63) dX7_readAny_16 (by decide) (fun c_1 => (nI_ge (show i < 20 by omega) (by omega) c_1 : False).elim) (fun c_1 => ?_)
    have hwd := hτ.2.2.2.2.2.2.2.1
    refine zs_aload_n dX7_readAny_19 rfl rfl ?_
    refine zs_get 0 dX7_readAny_20 zf_RX7_54 rfl (v := (wV τ.2.2.2.2)) rfl ?_
    refine zs_getsW (u := 20) dX7_readAny_23 (by decide) zg_RX7_58 ?_
    refine zs_acmp_eq (tgt := 31) dX7_readAny_26 (by decide) (wV_w hwd) rfl (fun c_2 => ?_) (fun c_2 => ?_)
    · refine zs_aload_n dX7_readAny_31 rfl rfl ?_
      refine zs_callV (M := mX9_next) (As := []) (st := []) (Kc := [(x, .inr (8, fTx b n L τ 0 pl (nI tk))), (b, .inl (0, 740, .inl (nF bt)))]) (Kr := [(s, .inr (6, fSen as S.1 S.2.1)), (as 1, .inl (0, 40, .inl (nF S.2.2.1))), (as 2, .inl (0, 40, .inl (nF S.2.2.2.1))), (as 3, .inl (0, 40, .inl (nF S.2.2.2.2)))]) [0, 1] [2, 3, 4, 5] 0 dX7_readAny_32 zl_RX7_63 kX9_next rfl rfl rfl rfl rfl (by decide) rfl rfl (show dd - 1 + 1 ≤ dd by omega) (Nat.zero_le _) (Nat.zero_le _) (Nat.le_of_ble_eq_true rfl) (s_next l (dd - 1) x b n L bt τ 0 pl (nI tk) (by omega) hn hL hbt hτ.2.2.1) (fun r K1 hr => ?_)
      obtain ⟨rfl, rfl⟩ := hr
      refine zs_K (K' := [(x, .inr (8, fTx b n L (nxt bt n L τ) 0 pl (nI tk))), (b, .inl (0, 740, .inl (nF bt))), (s, .inr (6, fSen as S.1 S.2.1)), (as 1, .inl (0, 40, .inl (nF S.2.2.1))), (as 2, .inl (0, 40, .inl (nF S.2.2.2.1))), (as 3, .inl (0, 40, .inl (nF S.2.2.2.2)))]) [4, 5, 0, 1, 2, 3] rfl (by decide) ?_
      refine zs_aload_n dX7_readAny_35 rfl rfl ?_
      refine zs_aload_n dX7_readAny_36 rfl rfl ?_
      refine zs_iload_n dX7_readAny_37 rfl ?_
      have hI := hg (nxt bt n L τ) tk S (nxt_OK hbt hn) htk hS
      refine zs_callV (M := mX7_readAll) (As := [.ref x, .int (nI v)]) (st := []) (Kc := [(x, .inr (8, fTx b n L (nxt bt n L τ) 0 pl (nI tk))), (b, .inl (0, 740, .inl (nF bt))), (s, .inr (6, fSen as S.1 S.2.1)), (as 1, .inl (0, 40, .inl (nF S.2.2.1))), (as 2, .inl (0, 40, .inl (nF S.2.2.2.1))), (as 3, .inl (0, 40, .inl (nF S.2.2.2.2)))]) (Kr := []) [0, 1, 2, 3, 4, 5] [] 2 dX7_readAny_38 zl_RX7_51 kX7_readAll rfl rfl rfl rfl rfl (by decide) rfl rfl (show dd - 1 + 1 ≤ dd by omega) (Nat.zero_le _) (Nat.zero_le _) (Nat.le_of_ble_eq_true rfl) (hf (nxt bt n L τ) tk S (nxt_OK hbt hn) htk hS) (fun r K1 hr => ?_)
      rcases hr with ⟨hq38, rfl, rfl⟩ | ⟨hq38, rfl, rfl⟩
      · have h5 := hI.2.2.2.2 hq38
        have h4 := hI.2.2.2.1
        have hS1 := hS.1
        have hS2 := hS.2
        refine zs_K (K' := [(x, .inr (8, fTx b n L ((f (nxt bt n L τ) tk S).2.1) 0 pl (nI (f (nxt bt n L τ) tk S).2.2.1))), (b, .inl (0, 740, .inl (nF bt))), (s, .inr (6, fSen as ((f (nxt bt n L τ) tk S).2.2.2.1) ((f (nxt bt n L τ) tk S).2.2.2.2.1))), (as 1, .inl (0, 40, .inl (nF ((f (nxt bt n L τ) tk S).2.2.2.2.2.1)))), (as 2, .inl (0, 40, .inl (nF ((f (nxt bt n L τ) tk S).2.2.2.2.2.2.1)))), (as 3, .inl (0, 40, .inl (nF ((f (nxt bt n L τ) tk S).2.2.2.2.2.2.2))))]) [0, 1, 2, 3, 4, 5] rfl (by decide) ?_
        refine zs_if_eq (tgt := 55) dX7_readAny_41 (by decide) (fun c_3 => (by first | exact absurd c_3 (by decide) | exact absurd (by decide) c_3 : False).elim) (fun c_3 => ?_)
        refine zs_aload_n dX7_readAny_44 rfl rfl ?_
        refine zs_bipush (v := nI 8) dX7_readAny_45 (by decide) ?_
        refine zs_iconst (v := nI 0) dX7_readAny_47 (by decide) ?_
        refine zs_iconst (v := nI 0) dX7_readAny_48 (by decide) ?_
        refine zs_callV (M := mX7_add) (As := [.int (nI 8), .int (nI 0), .int (nI 0)]) (st := []) (Kc := [(s, .inr (6, fSen as ((f (nxt bt n L τ) tk S).2.2.2.1) ((f (nxt bt n L τ) tk S).2.2.2.2.1))), (as 1, .inl (0, 40, .inl (nF ((f (nxt bt n L τ) tk S).2.2.2.2.2.1)))), (as 2, .inl (0, 40, .inl (nF ((f (nxt bt n L τ) tk S).2.2.2.2.2.2.1)))), (as 3, .inl (0, 40, .inl (nF ((f (nxt bt n L τ) tk S).2.2.2.2.2.2.2))))]) (Kr := [(x, .inr (8, fTx b n L ((f (nxt bt n L τ) tk S).2.1) 0 pl (nI (f (nxt bt n L τ) tk S).2.2.1))), (b, .inl (0, 740, .inl (nF bt)))]) [2, 3, 4, 5] [0, 1] 0 dX7_readAny_49 zl_RX7_66 kX7_add rfl rfl rfl rfl rfl (by decide) rfl rfl (show dd - 1 + 1 ≤ dd by omega) (Nat.zero_le _) (Nat.zero_le _) (Nat.le_of_ble_eq_true rfl) (s_add l (dd - 1) s as ((f (nxt bt n L τ) tk S).2.2.2) 8 0 0 (by omega)) (fun r K1 hr => ?_)
        obtain ⟨rfl, rfl⟩ := hr
        refine zs_K (K' := [(x, .inr (8, fTx b n L ((f (nxt bt n L τ) tk S).2.1) 0 pl (nI (f (nxt bt n L τ) tk S).2.2.1))), (b, .inl (0, 740, .inl (nF bt))), (s, .inr (6, fSen as ((sAd ((f (nxt bt n L τ) tk S).2.2.2) 8 0 0).1) ((sAd ((f (nxt bt n L τ) tk S).2.2.2) 8 0 0).2.1))), (as 1, .inl (0, 40, .inl (nF ((sAd ((f (nxt bt n L τ) tk S).2.2.2) 8 0 0).2.2.1)))), (as 2, .inl (0, 40, .inl (nF ((sAd ((f (nxt bt n L τ) tk S).2.2.2) 8 0 0).2.2.2.1)))), (as 3, .inl (0, 40, .inl (nF ((sAd ((f (nxt bt n L τ) tk S).2.2.2) 8 0 0).2.2.2.2))))]) [0, 1, 2, 3, 4, 5] rfl (by decide) ?_
        refine zs_if_ne (tgt := 57) dX7_readAny_52 (by decide) (fun c_4 => ?_) (fun c_4 => (absurd c_4 (by decide) : False).elim)
        refine zs_iinc (v := (nI (i + 1))) (lv' := [(3, .int (nI (i + 1))), (0, .ref s), (1, .ref x), (2, .int (nI v))]) dX7_readAny_57 rfl (nI_add _ 1) (Nat.le_of_ble_eq_true rfl) rfl ?_
        refine zs_goto (tgt := 13) dX7_readAny_60 (by decide) ?_
        refine zs_lv [1, 2, 3, 0] rfl ?_
        exact ih (i + 1) (f (nxt bt n L τ) tk S).2.1 (f (nxt bt n L τ) tk S).2.2.1 (sAd (f (nxt bt n L τ) tk S).2.2.2 8 0 0) (by omega) hI.1 hI.2.1 ⟨h4, by show (f (nxt bt n L τ) tk S).2.2.2.2.1 + 1 ≤ 2 * (f (nxt bt n L τ) tk S).2.2.2.1; omega⟩ (by rw [← hG, sJn, if_neg (fun h => h ((wV_e hwd (by decide : 20 < 29)).mp c_2)), if_pos hq38])
      · refine zs_K (K' := [(x, .inr (8, fTx b n L ((f (nxt bt n L τ) tk S).2.1) ((f (nxt bt n L τ) tk S).1) ((f (nxt bt n L τ) tk S).2.1.2.1) (nI (f (nxt bt n L τ) tk S).2.2.1))), (b, .inl (0, 740, .inl (nF bt))), (s, .inr (6, fSen as ((f (nxt bt n L τ) tk S).2.2.2.1) ((f (nxt bt n L τ) tk S).2.2.2.2.1))), (as 1, .inl (0, 40, .inl (nF ((f (nxt bt n L τ) tk S).2.2.2.2.2.1)))), (as 2, .inl (0, 40, .inl (nF ((f (nxt bt n L τ) tk S).2.2.2.2.2.2.1)))), (as 3, .inl (0, 40, .inl (nF ((f (nxt bt n L τ) tk S).2.2.2.2.2.2.2))))]) [0, 1, 2, 3, 4, 5] rfl (by decide) ?_
        refine zs_if_eq (tgt := 55) dX7_readAny_41 (by decide) (fun c_5 => ?_) (fun c_5 => (by first | exact absurd c_5 (by decide) | exact absurd (by decide) c_5 : False).elim)
        refine zs_iconst (v := nI 0) dX7_readAny_55 (by decide) ?_
        have e : G = (f (nxt bt n L τ) tk S) := by rw [← hG, sJn, if_neg (fun h => h ((wV_e hwd (by decide : 20 < 29)).mp c_2)), if_neg hq38]
        exact zs_zret dX7_readAny_56 rfl (Or.inl rfl) (hP _ _ (Or.inr ⟨by rw [e]; exact hq38, rfl, by rw [e]; rfl⟩))
    · refine zs_iconst (v := nI 1) dX7_readAny_29 (by decide) ?_
      have e : G = (0, τ, tk, S) := by rw [← hG, sJn, if_pos (show ¬ τ.2.2.2.2 = some 20 from fun h => c_2 ((wV_e hwd (by decide : 20 < 29)).mpr h))]
      exact zs_zret dX7_readAny_30 rfl (Or.inr rfl) (hP _ _ (Or.inl ⟨by rw [e], rfl, by rw [e]; rfl⟩))
set_option maxRecDepth 100000 in
theorem s_readAny (l : Launch) (dd : Nat) (x b n L s : Nat) (as : Nat → Nat) (bt : Nat → Nat) (pl : Nat) (v : Nat) (f : zTk → Nat → zSe → zPs) (τ : zTk) (tk : Nat) (S : zSe) (hd : 3 ≤ dd) (hn : n ≤ 740) (hL : L ≤ 740) (hbt : ∀ j, bt j < 256) (hf : ∀ τ tk S, tOK τ → tk ≤ 99999999 → sB S → zSp l mX7_readAll (dd - 1) 0 0 [.ref s, .ref x, .int (nI v)] [(x, .inr (8, fTx b n L τ 0 pl (nI tk))), (b, .inl (0, 740, .inl (nF bt))), (s, .inr (6, fSen as S.1 S.2.1)), (as 1, .inl (0, 40, .inl (nF S.2.2.1))), (as 2, .inl (0, 40, .inl (nF S.2.2.2.1))), (as 3, .inl (0, 40, .inl (nF S.2.2.2.2)))] (fun r K' => ((f τ tk S).1 = 0 ∧ r = some (.int 1) ∧ K' = kTx x b n L bt (f τ tk S).2.1 0 pl (f τ tk S).2.2.1 ++ kSn s as (f τ tk S).2.2.2) ∨ (¬ (f τ tk S).1 = 0 ∧ r = some (.int 0) ∧ K' = kTx x b n L bt (f τ tk S).2.1 (f τ tk S).1 (f τ tk S).2.1.2.1 (f τ tk S).2.2.1 ++ kSn s as (f τ tk S).2.2.2))) (hg : sG f) (hτ : tOK τ) (htk : tk ≤ 99999999) (hS : sB S) : zSp l mX7_readAny dd 0 0 [.ref s, .ref x, .int (nI v)] [(x, .inr (8, fTx b n L τ 0 pl (nI tk))), (b, .inl (0, 740, .inl (nF bt))), (s, .inr (6, fSen as S.1 S.2.1)), (as 1, .inl (0, 40, .inl (nF S.2.2.1))), (as 2, .inl (0, 40, .inl (nF S.2.2.2.1))), (as 3, .inl (0, 40, .inl (nF S.2.2.2.2)))] (fun r K' => ((sJo bt n L 20 8 f τ tk S).1 = 0 ∧ r = some (.int 1) ∧ K' = kTx x b n L bt (sJo bt n L 20 8 f τ tk S).2.1 0 pl (sJo bt n L 20 8 f τ tk S).2.2.1 ++ kSn s as (sJo bt n L 20 8 f τ tk S).2.2.2) ∨ (¬ (sJo bt n L 20 8 f τ tk S).1 = 0 ∧ r = some (.int 0) ∧ K' = kTx x b n L bt (sJo bt n L 20 8 f τ tk S).2.1 (sJo bt n L 20 8 f τ tk S).1 (sJo bt n L 20 8 f τ tk S).2.1.2.1 (sJo bt n L 20 8 f τ tk S).2.2.1 ++ kSn s as (sJo bt n L 20 8 f τ tk S).2.2.2)) := by
  refine zSp.of (by decide) (Nat.le_of_ble_eq_true rfl) (fun h0 => ?_)
  show zS _ 0 0 0 [(0, .ref s), (1, .ref x), (2, .int (nI v))] [] [(x, .inr (8, fTx b n L τ 0 pl (nI tk))), (b, .inl (0, 740, .inl (nF bt))), (s, .inr (6, fSen as S.1 S.2.1)), (as 1, .inl (0, 40, .inl (nF S.2.2.1))), (as 2, .inl (0, 40, .inl (nF S.2.2.2.1))), (as 3, .inl (0, 40, .inl (nF S.2.2.2.2)))]
  refine zs_aload_n dX7_readAny_0 rfl rfl ?_
  refine zs_aload_n dX7_readAny_1 rfl rfl ?_
  refine zs_iload_n dX7_readAny_2 rfl ?_
  have hI := hg τ tk S hτ htk hS
  refine zs_callV (M := mX7_readAll) (As := [.ref x, .int (nI v)]) (st := []) (Kc := [(x, .inr (8, fTx b n L τ 0 pl (nI tk))), (b, .inl (0, 740, .inl (nF bt))), (s, .inr (6, fSen as S.1 S.2.1)), (as 1, .inl (0, 40, .inl (nF S.2.2.1))), (as 2, .inl (0, 40, .inl (nF S.2.2.2.1))), (as 3, .inl (0, 40, .inl (nF S.2.2.2.2)))]) (Kr := []) [0, 1, 2, 3, 4, 5] [] 2 dX7_readAny_3 zl_RX7_51 kX7_readAll rfl rfl rfl rfl rfl (by decide) rfl rfl (show dd - 1 + 1 ≤ dd by omega) (Nat.zero_le _) (Nat.zero_le _) (Nat.le_of_ble_eq_true rfl) (hf τ tk S hτ htk hS) (fun r K1 hr => ?_)
  rcases hr with ⟨hq3, rfl, rfl⟩ | ⟨hq3, rfl, rfl⟩
  · have h5 := hI.2.2.2.2 hq3
    have h4 := hI.2.2.2.1
    have hS1 := hS.1
    have hS2 := hS.2
    refine zs_K (K' := [(x, .inr (8, fTx b n L ((f τ tk S).2.1) 0 pl (nI (f τ tk S).2.2.1))), (b, .inl (0, 740, .inl (nF bt))), (s, .inr (6, fSen as ((f τ tk S).2.2.2.1) ((f τ tk S).2.2.2.2.1))), (as 1, .inl (0, 40, .inl (nF ((f τ tk S).2.2.2.2.2.1)))), (as 2, .inl (0, 40, .inl (nF ((f τ tk S).2.2.2.2.2.2.1)))), (as 3, .inl (0, 40, .inl (nF ((f τ tk S).2.2.2.2.2.2.2))))]) [0, 1, 2, 3, 4, 5] rfl (by decide) ?_
    refine zs_if_ne (tgt := 11) dX7_readAny_6 (by decide) (fun c_1 => ?_) (fun c_1 => (by first | exact absurd c_1 (by decide) | exact absurd (by decide) c_1 : False).elim)
    refine zs_iconst (v := nI 0) dX7_readAny_11 (by decide) ?_
    refine zs_istore_n (lv' := [(3, .int (nI 0)), (0, .ref s), (1, .ref x), (2, .int (nI v))]) dX7_readAny_12 (Nat.le_of_ble_eq_true rfl) rfl ?_
    refine zs_lv [1, 2, 3, 0] rfl ?_
    have e : sJo bt n L 20 8 f τ tk S = sJn bt n L 20 8 f 20 (f τ tk S).2.1 (f τ tk S).2.2.1 (f τ tk S).2.2.2 := by rw [sJo, if_pos hq3]
    exact lp_readAny x b n L s as bt pl v f hd hn hL hbt hf hg _ (fun r K1 h => h) 20 0 (f τ tk S).2.1 (f τ tk S).2.2.1 (f τ tk S).2.2.2 rfl hI.1 hI.2.1 ⟨h4, by omega⟩ e.symm
  · refine zs_K (K' := [(x, .inr (8, fTx b n L ((f τ tk S).2.1) ((f τ tk S).1) ((f τ tk S).2.1.2.1) (nI (f τ tk S).2.2.1))), (b, .inl (0, 740, .inl (nF bt))), (s, .inr (6, fSen as ((f τ tk S).2.2.2.1) ((f τ tk S).2.2.2.2.1))), (as 1, .inl (0, 40, .inl (nF ((f τ tk S).2.2.2.2.2.1)))), (as 2, .inl (0, 40, .inl (nF ((f τ tk S).2.2.2.2.2.2.1)))), (as 3, .inl (0, 40, .inl (nF ((f τ tk S).2.2.2.2.2.2.2))))]) [0, 1, 2, 3, 4, 5] rfl (by decide) ?_
    refine zs_if_ne (tgt := 11) dX7_readAny_6 (by decide) (fun c_2 => (by first | exact absurd c_2 (by decide) | exact absurd (by decide) c_2 : False).elim) (fun c_2 => ?_)
    refine zs_iconst (v := nI 0) dX7_readAny_9 (by decide) ?_
    have e : sJo bt n L 20 8 f τ tk S = (f τ tk S) := by rw [sJo, if_neg hq3]
    exact zs_zret dX7_readAny_10 rfl (Or.inl rfl) (Or.inr ⟨by rw [e]; exact hq3, rfl, by rw [e]; rfl⟩)
section
variable {b : Nat → Nat} {n L d : Nat} {τ : zTk} {tk : Nat} {S : zSe}
theorem sOne_bad (h : sBad τ) : ∀ d, sOne b n L d τ tk S = (1, τ, tk, S)
  | 0 => by rw [sOne, if_pos h]
  | d + 1 => by rw [sOne, if_pos h]
theorem sOne_4 (h : ¬ sBad τ) (h2 : 20 ≤ S.1) : ∀ d, sOne b n L d τ tk S = (4, τ, tk, S)
  | 0 => by rw [sOne, if_neg h]
  | d + 1 => by rw [sOne, if_neg h, if_pos h2]
theorem sOne_z (h : ¬ sBad τ) : sOne b n L 0 τ tk S = (4, τ, tk, S) := by rw [sOne, if_neg h]
theorem sOne_b (h : ¬ sBad τ) (h2 : ¬ 20 ≤ S.1) (h3 : tAt τ 40 = true) : sOne b n L (d + 1) τ tk S = sBk b n L (sJo b n L 20 8 (sJo b n L 21 7 (sOne b n L d))) (nxt b n L τ) tk (sOn S) := by rw [sOne, if_neg h, if_neg h2, if_pos h3]
theorem sOne_n (h : ¬ sBad τ) (h2 : ¬ 20 ≤ S.1) (h3 : ¬ tAt τ 40 = true) (h4 : τ.2.2.2.2 = some 22) : sOne b n L (d + 1) τ tk S = sNt (sOne b n L d) (nxt b n L τ) tk (sOn S) := by rw [sOne, if_neg h, if_neg h2, if_neg h3, if_pos h4]
theorem sOne_o (h : ¬ sBad τ) (h2 : ¬ 20 ≤ S.1) (h3 : ¬ tAt τ 40 = true) (h4 : ¬ τ.2.2.2.2 = some 22) (h5 : τ.2.2.2.2 = some 23) : sOne b n L (d + 1) τ tk S = (0, nxt b n L τ, tk, sAd (sOn S) 0 0 0) := by rw [sOne, if_neg h, if_neg h2, if_neg h3, if_neg h4, if_pos h5]
theorem sOne_c (h : ¬ sBad τ) (h2 : ¬ 20 ≤ S.1) (h3 : ¬ tAt τ 40 = true) (h4 : ¬ τ.2.2.2.2 = some 22) (h5 : ¬ τ.2.2.2.2 = some 23) : sOne b n L (d + 1) τ tk S = sCmp b n L (mOf τ.2.2.2.2) (nxt b n L τ) tk (sOn S) := by rw [sOne, if_neg h, if_neg h2, if_neg h3, if_neg h4, if_neg h5]
end
theorem dX7_readOne_0 : decode cX7_readOne 0 = .ok (.aload_n 1, 1) := by decide +kernel
theorem dX7_readOne_1 : decode cX7_readOne 1 = .ok (.getfield 54, 3) := by decide +kernel
theorem dX7_readOne_4 : decode cX7_readOne 4 = .ok (.astore_n 3, 1) := by decide +kernel
theorem dX7_readOne_5 : decode cX7_readOne 5 = .ok (.aload_n 1, 1) := by decide +kernel
theorem dX7_readOne_6 : decode cX7_readOne 6 = .ok (.bipush 40, 2) := by decide +kernel
theorem dX7_readOne_8 : decode cX7_readOne 8 = .ok (.invokevirtual 80, 3) := by decide +kernel
theorem dX7_readOne_11 : decode cX7_readOne 11 = .ok (.istore 4, 2) := by decide +kernel
theorem dX7_readOne_13 : decode cX7_readOne 13 = .ok (.iload 4, 2) := by decide +kernel
theorem dX7_readOne_15 : decode cX7_readOne 15 = .ok (.ifCond .ne 31, 3) := by decide +kernel
theorem dX7_readOne_18 : decode cX7_readOne 18 = .ok (.aload_n 3, 1) := by decide +kernel
theorem dX7_readOne_19 : decode cX7_readOne 19 = .ok (.getstatic 83, 3) := by decide +kernel
theorem dX7_readOne_22 : decode cX7_readOne 22 = .ok (.if_acmp .eq 24, 3) := by decide +kernel
theorem dX7_readOne_25 : decode cX7_readOne 25 = .ok (.aload_n 3, 1) := by decide +kernel
theorem dX7_readOne_26 : decode cX7_readOne 26 = .ok (.getstatic 86, 3) := by decide +kernel
theorem dX7_readOne_29 : decode cX7_readOne 29 = .ok (.if_acmp .eq 17, 3) := by decide +kernel
theorem dX7_readOne_32 : decode cX7_readOne 32 = .ok (.aload_n 3, 1) := by decide +kernel
theorem dX7_readOne_33 : decode cX7_readOne 33 = .ok (.invokestatic 89, 3) := by decide +kernel
theorem dX7_readOne_36 : decode cX7_readOne 36 = .ok (.iconst (-1), 1) := by decide +kernel
theorem dX7_readOne_37 : decode cX7_readOne 37 = .ok (.if_icmp .ne 9, 3) := by decide +kernel
theorem dX7_readOne_40 : decode cX7_readOne 40 = .ok (.aload_n 1, 1) := by decide +kernel
theorem dX7_readOne_41 : decode cX7_readOne 41 = .ok (.iconst 1, 1) := by decide +kernel
theorem dX7_readOne_42 : decode cX7_readOne 42 = .ok (.invokevirtual 70, 3) := by decide +kernel
theorem dX7_readOne_45 : decode cX7_readOne 45 = .ok (.ireturn, 1) := by decide +kernel
theorem dX7_readOne_46 : decode cX7_readOne 46 = .ok (.aload_n 0, 1) := by decide +kernel
theorem dX7_readOne_47 : decode cX7_readOne 47 = .ok (.getfield 25, 3) := by decide +kernel
theorem dX7_readOne_50 : decode cX7_readOne 50 = .ok (.bipush 20, 2) := by decide +kernel
theorem dX7_readOne_52 : decode cX7_readOne 52 = .ok (.if_icmp .ge 9, 3) := by decide +kernel
theorem dX7_readOne_55 : decode cX7_readOne 55 = .ok (.iload_n 2, 1) := by decide +kernel
theorem dX7_readOne_56 : decode cX7_readOne 56 = .ok (.bipush 8, 2) := by decide +kernel
theorem dX7_readOne_58 : decode cX7_readOne 58 = .ok (.if_icmp .le 9, 3) := by decide +kernel
theorem dX7_readOne_61 : decode cX7_readOne 61 = .ok (.aload_n 1, 1) := by decide +kernel
theorem dX7_readOne_62 : decode cX7_readOne 62 = .ok (.iconst 4, 1) := by decide +kernel
theorem dX7_readOne_63 : decode cX7_readOne 63 = .ok (.invokevirtual 70, 3) := by decide +kernel
theorem dX7_readOne_66 : decode cX7_readOne 66 = .ok (.ireturn, 1) := by decide +kernel
theorem dX7_readOne_67 : decode cX7_readOne 67 = .ok (.aload_n 0, 1) := by decide +kernel
theorem dX7_readOne_68 : decode cX7_readOne 68 = .ok (.dup, 1) := by decide +kernel
theorem dX7_readOne_69 : decode cX7_readOne 69 = .ok (.getfield 25, 3) := by decide +kernel
theorem dX7_readOne_72 : decode cX7_readOne 72 = .ok (.iconst 1, 1) := by decide +kernel
theorem dX7_readOne_73 : decode cX7_readOne 73 = .ok (.iadd, 1) := by decide +kernel
theorem dX7_readOne_74 : decode cX7_readOne 74 = .ok (.putfield 25, 3) := by decide +kernel
theorem dX7_readOne_77 : decode cX7_readOne 77 = .ok (.aload_n 1, 1) := by decide +kernel
theorem dX7_readOne_78 : decode cX7_readOne 78 = .ok (.invokevirtual 63, 3) := by decide +kernel
theorem dX7_readOne_81 : decode cX7_readOne 81 = .ok (.iload 4, 2) := by decide +kernel
theorem dX7_readOne_83 : decode cX7_readOne 83 = .ok (.ifCond .eq 29, 3) := by decide +kernel
theorem dX7_readOne_86 : decode cX7_readOne 86 = .ok (.aload_n 0, 1) := by decide +kernel
theorem dX7_readOne_87 : decode cX7_readOne 87 = .ok (.aload_n 1, 1) := by decide +kernel
theorem dX7_readOne_88 : decode cX7_readOne 88 = .ok (.iload_n 2, 1) := by decide +kernel
theorem dX7_readOne_89 : decode cX7_readOne 89 = .ok (.iconst 1, 1) := by decide +kernel
theorem dX7_readOne_90 : decode cX7_readOne 90 = .ok (.iadd, 1) := by decide +kernel
theorem dX7_readOne_91 : decode cX7_readOne 91 = .ok (.invokevirtual 41, 3) := by decide +kernel
theorem dX7_readOne_94 : decode cX7_readOne 94 = .ok (.ifCond .eq 16, 3) := by decide +kernel
theorem dX7_readOne_97 : decode cX7_readOne 97 = .ok (.aload_n 1, 1) := by decide +kernel
theorem dX7_readOne_98 : decode cX7_readOne 98 = .ok (.bipush 41, 2) := by decide +kernel
theorem dX7_readOne_100 : decode cX7_readOne 100 = .ok (.invokevirtual 93, 3) := by decide +kernel
theorem dX7_readOne_103 : decode cX7_readOne 103 = .ok (.ifCond .eq 7, 3) := by decide +kernel
theorem dX7_readOne_106 : decode cX7_readOne 106 = .ok (.iconst 1, 1) := by decide +kernel
theorem dX7_readOne_107 : decode cX7_readOne 107 = .ok (.goto 4, 3) := by decide +kernel
theorem dX7_readOne_110 : decode cX7_readOne 110 = .ok (.iconst 0, 1) := by decide +kernel
theorem dX7_readOne_111 : decode cX7_readOne 111 = .ok (.ireturn, 1) := by decide +kernel
theorem dX7_readOne_112 : decode cX7_readOne 112 = .ok (.aload_n 3, 1) := by decide +kernel
theorem dX7_readOne_113 : decode cX7_readOne 113 = .ok (.getstatic 83, 3) := by decide +kernel
theorem dX7_readOne_116 : decode cX7_readOne 116 = .ok (.if_acmp .ne 31, 3) := by decide +kernel
theorem dX7_readOne_119 : decode cX7_readOne 119 = .ok (.aload_n 0, 1) := by decide +kernel
theorem dX7_readOne_120 : decode cX7_readOne 120 = .ok (.aload_n 1, 1) := by decide +kernel
theorem dX7_readOne_121 : decode cX7_readOne 121 = .ok (.iload_n 2, 1) := by decide +kernel
theorem dX7_readOne_122 : decode cX7_readOne 122 = .ok (.iconst 1, 1) := by decide +kernel
theorem dX7_readOne_123 : decode cX7_readOne 123 = .ok (.iadd, 1) := by decide +kernel
theorem dX7_readOne_124 : decode cX7_readOne 124 = .ok (.invokevirtual 74, 3) := by decide +kernel
theorem dX7_readOne_127 : decode cX7_readOne 127 = .ok (.ifCond .eq 18, 3) := by decide +kernel
theorem dX7_readOne_130 : decode cX7_readOne 130 = .ok (.aload_n 0, 1) := by decide +kernel
theorem dX7_readOne_131 : decode cX7_readOne 131 = .ok (.bipush 6, 2) := by decide +kernel
theorem dX7_readOne_133 : decode cX7_readOne 133 = .ok (.iconst 0, 1) := by decide +kernel
theorem dX7_readOne_134 : decode cX7_readOne 134 = .ok (.iconst 0, 1) := by decide +kernel
theorem dX7_readOne_135 : decode cX7_readOne 135 = .ok (.invokevirtual 66, 3) := by decide +kernel
theorem dX7_readOne_138 : decode cX7_readOne 138 = .ok (.ifCond .eq 7, 3) := by decide +kernel
theorem dX7_readOne_141 : decode cX7_readOne 141 = .ok (.iconst 1, 1) := by decide +kernel
theorem dX7_readOne_142 : decode cX7_readOne 142 = .ok (.goto 4, 3) := by decide +kernel
theorem dX7_readOne_145 : decode cX7_readOne 145 = .ok (.iconst 0, 1) := by decide +kernel
theorem dX7_readOne_146 : decode cX7_readOne 146 = .ok (.ireturn, 1) := by decide +kernel
theorem dX7_readOne_147 : decode cX7_readOne 147 = .ok (.aload_n 3, 1) := by decide +kernel
theorem dX7_readOne_148 : decode cX7_readOne 148 = .ok (.getstatic 86, 3) := by decide +kernel
theorem dX7_readOne_151 : decode cX7_readOne 151 = .ok (.if_acmp .ne 11, 3) := by decide +kernel
theorem dX7_readOne_154 : decode cX7_readOne 154 = .ok (.aload_n 0, 1) := by decide +kernel
theorem dX7_readOne_155 : decode cX7_readOne 155 = .ok (.iconst 0, 1) := by decide +kernel
theorem dX7_readOne_156 : decode cX7_readOne 156 = .ok (.iconst 0, 1) := by decide +kernel
theorem dX7_readOne_157 : decode cX7_readOne 157 = .ok (.iconst 0, 1) := by decide +kernel
theorem dX7_readOne_158 : decode cX7_readOne 158 = .ok (.invokevirtual 66, 3) := by decide +kernel
theorem dX7_readOne_161 : decode cX7_readOne 161 = .ok (.ireturn, 1) := by decide +kernel
theorem dX7_readOne_162 : decode cX7_readOne 162 = .ok (.aload_n 0, 1) := by decide +kernel
theorem dX7_readOne_163 : decode cX7_readOne 163 = .ok (.aload_n 1, 1) := by decide +kernel
theorem dX7_readOne_164 : decode cX7_readOne 164 = .ok (.aload_n 3, 1) := by decide +kernel
theorem dX7_readOne_165 : decode cX7_readOne 165 = .ok (.invokestatic 89, 3) := by decide +kernel
theorem dX7_readOne_168 : decode cX7_readOne 168 = .ok (.invokevirtual 96, 3) := by decide +kernel
theorem dX7_readOne_171 : decode cX7_readOne 171 = .ok (.ireturn, 1) := by decide +kernel
set_option maxRecDepth 100000 in
theorem s_readOne0 (l : Launch) (dd : Nat) (x b n L s : Nat) (as : Nat → Nat) (bt : Nat → Nat) (pl : Nat) (e : Nat) (τ : zTk) (tk : Nat) (S : zSe) (he : e = 9) (hd : 5 ≤ dd) (hn : n ≤ 740) (hL : L ≤ 740) (hbt : ∀ j, bt j < 256) (hτ : tOK τ) (htk : tk ≤ 99999999) (hS : sB S) : zSp l mX7_readOne dd 0 0 [.ref s, .ref x, .int (nI e)] [(x, .inr (8, fTx b n L τ 0 pl (nI tk))), (b, .inl (0, 740, .inl (nF bt))), (s, .inr (6, fSen as S.1 S.2.1)), (as 1, .inl (0, 40, .inl (nF S.2.2.1))), (as 2, .inl (0, 40, .inl (nF S.2.2.2.1))), (as 3, .inl (0, 40, .inl (nF S.2.2.2.2)))] (fun r K' => ((sOne bt n L 0 τ tk S).1 = 0 ∧ r = some (.int 1) ∧ K' = kTx x b n L bt (sOne bt n L 0 τ tk S).2.1 0 pl (sOne bt n L 0 τ tk S).2.2.1 ++ kSn s as (sOne bt n L 0 τ tk S).2.2.2) ∨ (¬ (sOne bt n L 0 τ tk S).1 = 0 ∧ r = some (.int 0) ∧ K' = kTx x b n L bt (sOne bt n L 0 τ tk S).2.1 (sOne bt n L 0 τ tk S).1 (sOne bt n L 0 τ tk S).2.1.2.1 (sOne bt n L 0 τ tk S).2.2.1 ++ kSn s as (sOne bt n L 0 τ tk S).2.2.2)) := by
  refine zSp.of (by decide) (Nat.le_of_ble_eq_true rfl) (fun h0 => ?_)
  show zS _ 0 0 0 [(0, .ref s), (1, .ref x), (2, .int (nI e))] [] [(x, .inr (8, fTx b n L τ 0 pl (nI tk))), (b, .inl (0, 740, .inl (nF bt))), (s, .inr (6, fSen as S.1 S.2.1)), (as 1, .inl (0, 40, .inl (nF S.2.2.1))), (as 2, .inl (0, 40, .inl (nF S.2.2.2.1))), (as 3, .inl (0, 40, .inl (nF S.2.2.2.2)))]
  have hwd := hτ.2.2.2.2.2.2.2.1
  have hS20 := hS.1
  have hS2 := hS.2
  refine zs_aload_n dX7_readOne_0 rfl rfl ?_
  refine zs_get 0 dX7_readOne_1 zf_RX7_54 rfl (v := (wV τ.2.2.2.2)) rfl ?_
  refine zs_astore_n (lv' := [(3, (wV τ.2.2.2.2)), (0, .ref s), (1, .ref x), (2, .int (nI e))]) dX7_readOne_4 (Nat.le_of_ble_eq_true rfl) (wV_r _) rfl ?_
  refine zs_aload_n dX7_readOne_5 rfl rfl ?_
  refine zs_bipush (v := nI 40) dX7_readOne_6 (by decide) ?_
  refine zs_callV (M := mX9_isAt) (As := [.int (nI 40)]) (st := []) (Kc := [(x, .inr (8, fTx b n L τ 0 pl (nI tk)))]) (Kr := [(b, .inl (0, 740, .inl (nF bt))), (s, .inr (6, fSen as S.1 S.2.1)), (as 1, .inl (0, 40, .inl (nF S.2.2.1))), (as 2, .inl (0, 40, .inl (nF S.2.2.2.1))), (as 3, .inl (0, 40, .inl (nF S.2.2.2.2)))]) [0] [1, 2, 3, 4, 5] 0 dX7_readOne_8 zl_RX7_80 kX9_isAt rfl rfl rfl rfl rfl (by decide) rfl rfl (show dd - 1 + 1 ≤ dd by omega) (Nat.zero_le _) (Nat.zero_le _) (Nat.le_of_ble_eq_true rfl) (s_isAt l (dd - 1) x b n L τ 0 pl (nI tk) 40 hτ (by decide)) (fun r K1 hr => ?_)
  obtain ⟨rfl, rfl⟩ := hr
  refine zs_K (K' := [(x, .inr (8, fTx b n L τ 0 pl (nI tk))), (b, .inl (0, 740, .inl (nF bt))), (s, .inr (6, fSen as S.1 S.2.1)), (as 1, .inl (0, 40, .inl (nF S.2.2.1))), (as 2, .inl (0, 40, .inl (nF S.2.2.2.1))), (as 3, .inl (0, 40, .inl (nF S.2.2.2.2)))]) [5, 0, 1, 2, 3, 4] rfl (by decide) ?_
  refine zs_istore (lv' := [(4, .int (bI (tAt τ 40))), (3, (wV τ.2.2.2.2)), (0, .ref s), (1, .ref x), (2, .int (nI e))]) dX7_readOne_11 (Nat.le_of_ble_eq_true rfl) (by cases τ.2.2.2.2 <;> rfl) ?_
  refine zs_iload dX7_readOne_13 rfl ?_
  refine zs_if_ne (tgt := 46) dX7_readOne_15 (by decide) (fun c_1 => ?_) (fun c_1 => ?_)
  · have hbr := bI_t c_1
    have hB : ¬ sBad τ := fun h => absurd (hbr.symm.trans h.1) (by decide)
    refine zs_aload_n dX7_readOne_46 rfl rfl ?_
    refine zs_get 2 dX7_readOne_47 zf_RX7_25 rfl (v := .int (nI S.1)) rfl ?_
    refine zs_bipush (v := nI 20) dX7_readOne_50 (by decide) ?_
    refine zs_icmp_ge (tgt := 61) dX7_readOne_52 (by decide) (fun c_2 => ?_) (fun c_2 => ?_)
    · have c_2 : 20 ≤ S.1 := by have hc := c_2; rw [nI_le' (by omega) (by omega)] at hc; exact hc
      refine zs_aload_n dX7_readOne_61 rfl rfl ?_
      refine zs_iconst (v := nI 4) dX7_readOne_62 (by decide) ?_
      refine zs_callV (M := mX9_refuse) (As := [.int (nI 4)]) (st := []) (Kc := [(x, .inr (8, fTx b n L τ 0 pl (nI tk)))]) (Kr := [(b, .inl (0, 740, .inl (nF bt))), (s, .inr (6, fSen as S.1 S.2.1)), (as 1, .inl (0, 40, .inl (nF S.2.2.1))), (as 2, .inl (0, 40, .inl (nF S.2.2.2.1))), (as 3, .inl (0, 40, .inl (nF S.2.2.2.2)))]) [0] [1, 2, 3, 4, 5] 0 dX7_readOne_63 zl_RX7_70 kX9_refuse rfl rfl rfl rfl rfl (by decide) rfl rfl (show dd - 1 + 1 ≤ dd by omega) (Nat.zero_le _) (Nat.zero_le _) (Nat.le_of_ble_eq_true rfl) (s_refuse l (dd - 1) x b n L τ pl 4 (nI tk)) (fun r K1 hr => ?_)
      obtain ⟨rfl, rfl⟩ := hr
      refine zs_K (K' := [(x, .inr (8, fTx b n L τ 4 τ.2.1 (nI tk))), (b, .inl (0, 740, .inl (nF bt))), (s, .inr (6, fSen as S.1 S.2.1)), (as 1, .inl (0, 40, .inl (nF S.2.2.1))), (as 2, .inl (0, 40, .inl (nF S.2.2.2.1))), (as 3, .inl (0, 40, .inl (nF S.2.2.2.2)))]) [5, 0, 1, 2, 3, 4] rfl (by decide) ?_
      have e := sOne_4 (b := bt) (n := n) (L := L) (tk := tk) (S := S) hB (show 20 ≤ S.1 by omega) 0
      exact zs_zret dX7_readOne_66 rfl (Or.inl rfl) (Or.inr ⟨by rw [e]; exact (show ¬ 4 = 0 by decide), rfl, by rw [e]; rfl⟩)
    · have c_2 : ¬ (20 ≤ S.1) := by have hc := c_2; rw [nI_le' (by omega) (by omega)] at hc; exact hc
      have hn20 : ¬ 20 ≤ S.1 := by omega
      have hS1 : sB (sOn S) := ⟨by show S.1 + 1 ≤ 20; omega, by have := hS.2; show S.2.1 ≤ 2 * (S.1 + 1); omega⟩
      refine zs_iload_n dX7_readOne_55 rfl ?_
      refine zs_bipush (v := nI 8) dX7_readOne_56 (by decide) ?_
      refine zs_icmp_le (tgt := 67) dX7_readOne_58 (by decide) (fun c_3 => (absurd c_3 (by rw [nI_le' (by omega) (by omega)]; omega) : False).elim) (fun c_3 => ?_)
      refine zs_aload_n dX7_readOne_61 rfl rfl ?_
      refine zs_iconst (v := nI 4) dX7_readOne_62 (by decide) ?_
      refine zs_callV (M := mX9_refuse) (As := [.int (nI 4)]) (st := []) (Kc := [(x, .inr (8, fTx b n L τ 0 pl (nI tk)))]) (Kr := [(b, .inl (0, 740, .inl (nF bt))), (s, .inr (6, fSen as S.1 S.2.1)), (as 1, .inl (0, 40, .inl (nF S.2.2.1))), (as 2, .inl (0, 40, .inl (nF S.2.2.2.1))), (as 3, .inl (0, 40, .inl (nF S.2.2.2.2)))]) [0] [1, 2, 3, 4, 5] 0 dX7_readOne_63 zl_RX7_70 kX9_refuse rfl rfl rfl rfl rfl (by decide) rfl rfl (show dd - 1 + 1 ≤ dd by omega) (Nat.zero_le _) (Nat.zero_le _) (Nat.le_of_ble_eq_true rfl) (s_refuse l (dd - 1) x b n L τ pl 4 (nI tk)) (fun r K1 hr => ?_)
      obtain ⟨rfl, rfl⟩ := hr
      refine zs_K (K' := [(x, .inr (8, fTx b n L τ 4 τ.2.1 (nI tk))), (b, .inl (0, 740, .inl (nF bt))), (s, .inr (6, fSen as S.1 S.2.1)), (as 1, .inl (0, 40, .inl (nF S.2.2.1))), (as 2, .inl (0, 40, .inl (nF S.2.2.2.1))), (as 3, .inl (0, 40, .inl (nF S.2.2.2.2)))]) [5, 0, 1, 2, 3, 4] rfl (by decide) ?_
      have e := sOne_z (b := bt) (n := n) (L := L) (tk := tk) (S := S) hB
      exact zs_zret dX7_readOne_66 rfl (Or.inl rfl) (Or.inr ⟨by rw [e]; exact (show ¬ 4 = 0 by decide), rfl, by rw [e]; rfl⟩)
  · have hbr := bI_f c_1
    have hnb : ¬ tAt τ 40 = true := fun h => absurd (hbr.symm.trans h) (by decide)
    refine zs_aload_n dX7_readOne_18 rfl (wV_r _) ?_
    refine zs_getsW (u := 22) dX7_readOne_19 (by decide) zg_RX7_83 ?_
    refine zs_acmp_eq (tgt := 46) dX7_readOne_22 (by decide) (wV_w hwd) rfl (fun c_4 => ?_) (fun c_4 => ?_)
    · have hw22 := (wV_e hwd (by decide : 22 < 29)).mp c_4
      have hB : ¬ sBad τ := fun h => h.2.1 hw22
      refine zs_aload_n dX7_readOne_46 rfl rfl ?_
      refine zs_get 2 dX7_readOne_47 zf_RX7_25 rfl (v := .int (nI S.1)) rfl ?_
      refine zs_bipush (v := nI 20) dX7_readOne_50 (by decide) ?_
      refine zs_icmp_ge (tgt := 61) dX7_readOne_52 (by decide) (fun c_5 => ?_) (fun c_5 => ?_)
      · have c_5 : 20 ≤ S.1 := by have hc := c_5; rw [nI_le' (by omega) (by omega)] at hc; exact hc
        refine zs_aload_n dX7_readOne_61 rfl rfl ?_
        refine zs_iconst (v := nI 4) dX7_readOne_62 (by decide) ?_
        refine zs_callV (M := mX9_refuse) (As := [.int (nI 4)]) (st := []) (Kc := [(x, .inr (8, fTx b n L τ 0 pl (nI tk)))]) (Kr := [(b, .inl (0, 740, .inl (nF bt))), (s, .inr (6, fSen as S.1 S.2.1)), (as 1, .inl (0, 40, .inl (nF S.2.2.1))), (as 2, .inl (0, 40, .inl (nF S.2.2.2.1))), (as 3, .inl (0, 40, .inl (nF S.2.2.2.2)))]) [0] [1, 2, 3, 4, 5] 0 dX7_readOne_63 zl_RX7_70 kX9_refuse rfl rfl rfl rfl rfl (by decide) rfl rfl (show dd - 1 + 1 ≤ dd by omega) (Nat.zero_le _) (Nat.zero_le _) (Nat.le_of_ble_eq_true rfl) (s_refuse l (dd - 1) x b n L τ pl 4 (nI tk)) (fun r K1 hr => ?_)
        obtain ⟨rfl, rfl⟩ := hr
        refine zs_K (K' := [(x, .inr (8, fTx b n L τ 4 τ.2.1 (nI tk))), (b, .inl (0, 740, .inl (nF bt))), (s, .inr (6, fSen as S.1 S.2.1)), (as 1, .inl (0, 40, .inl (nF S.2.2.1))), (as 2, .inl (0, 40, .inl (nF S.2.2.2.1))), (as 3, .inl (0, 40, .inl (nF S.2.2.2.2)))]) [5, 0, 1, 2, 3, 4] rfl (by decide) ?_
        have e := sOne_4 (b := bt) (n := n) (L := L) (tk := tk) (S := S) hB (show 20 ≤ S.1 by omega) 0
        exact zs_zret dX7_readOne_66 rfl (Or.inl rfl) (Or.inr ⟨by rw [e]; exact (show ¬ 4 = 0 by decide), rfl, by rw [e]; rfl⟩)
      · have c_5 : ¬ (20 ≤ S.1) := by have hc := c_5; rw [nI_le' (by omega) (by omega)] at hc; exact hc
        have hn20 : ¬ 20 ≤ S.1 := by omega
        have hS1 : sB (sOn S) := ⟨by show S.1 + 1 ≤ 20; omega, by have := hS.2; show S.2.1 ≤ 2 * (S.1 + 1); omega⟩
        refine zs_iload_n dX7_readOne_55 rfl ?_
        refine zs_bipush (v := nI 8) dX7_readOne_56 (by decide) ?_
        refine zs_icmp_le (tgt := 67) dX7_readOne_58 (by decide) (fun c_6 => (absurd c_6 (by rw [nI_le' (by omega) (by omega)]; omega) : False).elim) (fun c_6 => ?_)
        refine zs_aload_n dX7_readOne_61 rfl rfl ?_
        refine zs_iconst (v := nI 4) dX7_readOne_62 (by decide) ?_
        refine zs_callV (M := mX9_refuse) (As := [.int (nI 4)]) (st := []) (Kc := [(x, .inr (8, fTx b n L τ 0 pl (nI tk)))]) (Kr := [(b, .inl (0, 740, .inl (nF bt))), (s, .inr (6, fSen as S.1 S.2.1)), (as 1, .inl (0, 40, .inl (nF S.2.2.1))), (as 2, .inl (0, 40, .inl (nF S.2.2.2.1))), (as 3, .inl (0, 40, .inl (nF S.2.2.2.2)))]) [0] [1, 2, 3, 4, 5] 0 dX7_readOne_63 zl_RX7_70 kX9_refuse rfl rfl rfl rfl rfl (by decide) rfl rfl (show dd - 1 + 1 ≤ dd by omega) (Nat.zero_le _) (Nat.zero_le _) (Nat.le_of_ble_eq_true rfl) (s_refuse l (dd - 1) x b n L τ pl 4 (nI tk)) (fun r K1 hr => ?_)
        obtain ⟨rfl, rfl⟩ := hr
        refine zs_K (K' := [(x, .inr (8, fTx b n L τ 4 τ.2.1 (nI tk))), (b, .inl (0, 740, .inl (nF bt))), (s, .inr (6, fSen as S.1 S.2.1)), (as 1, .inl (0, 40, .inl (nF S.2.2.1))), (as 2, .inl (0, 40, .inl (nF S.2.2.2.1))), (as 3, .inl (0, 40, .inl (nF S.2.2.2.2)))]) [5, 0, 1, 2, 3, 4] rfl (by decide) ?_
        have e := sOne_z (b := bt) (n := n) (L := L) (tk := tk) (S := S) hB
        exact zs_zret dX7_readOne_66 rfl (Or.inl rfl) (Or.inr ⟨by rw [e]; exact (show ¬ 4 = 0 by decide), rfl, by rw [e]; rfl⟩)
    · have hn22 : ¬ τ.2.2.2.2 = some 22 := fun h => c_4 ((wV_e hwd (by decide : 22 < 29)).mpr h)
      refine zs_aload_n dX7_readOne_25 rfl (wV_r _) ?_
      refine zs_getsW (u := 23) dX7_readOne_26 (by decide) zg_RX7_86 ?_
      refine zs_acmp_eq (tgt := 46) dX7_readOne_29 (by decide) (wV_w hwd) rfl (fun c_7 => ?_) (fun c_7 => ?_)
      · have hw23 := (wV_e hwd (by decide : 23 < 29)).mp c_7
        have hB : ¬ sBad τ := fun h => h.2.2.1 hw23
        refine zs_aload_n dX7_readOne_46 rfl rfl ?_
        refine zs_get 2 dX7_readOne_47 zf_RX7_25 rfl (v := .int (nI S.1)) rfl ?_
        refine zs_bipush (v := nI 20) dX7_readOne_50 (by decide) ?_
        refine zs_icmp_ge (tgt := 61) dX7_readOne_52 (by decide) (fun c_8 => ?_) (fun c_8 => ?_)
        · have c_8 : 20 ≤ S.1 := by have hc := c_8; rw [nI_le' (by omega) (by omega)] at hc; exact hc
          refine zs_aload_n dX7_readOne_61 rfl rfl ?_
          refine zs_iconst (v := nI 4) dX7_readOne_62 (by decide) ?_
          refine zs_callV (M := mX9_refuse) (As := [.int (nI 4)]) (st := []) (Kc := [(x, .inr (8, fTx b n L τ 0 pl (nI tk)))]) (Kr := [(b, .inl (0, 740, .inl (nF bt))), (s, .inr (6, fSen as S.1 S.2.1)), (as 1, .inl (0, 40, .inl (nF S.2.2.1))), (as 2, .inl (0, 40, .inl (nF S.2.2.2.1))), (as 3, .inl (0, 40, .inl (nF S.2.2.2.2)))]) [0] [1, 2, 3, 4, 5] 0 dX7_readOne_63 zl_RX7_70 kX9_refuse rfl rfl rfl rfl rfl (by decide) rfl rfl (show dd - 1 + 1 ≤ dd by omega) (Nat.zero_le _) (Nat.zero_le _) (Nat.le_of_ble_eq_true rfl) (s_refuse l (dd - 1) x b n L τ pl 4 (nI tk)) (fun r K1 hr => ?_)
          obtain ⟨rfl, rfl⟩ := hr
          refine zs_K (K' := [(x, .inr (8, fTx b n L τ 4 τ.2.1 (nI tk))), (b, .inl (0, 740, .inl (nF bt))), (s, .inr (6, fSen as S.1 S.2.1)), (as 1, .inl (0, 40, .inl (nF S.2.2.1))), (as 2, .inl (0, 40, .inl (nF S.2.2.2.1))), (as 3, .inl (0, 40, .inl (nF S.2.2.2.2)))]) [5, 0, 1, 2, 3, 4] rfl (by decide) ?_
          have e := sOne_4 (b := bt) (n := n) (L := L) (tk := tk) (S := S) hB (show 20 ≤ S.1 by omega) 0
          exact zs_zret dX7_readOne_66 rfl (Or.inl rfl) (Or.inr ⟨by rw [e]; exact (show ¬ 4 = 0 by decide), rfl, by rw [e]; rfl⟩)
        · have c_8 : ¬ (20 ≤ S.1) := by have hc := c_8; rw [nI_le' (by omega) (by omega)] at hc; exact hc
          have hn20 : ¬ 20 ≤ S.1 := by omega
          have hS1 : sB (sOn S) := ⟨by show S.1 + 1 ≤ 20; omega, by have := hS.2; show S.2.1 ≤ 2 * (S.1 + 1); omega⟩
          refine zs_iload_n dX7_readOne_55 rfl ?_
          refine zs_bipush (v := nI 8) dX7_readOne_56 (by decide) ?_
          refine zs_icmp_le (tgt := 67) dX7_readOne_58 (by decide) (fun c_9 => (absurd c_9 (by rw [nI_le' (by omega) (by omega)]; omega) : False).elim) (fun c_9 => ?_)
          refine zs_aload_n dX7_readOne_61 rfl rfl ?_
          refine zs_iconst (v := nI 4) dX7_readOne_62 (by decide) ?_
          refine zs_callV (M := mX9_refuse) (As := [.int (nI 4)]) (st := []) (Kc := [(x, .inr (8, fTx b n L τ 0 pl (nI tk)))]) (Kr := [(b, .inl (0, 740, .inl (nF bt))), (s, .inr (6, fSen as S.1 S.2.1)), (as 1, .inl (0, 40, .inl (nF S.2.2.1))), (as 2, .inl (0, 40, .inl (nF S.2.2.2.1))), (as 3, .inl (0, 40, .inl (nF S.2.2.2.2)))]) [0] [1, 2, 3, 4, 5] 0 dX7_readOne_63 zl_RX7_70 kX9_refuse rfl rfl rfl rfl rfl (by decide) rfl rfl (show dd - 1 + 1 ≤ dd by omega) (Nat.zero_le _) (Nat.zero_le _) (Nat.le_of_ble_eq_true rfl) (s_refuse l (dd - 1) x b n L τ pl 4 (nI tk)) (fun r K1 hr => ?_)
          obtain ⟨rfl, rfl⟩ := hr
          refine zs_K (K' := [(x, .inr (8, fTx b n L τ 4 τ.2.1 (nI tk))), (b, .inl (0, 740, .inl (nF bt))), (s, .inr (6, fSen as S.1 S.2.1)), (as 1, .inl (0, 40, .inl (nF S.2.2.1))), (as 2, .inl (0, 40, .inl (nF S.2.2.2.1))), (as 3, .inl (0, 40, .inl (nF S.2.2.2.2)))]) [5, 0, 1, 2, 3, 4] rfl (by decide) ?_
          have e := sOne_z (b := bt) (n := n) (L := L) (tk := tk) (S := S) hB
          exact zs_zret dX7_readOne_66 rfl (Or.inl rfl) (Or.inr ⟨by rw [e]; exact (show ¬ 4 = 0 by decide), rfl, by rw [e]; rfl⟩)
      · have hn23 : ¬ τ.2.2.2.2 = some 23 := fun h => c_7 ((wV_e hwd (by decide : 23 < 29)).mpr h)
        refine zs_aload_n dX7_readOne_32 rfl (wV_r _) ?_
        refine zs_callS (M := mX7_measured) (As := [(wV τ.2.2.2.2)]) (st := []) (Kc := []) (Kr := [(x, .inr (8, fTx b n L τ 0 pl (nI tk))), (b, .inl (0, 740, .inl (nF bt))), (s, .inr (6, fSen as S.1 S.2.1)), (as 1, .inl (0, 40, .inl (nF S.2.2.1))), (as 2, .inl (0, 40, .inl (nF S.2.2.2.1))), (as 3, .inl (0, 40, .inl (nF S.2.2.2.2)))]) [] [0, 1, 2, 3, 4, 5] dX7_readOne_33 zl_RX7_89 kX7_measured rfl rfl rfl rfl rfl (by decide) (show dd - 1 + 1 ≤ dd by omega) (Nat.zero_le _) (Nat.zero_le _) (Nat.le_of_ble_eq_true rfl) (s_measured l (dd - 1) τ.2.2.2.2 hwd) (fun r K1 hr => ?_)
        obtain ⟨rfl, rfl⟩ := hr
        refine zs_K (K' := [(x, .inr (8, fTx b n L τ 0 pl (nI tk))), (b, .inl (0, 740, .inl (nF bt))), (s, .inr (6, fSen as S.1 S.2.1)), (as 1, .inl (0, 40, .inl (nF S.2.2.1))), (as 2, .inl (0, 40, .inl (nF S.2.2.2.1))), (as 3, .inl (0, 40, .inl (nF S.2.2.2.2)))]) [0, 1, 2, 3, 4, 5] rfl (by decide) ?_
        refine zs_iconst (v := (-1)) dX7_readOne_36 (by decide) ?_
        refine zs_icmp_ne (tgt := 46) dX7_readOne_37 (by decide) (fun c_10 => ?_) (fun c_10 => ?_)
        · have hm := oM_1 c_10
          have hB : ¬ sBad τ := fun h => hm.1 h.2.2.2
          refine zs_aload_n dX7_readOne_46 rfl rfl ?_
          refine zs_get 2 dX7_readOne_47 zf_RX7_25 rfl (v := .int (nI S.1)) rfl ?_
          refine zs_bipush (v := nI 20) dX7_readOne_50 (by decide) ?_
          refine zs_icmp_ge (tgt := 61) dX7_readOne_52 (by decide) (fun c_11 => ?_) (fun c_11 => ?_)
          · have c_11 : 20 ≤ S.1 := by have hc := c_11; rw [nI_le' (by omega) (by omega)] at hc; exact hc
            refine zs_aload_n dX7_readOne_61 rfl rfl ?_
            refine zs_iconst (v := nI 4) dX7_readOne_62 (by decide) ?_
            refine zs_callV (M := mX9_refuse) (As := [.int (nI 4)]) (st := []) (Kc := [(x, .inr (8, fTx b n L τ 0 pl (nI tk)))]) (Kr := [(b, .inl (0, 740, .inl (nF bt))), (s, .inr (6, fSen as S.1 S.2.1)), (as 1, .inl (0, 40, .inl (nF S.2.2.1))), (as 2, .inl (0, 40, .inl (nF S.2.2.2.1))), (as 3, .inl (0, 40, .inl (nF S.2.2.2.2)))]) [0] [1, 2, 3, 4, 5] 0 dX7_readOne_63 zl_RX7_70 kX9_refuse rfl rfl rfl rfl rfl (by decide) rfl rfl (show dd - 1 + 1 ≤ dd by omega) (Nat.zero_le _) (Nat.zero_le _) (Nat.le_of_ble_eq_true rfl) (s_refuse l (dd - 1) x b n L τ pl 4 (nI tk)) (fun r K1 hr => ?_)
            obtain ⟨rfl, rfl⟩ := hr
            refine zs_K (K' := [(x, .inr (8, fTx b n L τ 4 τ.2.1 (nI tk))), (b, .inl (0, 740, .inl (nF bt))), (s, .inr (6, fSen as S.1 S.2.1)), (as 1, .inl (0, 40, .inl (nF S.2.2.1))), (as 2, .inl (0, 40, .inl (nF S.2.2.2.1))), (as 3, .inl (0, 40, .inl (nF S.2.2.2.2)))]) [5, 0, 1, 2, 3, 4] rfl (by decide) ?_
            have e := sOne_4 (b := bt) (n := n) (L := L) (tk := tk) (S := S) hB (show 20 ≤ S.1 by omega) 0
            exact zs_zret dX7_readOne_66 rfl (Or.inl rfl) (Or.inr ⟨by rw [e]; exact (show ¬ 4 = 0 by decide), rfl, by rw [e]; rfl⟩)
          · have c_11 : ¬ (20 ≤ S.1) := by have hc := c_11; rw [nI_le' (by omega) (by omega)] at hc; exact hc
            have hn20 : ¬ 20 ≤ S.1 := by omega
            have hS1 : sB (sOn S) := ⟨by show S.1 + 1 ≤ 20; omega, by have := hS.2; show S.2.1 ≤ 2 * (S.1 + 1); omega⟩
            refine zs_iload_n dX7_readOne_55 rfl ?_
            refine zs_bipush (v := nI 8) dX7_readOne_56 (by decide) ?_
            refine zs_icmp_le (tgt := 67) dX7_readOne_58 (by decide) (fun c_12 => (absurd c_12 (by rw [nI_le' (by omega) (by omega)]; omega) : False).elim) (fun c_12 => ?_)
            refine zs_aload_n dX7_readOne_61 rfl rfl ?_
            refine zs_iconst (v := nI 4) dX7_readOne_62 (by decide) ?_
            refine zs_callV (M := mX9_refuse) (As := [.int (nI 4)]) (st := []) (Kc := [(x, .inr (8, fTx b n L τ 0 pl (nI tk)))]) (Kr := [(b, .inl (0, 740, .inl (nF bt))), (s, .inr (6, fSen as S.1 S.2.1)), (as 1, .inl (0, 40, .inl (nF S.2.2.1))), (as 2, .inl (0, 40, .inl (nF S.2.2.2.1))), (as 3, .inl (0, 40, .inl (nF S.2.2.2.2)))]) [0] [1, 2, 3, 4, 5] 0 dX7_readOne_63 zl_RX7_70 kX9_refuse rfl rfl rfl rfl rfl (by decide) rfl rfl (show dd - 1 + 1 ≤ dd by omega) (Nat.zero_le _) (Nat.zero_le _) (Nat.le_of_ble_eq_true rfl) (s_refuse l (dd - 1) x b n L τ pl 4 (nI tk)) (fun r K1 hr => ?_)
            obtain ⟨rfl, rfl⟩ := hr
            refine zs_K (K' := [(x, .inr (8, fTx b n L τ 4 τ.2.1 (nI tk))), (b, .inl (0, 740, .inl (nF bt))), (s, .inr (6, fSen as S.1 S.2.1)), (as 1, .inl (0, 40, .inl (nF S.2.2.1))), (as 2, .inl (0, 40, .inl (nF S.2.2.2.1))), (as 3, .inl (0, 40, .inl (nF S.2.2.2.2)))]) [5, 0, 1, 2, 3, 4] rfl (by decide) ?_
            have e := sOne_z (b := bt) (n := n) (L := L) (tk := tk) (S := S) hB
            exact zs_zret dX7_readOne_66 rfl (Or.inl rfl) (Or.inr ⟨by rw [e]; exact (show ¬ 4 = 0 by decide), rfl, by rw [e]; rfl⟩)
        · have hB : sBad τ := ⟨hbr, hn22, hn23, oM_0 c_10⟩
          refine zs_aload_n dX7_readOne_40 rfl rfl ?_
          refine zs_iconst (v := nI 1) dX7_readOne_41 (by decide) ?_
          refine zs_callV (M := mX9_refuse) (As := [.int (nI 1)]) (st := []) (Kc := [(x, .inr (8, fTx b n L τ 0 pl (nI tk)))]) (Kr := [(b, .inl (0, 740, .inl (nF bt))), (s, .inr (6, fSen as S.1 S.2.1)), (as 1, .inl (0, 40, .inl (nF S.2.2.1))), (as 2, .inl (0, 40, .inl (nF S.2.2.2.1))), (as 3, .inl (0, 40, .inl (nF S.2.2.2.2)))]) [0] [1, 2, 3, 4, 5] 0 dX7_readOne_42 zl_RX7_70 kX9_refuse rfl rfl rfl rfl rfl (by decide) rfl rfl (show dd - 1 + 1 ≤ dd by omega) (Nat.zero_le _) (Nat.zero_le _) (Nat.le_of_ble_eq_true rfl) (s_refuse l (dd - 1) x b n L τ pl 1 (nI tk)) (fun r K1 hr => ?_)
          obtain ⟨rfl, rfl⟩ := hr
          refine zs_K (K' := [(x, .inr (8, fTx b n L τ 1 τ.2.1 (nI tk))), (b, .inl (0, 740, .inl (nF bt))), (s, .inr (6, fSen as S.1 S.2.1)), (as 1, .inl (0, 40, .inl (nF S.2.2.1))), (as 2, .inl (0, 40, .inl (nF S.2.2.2.1))), (as 3, .inl (0, 40, .inl (nF S.2.2.2.2)))]) [5, 0, 1, 2, 3, 4] rfl (by decide) ?_
          have e := sOne_bad (b := bt) (n := n) (L := L) (tk := tk) (S := S) hB 0
          exact zs_zret dX7_readOne_45 rfl (Or.inl rfl) (Or.inr ⟨by rw [e]; exact (show ¬ 1 = 0 by decide), rfl, by rw [e]; rfl⟩)
set_option maxRecDepth 100000 in
theorem s_readOne (l : Launch) (x b n L s : Nat) (as : Nat → Nat) (bt : Nat → Nat) (pl : Nat) (hn : n ≤ 740) (hL : L ≤ 740) (hbt : ∀ j, bt j < 256) : ∀ (d e dd : Nat) (τ : zTk) (tk : Nat) (S : zSe), e + d = 9 → 3 * d + 5 ≤ dd → tOK τ → tk ≤ 99999999 → sB S → zSp l mX7_readOne dd 0 0 [.ref s, .ref x, .int (nI e)] [(x, .inr (8, fTx b n L τ 0 pl (nI tk))), (b, .inl (0, 740, .inl (nF bt))), (s, .inr (6, fSen as S.1 S.2.1)), (as 1, .inl (0, 40, .inl (nF S.2.2.1))), (as 2, .inl (0, 40, .inl (nF S.2.2.2.1))), (as 3, .inl (0, 40, .inl (nF S.2.2.2.2)))] (fun r K' => ((sOne bt n L d τ tk S).1 = 0 ∧ r = some (.int 1) ∧ K' = kTx x b n L bt (sOne bt n L d τ tk S).2.1 0 pl (sOne bt n L d τ tk S).2.2.1 ++ kSn s as (sOne bt n L d τ tk S).2.2.2) ∨ (¬ (sOne bt n L d τ tk S).1 = 0 ∧ r = some (.int 0) ∧ K' = kTx x b n L bt (sOne bt n L d τ tk S).2.1 (sOne bt n L d τ tk S).1 (sOne bt n L d τ tk S).2.1.2.1 (sOne bt n L d τ tk S).2.2.1 ++ kSn s as (sOne bt n L d τ tk S).2.2.2)) := by
  intro d
  induction d with
  | zero => exact fun e dd τ tk S he hd hτ htk hS => s_readOne0 l dd x b n L s as bt pl e τ tk S he (by omega) hn hL hbt hτ htk hS
  | succ d ih =>
    intro e dd τ tk S he hd hτ htk hS
    refine zSp.of (by decide) (Nat.le_of_ble_eq_true rfl) (fun h0 => ?_)
    show zS _ 0 0 0 [(0, .ref s), (1, .ref x), (2, .int (nI e))] [] [(x, .inr (8, fTx b n L τ 0 pl (nI tk))), (b, .inl (0, 740, .inl (nF bt))), (s, .inr (6, fSen as S.1 S.2.1)), (as 1, .inl (0, 40, .inl (nF S.2.2.1))), (as 2, .inl (0, 40, .inl (nF S.2.2.2.1))), (as 3, .inl (0, 40, .inl (nF S.2.2.2.2)))]
    have hwd := hτ.2.2.2.2.2.2.2.1
    have hS20 := hS.1
    have hS2 := hS.2
    refine zs_aload_n dX7_readOne_0 rfl rfl ?_
    refine zs_get 0 dX7_readOne_1 zf_RX7_54 rfl (v := (wV τ.2.2.2.2)) rfl ?_
    refine zs_astore_n (lv' := [(3, (wV τ.2.2.2.2)), (0, .ref s), (1, .ref x), (2, .int (nI e))]) dX7_readOne_4 (Nat.le_of_ble_eq_true rfl) (wV_r _) rfl ?_
    refine zs_aload_n dX7_readOne_5 rfl rfl ?_
    refine zs_bipush (v := nI 40) dX7_readOne_6 (by decide) ?_
    refine zs_callV (M := mX9_isAt) (As := [.int (nI 40)]) (st := []) (Kc := [(x, .inr (8, fTx b n L τ 0 pl (nI tk)))]) (Kr := [(b, .inl (0, 740, .inl (nF bt))), (s, .inr (6, fSen as S.1 S.2.1)), (as 1, .inl (0, 40, .inl (nF S.2.2.1))), (as 2, .inl (0, 40, .inl (nF S.2.2.2.1))), (as 3, .inl (0, 40, .inl (nF S.2.2.2.2)))]) [0] [1, 2, 3, 4, 5] 0 dX7_readOne_8 zl_RX7_80 kX9_isAt rfl rfl rfl rfl rfl (by decide) rfl rfl (show dd - 1 + 1 ≤ dd by omega) (Nat.zero_le _) (Nat.zero_le _) (Nat.le_of_ble_eq_true rfl) (s_isAt l (dd - 1) x b n L τ 0 pl (nI tk) 40 hτ (by decide)) (fun r K1 hr => ?_)
    obtain ⟨rfl, rfl⟩ := hr
    refine zs_K (K' := [(x, .inr (8, fTx b n L τ 0 pl (nI tk))), (b, .inl (0, 740, .inl (nF bt))), (s, .inr (6, fSen as S.1 S.2.1)), (as 1, .inl (0, 40, .inl (nF S.2.2.1))), (as 2, .inl (0, 40, .inl (nF S.2.2.2.1))), (as 3, .inl (0, 40, .inl (nF S.2.2.2.2)))]) [5, 0, 1, 2, 3, 4] rfl (by decide) ?_
    refine zs_istore (lv' := [(4, .int (bI (tAt τ 40))), (3, (wV τ.2.2.2.2)), (0, .ref s), (1, .ref x), (2, .int (nI e))]) dX7_readOne_11 (Nat.le_of_ble_eq_true rfl) (by cases τ.2.2.2.2 <;> rfl) ?_
    refine zs_iload dX7_readOne_13 rfl ?_
    refine zs_if_ne (tgt := 46) dX7_readOne_15 (by decide) (fun c_1 => ?_) (fun c_1 => ?_)
    · have hbr := bI_t c_1
      have hB : ¬ sBad τ := fun h => absurd (hbr.symm.trans h.1) (by decide)
      refine zs_aload_n dX7_readOne_46 rfl rfl ?_
      refine zs_get 2 dX7_readOne_47 zf_RX7_25 rfl (v := .int (nI S.1)) rfl ?_
      refine zs_bipush (v := nI 20) dX7_readOne_50 (by decide) ?_
      refine zs_icmp_ge (tgt := 61) dX7_readOne_52 (by decide) (fun c_2 => ?_) (fun c_2 => ?_)
      · have c_2 : 20 ≤ S.1 := by have hc := c_2; rw [nI_le' (by omega) (by omega)] at hc; exact hc
        refine zs_aload_n dX7_readOne_61 rfl rfl ?_
        refine zs_iconst (v := nI 4) dX7_readOne_62 (by decide) ?_
        refine zs_callV (M := mX9_refuse) (As := [.int (nI 4)]) (st := []) (Kc := [(x, .inr (8, fTx b n L τ 0 pl (nI tk)))]) (Kr := [(b, .inl (0, 740, .inl (nF bt))), (s, .inr (6, fSen as S.1 S.2.1)), (as 1, .inl (0, 40, .inl (nF S.2.2.1))), (as 2, .inl (0, 40, .inl (nF S.2.2.2.1))), (as 3, .inl (0, 40, .inl (nF S.2.2.2.2)))]) [0] [1, 2, 3, 4, 5] 0 dX7_readOne_63 zl_RX7_70 kX9_refuse rfl rfl rfl rfl rfl (by decide) rfl rfl (show dd - 1 + 1 ≤ dd by omega) (Nat.zero_le _) (Nat.zero_le _) (Nat.le_of_ble_eq_true rfl) (s_refuse l (dd - 1) x b n L τ pl 4 (nI tk)) (fun r K1 hr => ?_)
        obtain ⟨rfl, rfl⟩ := hr
        refine zs_K (K' := [(x, .inr (8, fTx b n L τ 4 τ.2.1 (nI tk))), (b, .inl (0, 740, .inl (nF bt))), (s, .inr (6, fSen as S.1 S.2.1)), (as 1, .inl (0, 40, .inl (nF S.2.2.1))), (as 2, .inl (0, 40, .inl (nF S.2.2.2.1))), (as 3, .inl (0, 40, .inl (nF S.2.2.2.2)))]) [5, 0, 1, 2, 3, 4] rfl (by decide) ?_
        have e := sOne_4 (b := bt) (n := n) (L := L) (tk := tk) (S := S) hB (show 20 ≤ S.1 by omega) (d + 1)
        exact zs_zret dX7_readOne_66 rfl (Or.inl rfl) (Or.inr ⟨by rw [e]; exact (show ¬ 4 = 0 by decide), rfl, by rw [e]; rfl⟩)
      · have c_2 : ¬ (20 ≤ S.1) := by have hc := c_2; rw [nI_le' (by omega) (by omega)] at hc; exact hc
        have hn20 : ¬ 20 ≤ S.1 := by omega
        have hS1 : sB (sOn S) := ⟨by show S.1 + 1 ≤ 20; omega, by have := hS.2; show S.2.1 ≤ 2 * (S.1 + 1); omega⟩
        refine zs_iload_n dX7_readOne_55 rfl ?_
        refine zs_bipush (v := nI 8) dX7_readOne_56 (by decide) ?_
        refine zs_icmp_le (tgt := 67) dX7_readOne_58 (by decide) (fun c_3 => ?_) (fun c_3 => (c_3 (by rw [nI_le' (by omega) (by omega)]; omega) : False).elim)
        refine zs_aload_n dX7_readOne_67 rfl rfl ?_
        refine zs_dup dX7_readOne_68 rfl ?_
        refine zs_get 2 dX7_readOne_69 zf_RX7_25 rfl (v := .int (nI S.1)) rfl ?_
        refine zs_iconst (v := nI 1) dX7_readOne_72 (by decide) ?_
        refine zs_iadd dX7_readOne_73 ?_
        refine zs_as (y := nI (S.1 + 1)) (nI_add _ _) ?_
        refine zs_put 2 dX7_readOne_74 zf_RX7_25 rfl (Nat.le_of_ble_eq_true rfl) (zPv_i _) ?_
        show zS _ _ _ _ _ _ [(x, .inr (8, fTx b n L τ 0 pl (nI tk))), (b, .inl (0, 740, .inl (nF bt))), (s, .inr (6, fSen as (S.1 + 1) S.2.1)), (as 1, .inl (0, 40, .inl (nF S.2.2.1))), (as 2, .inl (0, 40, .inl (nF S.2.2.2.1))), (as 3, .inl (0, 40, .inl (nF S.2.2.2.2)))]
        refine zs_aload_n dX7_readOne_77 rfl rfl ?_
        refine zs_callV (M := mX9_next) (As := []) (st := []) (Kc := [(x, .inr (8, fTx b n L τ 0 pl (nI tk))), (b, .inl (0, 740, .inl (nF bt)))]) (Kr := [(s, .inr (6, fSen as (S.1 + 1) S.2.1)), (as 1, .inl (0, 40, .inl (nF S.2.2.1))), (as 2, .inl (0, 40, .inl (nF S.2.2.2.1))), (as 3, .inl (0, 40, .inl (nF S.2.2.2.2)))]) [0, 1] [2, 3, 4, 5] 0 dX7_readOne_78 zl_RX7_63 kX9_next rfl rfl rfl rfl rfl (by decide) rfl rfl (show dd - 1 + 1 ≤ dd by omega) (Nat.zero_le _) (Nat.zero_le _) (Nat.le_of_ble_eq_true rfl) (s_next l (dd - 1) x b n L bt τ 0 pl (nI tk) (by omega) hn hL hbt hτ.2.2.1) (fun r K1 hr => ?_)
        obtain ⟨rfl, rfl⟩ := hr
        refine zs_K (K' := [(x, .inr (8, fTx b n L (nxt bt n L τ) 0 pl (nI tk))), (b, .inl (0, 740, .inl (nF bt))), (s, .inr (6, fSen as (S.1 + 1) S.2.1)), (as 1, .inl (0, 40, .inl (nF S.2.2.1))), (as 2, .inl (0, 40, .inl (nF S.2.2.2.1))), (as 3, .inl (0, 40, .inl (nF S.2.2.2.2)))]) [4, 5, 0, 1, 2, 3] rfl (by decide) ?_
        refine zs_iload dX7_readOne_81 rfl ?_
        refine zs_if_eq (tgt := 112) dX7_readOne_83 (by decide) (fun c_4 => (c_1 c_4 : False).elim) (fun c_4 => ?_)
        refine zs_aload_n dX7_readOne_86 rfl rfl ?_
        refine zs_aload_n dX7_readOne_87 rfl rfl ?_
        refine zs_iload_n dX7_readOne_88 rfl ?_
        refine zs_iconst (v := nI 1) dX7_readOne_89 (by decide) ?_
        refine zs_iadd dX7_readOne_90 ?_
        refine zs_as (y := nI (e + 1)) (nI_add _ _) ?_
        have hga := sJo_G hbt hn (L := L) (w := 21) (j := 7) (sOne_G (L := L) hbt hn d)
        have hI := sJo_G hbt hn (L := L) (w := 20) (j := 8) hga (nxt bt n L τ) tk (sOn S) (nxt_OK hbt hn) htk hS1
        refine zs_callV (M := mX7_readAny) (As := [.ref x, .int (nI (e + 1))]) (st := []) (Kc := [(x, .inr (8, fTx b n L (nxt bt n L τ) 0 pl (nI tk))), (b, .inl (0, 740, .inl (nF bt))), (s, .inr (6, fSen as (S.1 + 1) S.2.1)), (as 1, .inl (0, 40, .inl (nF S.2.2.1))), (as 2, .inl (0, 40, .inl (nF S.2.2.2.1))), (as 3, .inl (0, 40, .inl (nF S.2.2.2.2)))]) (Kr := []) [0, 1, 2, 3, 4, 5] [] 2 dX7_readOne_91 zl_RX7_41 kX7_readAny rfl rfl rfl rfl rfl (by decide) rfl rfl (show dd - 1 + 1 ≤ dd by omega) (Nat.zero_le _) (Nat.zero_le _) (Nat.le_of_ble_eq_true rfl) (s_readAny l (dd - 1) x b n L s as bt pl (e + 1) (sJo bt n L 21 7 (sOne bt n L d)) (nxt bt n L τ) tk (sOn S) (by omega) hn hL hbt (fun τ tk S hτ htk hS => s_readAll l (dd - 1 - 1) x b n L s as bt pl (e + 1) (sOne bt n L d) τ tk S (by omega) hn hL hbt (fun τ tk S hτ htk hS => ih (e + 1) (dd - 1 - 1 - 1) τ tk S (by omega) (by omega) hτ htk hS) (sOne_G hbt hn d) hτ htk hS) hga (nxt_OK hbt hn) htk hS1) (fun r K1 hr => ?_)
        rcases hr with ⟨hq91, rfl, rfl⟩ | ⟨hq91, rfl, rfl⟩
        · refine zs_K (K' := [(x, .inr (8, fTx b n L ((sJo bt n L 20 8 (sJo bt n L 21 7 (sOne bt n L d)) (nxt bt n L τ) tk (sOn S)).2.1) 0 pl (nI (sJo bt n L 20 8 (sJo bt n L 21 7 (sOne bt n L d)) (nxt bt n L τ) tk (sOn S)).2.2.1))), (b, .inl (0, 740, .inl (nF bt))), (s, .inr (6, fSen as ((sJo bt n L 20 8 (sJo bt n L 21 7 (sOne bt n L d)) (nxt bt n L τ) tk (sOn S)).2.2.2.1) ((sJo bt n L 20 8 (sJo bt n L 21 7 (sOne bt n L d)) (nxt bt n L τ) tk (sOn S)).2.2.2.2.1))), (as 1, .inl (0, 40, .inl (nF ((sJo bt n L 20 8 (sJo bt n L 21 7 (sOne bt n L d)) (nxt bt n L τ) tk (sOn S)).2.2.2.2.2.1)))), (as 2, .inl (0, 40, .inl (nF ((sJo bt n L 20 8 (sJo bt n L 21 7 (sOne bt n L d)) (nxt bt n L τ) tk (sOn S)).2.2.2.2.2.2.1)))), (as 3, .inl (0, 40, .inl (nF ((sJo bt n L 20 8 (sJo bt n L 21 7 (sOne bt n L d)) (nxt bt n L τ) tk (sOn S)).2.2.2.2.2.2.2))))]) [0, 1, 2, 3, 4, 5] rfl (by decide) ?_
          refine zs_if_eq (tgt := 110) dX7_readOne_94 (by decide) (fun c_5 => (by first | exact absurd c_5 (by decide) | exact absurd (by decide) c_5 : False).elim) (fun c_5 => ?_)
          refine zs_aload_n dX7_readOne_97 rfl rfl ?_
          refine zs_bipush (v := nI 41) dX7_readOne_98 (by decide) ?_
          refine zs_callV (M := mX9_takeSign) (As := [.int (nI 41)]) (st := []) (Kc := [(x, .inr (8, fTx b n L ((sJo bt n L 20 8 (sJo bt n L 21 7 (sOne bt n L d)) (nxt bt n L τ) tk (sOn S)).2.1) 0 pl (nI (sJo bt n L 20 8 (sJo bt n L 21 7 (sOne bt n L d)) (nxt bt n L τ) tk (sOn S)).2.2.1))), (b, .inl (0, 740, .inl (nF bt)))]) (Kr := [(s, .inr (6, fSen as ((sJo bt n L 20 8 (sJo bt n L 21 7 (sOne bt n L d)) (nxt bt n L τ) tk (sOn S)).2.2.2.1) ((sJo bt n L 20 8 (sJo bt n L 21 7 (sOne bt n L d)) (nxt bt n L τ) tk (sOn S)).2.2.2.2.1))), (as 1, .inl (0, 40, .inl (nF ((sJo bt n L 20 8 (sJo bt n L 21 7 (sOne bt n L d)) (nxt bt n L τ) tk (sOn S)).2.2.2.2.2.1)))), (as 2, .inl (0, 40, .inl (nF ((sJo bt n L 20 8 (sJo bt n L 21 7 (sOne bt n L d)) (nxt bt n L τ) tk (sOn S)).2.2.2.2.2.2.1)))), (as 3, .inl (0, 40, .inl (nF ((sJo bt n L 20 8 (sJo bt n L 21 7 (sOne bt n L d)) (nxt bt n L τ) tk (sOn S)).2.2.2.2.2.2.2))))]) [0, 1] [2, 3, 4, 5] 0 dX7_readOne_100 zl_RX7_93 kX9_takeSign rfl rfl rfl rfl rfl (by decide) rfl rfl (show dd - 1 + 1 ≤ dd by omega) (Nat.zero_le _) (Nat.zero_le _) (Nat.le_of_ble_eq_true rfl) (s_takeSign l (dd - 1) x b n L bt (sJo bt n L 20 8 (sJo bt n L 21 7 (sOne bt n L d)) (nxt bt n L τ) tk (sOn S)).2.1 pl (nI (sJo bt n L 20 8 (sJo bt n L 21 7 (sOne bt n L d)) (nxt bt n L τ) tk (sOn S)).2.2.1) 41 (by omega) hn hL hbt hI.1 (by decide)) (fun r K1 hr => ?_)
          rcases hr with ⟨hq100, rfl, rfl⟩ | ⟨hq100, rfl, rfl⟩
          · refine zs_K (K' := [(x, .inr (8, fTx b n L (nxt bt n L (sJo bt n L 20 8 (sJo bt n L 21 7 (sOne bt n L d)) (nxt bt n L τ) tk (sOn S)).2.1) 0 pl (nI (sJo bt n L 20 8 (sJo bt n L 21 7 (sOne bt n L d)) (nxt bt n L τ) tk (sOn S)).2.2.1))), (b, .inl (0, 740, .inl (nF bt))), (s, .inr (6, fSen as ((sJo bt n L 20 8 (sJo bt n L 21 7 (sOne bt n L d)) (nxt bt n L τ) tk (sOn S)).2.2.2.1) ((sJo bt n L 20 8 (sJo bt n L 21 7 (sOne bt n L d)) (nxt bt n L τ) tk (sOn S)).2.2.2.2.1))), (as 1, .inl (0, 40, .inl (nF ((sJo bt n L 20 8 (sJo bt n L 21 7 (sOne bt n L d)) (nxt bt n L τ) tk (sOn S)).2.2.2.2.2.1)))), (as 2, .inl (0, 40, .inl (nF ((sJo bt n L 20 8 (sJo bt n L 21 7 (sOne bt n L d)) (nxt bt n L τ) tk (sOn S)).2.2.2.2.2.2.1)))), (as 3, .inl (0, 40, .inl (nF ((sJo bt n L 20 8 (sJo bt n L 21 7 (sOne bt n L d)) (nxt bt n L τ) tk (sOn S)).2.2.2.2.2.2.2))))]) [4, 5, 0, 1, 2, 3] rfl (by decide) ?_
            refine zs_if_eq (tgt := 110) dX7_readOne_103 (by decide) (fun c_6 => (by first | exact absurd c_6 (by decide) | exact absurd (by decide) c_6 : False).elim) (fun c_6 => ?_)
            refine zs_iconst (v := nI 1) dX7_readOne_106 (by decide) ?_
            refine zs_goto (tgt := 111) dX7_readOne_107 (by decide) ?_
            have e : sOne bt n L (d + 1) τ tk S = (0, nxt bt n L (sJo bt n L 20 8 (sJo bt n L 21 7 (sOne bt n L d)) (nxt bt n L τ) tk (sOn S)).2.1, (sJo bt n L 20 8 (sJo bt n L 21 7 (sOne bt n L d)) (nxt bt n L τ) tk (sOn S)).2.2) := by rw [sOne_b hB hn20 hbr, sBk, if_pos hq91, if_pos hq100]
            exact zs_zret dX7_readOne_111 rfl (Or.inr rfl) (Or.inl ⟨by rw [e], rfl, by rw [e]; rfl⟩)
          · refine zs_K (K' := [(x, .inr (8, fTx b n L ((sJo bt n L 20 8 (sJo bt n L 21 7 (sOne bt n L d)) (nxt bt n L τ) tk (sOn S)).2.1) 1 ((sJo bt n L 20 8 (sJo bt n L 21 7 (sOne bt n L d)) (nxt bt n L τ) tk (sOn S)).2.1.2.1) (nI (sJo bt n L 20 8 (sJo bt n L 21 7 (sOne bt n L d)) (nxt bt n L τ) tk (sOn S)).2.2.1))), (b, .inl (0, 740, .inl (nF bt))), (s, .inr (6, fSen as ((sJo bt n L 20 8 (sJo bt n L 21 7 (sOne bt n L d)) (nxt bt n L τ) tk (sOn S)).2.2.2.1) ((sJo bt n L 20 8 (sJo bt n L 21 7 (sOne bt n L d)) (nxt bt n L τ) tk (sOn S)).2.2.2.2.1))), (as 1, .inl (0, 40, .inl (nF ((sJo bt n L 20 8 (sJo bt n L 21 7 (sOne bt n L d)) (nxt bt n L τ) tk (sOn S)).2.2.2.2.2.1)))), (as 2, .inl (0, 40, .inl (nF ((sJo bt n L 20 8 (sJo bt n L 21 7 (sOne bt n L d)) (nxt bt n L τ) tk (sOn S)).2.2.2.2.2.2.1)))), (as 3, .inl (0, 40, .inl (nF ((sJo bt n L 20 8 (sJo bt n L 21 7 (sOne bt n L d)) (nxt bt n L τ) tk (sOn S)).2.2.2.2.2.2.2))))]) [4, 5, 0, 1, 2, 3] rfl (by decide) ?_
            refine zs_if_eq (tgt := 110) dX7_readOne_103 (by decide) (fun c_7 => ?_) (fun c_7 => (by first | exact absurd c_7 (by decide) | exact absurd (by decide) c_7 : False).elim)
            refine zs_iconst (v := nI 0) dX7_readOne_110 (by decide) ?_
            have e : sOne bt n L (d + 1) τ tk S = (1, (sJo bt n L 20 8 (sJo bt n L 21 7 (sOne bt n L d)) (nxt bt n L τ) tk (sOn S)).2) := by rw [sOne_b hB hn20 hbr, sBk, if_pos hq91, if_neg (fun h => by rw [hq100] at h; exact absurd h (by decide))]
            exact zs_zret dX7_readOne_111 rfl (Or.inl rfl) (Or.inr ⟨by rw [e]; exact (show ¬ 1 = 0 by decide), rfl, by rw [e]; rfl⟩)
        · refine zs_K (K' := [(x, .inr (8, fTx b n L ((sJo bt n L 20 8 (sJo bt n L 21 7 (sOne bt n L d)) (nxt bt n L τ) tk (sOn S)).2.1) ((sJo bt n L 20 8 (sJo bt n L 21 7 (sOne bt n L d)) (nxt bt n L τ) tk (sOn S)).1) ((sJo bt n L 20 8 (sJo bt n L 21 7 (sOne bt n L d)) (nxt bt n L τ) tk (sOn S)).2.1.2.1) (nI (sJo bt n L 20 8 (sJo bt n L 21 7 (sOne bt n L d)) (nxt bt n L τ) tk (sOn S)).2.2.1))), (b, .inl (0, 740, .inl (nF bt))), (s, .inr (6, fSen as ((sJo bt n L 20 8 (sJo bt n L 21 7 (sOne bt n L d)) (nxt bt n L τ) tk (sOn S)).2.2.2.1) ((sJo bt n L 20 8 (sJo bt n L 21 7 (sOne bt n L d)) (nxt bt n L τ) tk (sOn S)).2.2.2.2.1))), (as 1, .inl (0, 40, .inl (nF ((sJo bt n L 20 8 (sJo bt n L 21 7 (sOne bt n L d)) (nxt bt n L τ) tk (sOn S)).2.2.2.2.2.1)))), (as 2, .inl (0, 40, .inl (nF ((sJo bt n L 20 8 (sJo bt n L 21 7 (sOne bt n L d)) (nxt bt n L τ) tk (sOn S)).2.2.2.2.2.2.1)))), (as 3, .inl (0, 40, .inl (nF ((sJo bt n L 20 8 (sJo bt n L 21 7 (sOne bt n L d)) (nxt bt n L τ) tk (sOn S)).2.2.2.2.2.2.2))))]) [0, 1, 2, 3, 4, 5] rfl (by decide) ?_
          refine zs_if_eq (tgt := 110) dX7_readOne_94 (by decide) (fun c_8 => ?_) (fun c_8 => (by first | exact absurd c_8 (by decide) | exact absurd (by decide) c_8 : False).elim)
          refine zs_iconst (v := nI 0) dX7_readOne_110 (by decide) ?_
          have e : sOne bt n L (d + 1) τ tk S = (sJo bt n L 20 8 (sJo bt n L 21 7 (sOne bt n L d)) (nxt bt n L τ) tk (sOn S)) := by rw [sOne_b hB hn20 hbr, sBk, if_neg hq91]
          exact zs_zret dX7_readOne_111 rfl (Or.inl rfl) (Or.inr ⟨by rw [e]; exact hq91, rfl, by rw [e]; rfl⟩)
    · have hbr := bI_f c_1
      have hnb : ¬ tAt τ 40 = true := fun h => absurd (hbr.symm.trans h) (by decide)
      refine zs_aload_n dX7_readOne_18 rfl (wV_r _) ?_
      refine zs_getsW (u := 22) dX7_readOne_19 (by decide) zg_RX7_83 ?_
      refine zs_acmp_eq (tgt := 46) dX7_readOne_22 (by decide) (wV_w hwd) rfl (fun c_9 => ?_) (fun c_9 => ?_)
      · have hw22 := (wV_e hwd (by decide : 22 < 29)).mp c_9
        have hB : ¬ sBad τ := fun h => h.2.1 hw22
        refine zs_aload_n dX7_readOne_46 rfl rfl ?_
        refine zs_get 2 dX7_readOne_47 zf_RX7_25 rfl (v := .int (nI S.1)) rfl ?_
        refine zs_bipush (v := nI 20) dX7_readOne_50 (by decide) ?_
        refine zs_icmp_ge (tgt := 61) dX7_readOne_52 (by decide) (fun c_10 => ?_) (fun c_10 => ?_)
        · have c_10 : 20 ≤ S.1 := by have hc := c_10; rw [nI_le' (by omega) (by omega)] at hc; exact hc
          refine zs_aload_n dX7_readOne_61 rfl rfl ?_
          refine zs_iconst (v := nI 4) dX7_readOne_62 (by decide) ?_
          refine zs_callV (M := mX9_refuse) (As := [.int (nI 4)]) (st := []) (Kc := [(x, .inr (8, fTx b n L τ 0 pl (nI tk)))]) (Kr := [(b, .inl (0, 740, .inl (nF bt))), (s, .inr (6, fSen as S.1 S.2.1)), (as 1, .inl (0, 40, .inl (nF S.2.2.1))), (as 2, .inl (0, 40, .inl (nF S.2.2.2.1))), (as 3, .inl (0, 40, .inl (nF S.2.2.2.2)))]) [0] [1, 2, 3, 4, 5] 0 dX7_readOne_63 zl_RX7_70 kX9_refuse rfl rfl rfl rfl rfl (by decide) rfl rfl (show dd - 1 + 1 ≤ dd by omega) (Nat.zero_le _) (Nat.zero_le _) (Nat.le_of_ble_eq_true rfl) (s_refuse l (dd - 1) x b n L τ pl 4 (nI tk)) (fun r K1 hr => ?_)
          obtain ⟨rfl, rfl⟩ := hr
          refine zs_K (K' := [(x, .inr (8, fTx b n L τ 4 τ.2.1 (nI tk))), (b, .inl (0, 740, .inl (nF bt))), (s, .inr (6, fSen as S.1 S.2.1)), (as 1, .inl (0, 40, .inl (nF S.2.2.1))), (as 2, .inl (0, 40, .inl (nF S.2.2.2.1))), (as 3, .inl (0, 40, .inl (nF S.2.2.2.2)))]) [5, 0, 1, 2, 3, 4] rfl (by decide) ?_
          have e := sOne_4 (b := bt) (n := n) (L := L) (tk := tk) (S := S) hB (show 20 ≤ S.1 by omega) (d + 1)
          exact zs_zret dX7_readOne_66 rfl (Or.inl rfl) (Or.inr ⟨by rw [e]; exact (show ¬ 4 = 0 by decide), rfl, by rw [e]; rfl⟩)
        · have c_10 : ¬ (20 ≤ S.1) := by have hc := c_10; rw [nI_le' (by omega) (by omega)] at hc; exact hc
          have hn20 : ¬ 20 ≤ S.1 := by omega
          have hS1 : sB (sOn S) := ⟨by show S.1 + 1 ≤ 20; omega, by have := hS.2; show S.2.1 ≤ 2 * (S.1 + 1); omega⟩
          refine zs_iload_n dX7_readOne_55 rfl ?_
          refine zs_bipush (v := nI 8) dX7_readOne_56 (by decide) ?_
          refine zs_icmp_le (tgt := 67) dX7_readOne_58 (by decide) (fun c_11 => ?_) (fun c_11 => (c_11 (by rw [nI_le' (by omega) (by omega)]; omega) : False).elim)
          refine zs_aload_n dX7_readOne_67 rfl rfl ?_
          refine zs_dup dX7_readOne_68 rfl ?_
          refine zs_get 2 dX7_readOne_69 zf_RX7_25 rfl (v := .int (nI S.1)) rfl ?_
          refine zs_iconst (v := nI 1) dX7_readOne_72 (by decide) ?_
          refine zs_iadd dX7_readOne_73 ?_
          refine zs_as (y := nI (S.1 + 1)) (nI_add _ _) ?_
          refine zs_put 2 dX7_readOne_74 zf_RX7_25 rfl (Nat.le_of_ble_eq_true rfl) (zPv_i _) ?_
          show zS _ _ _ _ _ _ [(x, .inr (8, fTx b n L τ 0 pl (nI tk))), (b, .inl (0, 740, .inl (nF bt))), (s, .inr (6, fSen as (S.1 + 1) S.2.1)), (as 1, .inl (0, 40, .inl (nF S.2.2.1))), (as 2, .inl (0, 40, .inl (nF S.2.2.2.1))), (as 3, .inl (0, 40, .inl (nF S.2.2.2.2)))]
          refine zs_aload_n dX7_readOne_77 rfl rfl ?_
          refine zs_callV (M := mX9_next) (As := []) (st := []) (Kc := [(x, .inr (8, fTx b n L τ 0 pl (nI tk))), (b, .inl (0, 740, .inl (nF bt)))]) (Kr := [(s, .inr (6, fSen as (S.1 + 1) S.2.1)), (as 1, .inl (0, 40, .inl (nF S.2.2.1))), (as 2, .inl (0, 40, .inl (nF S.2.2.2.1))), (as 3, .inl (0, 40, .inl (nF S.2.2.2.2)))]) [0, 1] [2, 3, 4, 5] 0 dX7_readOne_78 zl_RX7_63 kX9_next rfl rfl rfl rfl rfl (by decide) rfl rfl (show dd - 1 + 1 ≤ dd by omega) (Nat.zero_le _) (Nat.zero_le _) (Nat.le_of_ble_eq_true rfl) (s_next l (dd - 1) x b n L bt τ 0 pl (nI tk) (by omega) hn hL hbt hτ.2.2.1) (fun r K1 hr => ?_)
          obtain ⟨rfl, rfl⟩ := hr
          refine zs_K (K' := [(x, .inr (8, fTx b n L (nxt bt n L τ) 0 pl (nI tk))), (b, .inl (0, 740, .inl (nF bt))), (s, .inr (6, fSen as (S.1 + 1) S.2.1)), (as 1, .inl (0, 40, .inl (nF S.2.2.1))), (as 2, .inl (0, 40, .inl (nF S.2.2.2.1))), (as 3, .inl (0, 40, .inl (nF S.2.2.2.2)))]) [4, 5, 0, 1, 2, 3] rfl (by decide) ?_
          refine zs_iload dX7_readOne_81 rfl ?_
          refine zs_if_eq (tgt := 112) dX7_readOne_83 (by decide) (fun c_12 => ?_) (fun c_12 => (c_12 c_1 : False).elim)
          refine zs_aload_n dX7_readOne_112 rfl (wV_r _) ?_
          refine zs_getsW (u := 22) dX7_readOne_113 (by decide) zg_RX7_83 ?_
          refine zs_acmp_ne (tgt := 147) dX7_readOne_116 (by decide) (wV_w hwd) rfl (fun c_13 => (c_13 c_9 : False).elim) (fun c_13 => ?_)
          refine zs_aload_n dX7_readOne_119 rfl rfl ?_
          refine zs_aload_n dX7_readOne_120 rfl rfl ?_
          refine zs_iload_n dX7_readOne_121 rfl ?_
          refine zs_iconst (v := nI 1) dX7_readOne_122 (by decide) ?_
          refine zs_iadd dX7_readOne_123 ?_
          refine zs_as (y := nI (e + 1)) (nI_add _ _) ?_
          have hI := sOne_G (L := L) hbt hn d (nxt bt n L τ) tk (sOn S) (nxt_OK hbt hn) htk hS1
          refine zs_callV (M := mX7_readOne) (As := [.ref x, .int (nI (e + 1))]) (st := []) (Kc := [(x, .inr (8, fTx b n L (nxt bt n L τ) 0 pl (nI tk))), (b, .inl (0, 740, .inl (nF bt))), (s, .inr (6, fSen as (S.1 + 1) S.2.1)), (as 1, .inl (0, 40, .inl (nF S.2.2.1))), (as 2, .inl (0, 40, .inl (nF S.2.2.2.1))), (as 3, .inl (0, 40, .inl (nF S.2.2.2.2)))]) (Kr := []) [0, 1, 2, 3, 4, 5] [] 2 dX7_readOne_124 zl_RX7_74 kX7_readOne rfl rfl rfl rfl rfl (by decide) rfl rfl (show dd - 1 + 1 ≤ dd by omega) (Nat.zero_le _) (Nat.zero_le _) (Nat.le_of_ble_eq_true rfl) (ih (e + 1) (dd - 1) (nxt bt n L τ) tk (sOn S) (by omega) (by omega) (nxt_OK hbt hn) htk hS1) (fun r K1 hr => ?_)
          rcases hr with ⟨hq124, rfl, rfl⟩ | ⟨hq124, rfl, rfl⟩
          · have h5 : (sOne bt n L d (nxt bt n L τ) tk (sOn S)).2.2.2.2.1 + 2 * (S.1 + 1) + 1 ≤ S.2.1 + 2 * (sOne bt n L d (nxt bt n L τ) tk (sOn S)).2.2.2.1 := hI.2.2.2.2 hq124
            have h4 := hI.2.2.2.1
            refine zs_K (K' := [(x, .inr (8, fTx b n L ((sOne bt n L d (nxt bt n L τ) tk (sOn S)).2.1) 0 pl (nI (sOne bt n L d (nxt bt n L τ) tk (sOn S)).2.2.1))), (b, .inl (0, 740, .inl (nF bt))), (s, .inr (6, fSen as ((sOne bt n L d (nxt bt n L τ) tk (sOn S)).2.2.2.1) ((sOne bt n L d (nxt bt n L τ) tk (sOn S)).2.2.2.2.1))), (as 1, .inl (0, 40, .inl (nF ((sOne bt n L d (nxt bt n L τ) tk (sOn S)).2.2.2.2.2.1)))), (as 2, .inl (0, 40, .inl (nF ((sOne bt n L d (nxt bt n L τ) tk (sOn S)).2.2.2.2.2.2.1)))), (as 3, .inl (0, 40, .inl (nF ((sOne bt n L d (nxt bt n L τ) tk (sOn S)).2.2.2.2.2.2.2))))]) [0, 1, 2, 3, 4, 5] rfl (by decide) ?_
            refine zs_if_eq (tgt := 145) dX7_readOne_127 (by decide) (fun c_14 => (by first | exact absurd c_14 (by decide) | exact absurd (by decide) c_14 : False).elim) (fun c_14 => ?_)
            refine zs_aload_n dX7_readOne_130 rfl rfl ?_
            refine zs_bipush (v := nI 6) dX7_readOne_131 (by decide) ?_
            refine zs_iconst (v := nI 0) dX7_readOne_133 (by decide) ?_
            refine zs_iconst (v := nI 0) dX7_readOne_134 (by decide) ?_
            refine zs_callV (M := mX7_add) (As := [.int (nI 6), .int (nI 0), .int (nI 0)]) (st := []) (Kc := [(s, .inr (6, fSen as ((sOne bt n L d (nxt bt n L τ) tk (sOn S)).2.2.2.1) ((sOne bt n L d (nxt bt n L τ) tk (sOn S)).2.2.2.2.1))), (as 1, .inl (0, 40, .inl (nF ((sOne bt n L d (nxt bt n L τ) tk (sOn S)).2.2.2.2.2.1)))), (as 2, .inl (0, 40, .inl (nF ((sOne bt n L d (nxt bt n L τ) tk (sOn S)).2.2.2.2.2.2.1)))), (as 3, .inl (0, 40, .inl (nF ((sOne bt n L d (nxt bt n L τ) tk (sOn S)).2.2.2.2.2.2.2))))]) (Kr := [(x, .inr (8, fTx b n L ((sOne bt n L d (nxt bt n L τ) tk (sOn S)).2.1) 0 pl (nI (sOne bt n L d (nxt bt n L τ) tk (sOn S)).2.2.1))), (b, .inl (0, 740, .inl (nF bt)))]) [2, 3, 4, 5] [0, 1] 0 dX7_readOne_135 zl_RX7_66 kX7_add rfl rfl rfl rfl rfl (by decide) rfl rfl (show dd - 1 + 1 ≤ dd by omega) (Nat.zero_le _) (Nat.zero_le _) (Nat.le_of_ble_eq_true rfl) (s_add l (dd - 1) s as ((sOne bt n L d (nxt bt n L τ) tk (sOn S)).2.2.2) 6 0 0 (by omega)) (fun r K1 hr => ?_)
            obtain ⟨rfl, rfl⟩ := hr
            refine zs_K (K' := [(x, .inr (8, fTx b n L ((sOne bt n L d (nxt bt n L τ) tk (sOn S)).2.1) 0 pl (nI (sOne bt n L d (nxt bt n L τ) tk (sOn S)).2.2.1))), (b, .inl (0, 740, .inl (nF bt))), (s, .inr (6, fSen as ((sAd ((sOne bt n L d (nxt bt n L τ) tk (sOn S)).2.2.2) 6 0 0).1) ((sAd ((sOne bt n L d (nxt bt n L τ) tk (sOn S)).2.2.2) 6 0 0).2.1))), (as 1, .inl (0, 40, .inl (nF ((sAd ((sOne bt n L d (nxt bt n L τ) tk (sOn S)).2.2.2) 6 0 0).2.2.1)))), (as 2, .inl (0, 40, .inl (nF ((sAd ((sOne bt n L d (nxt bt n L τ) tk (sOn S)).2.2.2) 6 0 0).2.2.2.1)))), (as 3, .inl (0, 40, .inl (nF ((sAd ((sOne bt n L d (nxt bt n L τ) tk (sOn S)).2.2.2) 6 0 0).2.2.2.2))))]) [0, 1, 2, 3, 4, 5] rfl (by decide) ?_
            refine zs_if_eq (tgt := 145) dX7_readOne_138 (by decide) (fun c_15 => (absurd c_15 (by decide) : False).elim) (fun c_15 => ?_)
            refine zs_iconst (v := nI 1) dX7_readOne_141 (by decide) ?_
            refine zs_goto (tgt := 146) dX7_readOne_142 (by decide) ?_
            have e : sOne bt n L (d + 1) τ tk S = (0, (sOne bt n L d (nxt bt n L τ) tk (sOn S)).2.1, (sOne bt n L d (nxt bt n L τ) tk (sOn S)).2.2.1, sAd (sOne bt n L d (nxt bt n L τ) tk (sOn S)).2.2.2 6 0 0) := by rw [sOne_n hB hn20 hnb hw22, sNt, if_pos hq124]
            exact zs_zret dX7_readOne_146 rfl (Or.inr rfl) (Or.inl ⟨by rw [e], rfl, by rw [e]; rfl⟩)
          · refine zs_K (K' := [(x, .inr (8, fTx b n L ((sOne bt n L d (nxt bt n L τ) tk (sOn S)).2.1) ((sOne bt n L d (nxt bt n L τ) tk (sOn S)).1) ((sOne bt n L d (nxt bt n L τ) tk (sOn S)).2.1.2.1) (nI (sOne bt n L d (nxt bt n L τ) tk (sOn S)).2.2.1))), (b, .inl (0, 740, .inl (nF bt))), (s, .inr (6, fSen as ((sOne bt n L d (nxt bt n L τ) tk (sOn S)).2.2.2.1) ((sOne bt n L d (nxt bt n L τ) tk (sOn S)).2.2.2.2.1))), (as 1, .inl (0, 40, .inl (nF ((sOne bt n L d (nxt bt n L τ) tk (sOn S)).2.2.2.2.2.1)))), (as 2, .inl (0, 40, .inl (nF ((sOne bt n L d (nxt bt n L τ) tk (sOn S)).2.2.2.2.2.2.1)))), (as 3, .inl (0, 40, .inl (nF ((sOne bt n L d (nxt bt n L τ) tk (sOn S)).2.2.2.2.2.2.2))))]) [0, 1, 2, 3, 4, 5] rfl (by decide) ?_
            refine zs_if_eq (tgt := 145) dX7_readOne_127 (by decide) (fun c_16 => ?_) (fun c_16 => (by first | exact absurd c_16 (by decide) | exact absurd (by decide) c_16 : False).elim)
            refine zs_iconst (v := nI 0) dX7_readOne_145 (by decide) ?_
            have e : sOne bt n L (d + 1) τ tk S = (sOne bt n L d (nxt bt n L τ) tk (sOn S)) := by rw [sOne_n hB hn20 hnb hw22, sNt, if_neg hq124]
            exact zs_zret dX7_readOne_146 rfl (Or.inl rfl) (Or.inr ⟨by rw [e]; exact hq124, rfl, by rw [e]; rfl⟩)
      · have hn22 : ¬ τ.2.2.2.2 = some 22 := fun h => c_9 ((wV_e hwd (by decide : 22 < 29)).mpr h)
        refine zs_aload_n dX7_readOne_25 rfl (wV_r _) ?_
        refine zs_getsW (u := 23) dX7_readOne_26 (by decide) zg_RX7_86 ?_
        refine zs_acmp_eq (tgt := 46) dX7_readOne_29 (by decide) (wV_w hwd) rfl (fun c_17 => ?_) (fun c_17 => ?_)
        · have hw23 := (wV_e hwd (by decide : 23 < 29)).mp c_17
          have hB : ¬ sBad τ := fun h => h.2.2.1 hw23
          refine zs_aload_n dX7_readOne_46 rfl rfl ?_
          refine zs_get 2 dX7_readOne_47 zf_RX7_25 rfl (v := .int (nI S.1)) rfl ?_
          refine zs_bipush (v := nI 20) dX7_readOne_50 (by decide) ?_
          refine zs_icmp_ge (tgt := 61) dX7_readOne_52 (by decide) (fun c_18 => ?_) (fun c_18 => ?_)
          · have c_18 : 20 ≤ S.1 := by have hc := c_18; rw [nI_le' (by omega) (by omega)] at hc; exact hc
            refine zs_aload_n dX7_readOne_61 rfl rfl ?_
            refine zs_iconst (v := nI 4) dX7_readOne_62 (by decide) ?_
            refine zs_callV (M := mX9_refuse) (As := [.int (nI 4)]) (st := []) (Kc := [(x, .inr (8, fTx b n L τ 0 pl (nI tk)))]) (Kr := [(b, .inl (0, 740, .inl (nF bt))), (s, .inr (6, fSen as S.1 S.2.1)), (as 1, .inl (0, 40, .inl (nF S.2.2.1))), (as 2, .inl (0, 40, .inl (nF S.2.2.2.1))), (as 3, .inl (0, 40, .inl (nF S.2.2.2.2)))]) [0] [1, 2, 3, 4, 5] 0 dX7_readOne_63 zl_RX7_70 kX9_refuse rfl rfl rfl rfl rfl (by decide) rfl rfl (show dd - 1 + 1 ≤ dd by omega) (Nat.zero_le _) (Nat.zero_le _) (Nat.le_of_ble_eq_true rfl) (s_refuse l (dd - 1) x b n L τ pl 4 (nI tk)) (fun r K1 hr => ?_)
            obtain ⟨rfl, rfl⟩ := hr
            refine zs_K (K' := [(x, .inr (8, fTx b n L τ 4 τ.2.1 (nI tk))), (b, .inl (0, 740, .inl (nF bt))), (s, .inr (6, fSen as S.1 S.2.1)), (as 1, .inl (0, 40, .inl (nF S.2.2.1))), (as 2, .inl (0, 40, .inl (nF S.2.2.2.1))), (as 3, .inl (0, 40, .inl (nF S.2.2.2.2)))]) [5, 0, 1, 2, 3, 4] rfl (by decide) ?_
            have e := sOne_4 (b := bt) (n := n) (L := L) (tk := tk) (S := S) hB (show 20 ≤ S.1 by omega) (d + 1)
            exact zs_zret dX7_readOne_66 rfl (Or.inl rfl) (Or.inr ⟨by rw [e]; exact (show ¬ 4 = 0 by decide), rfl, by rw [e]; rfl⟩)
          · have c_18 : ¬ (20 ≤ S.1) := by have hc := c_18; rw [nI_le' (by omega) (by omega)] at hc; exact hc
            have hn20 : ¬ 20 ≤ S.1 := by omega
            have hS1 : sB (sOn S) := ⟨by show S.1 + 1 ≤ 20; omega, by have := hS.2; show S.2.1 ≤ 2 * (S.1 + 1); omega⟩
            refine zs_iload_n dX7_readOne_55 rfl ?_
            refine zs_bipush (v := nI 8) dX7_readOne_56 (by decide) ?_
            refine zs_icmp_le (tgt := 67) dX7_readOne_58 (by decide) (fun c_19 => ?_) (fun c_19 => (c_19 (by rw [nI_le' (by omega) (by omega)]; omega) : False).elim)
            refine zs_aload_n dX7_readOne_67 rfl rfl ?_
            refine zs_dup dX7_readOne_68 rfl ?_
            refine zs_get 2 dX7_readOne_69 zf_RX7_25 rfl (v := .int (nI S.1)) rfl ?_
            refine zs_iconst (v := nI 1) dX7_readOne_72 (by decide) ?_
            refine zs_iadd dX7_readOne_73 ?_
            refine zs_as (y := nI (S.1 + 1)) (nI_add _ _) ?_
            refine zs_put 2 dX7_readOne_74 zf_RX7_25 rfl (Nat.le_of_ble_eq_true rfl) (zPv_i _) ?_
            show zS _ _ _ _ _ _ [(x, .inr (8, fTx b n L τ 0 pl (nI tk))), (b, .inl (0, 740, .inl (nF bt))), (s, .inr (6, fSen as (S.1 + 1) S.2.1)), (as 1, .inl (0, 40, .inl (nF S.2.2.1))), (as 2, .inl (0, 40, .inl (nF S.2.2.2.1))), (as 3, .inl (0, 40, .inl (nF S.2.2.2.2)))]
            refine zs_aload_n dX7_readOne_77 rfl rfl ?_
            refine zs_callV (M := mX9_next) (As := []) (st := []) (Kc := [(x, .inr (8, fTx b n L τ 0 pl (nI tk))), (b, .inl (0, 740, .inl (nF bt)))]) (Kr := [(s, .inr (6, fSen as (S.1 + 1) S.2.1)), (as 1, .inl (0, 40, .inl (nF S.2.2.1))), (as 2, .inl (0, 40, .inl (nF S.2.2.2.1))), (as 3, .inl (0, 40, .inl (nF S.2.2.2.2)))]) [0, 1] [2, 3, 4, 5] 0 dX7_readOne_78 zl_RX7_63 kX9_next rfl rfl rfl rfl rfl (by decide) rfl rfl (show dd - 1 + 1 ≤ dd by omega) (Nat.zero_le _) (Nat.zero_le _) (Nat.le_of_ble_eq_true rfl) (s_next l (dd - 1) x b n L bt τ 0 pl (nI tk) (by omega) hn hL hbt hτ.2.2.1) (fun r K1 hr => ?_)
            obtain ⟨rfl, rfl⟩ := hr
            refine zs_K (K' := [(x, .inr (8, fTx b n L (nxt bt n L τ) 0 pl (nI tk))), (b, .inl (0, 740, .inl (nF bt))), (s, .inr (6, fSen as (S.1 + 1) S.2.1)), (as 1, .inl (0, 40, .inl (nF S.2.2.1))), (as 2, .inl (0, 40, .inl (nF S.2.2.2.1))), (as 3, .inl (0, 40, .inl (nF S.2.2.2.2)))]) [4, 5, 0, 1, 2, 3] rfl (by decide) ?_
            refine zs_iload dX7_readOne_81 rfl ?_
            refine zs_if_eq (tgt := 112) dX7_readOne_83 (by decide) (fun c_20 => ?_) (fun c_20 => (c_20 c_1 : False).elim)
            refine zs_aload_n dX7_readOne_112 rfl (wV_r _) ?_
            refine zs_getsW (u := 22) dX7_readOne_113 (by decide) zg_RX7_83 ?_
            refine zs_acmp_ne (tgt := 147) dX7_readOne_116 (by decide) (wV_w hwd) rfl (fun c_21 => ?_) (fun c_21 => (c_9 c_21 : False).elim)
            refine zs_aload_n dX7_readOne_147 rfl (wV_r _) ?_
            refine zs_getsW (u := 23) dX7_readOne_148 (by decide) zg_RX7_86 ?_
            refine zs_acmp_ne (tgt := 162) dX7_readOne_151 (by decide) (wV_w hwd) rfl (fun c_22 => (c_22 c_17 : False).elim) (fun c_22 => ?_)
            refine zs_aload_n dX7_readOne_154 rfl rfl ?_
            refine zs_iconst (v := nI 0) dX7_readOne_155 (by decide) ?_
            refine zs_iconst (v := nI 0) dX7_readOne_156 (by decide) ?_
            refine zs_iconst (v := nI 0) dX7_readOne_157 (by decide) ?_
            refine zs_callV (M := mX7_add) (As := [.int (nI 0), .int (nI 0), .int (nI 0)]) (st := []) (Kc := [(s, .inr (6, fSen as (S.1 + 1) S.2.1)), (as 1, .inl (0, 40, .inl (nF S.2.2.1))), (as 2, .inl (0, 40, .inl (nF S.2.2.2.1))), (as 3, .inl (0, 40, .inl (nF S.2.2.2.2)))]) (Kr := [(x, .inr (8, fTx b n L (nxt bt n L τ) 0 pl (nI tk))), (b, .inl (0, 740, .inl (nF bt)))]) [2, 3, 4, 5] [0, 1] 0 dX7_readOne_158 zl_RX7_66 kX7_add rfl rfl rfl rfl rfl (by decide) rfl rfl (show dd - 1 + 1 ≤ dd by omega) (Nat.zero_le _) (Nat.zero_le _) (Nat.le_of_ble_eq_true rfl) (s_add l (dd - 1) s as (sOn S) 0 0 0 (show S.2.1 < 40 by omega)) (fun r K1 hr => ?_)
            obtain ⟨rfl, rfl⟩ := hr
            refine zs_K (K' := [(x, .inr (8, fTx b n L (nxt bt n L τ) 0 pl (nI tk))), (b, .inl (0, 740, .inl (nF bt))), (s, .inr (6, fSen as ((sAd (sOn S) 0 0 0).1) ((sAd (sOn S) 0 0 0).2.1))), (as 1, .inl (0, 40, .inl (nF ((sAd (sOn S) 0 0 0).2.2.1)))), (as 2, .inl (0, 40, .inl (nF ((sAd (sOn S) 0 0 0).2.2.2.1)))), (as 3, .inl (0, 40, .inl (nF ((sAd (sOn S) 0 0 0).2.2.2.2))))]) [0, 1, 2, 3, 4, 5] rfl (by decide) ?_
            have e : sOne bt n L (d + 1) τ tk S = (0, (nxt bt n L τ), tk, sAd (sOn S) 0 0 0) := sOne_o hB hn20 hnb hn22 hw23
            exact zs_zret dX7_readOne_161 rfl (Or.inr rfl) (Or.inl ⟨by rw [e], rfl, by rw [e]; rfl⟩)
        · have hn23 : ¬ τ.2.2.2.2 = some 23 := fun h => c_17 ((wV_e hwd (by decide : 23 < 29)).mpr h)
          refine zs_aload_n dX7_readOne_32 rfl (wV_r _) ?_
          refine zs_callS (M := mX7_measured) (As := [(wV τ.2.2.2.2)]) (st := []) (Kc := []) (Kr := [(x, .inr (8, fTx b n L τ 0 pl (nI tk))), (b, .inl (0, 740, .inl (nF bt))), (s, .inr (6, fSen as S.1 S.2.1)), (as 1, .inl (0, 40, .inl (nF S.2.2.1))), (as 2, .inl (0, 40, .inl (nF S.2.2.2.1))), (as 3, .inl (0, 40, .inl (nF S.2.2.2.2)))]) [] [0, 1, 2, 3, 4, 5] dX7_readOne_33 zl_RX7_89 kX7_measured rfl rfl rfl rfl rfl (by decide) (show dd - 1 + 1 ≤ dd by omega) (Nat.zero_le _) (Nat.zero_le _) (Nat.le_of_ble_eq_true rfl) (s_measured l (dd - 1) τ.2.2.2.2 hwd) (fun r K1 hr => ?_)
          obtain ⟨rfl, rfl⟩ := hr
          refine zs_K (K' := [(x, .inr (8, fTx b n L τ 0 pl (nI tk))), (b, .inl (0, 740, .inl (nF bt))), (s, .inr (6, fSen as S.1 S.2.1)), (as 1, .inl (0, 40, .inl (nF S.2.2.1))), (as 2, .inl (0, 40, .inl (nF S.2.2.2.1))), (as 3, .inl (0, 40, .inl (nF S.2.2.2.2)))]) [0, 1, 2, 3, 4, 5] rfl (by decide) ?_
          refine zs_iconst (v := (-1)) dX7_readOne_36 (by decide) ?_
          refine zs_icmp_ne (tgt := 46) dX7_readOne_37 (by decide) (fun c_23 => ?_) (fun c_23 => ?_)
          · have hm := oM_1 c_23
            have hB : ¬ sBad τ := fun h => hm.1 h.2.2.2
            refine zs_aload_n dX7_readOne_46 rfl rfl ?_
            refine zs_get 2 dX7_readOne_47 zf_RX7_25 rfl (v := .int (nI S.1)) rfl ?_
            refine zs_bipush (v := nI 20) dX7_readOne_50 (by decide) ?_
            refine zs_icmp_ge (tgt := 61) dX7_readOne_52 (by decide) (fun c_24 => ?_) (fun c_24 => ?_)
            · have c_24 : 20 ≤ S.1 := by have hc := c_24; rw [nI_le' (by omega) (by omega)] at hc; exact hc
              refine zs_aload_n dX7_readOne_61 rfl rfl ?_
              refine zs_iconst (v := nI 4) dX7_readOne_62 (by decide) ?_
              refine zs_callV (M := mX9_refuse) (As := [.int (nI 4)]) (st := []) (Kc := [(x, .inr (8, fTx b n L τ 0 pl (nI tk)))]) (Kr := [(b, .inl (0, 740, .inl (nF bt))), (s, .inr (6, fSen as S.1 S.2.1)), (as 1, .inl (0, 40, .inl (nF S.2.2.1))), (as 2, .inl (0, 40, .inl (nF S.2.2.2.1))), (as 3, .inl (0, 40, .inl (nF S.2.2.2.2)))]) [0] [1, 2, 3, 4, 5] 0 dX7_readOne_63 zl_RX7_70 kX9_refuse rfl rfl rfl rfl rfl (by decide) rfl rfl (show dd - 1 + 1 ≤ dd by omega) (Nat.zero_le _) (Nat.zero_le _) (Nat.le_of_ble_eq_true rfl) (s_refuse l (dd - 1) x b n L τ pl 4 (nI tk)) (fun r K1 hr => ?_)
              obtain ⟨rfl, rfl⟩ := hr
              refine zs_K (K' := [(x, .inr (8, fTx b n L τ 4 τ.2.1 (nI tk))), (b, .inl (0, 740, .inl (nF bt))), (s, .inr (6, fSen as S.1 S.2.1)), (as 1, .inl (0, 40, .inl (nF S.2.2.1))), (as 2, .inl (0, 40, .inl (nF S.2.2.2.1))), (as 3, .inl (0, 40, .inl (nF S.2.2.2.2)))]) [5, 0, 1, 2, 3, 4] rfl (by decide) ?_
              have e := sOne_4 (b := bt) (n := n) (L := L) (tk := tk) (S := S) hB (show 20 ≤ S.1 by omega) (d + 1)
              exact zs_zret dX7_readOne_66 rfl (Or.inl rfl) (Or.inr ⟨by rw [e]; exact (show ¬ 4 = 0 by decide), rfl, by rw [e]; rfl⟩)
            · have c_24 : ¬ (20 ≤ S.1) := by have hc := c_24; rw [nI_le' (by omega) (by omega)] at hc; exact hc
              have hn20 : ¬ 20 ≤ S.1 := by omega
              have hS1 : sB (sOn S) := ⟨by show S.1 + 1 ≤ 20; omega, by have := hS.2; show S.2.1 ≤ 2 * (S.1 + 1); omega⟩
              refine zs_iload_n dX7_readOne_55 rfl ?_
              refine zs_bipush (v := nI 8) dX7_readOne_56 (by decide) ?_
              refine zs_icmp_le (tgt := 67) dX7_readOne_58 (by decide) (fun c_25 => ?_) (fun c_25 => (c_25 (by rw [nI_le' (by omega) (by omega)]; omega) : False).elim)
              refine zs_aload_n dX7_readOne_67 rfl rfl ?_
              refine zs_dup dX7_readOne_68 rfl ?_
              refine zs_get 2 dX7_readOne_69 zf_RX7_25 rfl (v := .int (nI S.1)) rfl ?_
              refine zs_iconst (v := nI 1) dX7_readOne_72 (by decide) ?_
              refine zs_iadd dX7_readOne_73 ?_
              refine zs_as (y := nI (S.1 + 1)) (nI_add _ _) ?_
              refine zs_put 2 dX7_readOne_74 zf_RX7_25 rfl (Nat.le_of_ble_eq_true rfl) (zPv_i _) ?_
              show zS _ _ _ _ _ _ [(x, .inr (8, fTx b n L τ 0 pl (nI tk))), (b, .inl (0, 740, .inl (nF bt))), (s, .inr (6, fSen as (S.1 + 1) S.2.1)), (as 1, .inl (0, 40, .inl (nF S.2.2.1))), (as 2, .inl (0, 40, .inl (nF S.2.2.2.1))), (as 3, .inl (0, 40, .inl (nF S.2.2.2.2)))]
              refine zs_aload_n dX7_readOne_77 rfl rfl ?_
              refine zs_callV (M := mX9_next) (As := []) (st := []) (Kc := [(x, .inr (8, fTx b n L τ 0 pl (nI tk))), (b, .inl (0, 740, .inl (nF bt)))]) (Kr := [(s, .inr (6, fSen as (S.1 + 1) S.2.1)), (as 1, .inl (0, 40, .inl (nF S.2.2.1))), (as 2, .inl (0, 40, .inl (nF S.2.2.2.1))), (as 3, .inl (0, 40, .inl (nF S.2.2.2.2)))]) [0, 1] [2, 3, 4, 5] 0 dX7_readOne_78 zl_RX7_63 kX9_next rfl rfl rfl rfl rfl (by decide) rfl rfl (show dd - 1 + 1 ≤ dd by omega) (Nat.zero_le _) (Nat.zero_le _) (Nat.le_of_ble_eq_true rfl) (s_next l (dd - 1) x b n L bt τ 0 pl (nI tk) (by omega) hn hL hbt hτ.2.2.1) (fun r K1 hr => ?_)
              obtain ⟨rfl, rfl⟩ := hr
              refine zs_K (K' := [(x, .inr (8, fTx b n L (nxt bt n L τ) 0 pl (nI tk))), (b, .inl (0, 740, .inl (nF bt))), (s, .inr (6, fSen as (S.1 + 1) S.2.1)), (as 1, .inl (0, 40, .inl (nF S.2.2.1))), (as 2, .inl (0, 40, .inl (nF S.2.2.2.1))), (as 3, .inl (0, 40, .inl (nF S.2.2.2.2)))]) [4, 5, 0, 1, 2, 3] rfl (by decide) ?_
              refine zs_iload dX7_readOne_81 rfl ?_
              refine zs_if_eq (tgt := 112) dX7_readOne_83 (by decide) (fun c_26 => ?_) (fun c_26 => (c_26 c_1 : False).elim)
              refine zs_aload_n dX7_readOne_112 rfl (wV_r _) ?_
              refine zs_getsW (u := 22) dX7_readOne_113 (by decide) zg_RX7_83 ?_
              refine zs_acmp_ne (tgt := 147) dX7_readOne_116 (by decide) (wV_w hwd) rfl (fun c_27 => ?_) (fun c_27 => (c_9 c_27 : False).elim)
              refine zs_aload_n dX7_readOne_147 rfl (wV_r _) ?_
              refine zs_getsW (u := 23) dX7_readOne_148 (by decide) zg_RX7_86 ?_
              refine zs_acmp_ne (tgt := 162) dX7_readOne_151 (by decide) (wV_w hwd) rfl (fun c_28 => ?_) (fun c_28 => (c_17 c_28 : False).elim)
              refine zs_aload_n dX7_readOne_162 rfl rfl ?_
              refine zs_aload_n dX7_readOne_163 rfl rfl ?_
              refine zs_aload_n dX7_readOne_164 rfl (wV_r _) ?_
              refine zs_callS (M := mX7_measured) (As := [(wV τ.2.2.2.2)]) (st := [.ref x, .ref s]) (Kc := []) (Kr := [(x, .inr (8, fTx b n L (nxt bt n L τ) 0 pl (nI tk))), (b, .inl (0, 740, .inl (nF bt))), (s, .inr (6, fSen as (S.1 + 1) S.2.1)), (as 1, .inl (0, 40, .inl (nF S.2.2.1))), (as 2, .inl (0, 40, .inl (nF S.2.2.2.1))), (as 3, .inl (0, 40, .inl (nF S.2.2.2.2)))]) [] [0, 1, 2, 3, 4, 5] dX7_readOne_165 zl_RX7_89 kX7_measured rfl rfl rfl rfl rfl (by decide) (show dd - 1 + 1 ≤ dd by omega) (Nat.zero_le _) (Nat.zero_le _) (Nat.le_of_ble_eq_true rfl) (s_measured l (dd - 1) τ.2.2.2.2 hwd) (fun r K1 hr => ?_)
              obtain ⟨rfl, rfl⟩ := hr
              refine zs_K (K' := [(x, .inr (8, fTx b n L (nxt bt n L τ) 0 pl (nI tk))), (b, .inl (0, 740, .inl (nF bt))), (s, .inr (6, fSen as (S.1 + 1) S.2.1)), (as 1, .inl (0, 40, .inl (nF S.2.2.1))), (as 2, .inl (0, 40, .inl (nF S.2.2.2.1))), (as 3, .inl (0, 40, .inl (nF S.2.2.2.2)))]) [0, 1, 2, 3, 4, 5] rfl (by decide) ?_
              refine zs_as (y := nI (mOf τ.2.2.2.2)) hm.2.1 ?_
              refine zs_callV (M := mX7_readComparison) (As := [.ref x, .int (nI (mOf τ.2.2.2.2))]) (st := []) (Kc := [(x, .inr (8, fTx b n L (nxt bt n L τ) 0 pl (nI tk))), (b, .inl (0, 740, .inl (nF bt))), (s, .inr (6, fSen as (S.1 + 1) S.2.1)), (as 1, .inl (0, 40, .inl (nF S.2.2.1))), (as 2, .inl (0, 40, .inl (nF S.2.2.2.1))), (as 3, .inl (0, 40, .inl (nF S.2.2.2.2)))]) (Kr := []) [0, 1, 2, 3, 4, 5] [] 2 dX7_readOne_168 zl_RX7_96 kX7_readComparison rfl rfl rfl rfl rfl (by decide) rfl rfl (show dd - 1 + 1 ≤ dd by omega) (Nat.zero_le _) (Nat.zero_le _) (Nat.le_of_ble_eq_true rfl) (s_readCmp l (dd - 1) x b n L s as bt pl (mOf τ.2.2.2.2) (nxt bt n L τ) tk (sOn S) (by omega) hn hL hbt (nxt_OK hbt hn) (show S.2.1 < 40 by omega)) (fun r K1 hr => ?_)
              rcases hr with ⟨hq168, rfl, rfl⟩ | ⟨hq168, rfl, rfl⟩
              · refine zs_K (K' := [(x, .inr (8, fTx b n L ((sCmp bt n L (mOf τ.2.2.2.2) (nxt bt n L τ) tk (sOn S)).2.1) 0 pl (nI (sCmp bt n L (mOf τ.2.2.2.2) (nxt bt n L τ) tk (sOn S)).2.2.1))), (b, .inl (0, 740, .inl (nF bt))), (s, .inr (6, fSen as ((sCmp bt n L (mOf τ.2.2.2.2) (nxt bt n L τ) tk (sOn S)).2.2.2.1) ((sCmp bt n L (mOf τ.2.2.2.2) (nxt bt n L τ) tk (sOn S)).2.2.2.2.1))), (as 1, .inl (0, 40, .inl (nF ((sCmp bt n L (mOf τ.2.2.2.2) (nxt bt n L τ) tk (sOn S)).2.2.2.2.2.1)))), (as 2, .inl (0, 40, .inl (nF ((sCmp bt n L (mOf τ.2.2.2.2) (nxt bt n L τ) tk (sOn S)).2.2.2.2.2.2.1)))), (as 3, .inl (0, 40, .inl (nF ((sCmp bt n L (mOf τ.2.2.2.2) (nxt bt n L τ) tk (sOn S)).2.2.2.2.2.2.2))))]) [0, 1, 2, 3, 4, 5] rfl (by decide) ?_
                have e : sOne bt n L (d + 1) τ tk S = (sCmp bt n L (mOf τ.2.2.2.2) (nxt bt n L τ) tk (sOn S)) := sOne_c hB hn20 hnb hn22 hn23
                exact zs_zret dX7_readOne_171 rfl (Or.inr rfl) (Or.inl ⟨by rw [e]; exact hq168, rfl, by rw [e]; rfl⟩)
              · refine zs_K (K' := [(x, .inr (8, fTx b n L ((sCmp bt n L (mOf τ.2.2.2.2) (nxt bt n L τ) tk (sOn S)).2.1) ((sCmp bt n L (mOf τ.2.2.2.2) (nxt bt n L τ) tk (sOn S)).1) ((sCmp bt n L (mOf τ.2.2.2.2) (nxt bt n L τ) tk (sOn S)).2.1.2.1) (nI (sCmp bt n L (mOf τ.2.2.2.2) (nxt bt n L τ) tk (sOn S)).2.2.1))), (b, .inl (0, 740, .inl (nF bt))), (s, .inr (6, fSen as ((sCmp bt n L (mOf τ.2.2.2.2) (nxt bt n L τ) tk (sOn S)).2.2.2.1) ((sCmp bt n L (mOf τ.2.2.2.2) (nxt bt n L τ) tk (sOn S)).2.2.2.2.1))), (as 1, .inl (0, 40, .inl (nF ((sCmp bt n L (mOf τ.2.2.2.2) (nxt bt n L τ) tk (sOn S)).2.2.2.2.2.1)))), (as 2, .inl (0, 40, .inl (nF ((sCmp bt n L (mOf τ.2.2.2.2) (nxt bt n L τ) tk (sOn S)).2.2.2.2.2.2.1)))), (as 3, .inl (0, 40, .inl (nF ((sCmp bt n L (mOf τ.2.2.2.2) (nxt bt n L τ) tk (sOn S)).2.2.2.2.2.2.2))))]) [0, 1, 2, 3, 4, 5] rfl (by decide) ?_
                have e : sOne bt n L (d + 1) τ tk S = (sCmp bt n L (mOf τ.2.2.2.2) (nxt bt n L τ) tk (sOn S)) := sOne_c hB hn20 hnb hn22 hn23
                exact zs_zret dX7_readOne_171 rfl (Or.inl rfl) (Or.inr ⟨by rw [e]; exact hq168, rfl, by rw [e]; rfl⟩)
          · have hB : sBad τ := ⟨hbr, hn22, hn23, oM_0 c_23⟩
            refine zs_aload_n dX7_readOne_40 rfl rfl ?_
            refine zs_iconst (v := nI 1) dX7_readOne_41 (by decide) ?_
            refine zs_callV (M := mX9_refuse) (As := [.int (nI 1)]) (st := []) (Kc := [(x, .inr (8, fTx b n L τ 0 pl (nI tk)))]) (Kr := [(b, .inl (0, 740, .inl (nF bt))), (s, .inr (6, fSen as S.1 S.2.1)), (as 1, .inl (0, 40, .inl (nF S.2.2.1))), (as 2, .inl (0, 40, .inl (nF S.2.2.2.1))), (as 3, .inl (0, 40, .inl (nF S.2.2.2.2)))]) [0] [1, 2, 3, 4, 5] 0 dX7_readOne_42 zl_RX7_70 kX9_refuse rfl rfl rfl rfl rfl (by decide) rfl rfl (show dd - 1 + 1 ≤ dd by omega) (Nat.zero_le _) (Nat.zero_le _) (Nat.le_of_ble_eq_true rfl) (s_refuse l (dd - 1) x b n L τ pl 1 (nI tk)) (fun r K1 hr => ?_)
            obtain ⟨rfl, rfl⟩ := hr
            refine zs_K (K' := [(x, .inr (8, fTx b n L τ 1 τ.2.1 (nI tk))), (b, .inl (0, 740, .inl (nF bt))), (s, .inr (6, fSen as S.1 S.2.1)), (as 1, .inl (0, 40, .inl (nF S.2.2.1))), (as 2, .inl (0, 40, .inl (nF S.2.2.2.1))), (as 3, .inl (0, 40, .inl (nF S.2.2.2.2)))]) [5, 0, 1, 2, 3, 4] rfl (by decide) ?_
            have e := sOne_bad (b := bt) (n := n) (L := L) (tk := tk) (S := S) hB (d + 1)
            exact zs_zret dX7_readOne_45 rfl (Or.inl rfl) (Or.inr ⟨by rw [e]; exact (show ¬ 1 = 0 by decide), rfl, by rw [e]; rfl⟩)
theorem dX7_read_0 : decode cX7_read 0 = .ok (.aload_n 0, 1) := by decide +kernel
theorem dX7_read_1 : decode cX7_read 1 = .ok (.invokevirtual 38, 3) := by decide +kernel
theorem dX7_read_4 : decode cX7_read 4 = .ok (.aload_n 0, 1) := by decide +kernel
theorem dX7_read_5 : decode cX7_read 5 = .ok (.aload_n 1, 1) := by decide +kernel
theorem dX7_read_6 : decode cX7_read 6 = .ok (.iconst 1, 1) := by decide +kernel
theorem dX7_read_7 : decode cX7_read 7 = .ok (.invokevirtual 41, 3) := by decide +kernel
theorem dX7_read_10 : decode cX7_read 10 = .ok (.ifCond .eq 14, 3) := by decide +kernel
theorem dX7_read_13 : decode cX7_read 13 = .ok (.aload_n 1, 1) := by decide +kernel
theorem dX7_read_14 : decode cX7_read 14 = .ok (.invokevirtual 45, 3) := by decide +kernel
theorem dX7_read_17 : decode cX7_read 17 = .ok (.ifCond .eq 7, 3) := by decide +kernel
theorem dX7_read_20 : decode cX7_read 20 = .ok (.iconst 1, 1) := by decide +kernel
theorem dX7_read_21 : decode cX7_read 21 = .ok (.goto 4, 3) := by decide +kernel
theorem dX7_read_24 : decode cX7_read 24 = .ok (.iconst 0, 1) := by decide +kernel
theorem dX7_read_25 : decode cX7_read 25 = .ok (.ireturn, 1) := by decide +kernel
def sRd (b : Nat → Nat) (n L : Nat) (τ : zTk) (tk : Nat) (S : zSe) : zPs :=
  if (sJo b n L 20 8 (sJo b n L 21 7 (sOne b n L 8)) τ tk (0, 0, S.2.2)).1 = 0 then (if tEn n L (sJo b n L 20 8 (sJo b n L 21 7 (sOne b n L 8)) τ tk (0, 0, S.2.2)).2.1 = true then (0, (sJo b n L 20 8 (sJo b n L 21 7 (sOne b n L 8)) τ tk (0, 0, S.2.2)).2) else (1, (sJo b n L 20 8 (sJo b n L 21 7 (sOne b n L 8)) τ tk (0, 0, S.2.2)).2)) else sJo b n L 20 8 (sJo b n L 21 7 (sOne b n L 8)) τ tk (0, 0, S.2.2)
set_option maxRecDepth 100000 in
theorem s_sRead (l : Launch) (dd : Nat) (x b n L s : Nat) (as : Nat → Nat) (bt : Nat → Nat) (pl : Nat) (τ : zTk) (tk : Nat) (S : zSe) (hd : 33 ≤ dd) (hn : n ≤ 740) (hL : L ≤ 740) (hbt : ∀ j, bt j < 256) (hτ : tOK τ) (htk : tk ≤ 99999999) : zSp l mX7_read dd 0 0 [.ref s, .ref x] [(x, .inr (8, fTx b n L τ 0 pl (nI tk))), (b, .inl (0, 740, .inl (nF bt))), (s, .inr (6, fSen as S.1 S.2.1)), (as 1, .inl (0, 40, .inl (nF S.2.2.1))), (as 2, .inl (0, 40, .inl (nF S.2.2.2.1))), (as 3, .inl (0, 40, .inl (nF S.2.2.2.2)))] (fun r K' => ((sRd bt n L τ tk S).1 = 0 ∧ r = some (.int 1) ∧ K' = kTx x b n L bt (sRd bt n L τ tk S).2.1 0 pl (sRd bt n L τ tk S).2.2.1 ++ kSn s as (sRd bt n L τ tk S).2.2.2) ∨ (¬ (sRd bt n L τ tk S).1 = 0 ∧ r = some (.int 0) ∧ K' = kTx x b n L bt (sRd bt n L τ tk S).2.1 (sRd bt n L τ tk S).1 (sRd bt n L τ tk S).2.1.2.1 (sRd bt n L τ tk S).2.2.1 ++ kSn s as (sRd bt n L τ tk S).2.2.2)) := by
  refine zSp.of (by decide) (Nat.le_of_ble_eq_true rfl) (fun h0 => ?_)
  show zS _ 0 0 0 [(0, .ref s), (1, .ref x)] [] [(x, .inr (8, fTx b n L τ 0 pl (nI tk))), (b, .inl (0, 740, .inl (nF bt))), (s, .inr (6, fSen as S.1 S.2.1)), (as 1, .inl (0, 40, .inl (nF S.2.2.1))), (as 2, .inl (0, 40, .inl (nF S.2.2.2.1))), (as 3, .inl (0, 40, .inl (nF S.2.2.2.2)))]
  refine zs_aload_n dX7_read_0 rfl rfl ?_
  refine zs_callV (M := mX7_clear) (As := []) (st := []) (Kc := [(s, .inr (6, fSen as S.1 S.2.1))]) (Kr := [(x, .inr (8, fTx b n L τ 0 pl (nI tk))), (b, .inl (0, 740, .inl (nF bt))), (as 1, .inl (0, 40, .inl (nF S.2.2.1))), (as 2, .inl (0, 40, .inl (nF S.2.2.2.1))), (as 3, .inl (0, 40, .inl (nF S.2.2.2.2)))]) [2] [0, 1, 3, 4, 5] 0 dX7_read_1 zl_RX7_38 kX7_clear rfl rfl rfl rfl rfl (by decide) rfl rfl (show dd - 1 + 1 ≤ dd by omega) (Nat.zero_le _) (Nat.zero_le _) (Nat.le_of_ble_eq_true rfl) (s_sClear l (dd - 1) s as S) (fun r K1 hr => ?_)
  obtain ⟨rfl, rfl⟩ := hr
  refine zs_K (K' := [(x, .inr (8, fTx b n L τ 0 pl (nI tk))), (b, .inl (0, 740, .inl (nF bt))), (s, .inr (6, fSen as 0 0)), (as 1, .inl (0, 40, .inl (nF S.2.2.1))), (as 2, .inl (0, 40, .inl (nF S.2.2.2.1))), (as 3, .inl (0, 40, .inl (nF S.2.2.2.2)))]) [0, 1, 5, 2, 3, 4] rfl (by decide) ?_
  refine zs_aload_n dX7_read_4 rfl rfl ?_
  refine zs_aload_n dX7_read_5 rfl rfl ?_
  refine zs_iconst (v := nI 1) dX7_read_6 (by decide) ?_
  have hga := sJo_G hbt hn (L := L) (w := 21) (j := 7) (sOne_G (L := L) hbt hn 8)
  have hS1 : sB (0, 0, S.2.2) := ⟨Nat.zero_le _, Nat.le_refl _⟩
  have hI := sJo_G hbt hn (L := L) (w := 20) (j := 8) hga τ tk (0, 0, S.2.2) hτ htk hS1
  refine zs_callV (M := mX7_readAny) (As := [.ref x, .int (nI 1)]) (st := []) (Kc := [(x, .inr (8, fTx b n L τ 0 pl (nI tk))), (b, .inl (0, 740, .inl (nF bt))), (s, .inr (6, fSen as 0 0)), (as 1, .inl (0, 40, .inl (nF S.2.2.1))), (as 2, .inl (0, 40, .inl (nF S.2.2.2.1))), (as 3, .inl (0, 40, .inl (nF S.2.2.2.2)))]) (Kr := []) [0, 1, 2, 3, 4, 5] [] 2 dX7_read_7 zl_RX7_41 kX7_readAny rfl rfl rfl rfl rfl (by decide) rfl rfl (show dd - 1 + 1 ≤ dd by omega) (Nat.zero_le _) (Nat.zero_le _) (Nat.le_of_ble_eq_true rfl) (s_readAny l (dd - 1) x b n L s as bt pl 1 (sJo bt n L 21 7 (sOne bt n L 8)) τ tk (0, 0, S.2.2) (by omega) hn hL hbt (fun τ tk S hτ htk hS => s_readAll l (dd - 1 - 1) x b n L s as bt pl 1 (sOne bt n L 8) τ tk S (by omega) hn hL hbt (fun τ tk S hτ htk hS => s_readOne l x b n L s as bt pl hn hL hbt 8 1 (dd - 1 - 1 - 1) τ tk S rfl (by omega) hτ htk hS) (sOne_G hbt hn 8) hτ htk hS) hga hτ htk hS1) (fun r K1 hr => ?_)
  rcases hr with ⟨hq7, rfl, rfl⟩ | ⟨hq7, rfl, rfl⟩
  · refine zs_K (K' := [(x, .inr (8, fTx b n L ((sJo bt n L 20 8 (sJo bt n L 21 7 (sOne bt n L 8)) τ tk (0, 0, S.2.2)).2.1) 0 pl (nI (sJo bt n L 20 8 (sJo bt n L 21 7 (sOne bt n L 8)) τ tk (0, 0, S.2.2)).2.2.1))), (b, .inl (0, 740, .inl (nF bt))), (s, .inr (6, fSen as ((sJo bt n L 20 8 (sJo bt n L 21 7 (sOne bt n L 8)) τ tk (0, 0, S.2.2)).2.2.2.1) ((sJo bt n L 20 8 (sJo bt n L 21 7 (sOne bt n L 8)) τ tk (0, 0, S.2.2)).2.2.2.2.1))), (as 1, .inl (0, 40, .inl (nF ((sJo bt n L 20 8 (sJo bt n L 21 7 (sOne bt n L 8)) τ tk (0, 0, S.2.2)).2.2.2.2.2.1)))), (as 2, .inl (0, 40, .inl (nF ((sJo bt n L 20 8 (sJo bt n L 21 7 (sOne bt n L 8)) τ tk (0, 0, S.2.2)).2.2.2.2.2.2.1)))), (as 3, .inl (0, 40, .inl (nF ((sJo bt n L 20 8 (sJo bt n L 21 7 (sOne bt n L 8)) τ tk (0, 0, S.2.2)).2.2.2.2.2.2.2))))]) [0, 1, 2, 3, 4, 5] rfl (by decide) ?_
    refine zs_if_eq (tgt := 24) dX7_read_10 (by decide) (fun c_1 => (by first | exact absurd c_1 (by decide) | exact absurd (by decide) c_1 : False).elim) (fun c_1 => ?_)
    refine zs_aload_n dX7_read_13 rfl rfl ?_
    refine zs_callV (M := mX9_takeEnd) (As := []) (st := []) (Kc := [(x, .inr (8, fTx b n L ((sJo bt n L 20 8 (sJo bt n L 21 7 (sOne bt n L 8)) τ tk (0, 0, S.2.2)).2.1) 0 pl (nI (sJo bt n L 20 8 (sJo bt n L 21 7 (sOne bt n L 8)) τ tk (0, 0, S.2.2)).2.2.1)))]) (Kr := [(b, .inl (0, 740, .inl (nF bt))), (s, .inr (6, fSen as ((sJo bt n L 20 8 (sJo bt n L 21 7 (sOne bt n L 8)) τ tk (0, 0, S.2.2)).2.2.2.1) ((sJo bt n L 20 8 (sJo bt n L 21 7 (sOne bt n L 8)) τ tk (0, 0, S.2.2)).2.2.2.2.1))), (as 1, .inl (0, 40, .inl (nF ((sJo bt n L 20 8 (sJo bt n L 21 7 (sOne bt n L 8)) τ tk (0, 0, S.2.2)).2.2.2.2.2.1)))), (as 2, .inl (0, 40, .inl (nF ((sJo bt n L 20 8 (sJo bt n L 21 7 (sOne bt n L 8)) τ tk (0, 0, S.2.2)).2.2.2.2.2.2.1)))), (as 3, .inl (0, 40, .inl (nF ((sJo bt n L 20 8 (sJo bt n L 21 7 (sOne bt n L 8)) τ tk (0, 0, S.2.2)).2.2.2.2.2.2.2))))]) [0] [1, 2, 3, 4, 5] 0 dX7_read_14 zl_RX7_45 kX9_takeEnd rfl rfl rfl rfl rfl (by decide) rfl rfl (show dd - 1 + 1 ≤ dd by omega) (Nat.zero_le _) (Nat.zero_le _) (Nat.le_of_ble_eq_true rfl) (s_takeEnd l (dd - 1) x b n L (sJo bt n L 20 8 (sJo bt n L 21 7 (sOne bt n L 8)) τ tk (0, 0, S.2.2)).2.1 pl (nI (sJo bt n L 20 8 (sJo bt n L 21 7 (sOne bt n L 8)) τ tk (0, 0, S.2.2)).2.2.1) (by omega) hI.1) (fun r K1 hr => ?_)
    rcases hr with ⟨hq14, rfl, rfl⟩ | ⟨hq14, rfl, rfl⟩
    · refine zs_K (K' := [(x, .inr (8, fTx b n L ((sJo bt n L 20 8 (sJo bt n L 21 7 (sOne bt n L 8)) τ tk (0, 0, S.2.2)).2.1) 0 pl (nI (sJo bt n L 20 8 (sJo bt n L 21 7 (sOne bt n L 8)) τ tk (0, 0, S.2.2)).2.2.1))), (b, .inl (0, 740, .inl (nF bt))), (s, .inr (6, fSen as ((sJo bt n L 20 8 (sJo bt n L 21 7 (sOne bt n L 8)) τ tk (0, 0, S.2.2)).2.2.2.1) ((sJo bt n L 20 8 (sJo bt n L 21 7 (sOne bt n L 8)) τ tk (0, 0, S.2.2)).2.2.2.2.1))), (as 1, .inl (0, 40, .inl (nF ((sJo bt n L 20 8 (sJo bt n L 21 7 (sOne bt n L 8)) τ tk (0, 0, S.2.2)).2.2.2.2.2.1)))), (as 2, .inl (0, 40, .inl (nF ((sJo bt n L 20 8 (sJo bt n L 21 7 (sOne bt n L 8)) τ tk (0, 0, S.2.2)).2.2.2.2.2.2.1)))), (as 3, .inl (0, 40, .inl (nF ((sJo bt n L 20 8 (sJo bt n L 21 7 (sOne bt n L 8)) τ tk (0, 0, S.2.2)).2.2.2.2.2.2.2))))]) [5, 0, 1, 2, 3, 4] rfl (by decide) ?_
      refine zs_if_eq (tgt := 24) dX7_read_17 (by decide) (fun c_2 => (by first | exact absurd c_2 (by decide) | exact absurd (by decide) c_2 : False).elim) (fun c_2 => ?_)
      refine zs_iconst (v := nI 1) dX7_read_20 (by decide) ?_
      refine zs_goto (tgt := 25) dX7_read_21 (by decide) ?_
      have e : sRd bt n L τ tk S = (0, (sJo bt n L 20 8 (sJo bt n L 21 7 (sOne bt n L 8)) τ tk (0, 0, S.2.2)).2) := by rw [sRd, if_pos hq7, if_pos hq14]
      exact zs_zret dX7_read_25 rfl (Or.inr rfl) (Or.inl ⟨by rw [e], rfl, by rw [e]; rfl⟩)
    · refine zs_K (K' := [(x, .inr (8, fTx b n L ((sJo bt n L 20 8 (sJo bt n L 21 7 (sOne bt n L 8)) τ tk (0, 0, S.2.2)).2.1) 1 ((sJo bt n L 20 8 (sJo bt n L 21 7 (sOne bt n L 8)) τ tk (0, 0, S.2.2)).2.1.2.1) (nI (sJo bt n L 20 8 (sJo bt n L 21 7 (sOne bt n L 8)) τ tk (0, 0, S.2.2)).2.2.1))), (b, .inl (0, 740, .inl (nF bt))), (s, .inr (6, fSen as ((sJo bt n L 20 8 (sJo bt n L 21 7 (sOne bt n L 8)) τ tk (0, 0, S.2.2)).2.2.2.1) ((sJo bt n L 20 8 (sJo bt n L 21 7 (sOne bt n L 8)) τ tk (0, 0, S.2.2)).2.2.2.2.1))), (as 1, .inl (0, 40, .inl (nF ((sJo bt n L 20 8 (sJo bt n L 21 7 (sOne bt n L 8)) τ tk (0, 0, S.2.2)).2.2.2.2.2.1)))), (as 2, .inl (0, 40, .inl (nF ((sJo bt n L 20 8 (sJo bt n L 21 7 (sOne bt n L 8)) τ tk (0, 0, S.2.2)).2.2.2.2.2.2.1)))), (as 3, .inl (0, 40, .inl (nF ((sJo bt n L 20 8 (sJo bt n L 21 7 (sOne bt n L 8)) τ tk (0, 0, S.2.2)).2.2.2.2.2.2.2))))]) [5, 0, 1, 2, 3, 4] rfl (by decide) ?_
      refine zs_if_eq (tgt := 24) dX7_read_17 (by decide) (fun c_3 => ?_) (fun c_3 => (by first | exact absurd c_3 (by decide) | exact absurd (by decide) c_3 : False).elim)
      refine zs_iconst (v := nI 0) dX7_read_24 (by decide) ?_
      have e : sRd bt n L τ tk S = (1, (sJo bt n L 20 8 (sJo bt n L 21 7 (sOne bt n L 8)) τ tk (0, 0, S.2.2)).2) := by rw [sRd, if_pos hq7, if_neg (fun h => by rw [hq14] at h; exact absurd h (by decide))]
      exact zs_zret dX7_read_25 rfl (Or.inl rfl) (Or.inr ⟨by rw [e]; exact (show ¬ 1 = 0 by decide), rfl, by rw [e]; rfl⟩)
  · refine zs_K (K' := [(x, .inr (8, fTx b n L ((sJo bt n L 20 8 (sJo bt n L 21 7 (sOne bt n L 8)) τ tk (0, 0, S.2.2)).2.1) ((sJo bt n L 20 8 (sJo bt n L 21 7 (sOne bt n L 8)) τ tk (0, 0, S.2.2)).1) ((sJo bt n L 20 8 (sJo bt n L 21 7 (sOne bt n L 8)) τ tk (0, 0, S.2.2)).2.1.2.1) (nI (sJo bt n L 20 8 (sJo bt n L 21 7 (sOne bt n L 8)) τ tk (0, 0, S.2.2)).2.2.1))), (b, .inl (0, 740, .inl (nF bt))), (s, .inr (6, fSen as ((sJo bt n L 20 8 (sJo bt n L 21 7 (sOne bt n L 8)) τ tk (0, 0, S.2.2)).2.2.2.1) ((sJo bt n L 20 8 (sJo bt n L 21 7 (sOne bt n L 8)) τ tk (0, 0, S.2.2)).2.2.2.2.1))), (as 1, .inl (0, 40, .inl (nF ((sJo bt n L 20 8 (sJo bt n L 21 7 (sOne bt n L 8)) τ tk (0, 0, S.2.2)).2.2.2.2.2.1)))), (as 2, .inl (0, 40, .inl (nF ((sJo bt n L 20 8 (sJo bt n L 21 7 (sOne bt n L 8)) τ tk (0, 0, S.2.2)).2.2.2.2.2.2.1)))), (as 3, .inl (0, 40, .inl (nF ((sJo bt n L 20 8 (sJo bt n L 21 7 (sOne bt n L 8)) τ tk (0, 0, S.2.2)).2.2.2.2.2.2.2))))]) [0, 1, 2, 3, 4, 5] rfl (by decide) ?_
    refine zs_if_eq (tgt := 24) dX7_read_10 (by decide) (fun c_4 => ?_) (fun c_4 => (by first | exact absurd c_4 (by decide) | exact absurd (by decide) c_4 : False).elim)
    refine zs_iconst (v := nI 0) dX7_read_24 (by decide) ?_
    have e : sRd bt n L τ tk S = (sJo bt n L 20 8 (sJo bt n L 21 7 (sOne bt n L 8)) τ tk (0, 0, S.2.2)) := by rw [sRd, if_neg hq7]
    exact zs_zret dX7_read_25 rfl (Or.inl rfl) (Or.inr ⟨by rw [e]; exact hq7, rfl, by rw [e]; rfl⟩)
theorem sRd_I {b : Nat → Nat} {n L : Nat} {τ : zTk} {tk : Nat} {S : zSe} (hb : ∀ j, b j < 256) (hn : n ≤ 740) (hτ : tOK τ) (htk : tk ≤ 99999999) : (sRd b n L τ tk S).2.2.1 ≤ 99999999 ∧ ((sRd b n L τ tk S).1 = 0 → sB (sRd b n L τ tk S).2.2.2) := by
  have hI := sJo_G hb hn (L := L) (w := 20) (j := 8) (sJo_G hb hn (L := L) (w := 21) (j := 7) (sOne_G (L := L) hb hn 8)) τ tk (0, 0, S.2.2) hτ htk ⟨Nat.zero_le _, Nat.le_refl _⟩
  unfold sRd
  generalize sJo b n L 20 8 (sJo b n L 21 7 (sOne b n L 8)) τ tk (0, 0, S.2.2) = R at hI ⊢
  obtain ⟨g1, g2, g3, g4, g5⟩ := hI
  split
  · rename_i h0
    have g5 : R.2.2.2.2.1 + 2 * 0 + 1 ≤ 0 + 2 * R.2.2.2.1 := g5 h0
    split
    · exact ⟨g2, fun _ => ⟨g4, by show R.2.2.2.2.1 ≤ 2 * R.2.2.2.1; omega⟩⟩
    · exact ⟨g2, fun h => absurd (show (1 : Nat) = 0 from h) (by decide)⟩
  · rename_i h0
    exact ⟨g2, fun h => absurd h h0⟩
