/-! ===== the reference: the men of a thing ===== -/
theorem nI_m1 {i : Nat} (h : i < 2147483648) : ¬ nI i = -1 := fun q => by
  have := congrArg Int32.toInt q
  rw [nI_t h] at this
  have h5 : (-1 : Int32).toInt = -1 := by decide
  omega
/-- the i-th thing, as the reference keeps it -/
def pE (P : zPl) (f : Nat → Int32) (i : Nat) : Prop := f (16 * i) = nI (P.2.1 i) ∧ f (16 * i + 1) = nI (P.2.2.1 i) ∧ (P.2.2.1 i ≠ 2 → f (16 * i + 2) = nI (P.2.2.2.1 i)) ∧ (P.2.2.1 i ≤ 1 → ∀ j, j < P.2.2.2.1 i → f (16 * i + 3 + j) = nI (P.2.2.2.2 (i * 12 + j)))
/-- the things told, and of the one at hand its minute, its kind and k men -/
def pRk (P : zPl) (f : Nat → Int32) (k : Nat) : Prop := (∀ i, i < P.1 → pE P f i) ∧ f (16 * P.1) = nI (P.2.1 P.1) ∧ f (16 * P.1 + 1) = nI (P.2.2.1 P.1) ∧ ∀ j, j < k → f (16 * P.1 + 3 + j) = nI (P.2.2.2.2 (P.1 * 12 + j))
theorem pE_o {P Q : zPl} {f f' : Nat → Int32} {i : Nat} (h : pE P f i) (h1 : P.2.1 i = Q.2.1 i) (h2 : P.2.2.1 i = Q.2.2.1 i) (h3 : P.2.2.2.1 i = Q.2.2.2.1 i) (h12 : P.2.2.1 i ≤ 1 → P.2.2.2.1 i ≤ 12) (h4 : ∀ j, j < 12 → P.2.2.2.2 (i * 12 + j) = Q.2.2.2.2 (i * 12 + j)) (hf : ∀ j, 16 * i ≤ j → j < 16 * i + 16 → f' j = f j) : pE Q f' i := by
  obtain ⟨a, b, c, d⟩ := h
  refine ⟨by rw [hf _ (by omega) (by omega), a, h1], by rw [hf _ (by omega) (by omega), b, h2], fun hk => by rw [hf _ (by omega) (by omega), c (by rw [h2]; exact hk), h3], fun hk j hj => ?_⟩
  have h5 := h12 (by rw [h2]; exact hk)
  rw [hf _ (by omega) (by omega), d (by rw [h2]; exact hk) j (by rw [h3]; exact hj), h4 j (by omega)]
theorem pRk_m {P : zPl} {f : Nat → Int32} {k v : Nat} (hP : ∀ i, i < P.1 → P.2.2.1 i ≤ 1 → P.2.2.2.1 i ≤ 12) (hk : k < 12) (h : pRk P f k) : pRk (pWm P k v) (upd f (16 * P.1 + 3 + k) (nI v)) (k + 1) := by
  obtain ⟨a, b, c, d⟩ := h
  refine ⟨fun i hi => ?_, ?_, ?_, fun j hj => ?_⟩
  · have hi : i < P.1 := hi
    exact pE_o (a i hi) rfl rfl rfl (hP i hi) (fun j hj => (un_n (by omega)).symm) (fun j h1 h2 => upd_x (by omega))
  · exact (upd_x (by show 16 * P.1 ≠ _; omega)).trans b
  · exact (upd_x (by show 16 * P.1 + 1 ≠ _; omega)).trans c
  · show upd f (16 * P.1 + 3 + k) (nI v) (16 * P.1 + 3 + j) = nI (un P.2.2.2.2 (P.1 * 12 + k) v (P.1 * 12 + j))
    by_cases hjk : j = k
    · rw [hjk, un_s]
      exact upd_s _ _ _
    · rw [un_n (by omega), upd_x (by omega)]
      exact d j (by omega)
theorem pRk_n {P : zPl} {f : Nat → Int32} {k : Nat} (hP : ∀ i, i < P.1 → P.2.2.1 i ≤ 1 → P.2.2.2.1 i ≤ 12) (h : pRk P f k) : ∀ i, i < P.1 + 1 → pE (pWn P k) (upd f (16 * P.1 + 2) (nI k)) i := fun i hi => by
  obtain ⟨a, b, c, d⟩ := h
  by_cases h1 : i = P.1
  · subst h1
    refine ⟨(upd_x (by omega)).trans b, (upd_x (by omega)).trans c, fun _ => ?_, fun _ j hj => ?_⟩
    · show upd f (16 * P.1 + 2) (nI k) (16 * P.1 + 2) = nI (un P.2.2.2.1 P.1 k P.1)
      rw [un_s]
      exact upd_s _ _ _
    · have hj : j < un P.2.2.2.1 P.1 k P.1 := hj
      rw [un_s] at hj
      exact (upd_x (by omega)).trans (d j hj)
  · exact pE_o (a i (by omega)) rfl rfl (un_n h1).symm (hP i (by omega)) (fun j hj => rfl) (fun j h1 h2 => upd_x (by omega))
theorem pSt_u {pm : Nat → Nat} {f k v j : Nat} : pSt (un pm (f + k) v) f (k + 1) j = (pSt pm f k j || decide (v = j)) := by
  unfold pSt
  rw [← Bool.decide_or]
  refine decide_eq_decide.mpr ⟨fun ⟨x, hx, e⟩ => ?_, fun h => ?_⟩
  · by_cases hxk : x = k
    · rw [hxk, un_s] at e
      exact Or.inr e
    · rw [un_n (by omega)] at e
      exact Or.inl ⟨x, by omega, e⟩
  · rcases h with ⟨x, hx, e⟩ | h
    · exact ⟨x, by omega, by rw [un_n (by omega)]; exact e⟩
    · exact ⟨k, by omega, by rw [un_s]; exact h⟩
theorem dX13_readMen_0 : decode cX13_readMen 0 = .ok (.iconst 0, 1) := by decide +kernel
theorem dX13_readMen_1 : decode cX13_readMen 1 = .ok (.istore_n 3, 1) := by decide +kernel
theorem dX13_readMen_2 : decode cX13_readMen 2 = .ok (.iconst 0, 1) := by decide +kernel
theorem dX13_readMen_3 : decode cX13_readMen 3 = .ok (.istore 4, 2) := by decide +kernel
theorem dX13_readMen_5 : decode cX13_readMen 5 = .ok (.iload 4, 2) := by decide +kernel
theorem dX13_readMen_7 : decode cX13_readMen 7 = .ok (.iload_n 2, 1) := by decide +kernel
theorem dX13_readMen_8 : decode cX13_readMen 8 = .ok (.if_icmp .lt 11, 3) := by decide +kernel
theorem dX13_readMen_11 : decode cX13_readMen 11 = .ok (.aload_n 0, 1) := by decide +kernel
theorem dX13_readMen_12 : decode cX13_readMen 12 = .ok (.getfield 170, 3) := by decide +kernel
theorem dX13_readMen_15 : decode cX13_readMen 15 = .ok (.iconst 2, 1) := by decide +kernel
theorem dX13_readMen_16 : decode cX13_readMen 16 = .ok (.if_icmp .ne 73, 3) := by decide +kernel
theorem dX13_readMen_19 : decode cX13_readMen 19 = .ok (.aload_n 0, 1) := by decide +kernel
theorem dX13_readMen_20 : decode cX13_readMen 20 = .ok (.invokevirtual 247, 3) := by decide +kernel
theorem dX13_readMen_23 : decode cX13_readMen 23 = .ok (.ifCond .ne 9, 3) := by decide +kernel
theorem dX13_readMen_26 : decode cX13_readMen 26 = .ok (.aload_n 0, 1) := by decide +kernel
theorem dX13_readMen_27 : decode cX13_readMen 27 = .ok (.iconst 1, 1) := by decide +kernel
theorem dX13_readMen_28 : decode cX13_readMen 28 = .ok (.invokevirtual 216, 3) := by decide +kernel
theorem dX13_readMen_31 : decode cX13_readMen 31 = .ok (.ireturn, 1) := by decide +kernel
theorem dX13_readMen_32 : decode cX13_readMen 32 = .ok (.aload_n 0, 1) := by decide +kernel
theorem dX13_readMen_33 : decode cX13_readMen 33 = .ok (.invokevirtual 488, 3) := by decide +kernel
theorem dX13_readMen_36 : decode cX13_readMen 36 = .ok (.istore 5, 2) := by decide +kernel
theorem dX13_readMen_38 : decode cX13_readMen 38 = .ok (.iload 5, 2) := by decide +kernel
theorem dX13_readMen_40 : decode cX13_readMen 40 = .ok (.iconst (-1), 1) := by decide +kernel
theorem dX13_readMen_41 : decode cX13_readMen 41 = .ok (.if_icmp .eq 12, 3) := by decide +kernel
theorem dX13_readMen_44 : decode cX13_readMen 44 = .ok (.iload_n 3, 1) := by decide +kernel
theorem dX13_readMen_45 : decode cX13_readMen 45 = .ok (.iload 5, 2) := by decide +kernel
theorem dX13_readMen_47 : decode cX13_readMen 47 = .ok (.invokestatic 258, 3) := by decide +kernel
theorem dX13_readMen_50 : decode cX13_readMen 50 = .ok (.ifCond .eq 9, 3) := by decide +kernel
theorem dX13_readMen_53 : decode cX13_readMen 53 = .ok (.aload_n 0, 1) := by decide +kernel
theorem dX13_readMen_54 : decode cX13_readMen 54 = .ok (.iconst 3, 1) := by decide +kernel
theorem dX13_readMen_55 : decode cX13_readMen 55 = .ok (.invokevirtual 216, 3) := by decide +kernel
theorem dX13_readMen_58 : decode cX13_readMen 58 = .ok (.ireturn, 1) := by decide +kernel
theorem dX13_readMen_59 : decode cX13_readMen 59 = .ok (.iload_n 3, 1) := by decide +kernel
theorem dX13_readMen_60 : decode cX13_readMen 60 = .ok (.iconst 1, 1) := by decide +kernel
theorem dX13_readMen_61 : decode cX13_readMen 61 = .ok (.iload 5, 2) := by decide +kernel
theorem dX13_readMen_63 : decode cX13_readMen 63 = .ok (.ishl, 1) := by decide +kernel
theorem dX13_readMen_64 : decode cX13_readMen 64 = .ok (.ior, 1) := by decide +kernel
theorem dX13_readMen_65 : decode cX13_readMen 65 = .ok (.istore_n 3, 1) := by decide +kernel
theorem dX13_readMen_66 : decode cX13_readMen 66 = .ok (.aload_n 0, 1) := by decide +kernel
theorem dX13_readMen_67 : decode cX13_readMen 67 = .ok (.getfield 19, 3) := by decide +kernel
theorem dX13_readMen_70 : decode cX13_readMen 70 = .ok (.iload_n 1, 1) := by decide +kernel
theorem dX13_readMen_71 : decode cX13_readMen 71 = .ok (.iconst 3, 1) := by decide +kernel
theorem dX13_readMen_72 : decode cX13_readMen 72 = .ok (.iadd, 1) := by decide +kernel
theorem dX13_readMen_73 : decode cX13_readMen 73 = .ok (.iload 4, 2) := by decide +kernel
theorem dX13_readMen_75 : decode cX13_readMen 75 = .ok (.iadd, 1) := by decide +kernel
theorem dX13_readMen_76 : decode cX13_readMen 76 = .ok (.iload 5, 2) := by decide +kernel
theorem dX13_readMen_78 : decode cX13_readMen 78 = .ok (.iastore, 1) := by decide +kernel
theorem dX13_readMen_79 : decode cX13_readMen 79 = .ok (.iinc 4 1, 3) := by decide +kernel
theorem dX13_readMen_82 : decode cX13_readMen 82 = .ok (.aload_n 0, 1) := by decide +kernel
theorem dX13_readMen_83 : decode cX13_readMen 83 = .ok (.invokevirtual 226, 3) := by decide +kernel
theorem dX13_readMen_86 : decode cX13_readMen 86 = .ok (.goto (-81), 3) := by decide +kernel
theorem dX13_readMen_89 : decode cX13_readMen 89 = .ok (.aload_n 0, 1) := by decide +kernel
theorem dX13_readMen_90 : decode cX13_readMen 90 = .ok (.getfield 19, 3) := by decide +kernel
theorem dX13_readMen_93 : decode cX13_readMen 93 = .ok (.iload_n 1, 1) := by decide +kernel
theorem dX13_readMen_94 : decode cX13_readMen 94 = .ok (.iconst 2, 1) := by decide +kernel
theorem dX13_readMen_95 : decode cX13_readMen 95 = .ok (.iadd, 1) := by decide +kernel
theorem dX13_readMen_96 : decode cX13_readMen 96 = .ok (.iload 4, 2) := by decide +kernel
theorem dX13_readMen_98 : decode cX13_readMen 98 = .ok (.iastore, 1) := by decide +kernel
theorem dX13_readMen_99 : decode cX13_readMen 99 = .ok (.iconst 1, 1) := by decide +kernel
theorem dX13_readMen_100 : decode cX13_readMen 100 = .ok (.ireturn, 1) := by decide +kernel
set_option maxRecDepth 100000 in
theorem lp_mmen {l : Launch} {dd : Nat} {Po : zPo} {K0 : zK} {h0 : List va_E} {Xo : zK → Prop} {Gc : zG → Prop} (mo : Nat) (e : Nat → Nat) (n L : Nat) (bt : Nat → Nat) (tk : Nat) (D : zYd) (nw : Nat → Int32) (nm : Nat → Int64) (lst : Nat) (g0 : Nat → Int32) (hd : 4 ≤ dd) (hn : n ≤ 740) (hL : L ≤ 740) (hbt : ∀ j, bt j < 256) (h3 : g0 3 = nI n) (h4 : g0 4 = nI L) (hD : yI D) (hy : mYd D nw nm) (hl : lst ≤ 2) (G : zPp) (hP : ∀ r K', ((G.1 = 0 ∧ r = some (.int 1) ∧ ∃ g w pf, mFr [5, 6, 7, 8, 9, 13, 23] g0 g ∧ mTk n L G.2.1 g w ∧ tW n L G.2.1 ∧ tOK G.2.1 ∧ (∀ i, i < G.2.2.2.1 + 1 → pE G.2.2.2 pf i) ∧ K' = [(mo, .inr (11, fMo e g w)), ((e 1), .inl (0, 740, .inl (nF bt))), ((e 14), .inl (0, 800, .inl nw)), ((e 18), .inl (2, 12, .inr (.inl nm))), ((e 16), .inl (0, 320, .inl pf))]) ∨ (¬ G.1 = 0 ∧ r = some (.int 0) ∧ ∃ g w pf, mFr [5, 6, 7, 8, 9, 10, 11, 13, 23] g0 g ∧ g 10 = nI G.1 ∧ g 11 = nI G.2.1.2.1 ∧ K' = [(mo, .inr (11, fMo e g w)), ((e 1), .inl (0, 740, .inl (nF bt))), ((e 14), .inl (0, 800, .inl nw)), ((e 18), .inl (2, 12, .inr (.inl nm))), ((e 16), .inl (0, 320, .inl pf))])) → Po r K') : ∀ (q k : Nat) (t : zTk) (P : zPl) (g : Nat → Int32) (w : Int64) (m : Nat) (pf : Nat → Int32), k + q = 13 → mFr [5, 6, 7, 8, 9, 13, 23] g0 g → mTk n L t g w → tW n L t → tOK t → m < 4096 → (∀ j, j < 12 → m.testBit j = pSt P.2.2.2.2 (P.1 * 12) k j) → bZ m 12 + k = 12 → P.1 < 20 → (∀ i, i < P.1 → P.2.2.1 i ≤ 1 → P.2.2.2.1 i ≤ 12) → pRk P pf k → mMs bt n L D lst q k t tk P = G → zS (l, mX13_readMen, dd, Po, K0, h0, Xo, Gc) 0 0 5 [(0, .ref mo), (1, .int (nI (16 * P.1))), (2, .int (nI lst)), (3, .int (nI m)), (4, .int (nI k))] [] [(mo, .inr (11, fMo e g w)), ((e 1), .inl (0, 740, .inl (nF bt))), ((e 14), .inl (0, 800, .inl nw)), ((e 18), .inl (2, 12, .inr (.inl nm))), ((e 16), .inl (0, 320, .inl pf))] := by
  have h12 := hD.1
  intro q
  induction q with
  | zero =>
    intro k t P g w m pf hi hfr hT hW hO hm hbits hbz h20 hP12 hR hMs
    omega
  | succ q ih =>
    intro k t P g w m pf hi hfr hT hW hO hm hbits hbz h20 hP12 hR hMs
    refine zs_iload dX13_readMen_5 rfl ?_
    refine zs_iload_n dX13_readMen_7 rfl ?_
    refine zs_icmp_lt (tgt := 19) dX13_readMen_8 (by decide) (fun c_1 => ?_) (fun c_1 => ?_)
    · have c_1 : k < lst := by have hc := c_1; rw [nI_lt' (by omega) (by omega)] at hc; exact hc
      rw [mMs, if_neg (show ¬ (lst ≤ k ∧ ¬ t.1 = 2) from fun h => by have := h.1; omega)] at hMs
      refine zs_aload_n dX13_readMen_19 rfl rfl ?_
      refine zs_callV (M := mX13_isName) (As := []) (st := []) (Kc := [(mo, .inr (11, fMo e g w))]) (Kr := [((e 1), .inl (0, 740, .inl (nF bt))), ((e 14), .inl (0, 800, .inl nw)), ((e 18), .inl (2, 12, .inr (.inl nm))), ((e 16), .inl (0, 320, .inl pf))]) [0] [1, 2, 3, 4] 0 dX13_readMen_20 zl_RX13_247 kX13_isName rfl rfl rfl rfl rfl (by decide) rfl rfl (show dd - 1 + 1 ≤ dd by omega) (Nat.zero_le _) (Nat.zero_le _) (Nat.le_of_ble_eq_true rfl) (s_mIsName l (dd - 1) mo e g w n L t (by omega) hT hW hO) (fun r K1 hr => ?_)
      obtain ⟨rfl, rfl⟩ := hr
      refine zs_K (K' := [(mo, .inr (11, fMo e g w)), ((e 1), .inl (0, 740, .inl (nF bt))), ((e 14), .inl (0, 800, .inl nw)), ((e 18), .inl (2, 12, .inr (.inl nm))), ((e 16), .inl (0, 320, .inl pf))]) [4, 0, 1, 2, 3] rfl (by decide) ?_
      refine zs_if_ne (tgt := 32) dX13_readMen_23 (by decide) (fun c_2 => ?_) (fun c_2 => ?_)
      · have hname := bI_t c_2
        have hk2 := (tNm_2 hname).1
        have hv9 := hO.2.2.2.2.2.2.1 hk2
        have hw9 := hT.2.2.2.2 hk2
        rw [if_neg (show ¬ tNm t = false from fun h => by rw [hname] at h; exact absurd h (by decide))] at hMs
        refine zs_aload_n dX13_readMen_32 rfl rfl ?_
        refine zs_callV (M := mX13_manAtHand) (As := []) (st := []) (Kc := [(mo, .inr (11, fMo e g w)), ((e 14), .inl (0, 800, .inl nw)), ((e 18), .inl (2, 12, .inr (.inl nm)))]) (Kr := [((e 1), .inl (0, 740, .inl (nF bt))), ((e 16), .inl (0, 320, .inl pf))]) [0, 2, 3] [1, 4] 0 dX13_readMen_33 zl_RX13_488 kX13_manAtHand rfl rfl rfl rfl rfl (by decide) rfl rfl (show dd - 1 + 1 ≤ dd by omega) (Nat.zero_le _) (Nat.zero_le _) (Nat.le_of_ble_eq_true rfl) (s_mManAtHand l (dd - 1) mo e g w nw nm D t.2.2.2.1 (by omega) hv9 hw9 h12 hD.2.2.2.1 hy) (fun r K1 hr => ?_)
        obtain ⟨rfl, rfl⟩ := hr
        refine zs_K (K' := [(mo, .inr (11, fMo e g w)), ((e 1), .inl (0, 740, .inl (nF bt))), ((e 14), .inl (0, 800, .inl nw)), ((e 18), .inl (2, 12, .inr (.inl nm))), ((e 16), .inl (0, 320, .inl pf))]) [2, 0, 3, 4, 1] rfl (by decide) ?_
        cases hWf : mFind D.2.2.1 t.2.2.2.1 (D.1 0) 0 with
        | none =>
          rw [hWf] at hMs
          refine zs_as (y := -1) rfl ?_
          refine zs_istore (lv' := [(5, .int (-1)), (0, .ref mo), (1, .int (nI (16 * P.1))), (2, .int (nI lst)), (3, .int (nI m)), (4, .int (nI k))]) dX13_readMen_36 (Nat.le_of_ble_eq_true rfl) rfl ?_
          refine zs_iload dX13_readMen_38 rfl ?_
          refine zs_iconst (v := (-1)) dX13_readMen_40 (by decide) ?_
          refine zs_icmp_eq (tgt := 53) dX13_readMen_41 (by decide) (fun c_3 => ?_) (fun c_3 => (by first | exact absurd c_3 (by decide) | exact absurd (by decide) c_3 : False).elim)
          refine zs_aload_n dX13_readMen_53 rfl rfl ?_
          refine zs_iconst (v := nI 3) dX13_readMen_54 (by decide) ?_
          refine zs_callV (M := mX13_bad) (As := [.int (nI 3)]) (st := []) (Kc := [(mo, .inr (11, fMo e g w))]) (Kr := [((e 1), .inl (0, 740, .inl (nF bt))), ((e 14), .inl (0, 800, .inl nw)), ((e 18), .inl (2, 12, .inr (.inl nm))), ((e 16), .inl (0, 320, .inl pf))]) [0] [1, 2, 3, 4] 0 dX13_readMen_55 zl_RX13_216 kX13_bad rfl rfl rfl rfl rfl (by decide) rfl rfl (show dd - 1 + 1 ≤ dd by omega) (Nat.zero_le _) (Nat.zero_le _) (Nat.le_of_ble_eq_true rfl) (s_mBad l (dd - 1) mo e g w n L t 3 hT hW hO) (fun r K1 hr => ?_)
          rw [mBad_e (by first | (intro; rfl) | (intro h; unfold mKd at h; split at h <;> omega))] at hr
          obtain ⟨rfl, rfl⟩ := hr
          refine zs_K (K' := [(mo, .inr (11, fMo e (mFa g 3 t) w)), ((e 1), .inl (0, 740, .inl (nF bt))), ((e 14), .inl (0, 800, .inl nw)), ((e 18), .inl (2, 12, .inr (.inl nm))), ((e 16), .inl (0, 320, .inl pf))]) [4, 0, 1, 2, 3] rfl (by decide) ?_
          have er : G = (3, t, tk, P) := hMs.symm
          have e1 : G.1 = 3 ∧ G.2.1 = t := by rw [er]; exact ⟨rfl, rfl⟩
          exact zs_zret dX13_readMen_58 rfl (Or.inl rfl) (hP _ _ (Or.inr ⟨by rw [e1.1]; decide, rfl, mFa g 3 t, w, pf, mFr_t hfr (mFr_fa mFr_r (by decide) (by decide)) (by decide) (by decide), by rw [e1.1]; rfl, by rw [e1.2]; rfl, rfl⟩))
        | some i =>
          rw [hWf] at hMs
          refine zs_as (y := nI i) rfl ?_
          have hMs : (if 12 ≤ k then ((3, t, tk, P) : zPp) else if pSt P.2.2.2.2 (P.1 * 12) k i = true then (3, t, tk, P) else mMs bt n L D lst q (k + 1) (nxt bt n L t) tk (pWm P k i)) = G := hMs
          have hiD := mFind_lt _ _ _ hWf
          have hi12 : i < 12 := by omega
          refine zs_istore (lv' := [(5, .int (nI i)), (0, .ref mo), (1, .int (nI (16 * P.1))), (2, .int (nI lst)), (3, .int (nI m)), (4, .int (nI k))]) dX13_readMen_36 (Nat.le_of_ble_eq_true rfl) rfl ?_
          refine zs_iload dX13_readMen_38 rfl ?_
          refine zs_iconst (v := (-1)) dX13_readMen_40 (by decide) ?_
          refine zs_icmp_eq (tgt := 53) dX13_readMen_41 (by decide) (fun c_4 => (nI_m1 (by omega) c_4 : False).elim) (fun c_4 => ?_)
          refine zs_iload_n dX13_readMen_44 rfl ?_
          refine zs_iload dX13_readMen_45 rfl ?_
          refine zs_callS (M := mX13_has) (As := [.int (nI m), .int (nI i)]) (st := []) (Kc := []) (Kr := [(mo, .inr (11, fMo e g w)), ((e 1), .inl (0, 740, .inl (nF bt))), ((e 14), .inl (0, 800, .inl nw)), ((e 18), .inl (2, 12, .inr (.inl nm))), ((e 16), .inl (0, 320, .inl pf))]) [] [0, 1, 2, 3, 4] dX13_readMen_47 zl_RX13_258 kX13_has rfl rfl rfl rfl rfl (by decide) (show dd - 1 + 1 ≤ dd by omega) (Nat.zero_le _) (Nat.zero_le _) (Nat.le_of_ble_eq_true rfl) (s_mHas l (dd - 1) (nI m) (nI i)) (fun r K1 hr => ?_)
          obtain ⟨rfl, rfl⟩ := hr
          refine zs_K (K' := [(mo, .inr (11, fMo e g w)), ((e 1), .inl (0, 740, .inl (nF bt))), ((e 14), .inl (0, 800, .inl nw)), ((e 18), .inl (2, 12, .inr (.inl nm))), ((e 16), .inl (0, 320, .inl pf))]) [0, 1, 2, 3, 4] rfl (by decide) ?_
          refine zs_as (y := bI (m.testBit i)) (bt_h hm hi12) ?_
          refine zs_if_eq (tgt := 59) dX13_readMen_50 (by decide) (fun c_5 => ?_) (fun c_5 => ?_)
          · have hnb := bI_f c_5
            have hk12 : k < 12 := Decidable.byContradiction (fun h => by have := bZ_0 12 (show bZ m 12 = 0 by omega) i hi12; rw [hnb] at this; exact absurd this (by decide))
            refine zs_iload_n dX13_readMen_59 rfl ?_
            refine zs_iconst (v := nI 1) dX13_readMen_60 (by decide) ?_
            refine zs_iload dX13_readMen_61 rfl ?_
            refine zs_ishl dX13_readMen_63 ?_
            refine zs_ior dX13_readMen_64 ?_
            refine zs_as (y := nI (m ||| 2 ^ i)) (bt_s hm hi12) ?_
            refine zs_istore_n (lv' := [(3, .int (nI (m ||| 2 ^ i))), (5, .int (nI i)), (0, .ref mo), (1, .int (nI (16 * P.1))), (2, .int (nI lst)), (4, .int (nI k))]) dX13_readMen_65 (Nat.le_of_ble_eq_true rfl) rfl ?_
            refine zs_aload_n dX13_readMen_66 rfl rfl ?_
            refine zs_get 0 dX13_readMen_67 zf_RX13_19 rfl (v := .ref (e 16)) rfl ?_
            refine zs_iload_n dX13_readMen_70 rfl ?_
            refine zs_iconst (v := nI 3) dX13_readMen_71 (by decide) ?_
            refine zs_iadd dX13_readMen_72 ?_
            refine zs_as (y := nI ((16 * P.1) + 3)) (nI_add _ _) ?_
            refine zs_iload dX13_readMen_73 rfl ?_
            refine zs_iadd dX13_readMen_75 ?_
            refine zs_as (y := nI (((16 * P.1) + 3) + k)) (nI_add _ _) ?_
            refine zs_iload dX13_readMen_76 rfl ?_
            refine zs_iast 4 dX13_readMen_78 rfl (vp_in_nI (by omega) (by omega)) ?_
            rw [nI_c (n := ((16 * P.1) + 3) + k) (by omega)]
            show zS _ _ _ _ _ _ [(mo, .inr (11, fMo e g w)), ((e 1), .inl (0, 740, .inl (nF bt))), ((e 14), .inl (0, 800, .inl nw)), ((e 18), .inl (2, 12, .inr (.inl nm))), ((e 16), .inl (0, 320, .inl (upd pf (((16 * P.1) + 3) + k) (nI i))))]
            refine zs_iinc (v := (nI (k + 1))) (lv' := [(4, .int (nI (k + 1))), (3, .int (nI (m ||| 2 ^ i))), (5, .int (nI i)), (0, .ref mo), (1, .int (nI (16 * P.1))), (2, .int (nI lst))]) dX13_readMen_79 rfl (nI_add _ 1) (Nat.le_of_ble_eq_true rfl) rfl ?_
            refine zs_aload_n dX13_readMen_82 rfl rfl ?_
            refine zs_callV (M := mX13_go) (As := []) (st := []) (Kc := [(mo, .inr (11, fMo e g w)), ((e 1), .inl (0, 740, .inl (nF bt)))]) (Kr := [((e 14), .inl (0, 800, .inl nw)), ((e 18), .inl (2, 12, .inr (.inl nm))), ((e 16), .inl (0, 320, .inl (upd pf (((16 * P.1) + 3) + k) (nI i))))]) [0, 1] [2, 3, 4] 0 dX13_readMen_83 zl_RX13_226 kX13_go rfl rfl rfl rfl rfl (by decide) rfl rfl (show dd - 1 + 1 ≤ dd by omega) (Nat.zero_le _) (Nat.zero_le _) (Nat.le_of_ble_eq_true rfl) (s_mGoT l (dd - 1) mo e g w n L bt t (by omega) hn hL hbt ((hfr 3 (by decide)).trans h3) ((hfr 4 (by decide)).trans h4) hT hW (show ¬ t.1 = 0 by omega)) (fun r K1 hr => ?_)
            obtain ⟨rfl, g1, w1, hfr1, hT1, rfl⟩ := hr
            refine zs_K (K' := [(mo, .inr (11, fMo e g1 w1)), ((e 1), .inl (0, 740, .inl (nF bt))), ((e 14), .inl (0, 800, .inl nw)), ((e 18), .inl (2, 12, .inr (.inl nm))), ((e 16), .inl (0, 320, .inl (upd pf (((16 * P.1) + 3) + k) (nI i))))]) [3, 4, 0, 1, 2] rfl (by decide) ?_
            have fr1 : mFr [5, 6, 7, 8, 9, 13, 23] g g1 := mFr_t (mFr_r : mFr [5, 6, 7, 8, 9, 13, 23] g g) hfr1 (by decide) (by decide)
            have h3_1 : g1 3 = nI n := (hfr1 3 (by decide)).trans ((hfr 3 (by decide)).trans h3)
            have h4_1 : g1 4 = nI L := (hfr1 4 (by decide)).trans ((hfr 4 (by decide)).trans h4)
            have h23_1 : g1 23 = g 23 := hfr1 23 (by decide)
            have hO_1 := nxt_OK (L := L) (τ := t) hbt hn
            have h14_1 := hO_1.1
            have hkd_1 := mKd_4 (n := n) (L := L) hO_1.1
            refine zs_goto (tgt := 5) dX13_readMen_86 (by decide) ?_
            refine zs_lv [3, 4, 5, 1, 0] rfl ?_
            rw [if_neg (show ¬ 12 ≤ k by omega), if_neg (show ¬ pSt P.2.2.2.2 (P.1 * 12) k i = true from fun h => by rw [← hbits i hi12, hnb] at h; exact absurd h (by decide))] at hMs
            exact ih (k + 1) (nxt bt n L t) (pWm P k i) g1 w1 (m ||| 2 ^ i) (upd pf (((16 * P.1) + 3) + k) (nI i)) (by omega) (mFr_t hfr fr1 (by decide) (by decide)) hT1 nxt_W (nxt_OK hbt hn) (bt_l hm hi12) (fun j hj => by rw [bt_x, hbits j hj]; exact pSt_u.symm) (by have := bZ_s hnb 12 hi12; omega) h20 hP12 (pRk_m hP12 (by omega) hR) hMs
          · have hyb := bI_t c_5
            refine zs_aload_n dX13_readMen_53 rfl rfl ?_
            refine zs_iconst (v := nI 3) dX13_readMen_54 (by decide) ?_
            refine zs_callV (M := mX13_bad) (As := [.int (nI 3)]) (st := []) (Kc := [(mo, .inr (11, fMo e g w))]) (Kr := [((e 1), .inl (0, 740, .inl (nF bt))), ((e 14), .inl (0, 800, .inl nw)), ((e 18), .inl (2, 12, .inr (.inl nm))), ((e 16), .inl (0, 320, .inl pf))]) [0] [1, 2, 3, 4] 0 dX13_readMen_55 zl_RX13_216 kX13_bad rfl rfl rfl rfl rfl (by decide) rfl rfl (show dd - 1 + 1 ≤ dd by omega) (Nat.zero_le _) (Nat.zero_le _) (Nat.le_of_ble_eq_true rfl) (s_mBad l (dd - 1) mo e g w n L t 3 hT hW hO) (fun r K1 hr => ?_)
            rw [mBad_e (by first | (intro; rfl) | (intro h; unfold mKd at h; split at h <;> omega))] at hr
            obtain ⟨rfl, rfl⟩ := hr
            refine zs_K (K' := [(mo, .inr (11, fMo e (mFa g 3 t) w)), ((e 1), .inl (0, 740, .inl (nF bt))), ((e 14), .inl (0, 800, .inl nw)), ((e 18), .inl (2, 12, .inr (.inl nm))), ((e 16), .inl (0, 320, .inl pf))]) [4, 0, 1, 2, 3] rfl (by decide) ?_
            have er : G = (3, t, tk, P) := by
              rw [← hMs]
              by_cases h12k : 12 ≤ k
              · rw [if_pos h12k]
              · rw [if_neg h12k, if_pos (by rw [← hbits i hi12, hyb])]
            have e1 : G.1 = 3 ∧ G.2.1 = t := by rw [er]; exact ⟨rfl, rfl⟩
            exact zs_zret dX13_readMen_58 rfl (Or.inl rfl) (hP _ _ (Or.inr ⟨by rw [e1.1]; decide, rfl, mFa g 3 t, w, pf, mFr_t hfr (mFr_fa mFr_r (by decide) (by decide)) (by decide) (by decide), by rw [e1.1]; rfl, by rw [e1.2]; rfl, rfl⟩))
      · rw [if_pos (bI_f c_2)] at hMs
        refine zs_aload_n dX13_readMen_26 rfl rfl ?_
        refine zs_iconst (v := nI 1) dX13_readMen_27 (by decide) ?_
        refine zs_callV (M := mX13_bad) (As := [.int (nI 1)]) (st := []) (Kc := [(mo, .inr (11, fMo e g w))]) (Kr := [((e 1), .inl (0, 740, .inl (nF bt))), ((e 14), .inl (0, 800, .inl nw)), ((e 18), .inl (2, 12, .inr (.inl nm))), ((e 16), .inl (0, 320, .inl pf))]) [0] [1, 2, 3, 4] 0 dX13_readMen_28 zl_RX13_216 kX13_bad rfl rfl rfl rfl rfl (by decide) rfl rfl (show dd - 1 + 1 ≤ dd by omega) (Nat.zero_le _) (Nat.zero_le _) (Nat.le_of_ble_eq_true rfl) (s_mBad l (dd - 1) mo e g w n L t 1 hT hW hO) (fun r K1 hr => ?_)
        rw [mBad_e (by first | (intro; rfl) | (intro h; unfold mKd at h; split at h <;> omega))] at hr
        obtain ⟨rfl, rfl⟩ := hr
        refine zs_K (K' := [(mo, .inr (11, fMo e (mFa g 1 t) w)), ((e 1), .inl (0, 740, .inl (nF bt))), ((e 14), .inl (0, 800, .inl nw)), ((e 18), .inl (2, 12, .inr (.inl nm))), ((e 16), .inl (0, 320, .inl pf))]) [4, 0, 1, 2, 3] rfl (by decide) ?_
        have er : G = (1, t, tk, P) := hMs.symm
        have e1 : G.1 = 1 ∧ G.2.1 = t := by rw [er]; exact ⟨rfl, rfl⟩
        exact zs_zret dX13_readMen_31 rfl (Or.inl rfl) (hP _ _ (Or.inr ⟨by rw [e1.1]; decide, rfl, mFa g 1 t, w, pf, mFr_t hfr (mFr_fa mFr_r (by decide) (by decide)) (by decide) (by decide), by rw [e1.1]; rfl, by rw [e1.2]; rfl, rfl⟩))
    · have c_1 : ¬ (k < lst) := by have hc := c_1; rw [nI_lt' (by omega) (by omega)] at hc; exact hc
      refine zs_aload_n dX13_readMen_11 rfl rfl ?_
      have hkd := mKd_4 (n := n) (L := L) hO.1
      refine zs_get 0 dX13_readMen_12 zf_RX13_170 rfl (v := .int (g 7)) rfl ?_
      refine zs_as (y := nI (mKd n L t)) (mTk_7 hT) ?_
      refine zs_iconst (v := nI 2) dX13_readMen_15 (by decide) ?_
      refine zs_icmp_ne (tgt := 89) dX13_readMen_16 (by decide) (fun c_6 => ?_) (fun c_6 => ?_)
      · have c_6 : ¬ ((mKd n L t) = 2) := by have hc := c_6; rw [nI_eq' (by omega) (by omega)] at hc; exact hc
        have hk2n : ¬ t.1 = 2 := fun h => c_6 ((mKd_n (by decide)).mpr h)
        rw [mMs, if_pos (show lst ≤ k ∧ ¬ t.1 = 2 from ⟨by omega, hk2n⟩)] at hMs
        refine zs_aload_n dX13_readMen_89 rfl rfl ?_
        refine zs_get 0 dX13_readMen_90 zf_RX13_19 rfl (v := .ref (e 16)) rfl ?_
        refine zs_iload_n dX13_readMen_93 rfl ?_
        refine zs_iconst (v := nI 2) dX13_readMen_94 (by decide) ?_
        refine zs_iadd dX13_readMen_95 ?_
        refine zs_as (y := nI ((16 * P.1) + 2)) (nI_add _ _) ?_
        refine zs_iload dX13_readMen_96 rfl ?_
        refine zs_iast 4 dX13_readMen_98 rfl (vp_in_nI (by omega) (by omega)) ?_
        rw [nI_c (n := (16 * P.1) + 2) (by omega)]
        show zS _ _ _ _ _ _ [(mo, .inr (11, fMo e g w)), ((e 1), .inl (0, 740, .inl (nF bt))), ((e 14), .inl (0, 800, .inl nw)), ((e 18), .inl (2, 12, .inr (.inl nm))), ((e 16), .inl (0, 320, .inl (upd pf ((16 * P.1) + 2) (nI k))))]
        refine zs_iconst (v := nI 1) dX13_readMen_99 (by decide) ?_
        have er := hMs
        subst er
        exact zs_zret dX13_readMen_100 rfl (Or.inr rfl) (hP _ _ (Or.inl ⟨rfl, rfl, g, w, (upd pf ((16 * P.1) + 2) (nI k)), hfr, hT, hW, hO, pRk_n hP12 hR, rfl⟩))
      · have c_6 : (mKd n L t) = 2 := by have hc := c_6; rw [nI_eq' (by omega) (by omega)] at hc; exact hc
        have hk2y : t.1 = 2 := (mKd_n (by decide)).mp c_6
        rw [mMs, if_neg (show ¬ (lst ≤ k ∧ ¬ t.1 = 2) from fun h => h.2 hk2y)] at hMs
        refine zs_aload_n dX13_readMen_19 rfl rfl ?_
        refine zs_callV (M := mX13_isName) (As := []) (st := []) (Kc := [(mo, .inr (11, fMo e g w))]) (Kr := [((e 1), .inl (0, 740, .inl (nF bt))), ((e 14), .inl (0, 800, .inl nw)), ((e 18), .inl (2, 12, .inr (.inl nm))), ((e 16), .inl (0, 320, .inl pf))]) [0] [1, 2, 3, 4] 0 dX13_readMen_20 zl_RX13_247 kX13_isName rfl rfl rfl rfl rfl (by decide) rfl rfl (show dd - 1 + 1 ≤ dd by omega) (Nat.zero_le _) (Nat.zero_le _) (Nat.le_of_ble_eq_true rfl) (s_mIsName l (dd - 1) mo e g w n L t (by omega) hT hW hO) (fun r K1 hr => ?_)
        obtain ⟨rfl, rfl⟩ := hr
        refine zs_K (K' := [(mo, .inr (11, fMo e g w)), ((e 1), .inl (0, 740, .inl (nF bt))), ((e 14), .inl (0, 800, .inl nw)), ((e 18), .inl (2, 12, .inr (.inl nm))), ((e 16), .inl (0, 320, .inl pf))]) [4, 0, 1, 2, 3] rfl (by decide) ?_
        refine zs_if_ne (tgt := 32) dX13_readMen_23 (by decide) (fun c_7 => ?_) (fun c_7 => ?_)
        · have hname := bI_t c_7
          have hk2 := (tNm_2 hname).1
          have hv9 := hO.2.2.2.2.2.2.1 hk2
          have hw9 := hT.2.2.2.2 hk2
          rw [if_neg (show ¬ tNm t = false from fun h => by rw [hname] at h; exact absurd h (by decide))] at hMs
          refine zs_aload_n dX13_readMen_32 rfl rfl ?_
          refine zs_callV (M := mX13_manAtHand) (As := []) (st := []) (Kc := [(mo, .inr (11, fMo e g w)), ((e 14), .inl (0, 800, .inl nw)), ((e 18), .inl (2, 12, .inr (.inl nm)))]) (Kr := [((e 1), .inl (0, 740, .inl (nF bt))), ((e 16), .inl (0, 320, .inl pf))]) [0, 2, 3] [1, 4] 0 dX13_readMen_33 zl_RX13_488 kX13_manAtHand rfl rfl rfl rfl rfl (by decide) rfl rfl (show dd - 1 + 1 ≤ dd by omega) (Nat.zero_le _) (Nat.zero_le _) (Nat.le_of_ble_eq_true rfl) (s_mManAtHand l (dd - 1) mo e g w nw nm D t.2.2.2.1 (by omega) hv9 hw9 h12 hD.2.2.2.1 hy) (fun r K1 hr => ?_)
          obtain ⟨rfl, rfl⟩ := hr
          refine zs_K (K' := [(mo, .inr (11, fMo e g w)), ((e 1), .inl (0, 740, .inl (nF bt))), ((e 14), .inl (0, 800, .inl nw)), ((e 18), .inl (2, 12, .inr (.inl nm))), ((e 16), .inl (0, 320, .inl pf))]) [2, 0, 3, 4, 1] rfl (by decide) ?_
          cases hWf : mFind D.2.2.1 t.2.2.2.1 (D.1 0) 0 with
          | none =>
            rw [hWf] at hMs
            refine zs_as (y := -1) rfl ?_
            refine zs_istore (lv' := [(5, .int (-1)), (0, .ref mo), (1, .int (nI (16 * P.1))), (2, .int (nI lst)), (3, .int (nI m)), (4, .int (nI k))]) dX13_readMen_36 (Nat.le_of_ble_eq_true rfl) rfl ?_
            refine zs_iload dX13_readMen_38 rfl ?_
            refine zs_iconst (v := (-1)) dX13_readMen_40 (by decide) ?_
            refine zs_icmp_eq (tgt := 53) dX13_readMen_41 (by decide) (fun c_8 => ?_) (fun c_8 => (by first | exact absurd c_8 (by decide) | exact absurd (by decide) c_8 : False).elim)
            refine zs_aload_n dX13_readMen_53 rfl rfl ?_
            refine zs_iconst (v := nI 3) dX13_readMen_54 (by decide) ?_
            refine zs_callV (M := mX13_bad) (As := [.int (nI 3)]) (st := []) (Kc := [(mo, .inr (11, fMo e g w))]) (Kr := [((e 1), .inl (0, 740, .inl (nF bt))), ((e 14), .inl (0, 800, .inl nw)), ((e 18), .inl (2, 12, .inr (.inl nm))), ((e 16), .inl (0, 320, .inl pf))]) [0] [1, 2, 3, 4] 0 dX13_readMen_55 zl_RX13_216 kX13_bad rfl rfl rfl rfl rfl (by decide) rfl rfl (show dd - 1 + 1 ≤ dd by omega) (Nat.zero_le _) (Nat.zero_le _) (Nat.le_of_ble_eq_true rfl) (s_mBad l (dd - 1) mo e g w n L t 3 hT hW hO) (fun r K1 hr => ?_)
            rw [mBad_e (by first | (intro; rfl) | (intro h; unfold mKd at h; split at h <;> omega))] at hr
            obtain ⟨rfl, rfl⟩ := hr
            refine zs_K (K' := [(mo, .inr (11, fMo e (mFa g 3 t) w)), ((e 1), .inl (0, 740, .inl (nF bt))), ((e 14), .inl (0, 800, .inl nw)), ((e 18), .inl (2, 12, .inr (.inl nm))), ((e 16), .inl (0, 320, .inl pf))]) [4, 0, 1, 2, 3] rfl (by decide) ?_
            have er : G = (3, t, tk, P) := hMs.symm
            have e1 : G.1 = 3 ∧ G.2.1 = t := by rw [er]; exact ⟨rfl, rfl⟩
            exact zs_zret dX13_readMen_58 rfl (Or.inl rfl) (hP _ _ (Or.inr ⟨by rw [e1.1]; decide, rfl, mFa g 3 t, w, pf, mFr_t hfr (mFr_fa mFr_r (by decide) (by decide)) (by decide) (by decide), by rw [e1.1]; rfl, by rw [e1.2]; rfl, rfl⟩))
          | some i =>
            rw [hWf] at hMs
            refine zs_as (y := nI i) rfl ?_
            have hMs : (if 12 ≤ k then ((3, t, tk, P) : zPp) else if pSt P.2.2.2.2 (P.1 * 12) k i = true then (3, t, tk, P) else mMs bt n L D lst q (k + 1) (nxt bt n L t) tk (pWm P k i)) = G := hMs
            have hiD := mFind_lt _ _ _ hWf
            have hi12 : i < 12 := by omega
            refine zs_istore (lv' := [(5, .int (nI i)), (0, .ref mo), (1, .int (nI (16 * P.1))), (2, .int (nI lst)), (3, .int (nI m)), (4, .int (nI k))]) dX13_readMen_36 (Nat.le_of_ble_eq_true rfl) rfl ?_
            refine zs_iload dX13_readMen_38 rfl ?_
            refine zs_iconst (v := (-1)) dX13_readMen_40 (by decide) ?_
            refine zs_icmp_eq (tgt := 53) dX13_readMen_41 (by decide) (fun c_9 => (nI_m1 (by omega) c_9 : False).elim) (fun c_9 => ?_)
            refine zs_iload_n dX13_readMen_44 rfl ?_
            refine zs_iload dX13_readMen_45 rfl ?_
            refine zs_callS (M := mX13_has) (As := [.int (nI m), .int (nI i)]) (st := []) (Kc := []) (Kr := [(mo, .inr (11, fMo e g w)), ((e 1), .inl (0, 740, .inl (nF bt))), ((e 14), .inl (0, 800, .inl nw)), ((e 18), .inl (2, 12, .inr (.inl nm))), ((e 16), .inl (0, 320, .inl pf))]) [] [0, 1, 2, 3, 4] dX13_readMen_47 zl_RX13_258 kX13_has rfl rfl rfl rfl rfl (by decide) (show dd - 1 + 1 ≤ dd by omega) (Nat.zero_le _) (Nat.zero_le _) (Nat.le_of_ble_eq_true rfl) (s_mHas l (dd - 1) (nI m) (nI i)) (fun r K1 hr => ?_)
            obtain ⟨rfl, rfl⟩ := hr
            refine zs_K (K' := [(mo, .inr (11, fMo e g w)), ((e 1), .inl (0, 740, .inl (nF bt))), ((e 14), .inl (0, 800, .inl nw)), ((e 18), .inl (2, 12, .inr (.inl nm))), ((e 16), .inl (0, 320, .inl pf))]) [0, 1, 2, 3, 4] rfl (by decide) ?_
            refine zs_as (y := bI (m.testBit i)) (bt_h hm hi12) ?_
            refine zs_if_eq (tgt := 59) dX13_readMen_50 (by decide) (fun c_10 => ?_) (fun c_10 => ?_)
            · have hnb := bI_f c_10
              have hk12 : k < 12 := Decidable.byContradiction (fun h => by have := bZ_0 12 (show bZ m 12 = 0 by omega) i hi12; rw [hnb] at this; exact absurd this (by decide))
              refine zs_iload_n dX13_readMen_59 rfl ?_
              refine zs_iconst (v := nI 1) dX13_readMen_60 (by decide) ?_
              refine zs_iload dX13_readMen_61 rfl ?_
              refine zs_ishl dX13_readMen_63 ?_
              refine zs_ior dX13_readMen_64 ?_
              refine zs_as (y := nI (m ||| 2 ^ i)) (bt_s hm hi12) ?_
              refine zs_istore_n (lv' := [(3, .int (nI (m ||| 2 ^ i))), (5, .int (nI i)), (0, .ref mo), (1, .int (nI (16 * P.1))), (2, .int (nI lst)), (4, .int (nI k))]) dX13_readMen_65 (Nat.le_of_ble_eq_true rfl) rfl ?_
              refine zs_aload_n dX13_readMen_66 rfl rfl ?_
              refine zs_get 0 dX13_readMen_67 zf_RX13_19 rfl (v := .ref (e 16)) rfl ?_
              refine zs_iload_n dX13_readMen_70 rfl ?_
              refine zs_iconst (v := nI 3) dX13_readMen_71 (by decide) ?_
              refine zs_iadd dX13_readMen_72 ?_
              refine zs_as (y := nI ((16 * P.1) + 3)) (nI_add _ _) ?_
              refine zs_iload dX13_readMen_73 rfl ?_
              refine zs_iadd dX13_readMen_75 ?_
              refine zs_as (y := nI (((16 * P.1) + 3) + k)) (nI_add _ _) ?_
              refine zs_iload dX13_readMen_76 rfl ?_
              refine zs_iast 4 dX13_readMen_78 rfl (vp_in_nI (by omega) (by omega)) ?_
              rw [nI_c (n := ((16 * P.1) + 3) + k) (by omega)]
              show zS _ _ _ _ _ _ [(mo, .inr (11, fMo e g w)), ((e 1), .inl (0, 740, .inl (nF bt))), ((e 14), .inl (0, 800, .inl nw)), ((e 18), .inl (2, 12, .inr (.inl nm))), ((e 16), .inl (0, 320, .inl (upd pf (((16 * P.1) + 3) + k) (nI i))))]
              refine zs_iinc (v := (nI (k + 1))) (lv' := [(4, .int (nI (k + 1))), (3, .int (nI (m ||| 2 ^ i))), (5, .int (nI i)), (0, .ref mo), (1, .int (nI (16 * P.1))), (2, .int (nI lst))]) dX13_readMen_79 rfl (nI_add _ 1) (Nat.le_of_ble_eq_true rfl) rfl ?_
              refine zs_aload_n dX13_readMen_82 rfl rfl ?_
              refine zs_callV (M := mX13_go) (As := []) (st := []) (Kc := [(mo, .inr (11, fMo e g w)), ((e 1), .inl (0, 740, .inl (nF bt)))]) (Kr := [((e 14), .inl (0, 800, .inl nw)), ((e 18), .inl (2, 12, .inr (.inl nm))), ((e 16), .inl (0, 320, .inl (upd pf (((16 * P.1) + 3) + k) (nI i))))]) [0, 1] [2, 3, 4] 0 dX13_readMen_83 zl_RX13_226 kX13_go rfl rfl rfl rfl rfl (by decide) rfl rfl (show dd - 1 + 1 ≤ dd by omega) (Nat.zero_le _) (Nat.zero_le _) (Nat.le_of_ble_eq_true rfl) (s_mGoT l (dd - 1) mo e g w n L bt t (by omega) hn hL hbt ((hfr 3 (by decide)).trans h3) ((hfr 4 (by decide)).trans h4) hT hW (show ¬ t.1 = 0 by omega)) (fun r K1 hr => ?_)
              obtain ⟨rfl, g1, w1, hfr1, hT1, rfl⟩ := hr
              refine zs_K (K' := [(mo, .inr (11, fMo e g1 w1)), ((e 1), .inl (0, 740, .inl (nF bt))), ((e 14), .inl (0, 800, .inl nw)), ((e 18), .inl (2, 12, .inr (.inl nm))), ((e 16), .inl (0, 320, .inl (upd pf (((16 * P.1) + 3) + k) (nI i))))]) [3, 4, 0, 1, 2] rfl (by decide) ?_
              have fr1 : mFr [5, 6, 7, 8, 9, 13, 23] g g1 := mFr_t (mFr_r : mFr [5, 6, 7, 8, 9, 13, 23] g g) hfr1 (by decide) (by decide)
              have h3_1 : g1 3 = nI n := (hfr1 3 (by decide)).trans ((hfr 3 (by decide)).trans h3)
              have h4_1 : g1 4 = nI L := (hfr1 4 (by decide)).trans ((hfr 4 (by decide)).trans h4)
              have h23_1 : g1 23 = g 23 := hfr1 23 (by decide)
              have hO_1 := nxt_OK (L := L) (τ := t) hbt hn
              have h14_1 := hO_1.1
              have hkd_1 := mKd_4 (n := n) (L := L) hO_1.1
              refine zs_goto (tgt := 5) dX13_readMen_86 (by decide) ?_
              refine zs_lv [3, 4, 5, 1, 0] rfl ?_
              rw [if_neg (show ¬ 12 ≤ k by omega), if_neg (show ¬ pSt P.2.2.2.2 (P.1 * 12) k i = true from fun h => by rw [← hbits i hi12, hnb] at h; exact absurd h (by decide))] at hMs
              exact ih (k + 1) (nxt bt n L t) (pWm P k i) g1 w1 (m ||| 2 ^ i) (upd pf (((16 * P.1) + 3) + k) (nI i)) (by omega) (mFr_t hfr fr1 (by decide) (by decide)) hT1 nxt_W (nxt_OK hbt hn) (bt_l hm hi12) (fun j hj => by rw [bt_x, hbits j hj]; exact pSt_u.symm) (by have := bZ_s hnb 12 hi12; omega) h20 hP12 (pRk_m hP12 (by omega) hR) hMs
            · have hyb := bI_t c_10
              refine zs_aload_n dX13_readMen_53 rfl rfl ?_
              refine zs_iconst (v := nI 3) dX13_readMen_54 (by decide) ?_
              refine zs_callV (M := mX13_bad) (As := [.int (nI 3)]) (st := []) (Kc := [(mo, .inr (11, fMo e g w))]) (Kr := [((e 1), .inl (0, 740, .inl (nF bt))), ((e 14), .inl (0, 800, .inl nw)), ((e 18), .inl (2, 12, .inr (.inl nm))), ((e 16), .inl (0, 320, .inl pf))]) [0] [1, 2, 3, 4] 0 dX13_readMen_55 zl_RX13_216 kX13_bad rfl rfl rfl rfl rfl (by decide) rfl rfl (show dd - 1 + 1 ≤ dd by omega) (Nat.zero_le _) (Nat.zero_le _) (Nat.le_of_ble_eq_true rfl) (s_mBad l (dd - 1) mo e g w n L t 3 hT hW hO) (fun r K1 hr => ?_)
              rw [mBad_e (by first | (intro; rfl) | (intro h; unfold mKd at h; split at h <;> omega))] at hr
              obtain ⟨rfl, rfl⟩ := hr
              refine zs_K (K' := [(mo, .inr (11, fMo e (mFa g 3 t) w)), ((e 1), .inl (0, 740, .inl (nF bt))), ((e 14), .inl (0, 800, .inl nw)), ((e 18), .inl (2, 12, .inr (.inl nm))), ((e 16), .inl (0, 320, .inl pf))]) [4, 0, 1, 2, 3] rfl (by decide) ?_
              have er : G = (3, t, tk, P) := by
                rw [← hMs]
                by_cases h12k : 12 ≤ k
                · rw [if_pos h12k]
                · rw [if_neg h12k, if_pos (by rw [← hbits i hi12, hyb])]
              have e1 : G.1 = 3 ∧ G.2.1 = t := by rw [er]; exact ⟨rfl, rfl⟩
              exact zs_zret dX13_readMen_58 rfl (Or.inl rfl) (hP _ _ (Or.inr ⟨by rw [e1.1]; decide, rfl, mFa g 3 t, w, pf, mFr_t hfr (mFr_fa mFr_r (by decide) (by decide)) (by decide) (by decide), by rw [e1.1]; rfl, by rw [e1.2]; rfl, rfl⟩))
        · rw [if_pos (bI_f c_7)] at hMs
          refine zs_aload_n dX13_readMen_26 rfl rfl ?_
          refine zs_iconst (v := nI 1) dX13_readMen_27 (by decide) ?_
          refine zs_callV (M := mX13_bad) (As := [.int (nI 1)]) (st := []) (Kc := [(mo, .inr (11, fMo e g w))]) (Kr := [((e 1), .inl (0, 740, .inl (nF bt))), ((e 14), .inl (0, 800, .inl nw)), ((e 18), .inl (2, 12, .inr (.inl nm))), ((e 16), .inl (0, 320, .inl pf))]) [0] [1, 2, 3, 4] 0 dX13_readMen_28 zl_RX13_216 kX13_bad rfl rfl rfl rfl rfl (by decide) rfl rfl (show dd - 1 + 1 ≤ dd by omega) (Nat.zero_le _) (Nat.zero_le _) (Nat.le_of_ble_eq_true rfl) (s_mBad l (dd - 1) mo e g w n L t 1 hT hW hO) (fun r K1 hr => ?_)
          rw [mBad_e (by first | (intro; rfl) | (intro h; unfold mKd at h; split at h <;> omega))] at hr
          obtain ⟨rfl, rfl⟩ := hr
          refine zs_K (K' := [(mo, .inr (11, fMo e (mFa g 1 t) w)), ((e 1), .inl (0, 740, .inl (nF bt))), ((e 14), .inl (0, 800, .inl nw)), ((e 18), .inl (2, 12, .inr (.inl nm))), ((e 16), .inl (0, 320, .inl pf))]) [4, 0, 1, 2, 3] rfl (by decide) ?_
          have er : G = (1, t, tk, P) := hMs.symm
          have e1 : G.1 = 1 ∧ G.2.1 = t := by rw [er]; exact ⟨rfl, rfl⟩
          exact zs_zret dX13_readMen_31 rfl (Or.inl rfl) (hP _ _ (Or.inr ⟨by rw [e1.1]; decide, rfl, mFa g 1 t, w, pf, mFr_t hfr (mFr_fa mFr_r (by decide) (by decide)) (by decide) (by decide), by rw [e1.1]; rfl, by rw [e1.2]; rfl, rfl⟩))
set_option maxRecDepth 100000 in
theorem s_mPMen (l : Launch) (dd : Nat) (mo : Nat) (e : Nat → Nat) (n L : Nat) (bt : Nat → Nat) (tk : Nat) (D : zYd) (nw : Nat → Int32) (nm : Nat → Int64) (lst : Nat) (g0 : Nat → Int32) (w : Int64) (t : zTk) (P : zPl) (pf : Nat → Int32) (hd : 4 ≤ dd) (hn : n ≤ 740) (hL : L ≤ 740) (hbt : ∀ j, bt j < 256) (h3 : g0 3 = nI n) (h4 : g0 4 = nI L) (hD : yI D) (hy : mYd D nw nm) (hl : lst ≤ 2) (hT : mTk n L t g0 w) (hW : tW n L t) (hO : tOK t) (h20 : P.1 < 20) (hP12 : ∀ i, i < P.1 → P.2.2.1 i ≤ 1 → P.2.2.2.1 i ≤ 12) (hR : pRk P pf 0) : zSp l mX13_readMen dd 0 0 [.ref mo, .int (nI (16 * P.1)), .int (nI lst)] [(mo, .inr (11, fMo e g0 w)), ((e 1), .inl (0, 740, .inl (nF bt))), ((e 14), .inl (0, 800, .inl nw)), ((e 18), .inl (2, 12, .inr (.inl nm))), ((e 16), .inl (0, 320, .inl pf))] (fun r K' => ((mMs bt n L D lst 13 0 t tk P).1 = 0 ∧ r = some (.int 1) ∧ ∃ g w pf, mFr [5, 6, 7, 8, 9, 13, 23] g0 g ∧ mTk n L (mMs bt n L D lst 13 0 t tk P).2.1 g w ∧ tW n L (mMs bt n L D lst 13 0 t tk P).2.1 ∧ tOK (mMs bt n L D lst 13 0 t tk P).2.1 ∧ (∀ i, i < (mMs bt n L D lst 13 0 t tk P).2.2.2.1 + 1 → pE (mMs bt n L D lst 13 0 t tk P).2.2.2 pf i) ∧ K' = [(mo, .inr (11, fMo e g w)), ((e 1), .inl (0, 740, .inl (nF bt))), ((e 14), .inl (0, 800, .inl nw)), ((e 18), .inl (2, 12, .inr (.inl nm))), ((e 16), .inl (0, 320, .inl pf))]) ∨ (¬ (mMs bt n L D lst 13 0 t tk P).1 = 0 ∧ r = some (.int 0) ∧ ∃ g w pf, mFr [5, 6, 7, 8, 9, 10, 11, 13, 23] g0 g ∧ g 10 = nI (mMs bt n L D lst 13 0 t tk P).1 ∧ g 11 = nI (mMs bt n L D lst 13 0 t tk P).2.1.2.1 ∧ K' = [(mo, .inr (11, fMo e g w)), ((e 1), .inl (0, 740, .inl (nF bt))), ((e 14), .inl (0, 800, .inl nw)), ((e 18), .inl (2, 12, .inr (.inl nm))), ((e 16), .inl (0, 320, .inl pf))])) := by
  refine zSp.of (by decide) (Nat.le_of_ble_eq_true rfl) (fun h0 => ?_)
  show zS _ 0 0 0 [(0, .ref mo), (1, .int (nI (16 * P.1))), (2, .int (nI lst))] [] [(mo, .inr (11, fMo e g0 w)), ((e 1), .inl (0, 740, .inl (nF bt))), ((e 14), .inl (0, 800, .inl nw)), ((e 18), .inl (2, 12, .inr (.inl nm))), ((e 16), .inl (0, 320, .inl pf))]
  refine zs_iconst (v := nI 0) dX13_readMen_0 (by decide) ?_
  refine zs_istore_n (lv' := [(3, .int (nI 0)), (0, .ref mo), (1, .int (nI (16 * P.1))), (2, .int (nI lst))]) dX13_readMen_1 (Nat.le_of_ble_eq_true rfl) rfl ?_
  refine zs_iconst (v := nI 0) dX13_readMen_2 (by decide) ?_
  refine zs_istore (lv' := [(4, .int (nI 0)), (3, .int (nI 0)), (0, .ref mo), (1, .int (nI (16 * P.1))), (2, .int (nI lst))]) dX13_readMen_3 (Nat.le_of_ble_eq_true rfl) rfl ?_
  refine zs_lv [2, 3, 4, 1, 0] rfl ?_
  exact lp_mmen mo e n L bt tk D nw nm lst g0 hd hn hL hbt h3 h4 hD hy hl (mMs bt n L D lst 13 0 t tk P) (fun r K1 h => h) 13 0 t P g0 w 0 pf rfl mFr_r hT hW hO (by decide) (fun j hj => by rw [pSt_0]; exact Nat.zero_testBit j) (by decide) h20 hP12 hR rfl
