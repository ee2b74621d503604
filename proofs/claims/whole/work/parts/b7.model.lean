/-! ===== the reference: a team taken from the tape ===== -/
theorem mg_22 {g g' : Nat → Int32} {s : Nat → Nat} (h : mFr [22] (mg g s) g') : g' = mg g' s := mg_f h (fun k hk q => by
  have q : k ∈ [22] := q
  simp only [List.mem_cons, List.not_mem_nil, or_false] at q
  omega)
/-- v is one of the first k -/
def tSt (b : Nat → Nat) (k v : Nat) : Bool := decide (∃ j, j < k ∧ b j = v)
theorem tSt_0 {b : Nat → Nat} {v : Nat} : tSt b 0 v = false := decide_eq_false (fun ⟨_, h, _⟩ => absurd h (Nat.not_lt_zero _))
theorem tSt_s {b : Nat → Nat} {k v : Nat} : tSt b (k + 1) v = (tSt b k v || decide (b k = v)) := by
  unfold tSt
  rw [← Bool.decide_or]
  refine decide_eq_decide.mpr ⟨fun ⟨x, hx, e⟩ => ?_, fun h => ?_⟩
  · by_cases hxk : x = k
    · rw [hxk] at e; exact Or.inr e
    · exact Or.inl ⟨x, by omega, e⟩
  · rcases h with ⟨x, hx, e⟩ | h
    · exact ⟨x, by omega, e⟩
    · exact ⟨k, by omega, h⟩
theorem bIn_nat {n lo hi : Nat} (hn : n < 2147483648) (hl : lo < 2147483648) (hh : hi < 2147483648) : bIn (nI n) (nI lo) (nI hi) = decide (lo ≤ n ∧ n ≤ hi) := by
  unfold bIn
  refine decide_eq_decide.mpr ⟨fun h => ?_, fun h => ?_⟩
  · have h1 := h.1
    have h2 := h.2
    rw [nI_lt' hn hl] at h1
    rw [nI_lt' hh hn] at h2
    omega
  · refine ⟨fun q => ?_, fun q => ?_⟩
    · rw [nI_lt' hn hl] at q; omega
    · rw [nI_lt' hh hn] at q; omega
theorem pMn_0 {b : Nat → Nat} {n M lo hi : Nat} (hl : 1 ≤ lo) : pMn b n M lo hi = 0 ↔ pTd b n M lo hi = false := by
  unfold pMn
  by_cases h : pTd b n M lo hi = true
  · have h1 : pTdP b n M lo hi := of_decide_eq_true h
    rw [if_pos h, h]
    exact ⟨fun q => by omega, fun q => absurd q (by decide)⟩
  · rw [if_neg h]
    exact ⟨fun _ => by revert h; cases pTd b n M lo hi <;> simp, fun _ => rfl⟩
theorem dX13_takesTeam_0 : decode cX13_takesTeam 0 = .ok (.aload_n 0, 1) := by decide +kernel
theorem dX13_takesTeam_1 : decode cX13_takesTeam 1 = .ok (.invokevirtual 232, 3) := by decide +kernel
theorem dX13_takesTeam_4 : decode cX13_takesTeam 4 = .ok (.aload_n 0, 1) := by decide +kernel
theorem dX13_takesTeam_5 : decode cX13_takesTeam 5 = .ok (.aload_n 0, 1) := by decide +kernel
theorem dX13_takesTeam_6 : decode cX13_takesTeam 6 = .ok (.invokevirtual 235, 3) := by decide +kernel
theorem dX13_takesTeam_9 : decode cX13_takesTeam 9 = .ok (.putfield 304, 3) := by decide +kernel
theorem dX13_takesTeam_12 : decode cX13_takesTeam 12 = .ok (.aload_n 0, 1) := by decide +kernel
theorem dX13_takesTeam_13 : decode cX13_takesTeam 13 = .ok (.getfield 304, 3) := by decide +kernel
theorem dX13_takesTeam_16 : decode cX13_takesTeam 16 = .ok (.iload_n 1, 1) := by decide +kernel
theorem dX13_takesTeam_17 : decode cX13_takesTeam 17 = .ok (.iload_n 2, 1) := by decide +kernel
theorem dX13_takesTeam_18 : decode cX13_takesTeam 18 = .ok (.invokestatic 219, 3) := by decide +kernel
theorem dX13_takesTeam_21 : decode cX13_takesTeam 21 = .ok (.ifCond .ne 5, 3) := by decide +kernel
theorem dX13_takesTeam_24 : decode cX13_takesTeam 24 = .ok (.iconst 0, 1) := by decide +kernel
theorem dX13_takesTeam_25 : decode cX13_takesTeam 25 = .ok (.ireturn, 1) := by decide +kernel
theorem dX13_takesTeam_26 : decode cX13_takesTeam 26 = .ok (.iconst 0, 1) := by decide +kernel
theorem dX13_takesTeam_27 : decode cX13_takesTeam 27 = .ok (.istore 4, 2) := by decide +kernel
theorem dX13_takesTeam_29 : decode cX13_takesTeam 29 = .ok (.iconst 0, 1) := by decide +kernel
theorem dX13_takesTeam_30 : decode cX13_takesTeam 30 = .ok (.istore 5, 2) := by decide +kernel
theorem dX13_takesTeam_32 : decode cX13_takesTeam 32 = .ok (.iload 5, 2) := by decide +kernel
theorem dX13_takesTeam_34 : decode cX13_takesTeam 34 = .ok (.aload_n 0, 1) := by decide +kernel
theorem dX13_takesTeam_35 : decode cX13_takesTeam 35 = .ok (.getfield 304, 3) := by decide +kernel
theorem dX13_takesTeam_38 : decode cX13_takesTeam 38 = .ok (.if_icmp .ge 72, 3) := by decide +kernel
theorem dX13_takesTeam_41 : decode cX13_takesTeam 41 = .ok (.aload_n 0, 1) := by decide +kernel
theorem dX13_takesTeam_42 : decode cX13_takesTeam 42 = .ok (.getfield 7, 3) := by decide +kernel
theorem dX13_takesTeam_45 : decode cX13_takesTeam 45 = .ok (.iload 5, 2) := by decide +kernel
theorem dX13_takesTeam_47 : decode cX13_takesTeam 47 = .ok (.iaload, 1) := by decide +kernel
theorem dX13_takesTeam_48 : decode cX13_takesTeam 48 = .ok (.aload_n 0, 1) := by decide +kernel
theorem dX13_takesTeam_49 : decode cX13_takesTeam 49 = .ok (.invokevirtual 288, 3) := by decide +kernel
theorem dX13_takesTeam_52 : decode cX13_takesTeam 52 = .ok (.if_icmp .ge 22, 3) := by decide +kernel
theorem dX13_takesTeam_55 : decode cX13_takesTeam 55 = .ok (.iload_n 3, 1) := by decide +kernel
theorem dX13_takesTeam_56 : decode cX13_takesTeam 56 = .ok (.ifCond .eq 20, 3) := by decide +kernel
theorem dX13_takesTeam_59 : decode cX13_takesTeam 59 = .ok (.iload 4, 2) := by decide +kernel
theorem dX13_takesTeam_61 : decode cX13_takesTeam 61 = .ok (.aload_n 0, 1) := by decide +kernel
theorem dX13_takesTeam_62 : decode cX13_takesTeam 62 = .ok (.getfield 7, 3) := by decide +kernel
theorem dX13_takesTeam_65 : decode cX13_takesTeam 65 = .ok (.iload 5, 2) := by decide +kernel
theorem dX13_takesTeam_67 : decode cX13_takesTeam 67 = .ok (.iaload, 1) := by decide +kernel
theorem dX13_takesTeam_68 : decode cX13_takesTeam 68 = .ok (.invokestatic 258, 3) := by decide +kernel
theorem dX13_takesTeam_71 : decode cX13_takesTeam 71 = .ok (.ifCond .eq 5, 3) := by decide +kernel
theorem dX13_takesTeam_74 : decode cX13_takesTeam 74 = .ok (.iconst 0, 1) := by decide +kernel
theorem dX13_takesTeam_75 : decode cX13_takesTeam 75 = .ok (.ireturn, 1) := by decide +kernel
theorem dX13_takesTeam_76 : decode cX13_takesTeam 76 = .ok (.iload 4, 2) := by decide +kernel
theorem dX13_takesTeam_78 : decode cX13_takesTeam 78 = .ok (.iconst 1, 1) := by decide +kernel
theorem dX13_takesTeam_79 : decode cX13_takesTeam 79 = .ok (.aload_n 0, 1) := by decide +kernel
theorem dX13_takesTeam_80 : decode cX13_takesTeam 80 = .ok (.getfield 7, 3) := by decide +kernel
theorem dX13_takesTeam_83 : decode cX13_takesTeam 83 = .ok (.iload 5, 2) := by decide +kernel
theorem dX13_takesTeam_85 : decode cX13_takesTeam 85 = .ok (.iaload, 1) := by decide +kernel
theorem dX13_takesTeam_86 : decode cX13_takesTeam 86 = .ok (.ishl, 1) := by decide +kernel
theorem dX13_takesTeam_87 : decode cX13_takesTeam 87 = .ok (.ior, 1) := by decide +kernel
theorem dX13_takesTeam_88 : decode cX13_takesTeam 88 = .ok (.istore 4, 2) := by decide +kernel
theorem dX13_takesTeam_90 : decode cX13_takesTeam 90 = .ok (.aload_n 0, 1) := by decide +kernel
theorem dX13_takesTeam_91 : decode cX13_takesTeam 91 = .ok (.getfield 39, 3) := by decide +kernel
theorem dX13_takesTeam_94 : decode cX13_takesTeam 94 = .ok (.iload 5, 2) := by decide +kernel
theorem dX13_takesTeam_96 : decode cX13_takesTeam 96 = .ok (.aload_n 0, 1) := by decide +kernel
theorem dX13_takesTeam_97 : decode cX13_takesTeam 97 = .ok (.getfield 7, 3) := by decide +kernel
theorem dX13_takesTeam_100 : decode cX13_takesTeam 100 = .ok (.iload 5, 2) := by decide +kernel
theorem dX13_takesTeam_102 : decode cX13_takesTeam 102 = .ok (.iaload, 1) := by decide +kernel
theorem dX13_takesTeam_103 : decode cX13_takesTeam 103 = .ok (.iastore, 1) := by decide +kernel
theorem dX13_takesTeam_104 : decode cX13_takesTeam 104 = .ok (.iinc 5 1, 3) := by decide +kernel
theorem dX13_takesTeam_107 : decode cX13_takesTeam 107 = .ok (.goto (-75), 3) := by decide +kernel
theorem dX13_takesTeam_110 : decode cX13_takesTeam 110 = .ok (.iconst 1, 1) := by decide +kernel
theorem dX13_takesTeam_111 : decode cX13_takesTeam 111 = .ok (.ireturn, 1) := by decide +kernel
set_option maxRecDepth 100000 in
theorem lp_ttk {l : Launch} {dd : Nat} {Po : zPo} {K0 : zK} {h0 : List va_E} {Xo : zK → Prop} {Gc : zG → Prop} (mo : Nat) (e : Nat → Nat) (g : Nat → Int32) (w : Int64) (nw : Nat → Int32) (D : zYd) (M : zRs) (bt : Nat → Nat) (n lo hi : Nat) (hd : 1 ≤ dd) (hR : yR D nw) (hD : yI D) (hbt : ∀ j, bt j < 256) (h33 : M.1 33 = n) (hlo : lo ≤ n) (hhi : n ≤ hi) (hhi2 : hi ≤ 12) (hP : ∀ r K', ((pTd bt n (D.1 0) lo hi = true ∧ r = some (.int 1) ∧ K' = kTm mo e g w nw (M.1, uu M.2 24 (nCl bt (M.2 24) n)) ++ [((e 1), .inl (0, 740, .inl (nF bt)))]) ∨ (pTd bt n (D.1 0) lo hi = false ∧ r = some (.int 0) ∧ ∃ M', K' = kTm mo e g w nw M' ++ [((e 1), .inl (0, 740, .inl (nF bt)))])) → Po r K') : ∀ (q k m : Nat), k + q = n → m < 4096 → (∀ j, j < 12 → m.testBit j = tSt bt k j) → (∀ i, i < k → bt i < D.1 0) → (∀ i, i < k → ∀ j, j < i → bt j ≠ bt i) → zS (l, mX13_takesTeam, dd, Po, K0, h0, Xo, Gc) 0 0 32 [(0, .ref mo), (1, .int (nI lo)), (2, .int (nI hi)), (3, .int (nI 1)), (4, .int (nI m)), (5, .int (nI k))] [] [(mo, .inr (11, fMo e (mg g M.1) w)), ((e 14), .inl (0, 800, .inl nw)), ((e 24), .inl (0, 12, .inl (nF (nCl bt (M.2 24) k)))), ((e 25), .inl (0, 12, .inl (nF (M.2 25)))), ((e 26), .inl (0, 12, .inl (nF (M.2 26)))), ((e 27), .inl (0, 12, .inl (nF (M.2 27)))), ((e 28), .inl (0, 360, .inl (nF (M.2 28)))), ((e 29), .inl (0, 12, .inl (nF (M.2 29)))), ((e 30), .inl (0, 12, .inl (nF (M.2 30)))), ((e 31), .inl (0, 30, .inl (nF (M.2 31)))), ((e 32), .inl (0, 12, .inl (nF (M.2 32)))), ((e 1), .inl (0, 740, .inl (nF bt)))] := by
  have hD0 := hD.1
  intro q
  induction q with
  | zero =>
    intro k m hk hm hbits hmen hun
    refine zs_iload dX13_takesTeam_32 rfl ?_
    refine zs_aload_n dX13_takesTeam_34 rfl rfl ?_
    refine zs_get 0 dX13_takesTeam_35 zf_RX13_304 rfl (v := .int (nI (M.1 33))) rfl ?_
    refine zs_icmp_ge (tgt := 110) dX13_takesTeam_38 (by decide) (fun c_1 => ?_) (fun c_1 => (c_1 (by rw [show k = M.1 33 by omega]; exact Int32.le_refl _) : False).elim)
    refine zs_iconst (v := nI 1) dX13_takesTeam_110 (by decide) ?_
    have htd : pTd bt n (D.1 0) lo hi = true := decide_eq_true ⟨hlo, hhi, fun i hi => hmen i (by omega), fun i hi => hun i (by omega)⟩
    exact zs_zret dX13_takesTeam_111 rfl (Or.inr rfl) (hP _ _ (Or.inl ⟨htd, rfl, by rw [show k = n by omega]; rfl⟩))
  | succ q ih =>
    intro k m hk hm hbits hmen hun
    refine zs_iload dX13_takesTeam_32 rfl ?_
    refine zs_aload_n dX13_takesTeam_34 rfl rfl ?_
    refine zs_get 0 dX13_takesTeam_35 zf_RX13_304 rfl (v := .int (nI (M.1 33))) rfl ?_
    refine zs_icmp_ge (tgt := 110) dX13_takesTeam_38 (by decide) (fun c_1 => (nI_ge (show k < M.1 33 by omega) (by omega) c_1 : False).elim) (fun c_1 => ?_)
    refine zs_aload_n dX13_takesTeam_41 rfl rfl ?_
    refine zs_get 0 dX13_takesTeam_42 zf_RX13_7 rfl (v := .ref (e 1)) rfl ?_
    refine zs_iload dX13_takesTeam_45 rfl ?_
    refine zs_iald 11 dX13_takesTeam_47 rfl (vp_in_nI (by omega) (by omega)) ?_
    refine zs_as (y := nI (bt k)) (by rw [nI_c (n := k) (by omega)]; rfl) ?_
    refine zs_aload_n dX13_takesTeam_48 rfl rfl ?_
    refine zs_callV (M := mX13_men) (As := []) (st := [.int (nI (bt k))]) (Kc := [(mo, .inr (11, fMo e (mg g M.1) w)), ((e 14), .inl (0, 800, .inl nw))]) (Kr := [((e 24), .inl (0, 12, .inl (nF (nCl bt (M.2 24) k)))), ((e 25), .inl (0, 12, .inl (nF (M.2 25)))), ((e 26), .inl (0, 12, .inl (nF (M.2 26)))), ((e 27), .inl (0, 12, .inl (nF (M.2 27)))), ((e 28), .inl (0, 360, .inl (nF (M.2 28)))), ((e 29), .inl (0, 12, .inl (nF (M.2 29)))), ((e 30), .inl (0, 12, .inl (nF (M.2 30)))), ((e 31), .inl (0, 30, .inl (nF (M.2 31)))), ((e 32), .inl (0, 12, .inl (nF (M.2 32)))), ((e 1), .inl (0, 740, .inl (nF bt)))]) [0, 1] [2, 3, 4, 5, 6, 7, 8, 9, 10, 11] 0 dX13_takesTeam_49 zl_RX13_288 kX13_men rfl rfl rfl rfl rfl (by decide) rfl rfl (show dd - 1 + 1 ≤ dd by omega) (Nat.zero_le _) (Nat.zero_le _) (Nat.le_of_ble_eq_true rfl) (s_mMen l (dd - 1) mo e (mg g M.1) w nw D hR) (fun r K1 hr => ?_)
    obtain ⟨rfl, rfl⟩ := hr
    refine zs_K (K' := [(mo, .inr (11, fMo e (mg g M.1) w)), ((e 14), .inl (0, 800, .inl nw)), ((e 24), .inl (0, 12, .inl (nF (nCl bt (M.2 24) k)))), ((e 25), .inl (0, 12, .inl (nF (M.2 25)))), ((e 26), .inl (0, 12, .inl (nF (M.2 26)))), ((e 27), .inl (0, 12, .inl (nF (M.2 27)))), ((e 28), .inl (0, 360, .inl (nF (M.2 28)))), ((e 29), .inl (0, 12, .inl (nF (M.2 29)))), ((e 30), .inl (0, 12, .inl (nF (M.2 30)))), ((e 31), .inl (0, 30, .inl (nF (M.2 31)))), ((e 32), .inl (0, 12, .inl (nF (M.2 32)))), ((e 1), .inl (0, 740, .inl (nF bt)))]) [10, 11, 0, 1, 2, 3, 4, 5, 6, 7, 8, 9] rfl (by decide) ?_
    have hbk := hbt k
    refine zs_icmp_ge (tgt := 74) dX13_takesTeam_52 (by decide) (fun c_2 => ?_) (fun c_2 => ?_)
    · have c_2 : (D.1 0) ≤ (bt k) := by have hc := c_2; rw [nI_le' (by omega) (by omega)] at hc; exact hc
      refine zs_iconst (v := nI 0) dX13_takesTeam_74 (by decide) ?_
      exact zs_zret dX13_takesTeam_75 rfl (Or.inl rfl) (hP _ _ (Or.inr ⟨decide_eq_false (fun h => absurd (h.2.2.1 k (by omega)) (by omega)), rfl, (M.1, uu M.2 24 (nCl bt (M.2 24) k)), rfl⟩))
    · have c_2 : ¬ ((D.1 0) ≤ (bt k)) := by have hc := c_2; rw [nI_le' (by omega) (by omega)] at hc; exact hc
      refine zs_iload_n dX13_takesTeam_55 rfl ?_
      refine zs_if_eq (tgt := 76) dX13_takesTeam_56 (by decide) (fun c_3 => (by first | exact absurd c_3 (by decide) | exact absurd (by decide) c_3 : False).elim) (fun c_3 => ?_)
      refine zs_iload dX13_takesTeam_59 rfl ?_
      refine zs_aload_n dX13_takesTeam_61 rfl rfl ?_
      refine zs_get 0 dX13_takesTeam_62 zf_RX13_7 rfl (v := .ref (e 1)) rfl ?_
      refine zs_iload dX13_takesTeam_65 rfl ?_
      refine zs_iald 11 dX13_takesTeam_67 rfl (vp_in_nI (by omega) (by omega)) ?_
      refine zs_as (y := nI (bt k)) (by rw [nI_c (n := k) (by omega)]; rfl) ?_
      refine zs_callS (M := mX13_has) (As := [.int (nI m), .int (nI (bt k))]) (st := []) (Kc := []) (Kr := [(mo, .inr (11, fMo e (mg g M.1) w)), ((e 14), .inl (0, 800, .inl nw)), ((e 24), .inl (0, 12, .inl (nF (nCl bt (M.2 24) k)))), ((e 25), .inl (0, 12, .inl (nF (M.2 25)))), ((e 26), .inl (0, 12, .inl (nF (M.2 26)))), ((e 27), .inl (0, 12, .inl (nF (M.2 27)))), ((e 28), .inl (0, 360, .inl (nF (M.2 28)))), ((e 29), .inl (0, 12, .inl (nF (M.2 29)))), ((e 30), .inl (0, 12, .inl (nF (M.2 30)))), ((e 31), .inl (0, 30, .inl (nF (M.2 31)))), ((e 32), .inl (0, 12, .inl (nF (M.2 32)))), ((e 1), .inl (0, 740, .inl (nF bt)))]) [] [0, 1, 2, 3, 4, 5, 6, 7, 8, 9, 10, 11] dX13_takesTeam_68 zl_RX13_258 kX13_has rfl rfl rfl rfl rfl (by decide) (show dd - 1 + 1 ≤ dd by omega) (Nat.zero_le _) (Nat.zero_le _) (Nat.le_of_ble_eq_true rfl) (s_mHas l (dd - 1) (nI m) (nI (bt k))) (fun r K1 hr => ?_)
      obtain ⟨rfl, rfl⟩ := hr
      refine zs_K (K' := [(mo, .inr (11, fMo e (mg g M.1) w)), ((e 14), .inl (0, 800, .inl nw)), ((e 24), .inl (0, 12, .inl (nF (nCl bt (M.2 24) k)))), ((e 25), .inl (0, 12, .inl (nF (M.2 25)))), ((e 26), .inl (0, 12, .inl (nF (M.2 26)))), ((e 27), .inl (0, 12, .inl (nF (M.2 27)))), ((e 28), .inl (0, 360, .inl (nF (M.2 28)))), ((e 29), .inl (0, 12, .inl (nF (M.2 29)))), ((e 30), .inl (0, 12, .inl (nF (M.2 30)))), ((e 31), .inl (0, 30, .inl (nF (M.2 31)))), ((e 32), .inl (0, 12, .inl (nF (M.2 32)))), ((e 1), .inl (0, 740, .inl (nF bt)))]) [0, 1, 2, 3, 4, 5, 6, 7, 8, 9, 10, 11] rfl (by decide) ?_
      refine zs_as (y := bI (m.testBit (bt k))) (bt_h hm (by omega)) ?_
      refine zs_if_eq (tgt := 76) dX13_takesTeam_71 (by decide) (fun c_4 => ?_) (fun c_4 => ?_)
      · have hnb := bI_f c_4
        refine zs_iload dX13_takesTeam_76 rfl ?_
        refine zs_iconst (v := nI 1) dX13_takesTeam_78 (by decide) ?_
        refine zs_aload_n dX13_takesTeam_79 rfl rfl ?_
        refine zs_get 0 dX13_takesTeam_80 zf_RX13_7 rfl (v := .ref (e 1)) rfl ?_
        refine zs_iload dX13_takesTeam_83 rfl ?_
        refine zs_iald 11 dX13_takesTeam_85 rfl (vp_in_nI (by omega) (by omega)) ?_
        refine zs_as (y := nI (bt k)) (by rw [nI_c (n := k) (by omega)]; rfl) ?_
        refine zs_ishl dX13_takesTeam_86 ?_
        refine zs_ior dX13_takesTeam_87 ?_
        refine zs_as (y := nI (m ||| 2 ^ bt k)) (bt_s hm (by omega)) ?_
        refine zs_istore (lv' := [(4, .int (nI (m ||| 2 ^ bt k))), (0, .ref mo), (1, .int (nI lo)), (2, .int (nI hi)), (3, .int (nI 1)), (5, .int (nI k))]) dX13_takesTeam_88 (Nat.le_of_ble_eq_true rfl) rfl ?_
        refine zs_aload_n dX13_takesTeam_90 rfl rfl ?_
        refine zs_get 0 dX13_takesTeam_91 zf_RX13_39 rfl (v := .ref (e 24)) rfl ?_
        refine zs_iload dX13_takesTeam_94 rfl ?_
        refine zs_aload_n dX13_takesTeam_96 rfl rfl ?_
        refine zs_get 0 dX13_takesTeam_97 zf_RX13_7 rfl (v := .ref (e 1)) rfl ?_
        refine zs_iload dX13_takesTeam_100 rfl ?_
        refine zs_iald 11 dX13_takesTeam_102 rfl (vp_in_nI (by omega) (by omega)) ?_
        refine zs_as (y := nI (bt k)) (by rw [nI_c (n := k) (by omega)]; rfl) ?_
        refine zs_iast 2 dX13_takesTeam_103 rfl (vp_in_nI (by omega) (by omega)) ?_
        rw [nI_c (n := k) (by omega), nF_u]
        show zS _ _ _ _ _ _ [(mo, .inr (11, fMo e (mg g M.1) w)), ((e 14), .inl (0, 800, .inl nw)), ((e 24), .inl (0, 12, .inl (nF (un (nCl bt (M.2 24) k) k (bt k))))), ((e 25), .inl (0, 12, .inl (nF (M.2 25)))), ((e 26), .inl (0, 12, .inl (nF (M.2 26)))), ((e 27), .inl (0, 12, .inl (nF (M.2 27)))), ((e 28), .inl (0, 360, .inl (nF (M.2 28)))), ((e 29), .inl (0, 12, .inl (nF (M.2 29)))), ((e 30), .inl (0, 12, .inl (nF (M.2 30)))), ((e 31), .inl (0, 30, .inl (nF (M.2 31)))), ((e 32), .inl (0, 12, .inl (nF (M.2 32)))), ((e 1), .inl (0, 740, .inl (nF bt)))]
        refine zs_iinc (v := (nI (k + 1))) (lv' := [(5, .int (nI (k + 1))), (4, .int (nI (m ||| 2 ^ bt k))), (0, .ref mo), (1, .int (nI lo)), (2, .int (nI hi)), (3, .int (nI 1))]) dX13_takesTeam_104 rfl (nI_add _ 1) (Nat.le_of_ble_eq_true rfl) rfl ?_
        refine zs_goto (tgt := 32) dX13_takesTeam_107 (by decide) ?_
        refine zs_lv [2, 3, 4, 5, 1, 0] rfl ?_
        rw [nCl_u (new := bt) (old := M.2 24) (k := k) rfl]
        exact ih (k + 1) (m ||| 2 ^ bt k) (by omega) (bt_l hm (by omega)) (fun j hj => by rw [bt_x, hbits j hj, tSt_s]) (fun i hi => (Nat.lt_or_eq_of_le (Nat.le_of_lt_succ hi)).elim (hmen i) (fun e => e ▸ (by omega))) (fun i hi j hj => (Nat.lt_or_eq_of_le (Nat.le_of_lt_succ hi)).elim (fun q => hun i q j hj) (fun e => by
          subst e
          intro q
          have h1 : tSt bt i (bt i) = true := decide_eq_true ⟨j, hj, q⟩
          rw [← hbits (bt i) (by omega), hnb] at h1
          exact absurd h1 (by decide)))
      · have hyb := bI_t c_4
        refine zs_iconst (v := nI 0) dX13_takesTeam_74 (by decide) ?_
        exact zs_zret dX13_takesTeam_75 rfl (Or.inl rfl) (hP _ _ (Or.inr ⟨decide_eq_false (fun h => by have h1 := hyb; rw [hbits (bt k) (by omega)] at h1; obtain ⟨j, hj, e⟩ := of_decide_eq_true h1; exact h.2.2.2 k (by omega) j hj e), rfl, (M.1, uu M.2 24 (nCl bt (M.2 24) k)), rfl⟩))
theorem mg_tt {g g2 : Nat → Int32} {s : Nat → Nat} (h : mFr [22] (mg g s) g2) : mFr [2, 22, 33, 35, 36, 37, 38, 39, 40, 41, 42] g (upd g2 2 (nI 0)) := mFr_u (fun j hj => by
  have hj2 : ¬ (33 ≤ j ∧ j ≤ 42 ∧ j ≠ 34) := fun q => by
    simp only [List.mem_cons, List.not_mem_nil, or_false] at hj
    omega
  refine (h j (fun q => hj ?_)).trans (if_neg hj2)
  have q : j ∈ [22] := q
  simp only [List.mem_cons, List.not_mem_nil, or_false] at q ⊢
  omega) (by decide)
set_option maxRecDepth 100000 in
theorem s_tTeam (l : Launch) (dd : Nat) (mo : Nat) (e : Nat → Nat) (g : Nat → Int32) (w : Int64) (nw : Nat → Int32) (D : zYd) (M : zRs) (bt : Nat → Nat) (n lo hi : Nat) (hd : 2 ≤ dd) (hR : yR D (mLay g nw)) (hD : yI D) (hb : g 22 = 0 ∨ g 22 = 1) (h2 : g 2 = nI n) (hn : n ≤ 740) (hbt : ∀ j, bt j < 256) (hhi2 : hi ≤ 12) (hlo2 : lo ≤ 12) : zSp l mX13_takesTeam dd 0 0 [.ref mo, .int (nI lo), .int (nI hi), .int (nI 1)] [(mo, .inr (11, fMo e (mg g M.1) w)), ((e 14), .inl (0, 800, .inl nw)), ((e 24), .inl (0, 12, .inl (nF (M.2 24)))), ((e 25), .inl (0, 12, .inl (nF (M.2 25)))), ((e 26), .inl (0, 12, .inl (nF (M.2 26)))), ((e 27), .inl (0, 12, .inl (nF (M.2 27)))), ((e 28), .inl (0, 360, .inl (nF (M.2 28)))), ((e 29), .inl (0, 12, .inl (nF (M.2 29)))), ((e 30), .inl (0, 12, .inl (nF (M.2 30)))), ((e 31), .inl (0, 30, .inl (nF (M.2 31)))), ((e 32), .inl (0, 12, .inl (nF (M.2 32)))), ((e 1), .inl (0, 740, .inl (nF bt)))] (fun r K' => (pTd bt n (D.1 0) lo hi = true ∧ r = some (.int 1) ∧ ∃ g' M', mFr [2, 22, 33, 35, 36, 37, 38, 39, 40, 41, 42] g g' ∧ g' 2 = nI 0 ∧ g' 22 = 1 ∧ M'.1 33 = n ∧ (∀ p, p < n → M'.2 24 p = bt p) ∧ K' = kTm mo e g' w (mLay g nw) M' ++ [((e 1), .inl (0, 740, .inl (nF bt)))]) ∨ (pTd bt n (D.1 0) lo hi = false ∧ r = some (.int 0) ∧ ∃ g' M', mFr [2, 22, 33, 35, 36, 37, 38, 39, 40, 41, 42] g g' ∧ g' 2 = nI 0 ∧ g' 22 = 1 ∧ K' = kTm mo e g' w (mLay g nw) M' ++ [((e 1), .inl (0, 740, .inl (nF bt)))])) := by
  refine zSp.of (by decide) (Nat.le_of_ble_eq_true rfl) (fun h0 => ?_)
  show zS _ 0 0 0 [(0, .ref mo), (1, .int (nI lo)), (2, .int (nI hi)), (3, .int (nI 1))] [] [(mo, .inr (11, fMo e (mg g M.1) w)), ((e 14), .inl (0, 800, .inl nw)), ((e 24), .inl (0, 12, .inl (nF (M.2 24)))), ((e 25), .inl (0, 12, .inl (nF (M.2 25)))), ((e 26), .inl (0, 12, .inl (nF (M.2 26)))), ((e 27), .inl (0, 12, .inl (nF (M.2 27)))), ((e 28), .inl (0, 360, .inl (nF (M.2 28)))), ((e 29), .inl (0, 12, .inl (nF (M.2 29)))), ((e 30), .inl (0, 12, .inl (nF (M.2 30)))), ((e 31), .inl (0, 30, .inl (nF (M.2 31)))), ((e 32), .inl (0, 12, .inl (nF (M.2 32)))), ((e 1), .inl (0, 740, .inl (nF bt)))]
  refine zs_aload_n dX13_takesTeam_0 rfl rfl ?_
  refine zs_callV (M := mX13_lay) (As := []) (st := []) (Kc := [(mo, .inr (11, fMo e (mg g M.1) w)), ((e 14), .inl (0, 800, .inl nw))]) (Kr := [((e 24), .inl (0, 12, .inl (nF (M.2 24)))), ((e 25), .inl (0, 12, .inl (nF (M.2 25)))), ((e 26), .inl (0, 12, .inl (nF (M.2 26)))), ((e 27), .inl (0, 12, .inl (nF (M.2 27)))), ((e 28), .inl (0, 360, .inl (nF (M.2 28)))), ((e 29), .inl (0, 12, .inl (nF (M.2 29)))), ((e 30), .inl (0, 12, .inl (nF (M.2 30)))), ((e 31), .inl (0, 30, .inl (nF (M.2 31)))), ((e 32), .inl (0, 12, .inl (nF (M.2 32)))), ((e 1), .inl (0, 740, .inl (nF bt)))]) [0, 1] [2, 3, 4, 5, 6, 7, 8, 9, 10, 11] 0 dX13_takesTeam_1 zl_RX13_232 kX13_lay rfl rfl rfl rfl rfl (by decide) rfl rfl (show dd - 1 + 1 ≤ dd by omega) (Nat.zero_le _) (Nat.zero_le _) (Nat.le_of_ble_eq_true rfl) (s_mLay l (dd - 1) mo e (mg g M.1) w nw (by omega) hb) (fun r K1 hr => ?_)
  obtain ⟨rfl, g2, hfr2, h22, rfl⟩ := hr
  refine zs_K (K' := [(mo, .inr (11, fMo e g2 w)), ((e 14), .inl (0, 800, .inl (mLay g nw))), ((e 24), .inl (0, 12, .inl (nF (M.2 24)))), ((e 25), .inl (0, 12, .inl (nF (M.2 25)))), ((e 26), .inl (0, 12, .inl (nF (M.2 26)))), ((e 27), .inl (0, 12, .inl (nF (M.2 27)))), ((e 28), .inl (0, 360, .inl (nF (M.2 28)))), ((e 29), .inl (0, 12, .inl (nF (M.2 29)))), ((e 30), .inl (0, 12, .inl (nF (M.2 30)))), ((e 31), .inl (0, 30, .inl (nF (M.2 31)))), ((e 32), .inl (0, 12, .inl (nF (M.2 32)))), ((e 1), .inl (0, 740, .inl (nF bt)))]) [10, 11, 0, 1, 2, 3, 4, 5, 6, 7, 8, 9] rfl (by decide) ?_
  rw [mg_22 hfr2]
  show zS _ _ _ _ _ _ [(mo, .inr (11, fMo e (mg g2 M.1) w)), ((e 14), .inl (0, 800, .inl (mLay g nw))), ((e 24), .inl (0, 12, .inl (nF (M.2 24)))), ((e 25), .inl (0, 12, .inl (nF (M.2 25)))), ((e 26), .inl (0, 12, .inl (nF (M.2 26)))), ((e 27), .inl (0, 12, .inl (nF (M.2 27)))), ((e 28), .inl (0, 360, .inl (nF (M.2 28)))), ((e 29), .inl (0, 12, .inl (nF (M.2 29)))), ((e 30), .inl (0, 12, .inl (nF (M.2 30)))), ((e 31), .inl (0, 30, .inl (nF (M.2 31)))), ((e 32), .inl (0, 12, .inl (nF (M.2 32)))), ((e 1), .inl (0, 740, .inl (nF bt)))]
  refine zs_aload_n dX13_takesTeam_4 rfl rfl ?_
  refine zs_aload_n dX13_takesTeam_5 rfl rfl ?_
  refine zs_callV (M := mX13_take) (As := []) (st := [.ref mo]) (Kc := [(mo, .inr (11, fMo e (mg g2 M.1) w))]) (Kr := [((e 14), .inl (0, 800, .inl (mLay g nw))), ((e 24), .inl (0, 12, .inl (nF (M.2 24)))), ((e 25), .inl (0, 12, .inl (nF (M.2 25)))), ((e 26), .inl (0, 12, .inl (nF (M.2 26)))), ((e 27), .inl (0, 12, .inl (nF (M.2 27)))), ((e 28), .inl (0, 360, .inl (nF (M.2 28)))), ((e 29), .inl (0, 12, .inl (nF (M.2 29)))), ((e 30), .inl (0, 12, .inl (nF (M.2 30)))), ((e 31), .inl (0, 30, .inl (nF (M.2 31)))), ((e 32), .inl (0, 12, .inl (nF (M.2 32)))), ((e 1), .inl (0, 740, .inl (nF bt)))]) [0] [1, 2, 3, 4, 5, 6, 7, 8, 9, 10, 11] 0 dX13_takesTeam_6 zl_RX13_235 kX13_take rfl rfl rfl rfl rfl (by decide) rfl rfl (show dd - 1 + 1 ≤ dd by omega) (Nat.zero_le _) (Nat.zero_le _) (Nat.le_of_ble_eq_true rfl) (s_mTake l (dd - 1) mo e (mg g2 M.1) w) (fun r K1 hr => ?_)
  obtain ⟨rfl, rfl⟩ := hr
  refine zs_K (K' := [(mo, .inr (11, fMo e (mg (upd g2 2 (nI 0)) M.1) w)), ((e 14), .inl (0, 800, .inl (mLay g nw))), ((e 24), .inl (0, 12, .inl (nF (M.2 24)))), ((e 25), .inl (0, 12, .inl (nF (M.2 25)))), ((e 26), .inl (0, 12, .inl (nF (M.2 26)))), ((e 27), .inl (0, 12, .inl (nF (M.2 27)))), ((e 28), .inl (0, 360, .inl (nF (M.2 28)))), ((e 29), .inl (0, 12, .inl (nF (M.2 29)))), ((e 30), .inl (0, 12, .inl (nF (M.2 30)))), ((e 31), .inl (0, 30, .inl (nF (M.2 31)))), ((e 32), .inl (0, 12, .inl (nF (M.2 32)))), ((e 1), .inl (0, 740, .inl (nF bt)))]) [11, 0, 1, 2, 3, 4, 5, 6, 7, 8, 9, 10] rfl (by decide) ?_
  refine zs_as (y := nI n) ((hfr2 2 (by decide)).trans h2) ?_
  refine zs_put 0 dX13_takesTeam_9 zf_RX13_304 rfl (Nat.le_of_ble_eq_true rfl) (zPv_i _) ?_
  show zS _ _ _ _ _ _ [(mo, .inr (11, fMo e (mg (upd g2 2 (nI 0)) (un M.1 33 n)) w)), ((e 14), .inl (0, 800, .inl (mLay g nw))), ((e 24), .inl (0, 12, .inl (nF (M.2 24)))), ((e 25), .inl (0, 12, .inl (nF (M.2 25)))), ((e 26), .inl (0, 12, .inl (nF (M.2 26)))), ((e 27), .inl (0, 12, .inl (nF (M.2 27)))), ((e 28), .inl (0, 360, .inl (nF (M.2 28)))), ((e 29), .inl (0, 12, .inl (nF (M.2 29)))), ((e 30), .inl (0, 12, .inl (nF (M.2 30)))), ((e 31), .inl (0, 30, .inl (nF (M.2 31)))), ((e 32), .inl (0, 12, .inl (nF (M.2 32)))), ((e 1), .inl (0, 740, .inl (nF bt)))]
  refine zs_aload_n dX13_takesTeam_12 rfl rfl ?_
  refine zs_get 0 dX13_takesTeam_13 zf_RX13_304 rfl (v := .int (nI n)) rfl ?_
  refine zs_iload_n dX13_takesTeam_16 rfl ?_
  refine zs_iload_n dX13_takesTeam_17 rfl ?_
  refine zs_callS (M := mX13_isIn) (As := [.int (nI n), .int (nI lo), .int (nI hi)]) (st := []) (Kc := []) (Kr := [(mo, .inr (11, fMo e (mg (upd g2 2 (nI 0)) (un M.1 33 n)) w)), ((e 14), .inl (0, 800, .inl (mLay g nw))), ((e 24), .inl (0, 12, .inl (nF (M.2 24)))), ((e 25), .inl (0, 12, .inl (nF (M.2 25)))), ((e 26), .inl (0, 12, .inl (nF (M.2 26)))), ((e 27), .inl (0, 12, .inl (nF (M.2 27)))), ((e 28), .inl (0, 360, .inl (nF (M.2 28)))), ((e 29), .inl (0, 12, .inl (nF (M.2 29)))), ((e 30), .inl (0, 12, .inl (nF (M.2 30)))), ((e 31), .inl (0, 30, .inl (nF (M.2 31)))), ((e 32), .inl (0, 12, .inl (nF (M.2 32)))), ((e 1), .inl (0, 740, .inl (nF bt)))]) [] [0, 1, 2, 3, 4, 5, 6, 7, 8, 9, 10, 11] dX13_takesTeam_18 zl_RX13_219 kX13_isIn rfl rfl rfl rfl rfl (by decide) (show dd - 1 + 1 ≤ dd by omega) (Nat.zero_le _) (Nat.zero_le _) (Nat.le_of_ble_eq_true rfl) (s_mIsIn l (dd - 1) (nI n) (nI lo) (nI hi)) (fun r K1 hr => ?_)
  obtain ⟨rfl, rfl⟩ := hr
  refine zs_K (K' := [(mo, .inr (11, fMo e (mg (upd g2 2 (nI 0)) (un M.1 33 n)) w)), ((e 14), .inl (0, 800, .inl (mLay g nw))), ((e 24), .inl (0, 12, .inl (nF (M.2 24)))), ((e 25), .inl (0, 12, .inl (nF (M.2 25)))), ((e 26), .inl (0, 12, .inl (nF (M.2 26)))), ((e 27), .inl (0, 12, .inl (nF (M.2 27)))), ((e 28), .inl (0, 360, .inl (nF (M.2 28)))), ((e 29), .inl (0, 12, .inl (nF (M.2 29)))), ((e 30), .inl (0, 12, .inl (nF (M.2 30)))), ((e 31), .inl (0, 30, .inl (nF (M.2 31)))), ((e 32), .inl (0, 12, .inl (nF (M.2 32)))), ((e 1), .inl (0, 740, .inl (nF bt)))]) [0, 1, 2, 3, 4, 5, 6, 7, 8, 9, 10, 11] rfl (by decide) ?_
  refine zs_if_ne (tgt := 26) dX13_takesTeam_21 (by decide) (fun c_1 => ?_) (fun c_1 => ?_)
  · have hin := of_decide_eq_true ((bIn_nat (by omega) (by omega) (by omega)).symm.trans (bI_t c_1))
    refine zs_iconst (v := nI 0) dX13_takesTeam_26 (by decide) ?_
    refine zs_istore (lv' := [(4, .int (nI 0)), (0, .ref mo), (1, .int (nI lo)), (2, .int (nI hi)), (3, .int (nI 1))]) dX13_takesTeam_27 (Nat.le_of_ble_eq_true rfl) rfl ?_
    refine zs_iconst (v := nI 0) dX13_takesTeam_29 (by decide) ?_
    refine zs_istore (lv' := [(5, .int (nI 0)), (4, .int (nI 0)), (0, .ref mo), (1, .int (nI lo)), (2, .int (nI hi)), (3, .int (nI 1))]) dX13_takesTeam_30 (Nat.le_of_ble_eq_true rfl) rfl ?_
    refine zs_lv [2, 3, 4, 5, 1, 0] rfl ?_
    refine zs_eq (K' := [(mo, .inr (11, fMo e (mg (upd g2 2 (nI 0)) (un M.1 33 n)) w)), ((e 14), .inl (0, 800, .inl (mLay g nw))), ((e 24), .inl (0, 12, .inl (nF (nCl bt (M.2 24) 0)))), ((e 25), .inl (0, 12, .inl (nF (M.2 25)))), ((e 26), .inl (0, 12, .inl (nF (M.2 26)))), ((e 27), .inl (0, 12, .inl (nF (M.2 27)))), ((e 28), .inl (0, 360, .inl (nF (M.2 28)))), ((e 29), .inl (0, 12, .inl (nF (M.2 29)))), ((e 30), .inl (0, 12, .inl (nF (M.2 30)))), ((e 31), .inl (0, 30, .inl (nF (M.2 31)))), ((e 32), .inl (0, 12, .inl (nF (M.2 32)))), ((e 1), .inl (0, 740, .inl (nF bt)))]) (by rw [nCl_0]) ?_
    refine lp_ttk mo e (upd g2 2 (nI 0)) w (mLay g nw) D (un M.1 33 n, M.2) bt n lo hi (by omega) hR hD hbt rfl hin.1 hin.2 hhi2 (fun r K1 h => ?_) n 0 0 (Nat.zero_add _) (by decide) (fun j hj => by rw [tSt_0]; exact Nat.zero_testBit j) (fun i hi => absurd hi (Nat.not_lt_zero i)) (fun i hi => absurd hi (Nat.not_lt_zero i))
    rcases h with ⟨h1, h2, h3⟩ | ⟨h1, h2, M2, h3⟩
    · exact Or.inl ⟨h1, h2, (upd g2 2 (nI 0)), (un M.1 33 n, uu M.2 24 (nCl bt (M.2 24) n)), mg_tt hfr2, rfl, h22, rfl, fun p hp => (show nCl bt (M.2 24) n p = bt p from nCl_s hp), h3⟩
    · exact Or.inr ⟨h1, h2, (upd g2 2 (nI 0)), M2, mg_tt hfr2, rfl, h22, h3⟩
  · have hno := of_decide_eq_false ((bIn_nat (by omega) (by omega) (by omega)).symm.trans (bI_f c_1))
    refine zs_iconst (v := nI 0) dX13_takesTeam_24 (by decide) ?_
    exact zs_zret dX13_takesTeam_25 rfl (Or.inl rfl) (Or.inr ⟨decide_eq_false (fun h => hno ⟨h.1, h.2.1⟩), rfl, (upd g2 2 (nI 0)), (un M.1 33 n, M.2), mg_tt hfr2, rfl, h22, rfl⟩)
