/-! ===== the reference: best() ===== -/
theorem dX13_best_0 : decode cX13_best 0 = .ok (.aload_n 0, 1) := by decide +kernel
theorem dX13_best_1 : decode cX13_best 1 = .ok (.iconst 0, 1) := by decide +kernel
theorem dX13_best_2 : decode cX13_best 2 = .ok (.putfield 148, 3) := by decide +kernel
theorem dX13_best_5 : decode cX13_best 5 = .ok (.aload_n 0, 1) := by decide +kernel
theorem dX13_best_6 : decode cX13_best 6 = .ok (.iconst 2, 1) := by decide +kernel
theorem dX13_best_7 : decode cX13_best 7 = .ok (.bipush 7, 2) := by decide +kernel
theorem dX13_best_9 : decode cX13_best 9 = .ok (.iconst 1, 1) := by decide +kernel
theorem dX13_best_10 : decode cX13_best 10 = .ok (.invokevirtual 372, 3) := by decide +kernel
theorem dX13_best_13 : decode cX13_best 13 = .ok (.ifCond .ne 5, 3) := by decide +kernel
theorem dX13_best_16 : decode cX13_best 16 = .ok (.iconst (-1), 1) := by decide +kernel
theorem dX13_best_17 : decode cX13_best 17 = .ok (.ireturn, 1) := by decide +kernel
theorem dX13_best_18 : decode cX13_best 18 = .ok (.aload_n 0, 1) := by decide +kernel
theorem dX13_best_19 : decode cX13_best 19 = .ok (.aload_n 0, 1) := by decide +kernel
theorem dX13_best_20 : decode cX13_best 20 = .ok (.getfield 304, 3) := by decide +kernel
theorem dX13_best_23 : decode cX13_best 23 = .ok (.putfield 389, 3) := by decide +kernel
theorem dX13_best_26 : decode cX13_best 26 = .ok (.iconst 0, 1) := by decide +kernel
theorem dX13_best_27 : decode cX13_best 27 = .ok (.istore_n 1, 1) := by decide +kernel
theorem dX13_best_28 : decode cX13_best 28 = .ok (.iload_n 1, 1) := by decide +kernel
theorem dX13_best_29 : decode cX13_best 29 = .ok (.aload_n 0, 1) := by decide +kernel
theorem dX13_best_30 : decode cX13_best 30 = .ok (.getfield 389, 3) := by decide +kernel
theorem dX13_best_33 : decode cX13_best 33 = .ok (.if_icmp .ge 64, 3) := by decide +kernel
theorem dX13_best_36 : decode cX13_best 36 = .ok (.iload_n 1, 1) := by decide +kernel
theorem dX13_best_37 : decode cX13_best 37 = .ok (.istore_n 2, 1) := by decide +kernel
theorem dX13_best_38 : decode cX13_best 38 = .ok (.iload_n 2, 1) := by decide +kernel
theorem dX13_best_39 : decode cX13_best 39 = .ok (.ifCond .le 40, 3) := by decide +kernel
theorem dX13_best_42 : decode cX13_best 42 = .ok (.aload_n 0, 1) := by decide +kernel
theorem dX13_best_43 : decode cX13_best 43 = .ok (.getfield 75, 3) := by decide +kernel
theorem dX13_best_46 : decode cX13_best 46 = .ok (.iload_n 2, 1) := by decide +kernel
theorem dX13_best_47 : decode cX13_best 47 = .ok (.iconst 1, 1) := by decide +kernel
theorem dX13_best_48 : decode cX13_best 48 = .ok (.isub, 1) := by decide +kernel
theorem dX13_best_49 : decode cX13_best 49 = .ok (.iaload, 1) := by decide +kernel
theorem dX13_best_50 : decode cX13_best 50 = .ok (.aload_n 0, 1) := by decide +kernel
theorem dX13_best_51 : decode cX13_best 51 = .ok (.getfield 39, 3) := by decide +kernel
theorem dX13_best_54 : decode cX13_best 54 = .ok (.iload_n 1, 1) := by decide +kernel
theorem dX13_best_55 : decode cX13_best 55 = .ok (.iaload, 1) := by decide +kernel
theorem dX13_best_56 : decode cX13_best 56 = .ok (.if_icmp .le 23, 3) := by decide +kernel
theorem dX13_best_59 : decode cX13_best 59 = .ok (.aload_n 0, 1) := by decide +kernel
theorem dX13_best_60 : decode cX13_best 60 = .ok (.getfield 75, 3) := by decide +kernel
theorem dX13_best_63 : decode cX13_best 63 = .ok (.iload_n 2, 1) := by decide +kernel
theorem dX13_best_64 : decode cX13_best 64 = .ok (.aload_n 0, 1) := by decide +kernel
theorem dX13_best_65 : decode cX13_best 65 = .ok (.getfield 75, 3) := by decide +kernel
theorem dX13_best_68 : decode cX13_best 68 = .ok (.iload_n 2, 1) := by decide +kernel
theorem dX13_best_69 : decode cX13_best 69 = .ok (.iconst 1, 1) := by decide +kernel
theorem dX13_best_70 : decode cX13_best 70 = .ok (.isub, 1) := by decide +kernel
theorem dX13_best_71 : decode cX13_best 71 = .ok (.iaload, 1) := by decide +kernel
theorem dX13_best_72 : decode cX13_best 72 = .ok (.iastore, 1) := by decide +kernel
theorem dX13_best_73 : decode cX13_best 73 = .ok (.iinc 2 (-1), 3) := by decide +kernel
theorem dX13_best_76 : decode cX13_best 76 = .ok (.goto (-38), 3) := by decide +kernel
theorem dX13_best_79 : decode cX13_best 79 = .ok (.aload_n 0, 1) := by decide +kernel
theorem dX13_best_80 : decode cX13_best 80 = .ok (.getfield 75, 3) := by decide +kernel
theorem dX13_best_83 : decode cX13_best 83 = .ok (.iload_n 2, 1) := by decide +kernel
theorem dX13_best_84 : decode cX13_best 84 = .ok (.aload_n 0, 1) := by decide +kernel
theorem dX13_best_85 : decode cX13_best 85 = .ok (.getfield 39, 3) := by decide +kernel
theorem dX13_best_88 : decode cX13_best 88 = .ok (.iload_n 1, 1) := by decide +kernel
theorem dX13_best_89 : decode cX13_best 89 = .ok (.iaload, 1) := by decide +kernel
theorem dX13_best_90 : decode cX13_best 90 = .ok (.iastore, 1) := by decide +kernel
theorem dX13_best_91 : decode cX13_best 91 = .ok (.iinc 1 1, 3) := by decide +kernel
theorem dX13_best_94 : decode cX13_best 94 = .ok (.goto (-66), 3) := by decide +kernel
theorem dX13_best_97 : decode cX13_best 97 = .ok (.aload_n 0, 1) := by decide +kernel
theorem dX13_best_98 : decode cX13_best 98 = .ok (.iconst (-1), 1) := by decide +kernel
theorem dX13_best_99 : decode cX13_best 99 = .ok (.putfield 386, 3) := by decide +kernel
theorem dX13_best_102 : decode cX13_best 102 = .ok (.aload_n 0, 1) := by decide +kernel
theorem dX13_best_103 : decode cX13_best 103 = .ok (.iconst 0, 1) := by decide +kernel
theorem dX13_best_104 : decode cX13_best 104 = .ok (.iconst 0, 1) := by decide +kernel
theorem dX13_best_105 : decode cX13_best 105 = .ok (.iconst 0, 1) := by decide +kernel
theorem dX13_best_106 : decode cX13_best 106 = .ok (.invokevirtual 392, 3) := by decide +kernel
theorem dX13_best_109 : decode cX13_best 109 = .ok (.aload_n 0, 1) := by decide +kernel
theorem dX13_best_110 : decode cX13_best 110 = .ok (.aload_n 0, 1) := by decide +kernel
theorem dX13_best_111 : decode cX13_best 111 = .ok (.getfield 389, 3) := by decide +kernel
theorem dX13_best_114 : decode cX13_best 114 = .ok (.putfield 396, 3) := by decide +kernel
theorem dX13_best_117 : decode cX13_best 117 = .ok (.iconst 0, 1) := by decide +kernel
theorem dX13_best_118 : decode cX13_best 118 = .ok (.istore_n 1, 1) := by decide +kernel
theorem dX13_best_119 : decode cX13_best 119 = .ok (.iload_n 1, 1) := by decide +kernel
theorem dX13_best_120 : decode cX13_best 120 = .ok (.aload_n 0, 1) := by decide +kernel
theorem dX13_best_121 : decode cX13_best 121 = .ok (.getfield 396, 3) := by decide +kernel
theorem dX13_best_124 : decode cX13_best 124 = .ok (.if_icmp .ge 21, 3) := by decide +kernel
theorem dX13_best_127 : decode cX13_best 127 = .ok (.aload_n 0, 1) := by decide +kernel
theorem dX13_best_128 : decode cX13_best 128 = .ok (.getfield 81, 3) := by decide +kernel
theorem dX13_best_131 : decode cX13_best 131 = .ok (.iload_n 1, 1) := by decide +kernel
theorem dX13_best_132 : decode cX13_best 132 = .ok (.aload_n 0, 1) := by decide +kernel
theorem dX13_best_133 : decode cX13_best 133 = .ok (.getfield 78, 3) := by decide +kernel
theorem dX13_best_136 : decode cX13_best 136 = .ok (.iload_n 1, 1) := by decide +kernel
theorem dX13_best_137 : decode cX13_best 137 = .ok (.iaload, 1) := by decide +kernel
theorem dX13_best_138 : decode cX13_best 138 = .ok (.iastore, 1) := by decide +kernel
theorem dX13_best_139 : decode cX13_best 139 = .ok (.iinc 1 1, 3) := by decide +kernel
theorem dX13_best_142 : decode cX13_best 142 = .ok (.goto (-23), 3) := by decide +kernel
theorem dX13_best_145 : decode cX13_best 145 = .ok (.aload_n 0, 1) := by decide +kernel
theorem dX13_best_146 : decode cX13_best 146 = .ok (.getfield 386, 3) := by decide +kernel
theorem dX13_best_149 : decode cX13_best 149 = .ok (.ireturn, 1) := by decide +kernel
/-- those from k on moved one place up, among the first i + 1 -/
def iSh (A : Nat → Nat) (i k : Nat) : Nat → Nat := fun x => if k < x ∧ x ≤ i then A (x - 1) else A x
theorem iSh_0 {A : Nat → Nat} {i : Nat} : iSh A i i = A := by funext x; exact if_neg (by omega)
theorem iSh_s {A : Nat → Nat} {i k : Nat} (h1 : 1 ≤ k) (hk : k ≤ i) : un (iSh A i k) k (A (k - 1)) = iSh A i (k - 1) := by
  funext x
  unfold un iSh
  by_cases h : x = k
  · rw [if_pos h, if_pos (by omega), h]
  · rw [if_neg h]
    by_cases h2 : k < x ∧ x ≤ i
    · rw [if_pos h2, if_pos (by omega)]
    · rw [if_neg h2, if_neg (by omega)]
theorem iSh_at {A : Nat → Nat} {i k : Nat} (h1 : 1 ≤ k) : iSh A i k (k - 1) = A (k - 1) := if_neg (by omega)
theorem ins_v {A : Nat → Nat} {i k v x : Nat} : un (iSh A i k) k v x = if x = k then v else if k < x ∧ x ≤ i then A (x - 1) else A x := rfl
theorem ins_st {A : Nat → Nat} {i k v : Nat} (hA : rSt A i) (hk : k ≤ i) (h1 : k = 0 ∨ A (k - 1) < v) (h2 : ∀ x, k ≤ x → x < i → v < A x) : rSt (un (iSh A i k) k v) (i + 1) := fun x y hxy hy => by
  rw [ins_v, ins_v]
  by_cases hxk : x = k
  · rw [if_pos hxk, if_neg (by omega), if_pos (by omega)]
    exact h2 (y - 1) (by omega) (by omega)
  · rw [if_neg hxk]
    by_cases hx2 : k < x ∧ x ≤ i
    · rw [if_pos hx2, if_neg (by omega), if_pos (by omega)]
      exact hA (x - 1) (y - 1) (by omega) (by omega)
    · rw [if_neg hx2]
      by_cases hyk : y = k
      · rw [if_pos hyk]
        by_cases e : x = k - 1
        · rw [e]; omega
        · have := hA x (k - 1) (by omega) (by omega); omega
      · rw [if_neg hyk]
        by_cases hy2 : k < y ∧ y ≤ i
        · rw [if_pos hy2]
          by_cases e : x = y - 1
          · omega
          · exact hA x (y - 1) (by omega) (by omega)
        · rw [if_neg hy2]
          exact hA x y hxy (by omega)
theorem ins_rm {A f : Nat → Nat} {i k : Nat} (hA : pRm i f A) (hst : rSt (un (iSh A i k) k (f i)) (i + 1)) (hk : k ≤ i) : pRm (i + 1) f (un (iSh A i k) k (f i)) := by
  refine ⟨fun x hx => ?_, fun j hj => ?_, fun x hx y hy e => ?_⟩
  · rw [ins_v]
    by_cases h : x = k
    · exact ⟨i, by omega, if_pos h⟩
    · rw [if_neg h]
      by_cases h2 : k < x ∧ x ≤ i
      · obtain ⟨j, hj, e⟩ := hA.1 (x - 1) (by omega)
        exact ⟨j, by omega, by rw [if_pos h2]; exact e⟩
      · obtain ⟨j, hj, e⟩ := hA.1 x (by omega)
        exact ⟨j, by omega, by rw [if_neg h2]; exact e⟩
  · by_cases e : j = i
    · exact ⟨k, by omega, by rw [ins_v, if_pos rfl, e]⟩
    · obtain ⟨x, hx, e2⟩ := hA.2.1 j (by omega)
      by_cases h : x < k
      · exact ⟨x, by omega, by rw [ins_v, if_neg (by omega), if_neg (by omega)]; exact e2⟩
      · exact ⟨x + 1, by omega, by rw [ins_v, if_neg (by omega), if_pos (by omega)]; exact e2⟩
  · rcases Nat.lt_trichotomy x y with z | z | z
    · have := hst x y z hy; omega
    · exact z
    · have := hst y x z hx; omega
theorem srt_u {f g a : Nat → Nat} {n : Nat} (hg : rSt g n) (ha : rSt a n) (pg : pRm n f g) (pa : pRm n f a) : ∀ p, p < n → g p = a p := by
  have key : ∀ (g a : Nat → Nat), rSt g n → rSt a n → pRm n f g → pRm n f a → ∀ p, p < n → (∀ q, q < p → g q = a q) → a p ≤ g p := fun g a hg ha pg pa p hp ih => by
    obtain ⟨j, hj, e⟩ := pg.1 p hp
    obtain ⟨x, hx, e2⟩ := pa.2.1 j hj
    by_cases h : x < p
    · have h1 := hg x p h hp
      rw [ih x h] at h1
      omega
    · by_cases h2 : x = p
      · rw [← h2, e2, h2, e]; exact Nat.le_refl _
      · have := ha p x (by omega) hx
        omega
  intro p
  induction p using Nat.strongRecOn with
  | ind p ih =>
    intro hp
    have h1 := key g a hg ha pg pa p hp (fun q hq => ih q hq (by omega))
    have h2 := key a g ha hg pa pg p hp (fun q hq => (ih q hq (by omega)).symm)
    omega
theorem chm_c {V Q : (Nat → Nat) → Prop} {cost cost' : (Nat → Nat) → Nat} {n bp : Nat} {b : Nat → Nat} (h : ∀ c, V c → cost c = cost' c) (hc : chm V cost n Q (some (bp, b))) : chm V cost' n Q (some (bp, b)) :=
  ⟨hc.1, hc.2.1, by rw [← h b hc.1]; exact hc.2.2.1, fun c hV hQ => by rw [← h c hV]; exact hc.2.2.2 c hV hQ⟩
set_option maxRecDepth 100000 in
theorem lp_mb1 {l : Launch} {dd : Nat} {Po : zPo} {K0 : zK} {h0 : List va_E} {Xo : zK → Prop} {Gc : zG → Prop} (mo : Nat) (e : Nat → Nat) (g : Nat → Int32) (w : Int64) (nw : Nat → Int32) (M : zRs) (bt f : Nat → Nat) (n : Nat) (od br : Nat → Nat) (bd : Nat → Int32) (hn : 2 ≤ n ∧ n ≤ 7) (h52 : g 52 = nI n) (hft : ∀ p, p < n → M.2 24 p = f p) (hf12 : ∀ p, p < n → f p < 1000) (i : Nat) (hin : i < n) (A : Nat → Nat) (hA12 : ∀ x, x < i → A x < 1000) (hne : ∀ x, x < i → ¬ A x = f i) (hk : ∀ k, k ≤ i → (k = 0 ∨ A (k - 1) < f i) → (∀ x, k ≤ x → x < i → f i < A x) → zS (l, mX13_best, dd, Po, K0, h0, Xo, Gc) 0 0 79 [(0, .ref mo), (1, .int (nI i)), (2, .int (nI k))] [] [(mo, .inr (11, fMo e (mg g M.1) w)), ((e 14), .inl (0, 800, .inl nw)), ((e 24), .inl (0, 12, .inl (nF (M.2 24)))), ((e 25), .inl (0, 12, .inl (nF (M.2 25)))), ((e 26), .inl (0, 12, .inl (nF (M.2 26)))), ((e 27), .inl (0, 12, .inl (nF (M.2 27)))), ((e 28), .inl (0, 360, .inl (nF (M.2 28)))), ((e 29), .inl (0, 12, .inl (nF (M.2 29)))), ((e 30), .inl (0, 12, .inl (nF (M.2 30)))), ((e 31), .inl (0, 30, .inl (nF (M.2 31)))), ((e 32), .inl (0, 12, .inl (nF (M.2 32)))), ((e 1), .inl (0, 740, .inl (nF bt))), ((e 46), .inl (0, 7, .inl (nF od))), ((e 47), .inl (0, 7, .inl (nF (iSh A i k)))), ((e 48), .inl (0, 7, .inl (nF br))), ((e 49), .inl (0, 7, .inl bd))]) : ∀ (q k : Nat), k ≤ i → k ≤ q → (∀ x, k ≤ x → x < i → f i < A x) → zS (l, mX13_best, dd, Po, K0, h0, Xo, Gc) 0 0 38 [(0, .ref mo), (1, .int (nI i)), (2, .int (nI k))] [] [(mo, .inr (11, fMo e (mg g M.1) w)), ((e 14), .inl (0, 800, .inl nw)), ((e 24), .inl (0, 12, .inl (nF (M.2 24)))), ((e 25), .inl (0, 12, .inl (nF (M.2 25)))), ((e 26), .inl (0, 12, .inl (nF (M.2 26)))), ((e 27), .inl (0, 12, .inl (nF (M.2 27)))), ((e 28), .inl (0, 360, .inl (nF (M.2 28)))), ((e 29), .inl (0, 12, .inl (nF (M.2 29)))), ((e 30), .inl (0, 12, .inl (nF (M.2 30)))), ((e 31), .inl (0, 30, .inl (nF (M.2 31)))), ((e 32), .inl (0, 12, .inl (nF (M.2 32)))), ((e 1), .inl (0, 740, .inl (nF bt))), ((e 46), .inl (0, 7, .inl (nF od))), ((e 47), .inl (0, 7, .inl (nF (iSh A i k)))), ((e 48), .inl (0, 7, .inl (nF br))), ((e 49), .inl (0, 7, .inl bd))] := by
  intro q
  induction q with
  | zero =>
    intro k hki hq hx
    refine zs_iload_n dX13_best_38 rfl ?_
    refine zs_if_le (tgt := 79) dX13_best_39 (by decide) (fun c_1 => ?_) (fun c_1 => (c_1 (by rw [show k = 0 by omega]; exact Int32.le_refl _) : False).elim)
    refine zs_lv [0, 1, 2] rfl ?_
    exact hk k (by omega) (Or.inl (by omega)) hx
  | succ q ih =>
    intro k hki hq hx
    refine zs_iload_n dX13_best_38 rfl ?_
    refine zs_if_le (tgt := 79) dX13_best_39 (by decide) (fun c_1 => ?_) (fun c_1 => ?_)
    · have c_1 : k ≤ 0 := by have hc := c_1; rw [show (0 : Int32) = nI 0 from rfl] at hc; rw [nI_le' (by omega) (by omega)] at hc; exact hc
      refine zs_lv [0, 1, 2] rfl ?_
      exact hk k (by omega) (Or.inl (by omega)) hx
    · have c_1 : ¬ (k ≤ 0) := by have hc := c_1; rw [show (0 : Int32) = nI 0 from rfl] at hc; rw [nI_le' (by omega) (by omega)] at hc; exact hc
      refine zs_aload_n dX13_best_42 rfl rfl ?_
      refine zs_get 0 dX13_best_43 zf_RX13_75 rfl (v := .ref (e 47)) rfl ?_
      refine zs_iload_n dX13_best_46 rfl ?_
      refine zs_iconst (v := nI 1) dX13_best_47 (by decide) ?_
      refine zs_isub dX13_best_48 ?_
      refine zs_as (y := nI (k - 1)) (nI_sub (by omega)) ?_
      refine zs_iald 13 dX13_best_49 rfl (vp_in_nI (by omega) (by omega)) ?_
      refine zs_as (y := nI (A (k - 1))) (by rw [nI_c (n := k - 1) (by omega)]; exact congrArg nI (iSh_at (by omega))) ?_
      refine zs_aload_n dX13_best_50 rfl rfl ?_
      refine zs_get 0 dX13_best_51 zf_RX13_39 rfl (v := .ref (e 24)) rfl ?_
      refine zs_iload_n dX13_best_54 rfl ?_
      refine zs_iald 2 dX13_best_55 rfl (vp_in_nI (by omega) (by omega)) ?_
      refine zs_as (y := nI (f i)) (by rw [nI_c (n := i) (by omega)]; exact congrArg nI (hft i (by omega))) ?_
      have hb1 := hA12 (k - 1) (by omega)
      have hb2 := hf12 i (by omega)
      refine zs_icmp_le (tgt := 79) dX13_best_56 (by decide) (fun c_2 => ?_) (fun c_2 => ?_)
      · have c_2 : (A (k - 1)) ≤ (f i) := by have hc := c_2; rw [nI_le' (by omega) (by omega)] at hc; exact hc
        refine zs_lv [0, 1, 2] rfl ?_
        exact hk k (by omega) (Or.inr (by have := hne (k - 1) (by omega); omega)) hx
      · have c_2 : ¬ ((A (k - 1)) ≤ (f i)) := by have hc := c_2; rw [nI_le' (by omega) (by omega)] at hc; exact hc
        refine zs_aload_n dX13_best_59 rfl rfl ?_
        refine zs_get 0 dX13_best_60 zf_RX13_75 rfl (v := .ref (e 47)) rfl ?_
        refine zs_iload_n dX13_best_63 rfl ?_
        refine zs_aload_n dX13_best_64 rfl rfl ?_
        refine zs_get 0 dX13_best_65 zf_RX13_75 rfl (v := .ref (e 47)) rfl ?_
        refine zs_iload_n dX13_best_68 rfl ?_
        refine zs_iconst (v := nI 1) dX13_best_69 (by decide) ?_
        refine zs_isub dX13_best_70 ?_
        refine zs_as (y := nI (k - 1)) (nI_sub (by omega)) ?_
        refine zs_iald 13 dX13_best_71 rfl (vp_in_nI (by omega) (by omega)) ?_
        refine zs_as (y := nI (A (k - 1))) (by rw [nI_c (n := k - 1) (by omega)]; exact congrArg nI (iSh_at (by omega))) ?_
        refine zs_iast 13 dX13_best_72 rfl (vp_in_nI (by omega) (by omega)) ?_
        rw [nI_c (n := k) (by omega), nF_u]
        show zS _ _ _ _ _ _ [(mo, .inr (11, fMo e (mg g M.1) w)), ((e 14), .inl (0, 800, .inl nw)), ((e 24), .inl (0, 12, .inl (nF (M.2 24)))), ((e 25), .inl (0, 12, .inl (nF (M.2 25)))), ((e 26), .inl (0, 12, .inl (nF (M.2 26)))), ((e 27), .inl (0, 12, .inl (nF (M.2 27)))), ((e 28), .inl (0, 360, .inl (nF (M.2 28)))), ((e 29), .inl (0, 12, .inl (nF (M.2 29)))), ((e 30), .inl (0, 12, .inl (nF (M.2 30)))), ((e 31), .inl (0, 30, .inl (nF (M.2 31)))), ((e 32), .inl (0, 12, .inl (nF (M.2 32)))), ((e 1), .inl (0, 740, .inl (nF bt))), ((e 46), .inl (0, 7, .inl (nF od))), ((e 47), .inl (0, 7, .inl (nF (un (iSh A i k) k (A (k - 1)))))), ((e 48), .inl (0, 7, .inl (nF br))), ((e 49), .inl (0, 7, .inl bd))]
        refine zs_iinc (v := (nI (k - 1))) (lv' := [(2, .int (nI (k - 1))), (0, .ref mo), (1, .int (nI i))]) dX13_best_73 rfl (nI_dec (by omega)) (Nat.le_of_ble_eq_true rfl) rfl ?_
        refine zs_goto (tgt := 38) dX13_best_76 (by decide) ?_
        refine zs_lv [1, 2, 0] rfl ?_
        rw [iSh_s (by omega) (by omega)]
        exact ih (k - 1) (by omega) (by omega) (fun x h1 h2 => by
          by_cases z : x = k - 1
          · rw [z]; omega
          · exact hx x (by omega) h2)
set_option maxRecDepth 100000 in
theorem lp_mb2 {l : Launch} {dd : Nat} {Po : zPo} {K0 : zK} {h0 : List va_E} {Xo : zK → Prop} {Gc : zG → Prop} (mo : Nat) (e : Nat → Nat) (g : Nat → Int32) (w : Int64) (nw : Nat → Int32) (M : zRs) (bt f : Nat → Nat) (n : Nat) (od br : Nat → Nat) (bd : Nat → Int32) (hn : 2 ≤ n ∧ n ≤ 7) (h52 : g 52 = nI n) (hft : ∀ p, p < n → M.2 24 p = f p) (hf12 : ∀ p, p < n → f p < 1000) (hfu : ∀ i, i < n → ∀ j, j < i → f j ≠ f i) (hk : ∀ A, rSt A n → pRm n f A → zS (l, mX13_best, dd, Po, K0, h0, Xo, Gc) 0 0 97 [(0, .ref mo)] [] [(mo, .inr (11, fMo e (mg g M.1) w)), ((e 14), .inl (0, 800, .inl nw)), ((e 24), .inl (0, 12, .inl (nF (M.2 24)))), ((e 25), .inl (0, 12, .inl (nF (M.2 25)))), ((e 26), .inl (0, 12, .inl (nF (M.2 26)))), ((e 27), .inl (0, 12, .inl (nF (M.2 27)))), ((e 28), .inl (0, 360, .inl (nF (M.2 28)))), ((e 29), .inl (0, 12, .inl (nF (M.2 29)))), ((e 30), .inl (0, 12, .inl (nF (M.2 30)))), ((e 31), .inl (0, 30, .inl (nF (M.2 31)))), ((e 32), .inl (0, 12, .inl (nF (M.2 32)))), ((e 1), .inl (0, 740, .inl (nF bt))), ((e 46), .inl (0, 7, .inl (nF od))), ((e 47), .inl (0, 7, .inl (nF A))), ((e 48), .inl (0, 7, .inl (nF br))), ((e 49), .inl (0, 7, .inl bd))]) : ∀ (q i : Nat) (A : Nat → Nat), i + q = n → rSt A i → pRm i f A → zS (l, mX13_best, dd, Po, K0, h0, Xo, Gc) 0 0 28 [(0, .ref mo), (1, .int (nI i))] [] [(mo, .inr (11, fMo e (mg g M.1) w)), ((e 14), .inl (0, 800, .inl nw)), ((e 24), .inl (0, 12, .inl (nF (M.2 24)))), ((e 25), .inl (0, 12, .inl (nF (M.2 25)))), ((e 26), .inl (0, 12, .inl (nF (M.2 26)))), ((e 27), .inl (0, 12, .inl (nF (M.2 27)))), ((e 28), .inl (0, 360, .inl (nF (M.2 28)))), ((e 29), .inl (0, 12, .inl (nF (M.2 29)))), ((e 30), .inl (0, 12, .inl (nF (M.2 30)))), ((e 31), .inl (0, 30, .inl (nF (M.2 31)))), ((e 32), .inl (0, 12, .inl (nF (M.2 32)))), ((e 1), .inl (0, 740, .inl (nF bt))), ((e 46), .inl (0, 7, .inl (nF od))), ((e 47), .inl (0, 7, .inl (nF A))), ((e 48), .inl (0, 7, .inl (nF br))), ((e 49), .inl (0, 7, .inl bd))] := by
  intro q
  induction q with
  | zero =>
    intro i A hi hst hA
    refine zs_iload_n dX13_best_28 rfl ?_
    refine zs_aload_n dX13_best_29 rfl rfl ?_
    refine zs_get 0 dX13_best_30 zf_RX13_389 rfl (v := .int (g 52)) rfl ?_
    refine zs_as (y := nI n) h52 ?_
    refine zs_icmp_ge (tgt := 97) dX13_best_33 (by decide) (fun c_1 => ?_) (fun c_1 => (c_1 (by rw [show i = n by omega]; exact Int32.le_refl _) : False).elim)
    have hin : i = n := by omega
    subst hin
    refine zs_lv [0] rfl ?_
    exact hk A hst hA
  | succ q ih =>
    intro i A hi hst hA
    refine zs_iload_n dX13_best_28 rfl ?_
    refine zs_aload_n dX13_best_29 rfl rfl ?_
    refine zs_get 0 dX13_best_30 zf_RX13_389 rfl (v := .int (g 52)) rfl ?_
    refine zs_as (y := nI n) h52 ?_
    refine zs_icmp_ge (tgt := 97) dX13_best_33 (by decide) (fun c_1 => (nI_ge (show i < n by omega) (by omega) c_1 : False).elim) (fun c_1 => ?_)
    refine zs_iload_n dX13_best_36 rfl ?_
    refine zs_istore_n (lv' := [(2, .int (nI i)), (0, .ref mo), (1, .int (nI i))]) dX13_best_37 (Nat.le_of_ble_eq_true rfl) rfl ?_
    refine zs_lv [1, 2, 0] rfl ?_
    refine zs_eq (K' := [(mo, .inr (11, fMo e (mg g M.1) w)), ((e 14), .inl (0, 800, .inl nw)), ((e 24), .inl (0, 12, .inl (nF (M.2 24)))), ((e 25), .inl (0, 12, .inl (nF (M.2 25)))), ((e 26), .inl (0, 12, .inl (nF (M.2 26)))), ((e 27), .inl (0, 12, .inl (nF (M.2 27)))), ((e 28), .inl (0, 360, .inl (nF (M.2 28)))), ((e 29), .inl (0, 12, .inl (nF (M.2 29)))), ((e 30), .inl (0, 12, .inl (nF (M.2 30)))), ((e 31), .inl (0, 30, .inl (nF (M.2 31)))), ((e 32), .inl (0, 12, .inl (nF (M.2 32)))), ((e 1), .inl (0, 740, .inl (nF bt))), ((e 46), .inl (0, 7, .inl (nF od))), ((e 47), .inl (0, 7, .inl (nF (iSh A i i)))), ((e 48), .inl (0, 7, .inl (nF br))), ((e 49), .inl (0, 7, .inl bd))]) (by rw [iSh_0]) ?_
    refine lp_mb1 mo e g w nw M bt f n od br bd hn h52 hft hf12 i (by omega) A (fun x hx => by obtain ⟨j, hj, q⟩ := hA.1 x hx; rw [q]; exact hf12 j (by omega)) (fun x hx q => by obtain ⟨j, hj, q2⟩ := hA.1 x hx; have := hfu i (by omega) j hj; omega) (fun k hki hk1 hk2 => ?_) i i (Nat.le_refl _) (Nat.le_refl _) (fun x h1 h2 => absurd h1 (by omega))
    refine zs_aload_n dX13_best_79 rfl rfl ?_
    refine zs_get 0 dX13_best_80 zf_RX13_75 rfl (v := .ref (e 47)) rfl ?_
    refine zs_iload_n dX13_best_83 rfl ?_
    refine zs_aload_n dX13_best_84 rfl rfl ?_
    refine zs_get 0 dX13_best_85 zf_RX13_39 rfl (v := .ref (e 24)) rfl ?_
    refine zs_iload_n dX13_best_88 rfl ?_
    refine zs_iald 2 dX13_best_89 rfl (vp_in_nI (by omega) (by omega)) ?_
    refine zs_as (y := nI (f i)) (by rw [nI_c (n := i) (by omega)]; exact congrArg nI (hft i (by omega))) ?_
    refine zs_iast 13 dX13_best_90 rfl (vp_in_nI (by omega) (by omega)) ?_
    rw [nI_c (n := k) (by omega), nF_u]
    show zS _ _ _ _ _ _ [(mo, .inr (11, fMo e (mg g M.1) w)), ((e 14), .inl (0, 800, .inl nw)), ((e 24), .inl (0, 12, .inl (nF (M.2 24)))), ((e 25), .inl (0, 12, .inl (nF (M.2 25)))), ((e 26), .inl (0, 12, .inl (nF (M.2 26)))), ((e 27), .inl (0, 12, .inl (nF (M.2 27)))), ((e 28), .inl (0, 360, .inl (nF (M.2 28)))), ((e 29), .inl (0, 12, .inl (nF (M.2 29)))), ((e 30), .inl (0, 12, .inl (nF (M.2 30)))), ((e 31), .inl (0, 30, .inl (nF (M.2 31)))), ((e 32), .inl (0, 12, .inl (nF (M.2 32)))), ((e 1), .inl (0, 740, .inl (nF bt))), ((e 46), .inl (0, 7, .inl (nF od))), ((e 47), .inl (0, 7, .inl (nF (un (iSh A i k) k (f i))))), ((e 48), .inl (0, 7, .inl (nF br))), ((e 49), .inl (0, 7, .inl bd))]
    refine zs_iinc (v := (nI (i + 1))) (lv' := [(1, .int (nI (i + 1))), (0, .ref mo), (2, .int (nI k))]) dX13_best_91 rfl (nI_add _ 1) (Nat.le_of_ble_eq_true rfl) rfl ?_
    refine zs_goto (tgt := 28) dX13_best_94 (by decide) ?_
    have hst2 := ins_st (v := f i) hst hki hk1 hk2
    refine zs_lv [1, 0] rfl ?_
    exact ih (i + 1) (un (iSh A i k) k (f i)) (by omega) hst2 (ins_rm hA hst2 hki)
