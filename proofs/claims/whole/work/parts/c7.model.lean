/-! ===== the reference: the best order tried ===== -/
theorem dX13_tryOrder_0 : decode cX13_tryOrder 0 = .ok (.aload_n 0, 1) := by decide +kernel
theorem dX13_tryOrder_1 : decode cX13_tryOrder 1 = .ok (.getfield 386, 3) := by decide +kernel
theorem dX13_tryOrder_4 : decode cX13_tryOrder 4 = .ok (.iconst (-1), 1) := by decide +kernel
theorem dX13_tryOrder_5 : decode cX13_tryOrder 5 = .ok (.if_icmp .eq 12, 3) := by decide +kernel
theorem dX13_tryOrder_8 : decode cX13_tryOrder 8 = .ok (.iload_n 3, 1) := by decide +kernel
theorem dX13_tryOrder_9 : decode cX13_tryOrder 9 = .ok (.aload_n 0, 1) := by decide +kernel
theorem dX13_tryOrder_10 : decode cX13_tryOrder 10 = .ok (.getfield 386, 3) := by decide +kernel
theorem dX13_tryOrder_13 : decode cX13_tryOrder 13 = .ok (.if_icmp .lt 4, 3) := by decide +kernel
theorem dX13_tryOrder_16 : decode cX13_tryOrder 16 = .ok (.return_, 1) := by decide +kernel
theorem dX13_tryOrder_17 : decode cX13_tryOrder 17 = .ok (.iload_n 1, 1) := by decide +kernel
theorem dX13_tryOrder_18 : decode cX13_tryOrder 18 = .ok (.aload_n 0, 1) := by decide +kernel
theorem dX13_tryOrder_19 : decode cX13_tryOrder 19 = .ok (.getfield 389, 3) := by decide +kernel
theorem dX13_tryOrder_22 : decode cX13_tryOrder 22 = .ok (.if_icmp .ne 38, 3) := by decide +kernel
theorem dX13_tryOrder_25 : decode cX13_tryOrder 25 = .ok (.aload_n 0, 1) := by decide +kernel
theorem dX13_tryOrder_26 : decode cX13_tryOrder 26 = .ok (.iload_n 3, 1) := by decide +kernel
theorem dX13_tryOrder_27 : decode cX13_tryOrder 27 = .ok (.putfield 386, 3) := by decide +kernel
theorem dX13_tryOrder_30 : decode cX13_tryOrder 30 = .ok (.iconst 0, 1) := by decide +kernel
theorem dX13_tryOrder_31 : decode cX13_tryOrder 31 = .ok (.istore 4, 2) := by decide +kernel
theorem dX13_tryOrder_33 : decode cX13_tryOrder 33 = .ok (.iload 4, 2) := by decide +kernel
theorem dX13_tryOrder_35 : decode cX13_tryOrder 35 = .ok (.iload_n 1, 1) := by decide +kernel
theorem dX13_tryOrder_36 : decode cX13_tryOrder 36 = .ok (.if_icmp .ge 23, 3) := by decide +kernel
theorem dX13_tryOrder_39 : decode cX13_tryOrder 39 = .ok (.aload_n 0, 1) := by decide +kernel
theorem dX13_tryOrder_40 : decode cX13_tryOrder 40 = .ok (.getfield 78, 3) := by decide +kernel
theorem dX13_tryOrder_43 : decode cX13_tryOrder 43 = .ok (.iload 4, 2) := by decide +kernel
theorem dX13_tryOrder_45 : decode cX13_tryOrder 45 = .ok (.aload_n 0, 1) := by decide +kernel
theorem dX13_tryOrder_46 : decode cX13_tryOrder 46 = .ok (.getfield 72, 3) := by decide +kernel
theorem dX13_tryOrder_49 : decode cX13_tryOrder 49 = .ok (.iload 4, 2) := by decide +kernel
theorem dX13_tryOrder_51 : decode cX13_tryOrder 51 = .ok (.iaload, 1) := by decide +kernel
theorem dX13_tryOrder_52 : decode cX13_tryOrder 52 = .ok (.iastore, 1) := by decide +kernel
theorem dX13_tryOrder_53 : decode cX13_tryOrder 53 = .ok (.iinc 4 1, 3) := by decide +kernel
theorem dX13_tryOrder_56 : decode cX13_tryOrder 56 = .ok (.goto (-23), 3) := by decide +kernel
theorem dX13_tryOrder_59 : decode cX13_tryOrder 59 = .ok (.return_, 1) := by decide +kernel
theorem dX13_tryOrder_60 : decode cX13_tryOrder 60 = .ok (.iconst 0, 1) := by decide +kernel
theorem dX13_tryOrder_61 : decode cX13_tryOrder 61 = .ok (.istore 4, 2) := by decide +kernel
theorem dX13_tryOrder_63 : decode cX13_tryOrder 63 = .ok (.iload 4, 2) := by decide +kernel
theorem dX13_tryOrder_65 : decode cX13_tryOrder 65 = .ok (.aload_n 0, 1) := by decide +kernel
theorem dX13_tryOrder_66 : decode cX13_tryOrder 66 = .ok (.getfield 389, 3) := by decide +kernel
theorem dX13_tryOrder_69 : decode cX13_tryOrder 69 = .ok (.if_icmp .ge 77, 3) := by decide +kernel
theorem dX13_tryOrder_72 : decode cX13_tryOrder 72 = .ok (.iload_n 2, 1) := by decide +kernel
theorem dX13_tryOrder_73 : decode cX13_tryOrder 73 = .ok (.iload 4, 2) := by decide +kernel
theorem dX13_tryOrder_75 : decode cX13_tryOrder 75 = .ok (.invokestatic 258, 3) := by decide +kernel
theorem dX13_tryOrder_78 : decode cX13_tryOrder 78 = .ok (.ifCond .eq 6, 3) := by decide +kernel
theorem dX13_tryOrder_81 : decode cX13_tryOrder 81 = .ok (.goto 59, 3) := by decide +kernel
theorem dX13_tryOrder_84 : decode cX13_tryOrder 84 = .ok (.aload_n 0, 1) := by decide +kernel
theorem dX13_tryOrder_85 : decode cX13_tryOrder 85 = .ok (.getfield 72, 3) := by decide +kernel
theorem dX13_tryOrder_88 : decode cX13_tryOrder 88 = .ok (.iload_n 1, 1) := by decide +kernel
theorem dX13_tryOrder_89 : decode cX13_tryOrder 89 = .ok (.aload_n 0, 1) := by decide +kernel
theorem dX13_tryOrder_90 : decode cX13_tryOrder 90 = .ok (.getfield 75, 3) := by decide +kernel
theorem dX13_tryOrder_93 : decode cX13_tryOrder 93 = .ok (.iload 4, 2) := by decide +kernel
theorem dX13_tryOrder_95 : decode cX13_tryOrder 95 = .ok (.iaload, 1) := by decide +kernel
theorem dX13_tryOrder_96 : decode cX13_tryOrder 96 = .ok (.iastore, 1) := by decide +kernel
theorem dX13_tryOrder_97 : decode cX13_tryOrder 97 = .ok (.aload_n 0, 1) := by decide +kernel
theorem dX13_tryOrder_98 : decode cX13_tryOrder 98 = .ok (.iload_n 1, 1) := by decide +kernel
theorem dX13_tryOrder_99 : decode cX13_tryOrder 99 = .ok (.aload_n 0, 1) := by decide +kernel
theorem dX13_tryOrder_100 : decode cX13_tryOrder 100 = .ok (.getfield 389, 3) := by decide +kernel
theorem dX13_tryOrder_103 : decode cX13_tryOrder 103 = .ok (.aload_n 0, 1) := by decide +kernel
theorem dX13_tryOrder_104 : decode cX13_tryOrder 104 = .ok (.getfield 75, 3) := by decide +kernel
theorem dX13_tryOrder_107 : decode cX13_tryOrder 107 = .ok (.iload 4, 2) := by decide +kernel
theorem dX13_tryOrder_109 : decode cX13_tryOrder 109 = .ok (.iaload, 1) := by decide +kernel
theorem dX13_tryOrder_110 : decode cX13_tryOrder 110 = .ok (.invokevirtual 347, 3) := by decide +kernel
theorem dX13_tryOrder_113 : decode cX13_tryOrder 113 = .ok (.istore 5, 2) := by decide +kernel
theorem dX13_tryOrder_115 : decode cX13_tryOrder 115 = .ok (.aload_n 0, 1) := by decide +kernel
theorem dX13_tryOrder_116 : decode cX13_tryOrder 116 = .ok (.iload_n 1, 1) := by decide +kernel
theorem dX13_tryOrder_117 : decode cX13_tryOrder 117 = .ok (.iconst 1, 1) := by decide +kernel
theorem dX13_tryOrder_118 : decode cX13_tryOrder 118 = .ok (.iadd, 1) := by decide +kernel
theorem dX13_tryOrder_119 : decode cX13_tryOrder 119 = .ok (.iload_n 2, 1) := by decide +kernel
theorem dX13_tryOrder_120 : decode cX13_tryOrder 120 = .ok (.iconst 1, 1) := by decide +kernel
theorem dX13_tryOrder_121 : decode cX13_tryOrder 121 = .ok (.iload 4, 2) := by decide +kernel
theorem dX13_tryOrder_123 : decode cX13_tryOrder 123 = .ok (.ishl, 1) := by decide +kernel
theorem dX13_tryOrder_124 : decode cX13_tryOrder 124 = .ok (.ior, 1) := by decide +kernel
theorem dX13_tryOrder_125 : decode cX13_tryOrder 125 = .ok (.iload 5, 2) := by decide +kernel
theorem dX13_tryOrder_127 : decode cX13_tryOrder 127 = .ok (.iload_n 3, 1) := by decide +kernel
theorem dX13_tryOrder_128 : decode cX13_tryOrder 128 = .ok (.if_icmp .le 8, 3) := by decide +kernel
theorem dX13_tryOrder_131 : decode cX13_tryOrder 131 = .ok (.iload 5, 2) := by decide +kernel
theorem dX13_tryOrder_133 : decode cX13_tryOrder 133 = .ok (.goto 4, 3) := by decide +kernel
theorem dX13_tryOrder_136 : decode cX13_tryOrder 136 = .ok (.iload_n 3, 1) := by decide +kernel
theorem dX13_tryOrder_137 : decode cX13_tryOrder 137 = .ok (.invokevirtual 392, 3) := by decide +kernel
theorem dX13_tryOrder_140 : decode cX13_tryOrder 140 = .ok (.iinc 4 1, 3) := by decide +kernel
theorem dX13_tryOrder_143 : decode cX13_tryOrder 143 = .ok (.goto (-80), 3) := by decide +kernel
theorem dX13_tryOrder_146 : decode cX13_tryOrder 146 = .ok (.return_, 1) := by decide +kernel
/-- what the reference has of the best order -/
def tBs (g : Nat → Int32) (br a : Nat → Nat) (n : Nat) : Option (Nat × (Nat → Nat)) → Prop
  | none => g 50 = -1
  | some (bp, b) => g 50 = nI bp ∧ bp ≤ 1000 ∧ ∀ p, p < n → br p = a (b p)
abbrev pSg (D : zYd) (a σ : Nat → Nat) (n k : Nat) : Nat := pPd D (fun p => a (σ p)) n k
/-- k men stand already, as σ says -/
def tPre (D : zYd) (a : Nat → Nat) (n k : Nat) (σ : Nat → Nat) (m : Nat) (od : Nat → Nat) (Q : (Nat → Nat) → Prop) : Prop := (∀ p, p < k → σ p < n) ∧ (∀ p q, p < k → q < k → σ p = σ q → p = q) ∧ (∀ p, p < k → od p = a (σ p)) ∧ m < 4096 ∧ (∀ j, j < 12 → m.testBit j = tSt σ k j) ∧ ∀ c, oV n c → Q c → ∀ c', oV n c' → lxE k c' σ → lxL n c c'
abbrev tPost (mo : Nat) (e : Nat → Nat) (w : Int64) (nw : Nat → Int32) (D : zYd) (M : zRs) (a : Nat → Nat) (n k : Nat) (σ : Nat → Nat) (g : Nat → Int32) (od : Nat → Nat) (Q : (Nat → Nat) → Prop) (r : Option Value) (K' : zK) : Prop := r = none ∧ ∃ (g' : Nat → Int32) (od' br' : Nat → Nat) (o' : Option (Nat × (Nat → Nat))), mFr [50] g g' ∧ chm (oV n) (oC D a n) n (fun c => Q c ∨ lxE k c σ) o' ∧ tBs g' br' a n o' ∧ (∀ p, p < k → od' p = od p) ∧ K' = [(mo, .inr (11, fMo e (mg g' M.1) w)), ((e 14), .inl (0, 800, .inl nw)), ((e 24), .inl (0, 12, .inl (nF (M.2 24)))), ((e 25), .inl (0, 12, .inl (nF (M.2 25)))), ((e 26), .inl (0, 12, .inl (nF (M.2 26)))), ((e 27), .inl (0, 12, .inl (nF (M.2 27)))), ((e 28), .inl (0, 360, .inl (nF (M.2 28)))), ((e 29), .inl (0, 12, .inl (nF (M.2 29)))), ((e 30), .inl (0, 12, .inl (nF (M.2 30)))), ((e 31), .inl (0, 30, .inl (nF (M.2 31)))), ((e 32), .inl (0, 12, .inl (nF (M.2 32)))), ((e 46), .inl (0, 7, .inl (nF od'))), ((e 47), .inl (0, 7, .inl (nF a))), ((e 48), .inl (0, 7, .inl (nF br')))]
def tOr (l : Launch) (dd mo : Nat) (e : Nat → Nat) (w : Int64) (nw : Nat → Int32) (D : zYd) (M : zRs) (a : Nat → Nat) (n k : Nat) : Prop := ∀ (σ : Nat → Nat) (m : Nat) (g : Nat → Int32) (od br : Nat → Nat) (o : Option (Nat × (Nat → Nat))) (Q : (Nat → Nat) → Prop), g 52 = nI n → tPre D a n k σ m od Q → chm (oV n) (oC D a n) n Q o → tBs g br a n o → zSp l mX13_tryOrder dd 0 0 [.ref mo, .int (nI k), .int (nI m), .int (nI (pSg D a σ n k))] [(mo, .inr (11, fMo e (mg g M.1) w)), ((e 14), .inl (0, 800, .inl nw)), ((e 24), .inl (0, 12, .inl (nF (M.2 24)))), ((e 25), .inl (0, 12, .inl (nF (M.2 25)))), ((e 26), .inl (0, 12, .inl (nF (M.2 26)))), ((e 27), .inl (0, 12, .inl (nF (M.2 27)))), ((e 28), .inl (0, 360, .inl (nF (M.2 28)))), ((e 29), .inl (0, 12, .inl (nF (M.2 29)))), ((e 30), .inl (0, 12, .inl (nF (M.2 30)))), ((e 31), .inl (0, 30, .inl (nF (M.2 31)))), ((e 32), .inl (0, 12, .inl (nF (M.2 32)))), ((e 46), .inl (0, 7, .inl (nF od))), ((e 47), .inl (0, 7, .inl (nF a))), ((e 48), .inl (0, 7, .inl (nF br)))] (fun r K' => tPost mo e w nw D M a n k σ g od Q r K')
theorem tOr_v {n : Nat} {σ : Nat → Nat} (h1 : ∀ p, p < n → σ p < n) (h2 : ∀ p q, p < n → q < n → σ p = σ q → p = q) : oV n σ := ⟨h1, h2⟩
/-- those that take longer anyway -/
theorem chm_pr {D : zYd} {a σ : Nat → Nat} {n k bp : Nat} {b : Nat → Nat} {Q : (Nat → Nat) → Prop} (hk : k ≤ n) (hc : chm (oV n) (oC D a n) n Q (some (bp, b))) (hQ : ∀ c, oV n c → Q c → ∀ c', oV n c' → lxE k c' σ → lxL n c c') (hl : bp ≤ pSg D a σ n k) : chm (oV n) (oC D a n) n (fun c => Q c ∨ lxE k c σ) (some (bp, b)) := by
  refine chm_k hc (fun c hV hE => ?_)
  have h1 : pPd D (fun p => a (c p)) n k = pSg D a σ n k := pPd_c k (fun i hi => by rw [hE i hi])
  have h2 : pPd D (fun p => a (c p)) n k ≤ oC D a n c := pPd_m hk
  exact ⟨by omega, fun _ => Or.inr (hQ b hc.1 hc.2.1 c hV hE)⟩
theorem chm_lf {D : zYd} {a σ : Nat → Nat} {n : Nat} {Q : (Nat → Nat) → Prop} {o : Option (Nat × (Nat → Nat))} (hc : chm (oV n) (oC D a n) n Q o) (h1 : ∀ p, p < n → σ p < n) (h2 : ∀ p q, p < n → q < n → σ p = σ q → p = q) (hl : ∀ bp b, o = some (bp, b) → pSg D a σ n n < bp) : chm (oV n) (oC D a n) n (fun c => Q c ∨ lxE n c σ) (some (pSg D a σ n n, σ)) :=
  chm_n hc ⟨h1, h2⟩ (fun q hq => rfl) hl (fun c hV hE => ⟨Nat.le_of_eq (oC_e (c' := c) (fun q hq => (hE q hq).symm)), fun _ => Or.inl (fun q hq => (hE q hq).symm)⟩)
set_option maxRecDepth 100000 in
theorem lp_to1 {l : Launch} {dd : Nat} {Po : zPo} {K0 : zK} {h0 : List va_E} {Xo : zK → Prop} {Gc : zG → Prop} (mo : Nat) (e : Nat → Nat) (g : Nat → Int32) (w : Int64) (nw : Nat → Int32) (D : zYd) (M : zRs) (a : Nat → Nat) (n : Nat) (od br : Nat → Nat) (k mu lg : Nat) (hk7 : k ≤ 7)
    (hk : zS (l, mX13_tryOrder, dd, Po, K0, h0, Xo, Gc) 0 0 59 [(0, .ref mo)] [] [(mo, .inr (11, fMo e (mg g M.1) w)), ((e 14), .inl (0, 800, .inl nw)), ((e 24), .inl (0, 12, .inl (nF (M.2 24)))), ((e 25), .inl (0, 12, .inl (nF (M.2 25)))), ((e 26), .inl (0, 12, .inl (nF (M.2 26)))), ((e 27), .inl (0, 12, .inl (nF (M.2 27)))), ((e 28), .inl (0, 360, .inl (nF (M.2 28)))), ((e 29), .inl (0, 12, .inl (nF (M.2 29)))), ((e 30), .inl (0, 12, .inl (nF (M.2 30)))), ((e 31), .inl (0, 30, .inl (nF (M.2 31)))), ((e 32), .inl (0, 12, .inl (nF (M.2 32)))), ((e 46), .inl (0, 7, .inl (nF od))), ((e 47), .inl (0, 7, .inl (nF a))), ((e 48), .inl (0, 7, .inl (nF (nCl od br k))))]) :
    ∀ (m i : Nat) , i + m = k → zS (l, mX13_tryOrder, dd, Po, K0, h0, Xo, Gc) 0 0 33 [(0, .ref mo), (1, .int (nI k)), (2, .int (nI mu)), (3, .int (nI lg)), (4, .int (nI i))] [] [(mo, .inr (11, fMo e (mg g M.1) w)), ((e 14), .inl (0, 800, .inl nw)), ((e 24), .inl (0, 12, .inl (nF (M.2 24)))), ((e 25), .inl (0, 12, .inl (nF (M.2 25)))), ((e 26), .inl (0, 12, .inl (nF (M.2 26)))), ((e 27), .inl (0, 12, .inl (nF (M.2 27)))), ((e 28), .inl (0, 360, .inl (nF (M.2 28)))), ((e 29), .inl (0, 12, .inl (nF (M.2 29)))), ((e 30), .inl (0, 12, .inl (nF (M.2 30)))), ((e 31), .inl (0, 30, .inl (nF (M.2 31)))), ((e 32), .inl (0, 12, .inl (nF (M.2 32)))), ((e 46), .inl (0, 7, .inl (nF od))), ((e 47), .inl (0, 7, .inl (nF a))), ((e 48), .inl (0, 7, .inl (nF (nCl od br i))))] := by
  intro m
  induction m with
  | zero =>
    intro i hi
    refine zs_iload dX13_tryOrder_33 rfl ?_
    refine zs_iload_n dX13_tryOrder_35 rfl ?_
    refine zs_icmp_ge (tgt := 59) dX13_tryOrder_36 (by decide) (fun c_1 => ?_) (fun c_1 => (c_1 (by rw [show i = k by omega]; exact Int32.le_refl _) : False).elim)
    rw [show i = k by omega]
    refine zs_lv [0] rfl ?_
    exact hk
  | succ m ih =>
    intro i hi
    refine zs_iload dX13_tryOrder_33 rfl ?_
    refine zs_iload_n dX13_tryOrder_35 rfl ?_
    refine zs_icmp_ge (tgt := 59) dX13_tryOrder_36 (by decide) (fun c_1 => (nI_ge (show i < k by omega) (by omega) c_1 : False).elim) (fun c_1 => ?_)
    refine zs_aload_n dX13_tryOrder_39 rfl rfl ?_
    refine zs_get 0 dX13_tryOrder_40 zf_RX13_78 rfl (v := .ref (e 48)) rfl ?_
    refine zs_iload dX13_tryOrder_43 rfl ?_
    refine zs_aload_n dX13_tryOrder_45 rfl rfl ?_
    refine zs_get 0 dX13_tryOrder_46 zf_RX13_72 rfl (v := .ref (e 46)) rfl ?_
    refine zs_iload dX13_tryOrder_49 rfl ?_
    refine zs_iald 11 dX13_tryOrder_51 rfl (vp_in_nI (by omega) (by omega)) ?_
    refine zs_as (y := nI (od i)) (by rw [nI_c (n := i) (by omega)]; rfl) ?_
    refine zs_iast 13 dX13_tryOrder_52 rfl (vp_in_nI (by omega) (by omega)) ?_
    rw [nI_c (n := i) (by omega), nF_u]
    rw [nCl_u (new := od) (old := br) (k := i) rfl]
    show zS _ _ _ _ _ _ [(mo, .inr (11, fMo e (mg g M.1) w)), ((e 14), .inl (0, 800, .inl nw)), ((e 24), .inl (0, 12, .inl (nF (M.2 24)))), ((e 25), .inl (0, 12, .inl (nF (M.2 25)))), ((e 26), .inl (0, 12, .inl (nF (M.2 26)))), ((e 27), .inl (0, 12, .inl (nF (M.2 27)))), ((e 28), .inl (0, 360, .inl (nF (M.2 28)))), ((e 29), .inl (0, 12, .inl (nF (M.2 29)))), ((e 30), .inl (0, 12, .inl (nF (M.2 30)))), ((e 31), .inl (0, 30, .inl (nF (M.2 31)))), ((e 32), .inl (0, 12, .inl (nF (M.2 32)))), ((e 46), .inl (0, 7, .inl (nF od))), ((e 47), .inl (0, 7, .inl (nF a))), ((e 48), .inl (0, 7, .inl (nF (nCl od br (i + 1)))))]
    refine zs_iinc (v := (nI (i + 1))) (lv' := [(4, .int (nI (i + 1))), (0, .ref mo), (1, .int (nI k)), (2, .int (nI mu)), (3, .int (nI lg))]) dX13_tryOrder_53 rfl (nI_add _ 1) (Nat.le_of_ble_eq_true rfl) rfl ?_
    refine zs_goto (tgt := 33) dX13_tryOrder_56 (by decide) ?_
    refine zs_lv [1, 2, 3, 4, 0] rfl ?_
    exact ih (i + 1) (by omega)
set_option maxRecDepth 100000 in
theorem lp_to2 {l : Launch} {dd : Nat} {Po : zPo} {K0 : zK} {h0 : List va_E} {Xo : zK → Prop} {Gc : zG → Prop} (mo : Nat) (e : Nat → Nat) (g : Nat → Int32) (w : Int64) (nw : Nat → Int32) (D : zYd) (M : zRs) (a : Nat → Nat) (n k : Nat) (σ : Nat → Nat) (m : Nat) (od0 : Nat → Nat) (Q : (Nat → Nat) → Prop) (hd : 3 ≤ dd) (hR : yR D nw) (hD : yI D) (hn : 2 ≤ n ∧ n ≤ 7) (hap : ∀ i, i < n → a i < D.1 0) (hkn : k < n) (hpre : tPre D a n k σ m od0 Q) (hrec : tOr l (dd - 1) mo e w nw D M a n (k + 1)) (hP : ∀ r K', tPost mo e w nw D M a n k σ g od0 Q r K' → Po r K') : ∀ (q i : Nat), i + q = n → ∀ (g1 : Nat → Int32) (od br : Nat → Nat) (o : Option (Nat × (Nat → Nat))), mFr [50] g g1 → g1 52 = nI n → (∀ p, p < k → od p = od0 p) → chm (oV n) (oC D a n) n (fun c => Q c ∨ (lxE k c σ ∧ c k < i)) o → tBs g1 br a n o → zS (l, mX13_tryOrder, dd, Po, K0, h0, Xo, Gc) 0 0 63 [(0, .ref mo), (1, .int (nI k)), (2, .int (nI m)), (3, .int (nI (pSg D a σ n k))), (4, .int (nI i))] [] [(mo, .inr (11, fMo e (mg g1 M.1) w)), ((e 14), .inl (0, 800, .inl nw)), ((e 24), .inl (0, 12, .inl (nF (M.2 24)))), ((e 25), .inl (0, 12, .inl (nF (M.2 25)))), ((e 26), .inl (0, 12, .inl (nF (M.2 26)))), ((e 27), .inl (0, 12, .inl (nF (M.2 27)))), ((e 28), .inl (0, 360, .inl (nF (M.2 28)))), ((e 29), .inl (0, 12, .inl (nF (M.2 29)))), ((e 30), .inl (0, 12, .inl (nF (M.2 30)))), ((e 31), .inl (0, 30, .inl (nF (M.2 31)))), ((e 32), .inl (0, 12, .inl (nF (M.2 32)))), ((e 46), .inl (0, 7, .inl (nF od))), ((e 47), .inl (0, 7, .inl (nF a))), ((e 48), .inl (0, 7, .inl (nF br)))] := by
  obtain ⟨hs1, hs2, hs3, hm, hbits, hQ0⟩ := hpre
  intro q
  induction q with
  | zero =>
    intro i hi g1 od br o hfr h52 hod hc hB
    refine zs_iload dX13_tryOrder_63 rfl ?_
    refine zs_aload_n dX13_tryOrder_65 rfl rfl ?_
    refine zs_get 0 dX13_tryOrder_66 zf_RX13_389 rfl (v := .int (g1 52)) rfl ?_
    refine zs_as (y := nI n) h52 ?_
    refine zs_icmp_ge (tgt := 146) dX13_tryOrder_69 (by decide) (fun c_1 => ?_) (fun c_1 => (c_1 (by rw [show i = n by omega]; exact Int32.le_refl _) : False).elim)
    have hin : i = n := by omega
    subst hin
    exact zs_vret dX13_tryOrder_146 rfl (hP _ _ ⟨rfl, g1, od, br, o, hfr, chm_q (fun c hV => ⟨fun h => h.elim Or.inl (fun z => Or.inr z.1), fun h => h.elim Or.inl (fun z => Or.inr ⟨z, hV.1 k hkn⟩)⟩) hc, hB, hod, rfl⟩)
  | succ q ih =>
    intro i hi g1 od br o hfr h52 hod hc hB
    refine zs_iload dX13_tryOrder_63 rfl ?_
    refine zs_aload_n dX13_tryOrder_65 rfl rfl ?_
    refine zs_get 0 dX13_tryOrder_66 zf_RX13_389 rfl (v := .int (g1 52)) rfl ?_
    refine zs_as (y := nI n) h52 ?_
    refine zs_icmp_ge (tgt := 146) dX13_tryOrder_69 (by decide) (fun c_1 => (nI_ge (show i < n by omega) (by omega) c_1 : False).elim) (fun c_1 => ?_)
    refine zs_iload_n dX13_tryOrder_72 rfl ?_
    refine zs_iload dX13_tryOrder_73 rfl ?_
    refine zs_callS (M := mX13_has) (As := [.int (nI m), .int (nI i)]) (st := []) (Kc := []) (Kr := [(mo, .inr (11, fMo e (mg g1 M.1) w)), ((e 14), .inl (0, 800, .inl nw)), ((e 24), .inl (0, 12, .inl (nF (M.2 24)))), ((e 25), .inl (0, 12, .inl (nF (M.2 25)))), ((e 26), .inl (0, 12, .inl (nF (M.2 26)))), ((e 27), .inl (0, 12, .inl (nF (M.2 27)))), ((e 28), .inl (0, 360, .inl (nF (M.2 28)))), ((e 29), .inl (0, 12, .inl (nF (M.2 29)))), ((e 30), .inl (0, 12, .inl (nF (M.2 30)))), ((e 31), .inl (0, 30, .inl (nF (M.2 31)))), ((e 32), .inl (0, 12, .inl (nF (M.2 32)))), ((e 46), .inl (0, 7, .inl (nF od))), ((e 47), .inl (0, 7, .inl (nF a))), ((e 48), .inl (0, 7, .inl (nF br)))]) [] [0, 1, 2, 3, 4, 5, 6, 7, 8, 9, 10, 11, 12, 13] dX13_tryOrder_75 zl_RX13_258 kX13_has rfl rfl rfl rfl rfl (by decide) (show dd - 1 + 1 ≤ dd by omega) (Nat.zero_le _) (Nat.zero_le _) (Nat.le_of_ble_eq_true rfl) (s_mHas l (dd - 1) (nI m) (nI i)) (fun r K1 hr => ?_)
    obtain ⟨rfl, rfl⟩ := hr
    refine zs_K (K' := [(mo, .inr (11, fMo e (mg g1 M.1) w)), ((e 14), .inl (0, 800, .inl nw)), ((e 24), .inl (0, 12, .inl (nF (M.2 24)))), ((e 25), .inl (0, 12, .inl (nF (M.2 25)))), ((e 26), .inl (0, 12, .inl (nF (M.2 26)))), ((e 27), .inl (0, 12, .inl (nF (M.2 27)))), ((e 28), .inl (0, 360, .inl (nF (M.2 28)))), ((e 29), .inl (0, 12, .inl (nF (M.2 29)))), ((e 30), .inl (0, 12, .inl (nF (M.2 30)))), ((e 31), .inl (0, 30, .inl (nF (M.2 31)))), ((e 32), .inl (0, 12, .inl (nF (M.2 32)))), ((e 46), .inl (0, 7, .inl (nF od))), ((e 47), .inl (0, 7, .inl (nF a))), ((e 48), .inl (0, 7, .inl (nF br)))]) [0, 1, 2, 3, 4, 5, 6, 7, 8, 9, 10, 11, 12, 13] rfl (by decide) ?_
    refine zs_as (y := bI (m.testBit i)) (bt_h hm (by omega)) ?_
    refine zs_if_eq (tgt := 84) dX13_tryOrder_78 (by decide) (fun c_2 => ?_) (fun c_2 => ?_)
    · have hun := bI_f c_2
      have hm_ := hap i (by omega)
      have hno : tSt σ k i = false := by rw [← hbits i (by omega)]; exact hun
      have hnp : ∀ p, p < k → ¬ σ p = i := fun p hp q => absurd (show tSt σ k i = true from decide_eq_true ⟨p, hp, q⟩) (by rw [hno]; decide)
      have hpre2 : tPre D a n (k + 1) (un σ k i) (m ||| 2 ^ i) (un od k (a i)) (fun c => Q c ∨ (lxE k c σ ∧ c k < i)) := by
        refine ⟨fun p hp => ?_, fun p q hp hq z => ?_, fun p hp => ?_, bt_l hm (by omega), fun j hj => ?_, fun c hV hQc c' hV' hE => ?_⟩
        · by_cases z : p = k
          · rw [z, un_s]; omega
          · rw [un_n z]; exact hs1 p (by omega)
        · by_cases zp : p = k
          · by_cases zq : q = k
            · omega
            · rw [zp, un_s, un_n zq] at z; exact absurd z.symm (hnp q (by omega))
          · by_cases zq : q = k
            · rw [zq, un_s, un_n zp] at z; exact absurd z (hnp p (by omega))
            · rw [un_n zp, un_n zq] at z; exact hs2 p q (by omega) (by omega) z
        · by_cases z : p = k
          · rw [z, un_s, un_s]
          · rw [un_n z, un_n z, hod p (by omega)]; exact hs3 p (by omega)
        · rw [bt_x, hbits j hj]
          have e1 : tSt (un σ k i) (k + 1) j = (tSt (un σ k i) k j || decide (un σ k i k = j)) := tSt_s
          rw [e1, un_s]
          have e2 : tSt (un σ k i) k j = tSt σ k j := decide_eq_decide.mpr ⟨fun ⟨x, hx, q⟩ => ⟨x, hx, by rw [un_n (by omega)] at q; exact q⟩, fun ⟨x, hx, q⟩ => ⟨x, hx, by rw [un_n (by omega)]; exact q⟩⟩
          rw [e2]
        · have hE2 : lxE k c' σ := fun q hq => (hE q (by omega)).trans (un_n (by omega))
          rcases hQc with h | h
          · exact hQ0 c hV h c' hV' hE2
          · refine ⟨k, hkn, fun q hq => (h.1 q hq).trans (hE2 q hq).symm, ?_⟩
            have h3 := hE k (by omega)
            rw [un_s] at h3
            omega
      refine zs_aload_n dX13_tryOrder_84 rfl rfl ?_
      refine zs_get 0 dX13_tryOrder_85 zf_RX13_72 rfl (v := .ref (e 46)) rfl ?_
      refine zs_iload_n dX13_tryOrder_88 rfl ?_
      refine zs_aload_n dX13_tryOrder_89 rfl rfl ?_
      refine zs_get 0 dX13_tryOrder_90 zf_RX13_75 rfl (v := .ref (e 47)) rfl ?_
      refine zs_iload dX13_tryOrder_93 rfl ?_
      refine zs_iald 12 dX13_tryOrder_95 rfl (vp_in_nI (by omega) (by omega)) ?_
      refine zs_as (y := nI (a i)) (by rw [nI_c (n := i) (by omega)]; rfl) ?_
      refine zs_iast 11 dX13_tryOrder_96 rfl (vp_in_nI (by omega) (by omega)) ?_
      rw [nI_c (n := k) (by omega), nF_u]
      show zS _ _ _ _ _ _ [(mo, .inr (11, fMo e (mg g1 M.1) w)), ((e 14), .inl (0, 800, .inl nw)), ((e 24), .inl (0, 12, .inl (nF (M.2 24)))), ((e 25), .inl (0, 12, .inl (nF (M.2 25)))), ((e 26), .inl (0, 12, .inl (nF (M.2 26)))), ((e 27), .inl (0, 12, .inl (nF (M.2 27)))), ((e 28), .inl (0, 360, .inl (nF (M.2 28)))), ((e 29), .inl (0, 12, .inl (nF (M.2 29)))), ((e 30), .inl (0, 12, .inl (nF (M.2 30)))), ((e 31), .inl (0, 30, .inl (nF (M.2 31)))), ((e 32), .inl (0, 12, .inl (nF (M.2 32)))), ((e 46), .inl (0, 7, .inl (nF (un od k (a i))))), ((e 47), .inl (0, 7, .inl (nF a))), ((e 48), .inl (0, 7, .inl (nF br)))]
      refine zs_aload_n dX13_tryOrder_97 rfl rfl ?_
      refine zs_iload_n dX13_tryOrder_98 rfl ?_
      refine zs_aload_n dX13_tryOrder_99 rfl rfl ?_
      refine zs_get 0 dX13_tryOrder_100 zf_RX13_389 rfl (v := .int (g1 52)) rfl ?_
      refine zs_as (y := nI n) h52 ?_
      refine zs_aload_n dX13_tryOrder_103 rfl rfl ?_
      refine zs_get 0 dX13_tryOrder_104 zf_RX13_75 rfl (v := .ref (e 47)) rfl ?_
      refine zs_iload dX13_tryOrder_107 rfl ?_
      refine zs_iald 12 dX13_tryOrder_109 rfl (vp_in_nI (by omega) (by omega)) ?_
      refine zs_as (y := nI (a i)) (by rw [nI_c (n := i) (by omega)]; rfl) ?_
      refine zs_callV (M := mX13_timeOf) (As := [.int (nI k), .int (nI n), .int (nI (a i))]) (st := []) (Kc := [(mo, .inr (11, fMo e (mg g1 M.1) w)), ((e 14), .inl (0, 800, .inl nw))]) (Kr := [((e 24), .inl (0, 12, .inl (nF (M.2 24)))), ((e 25), .inl (0, 12, .inl (nF (M.2 25)))), ((e 26), .inl (0, 12, .inl (nF (M.2 26)))), ((e 27), .inl (0, 12, .inl (nF (M.2 27)))), ((e 28), .inl (0, 360, .inl (nF (M.2 28)))), ((e 29), .inl (0, 12, .inl (nF (M.2 29)))), ((e 30), .inl (0, 12, .inl (nF (M.2 30)))), ((e 31), .inl (0, 30, .inl (nF (M.2 31)))), ((e 32), .inl (0, 12, .inl (nF (M.2 32)))), ((e 46), .inl (0, 7, .inl (nF (un od k (a i))))), ((e 47), .inl (0, 7, .inl (nF a))), ((e 48), .inl (0, 7, .inl (nF br)))]) [0, 1] [2, 3, 4, 5, 6, 7, 8, 9, 10, 11, 12, 13] 0 dX13_tryOrder_110 zl_RX13_347 kX13_timeOf rfl rfl rfl rfl rfl (by decide) rfl rfl (show dd - 1 + 1 ≤ dd by omega) (Nat.zero_le _) (Nat.zero_le _) (Nat.le_of_ble_eq_true rfl) (s_mTimeOf l (dd - 1) mo e (mg g1 M.1) w nw D k n (a i) (by omega) hR hD (by omega) (by omega) hm_) (fun r K1 hr => ?_)
      obtain ⟨rfl, rfl⟩ := hr
      refine zs_K (K' := [(mo, .inr (11, fMo e (mg g1 M.1) w)), ((e 14), .inl (0, 800, .inl nw)), ((e 24), .inl (0, 12, .inl (nF (M.2 24)))), ((e 25), .inl (0, 12, .inl (nF (M.2 25)))), ((e 26), .inl (0, 12, .inl (nF (M.2 26)))), ((e 27), .inl (0, 12, .inl (nF (M.2 27)))), ((e 28), .inl (0, 360, .inl (nF (M.2 28)))), ((e 29), .inl (0, 12, .inl (nF (M.2 29)))), ((e 30), .inl (0, 12, .inl (nF (M.2 30)))), ((e 31), .inl (0, 30, .inl (nF (M.2 31)))), ((e 32), .inl (0, 12, .inl (nF (M.2 32)))), ((e 46), .inl (0, 7, .inl (nF (un od k (a i))))), ((e 47), .inl (0, 7, .inl (nF a))), ((e 48), .inl (0, 7, .inl (nF br)))]) [12, 13, 0, 1, 2, 3, 4, 5, 6, 7, 8, 9, 10, 11] rfl (by decide) ?_
      refine zs_istore (lv' := [(5, .int (nI (nTime D.1 D.2.2.2.1 (a i) k n))), (0, .ref mo), (1, .int (nI k)), (2, .int (nI m)), (3, .int (nI (pSg D a σ n k))), (4, .int (nI i))]) dX13_tryOrder_113 (Nat.le_of_ble_eq_true rfl) rfl ?_
      refine zs_aload_n dX13_tryOrder_115 rfl rfl ?_
      refine zs_iload_n dX13_tryOrder_116 rfl ?_
      refine zs_iconst (v := nI 1) dX13_tryOrder_117 (by decide) ?_
      refine zs_iadd dX13_tryOrder_118 ?_
      refine zs_as (y := nI (k + 1)) (nI_add _ _) ?_
      refine zs_iload_n dX13_tryOrder_119 rfl ?_
      refine zs_iconst (v := nI 1) dX13_tryOrder_120 (by decide) ?_
      refine zs_iload dX13_tryOrder_121 rfl ?_
      refine zs_ishl dX13_tryOrder_123 ?_
      refine zs_ior dX13_tryOrder_124 ?_
      refine zs_as (y := nI (m ||| 2 ^ i)) (bt_s hm (by omega)) ?_
      refine zs_iload dX13_tryOrder_125 rfl ?_
      refine zs_iload_n dX13_tryOrder_127 rfl ?_
      have hti : nTime D.1 D.2.2.2.1 (a i) k n ≤ 100 := nTime_le hD.2.2.2.2.2.2.2.2.2.1.2 hD.2.2.2.2.2.2.2.2.2.2.2.2.1.2 hD.2.2.2.2.2.2.2.2.2.2.2.2.2.2.2.2.1.2 hn.1 (hD.2.2.2.2.2.2.2.1 (a i)).1
      have hlg : (pSg D a σ n k) ≤ 100 := pPd_le hD hn.1 k
      refine zs_icmp_le (tgt := 136) dX13_tryOrder_128 (by decide) (fun c_3 => ?_) (fun c_3 => ?_)
      · have c_3 : (nTime D.1 D.2.2.2.1 (a i) k n) ≤ (pSg D a σ n k) := by have hc := c_3; rw [nI_le' (by omega) (by omega)] at hc; exact hc
        refine zs_iload_n dX13_tryOrder_136 rfl ?_
        refine zs_as (y := nI (pSg D a (un σ k i) n (k + 1))) (congrArg nI ?_) ?_
        · show _ = max (pPd D (fun p => a ((un σ k i) p)) n k) (nTime D.1 D.2.2.2.1 (a ((un σ k i) k)) k n)
          rw [pPd_c (g := fun p => a (σ p)) k (fun j hj => by rw [un_n (show j ≠ k by omega)]), un_s]
          exact (Nat.max_eq_left (show (nTime D.1 D.2.2.2.1 (a i) k n) ≤ pSg D a σ n k by omega)).symm
        refine zs_callV (M := mX13_tryOrder) (As := [.int (nI (k + 1)), .int (nI (m ||| 2 ^ i)), .int (nI (pSg D a (un σ k i) n (k + 1)))]) (st := []) (Kc := [(mo, .inr (11, fMo e (mg g1 M.1) w)), ((e 14), .inl (0, 800, .inl nw)), ((e 24), .inl (0, 12, .inl (nF (M.2 24)))), ((e 25), .inl (0, 12, .inl (nF (M.2 25)))), ((e 26), .inl (0, 12, .inl (nF (M.2 26)))), ((e 27), .inl (0, 12, .inl (nF (M.2 27)))), ((e 28), .inl (0, 360, .inl (nF (M.2 28)))), ((e 29), .inl (0, 12, .inl (nF (M.2 29)))), ((e 30), .inl (0, 12, .inl (nF (M.2 30)))), ((e 31), .inl (0, 30, .inl (nF (M.2 31)))), ((e 32), .inl (0, 12, .inl (nF (M.2 32)))), ((e 46), .inl (0, 7, .inl (nF (un od k (a i))))), ((e 47), .inl (0, 7, .inl (nF a))), ((e 48), .inl (0, 7, .inl (nF br)))]) (Kr := []) [0, 1, 2, 3, 4, 5, 6, 7, 8, 9, 10, 11, 12, 13] [] 0 dX13_tryOrder_137 zl_RX13_392 kX13_tryOrder rfl rfl rfl rfl rfl (by decide) rfl rfl (show dd - 1 + 1 ≤ dd by omega) (Nat.zero_le _) (Nat.zero_le _) (Nat.le_of_ble_eq_true rfl) (hrec (un σ k i) (m ||| 2 ^ i) g1 (un od k (a i)) br o (fun c => Q c ∨ (lxE k c σ ∧ c k < i)) h52 hpre2 hc hB) (fun r K1 hr => ?_)
        obtain ⟨rfl, g', od', br', o', hfr', hc', hB', hod', rfl⟩ := hr
        refine zs_K (K' := [(mo, .inr (11, fMo e (mg g' M.1) w)), ((e 14), .inl (0, 800, .inl nw)), ((e 24), .inl (0, 12, .inl (nF (M.2 24)))), ((e 25), .inl (0, 12, .inl (nF (M.2 25)))), ((e 26), .inl (0, 12, .inl (nF (M.2 26)))), ((e 27), .inl (0, 12, .inl (nF (M.2 27)))), ((e 28), .inl (0, 360, .inl (nF (M.2 28)))), ((e 29), .inl (0, 12, .inl (nF (M.2 29)))), ((e 30), .inl (0, 12, .inl (nF (M.2 30)))), ((e 31), .inl (0, 30, .inl (nF (M.2 31)))), ((e 32), .inl (0, 12, .inl (nF (M.2 32)))), ((e 46), .inl (0, 7, .inl (nF od'))), ((e 47), .inl (0, 7, .inl (nF a))), ((e 48), .inl (0, 7, .inl (nF br')))]) [0, 1, 2, 3, 4, 5, 6, 7, 8, 9, 10, 11, 12, 13] rfl (by decide) ?_
        refine zs_iinc (v := (nI (i + 1))) (lv' := [(4, .int (nI (i + 1))), (5, .int (nI (nTime D.1 D.2.2.2.1 (a i) k n))), (0, .ref mo), (1, .int (nI k)), (2, .int (nI m)), (3, .int (nI (pSg D a σ n k)))]) dX13_tryOrder_140 rfl (nI_add _ 1) (Nat.le_of_ble_eq_true rfl) rfl ?_
        refine zs_goto (tgt := 63) dX13_tryOrder_143 (by decide) ?_
        refine zs_lv [2, 3, 4, 5, 0] rfl ?_
        refine ih (i + 1) (by omega) g' od' br' o' (mFr_t hfr hfr' (by decide) (by decide)) ((hfr' 52 (by decide)).trans h52) (fun p hp => (hod' p (by omega)).trans ((un_n (by omega)).trans (hod p hp))) (chm_q (fun c hV => ⟨fun h => ?_, fun h => ?_⟩) hc') hB'
        · rcases h with (h | h) | h
          · exact Or.inl h
          · exact Or.inr ⟨h.1, by omega⟩
          · exact Or.inr ⟨fun q hq => (h q (by omega)).trans (un_n (by omega)), by have h3 := h k (by omega); rw [un_s] at h3; omega⟩
        · rcases h with h | h
          · exact Or.inl (Or.inl h)
          · by_cases z : c k = i
            · exact Or.inr (fun q hq => (Nat.lt_or_eq_of_le (Nat.le_of_lt_succ hq)).elim (fun y => (h.1 q y).trans (un_n (by omega)).symm) (fun y => by rw [y, un_s]; exact z))
            · exact Or.inl (Or.inr ⟨h.1, by omega⟩)
      · have c_3 : ¬ ((nTime D.1 D.2.2.2.1 (a i) k n) ≤ (pSg D a σ n k)) := by have hc := c_3; rw [nI_le' (by omega) (by omega)] at hc; exact hc
        refine zs_iload dX13_tryOrder_131 rfl ?_
        refine zs_goto (tgt := 137) dX13_tryOrder_133 (by decide) ?_
        refine zs_as (y := nI (pSg D a (un σ k i) n (k + 1))) (congrArg nI ?_) ?_
        · show _ = max (pPd D (fun p => a ((un σ k i) p)) n k) (nTime D.1 D.2.2.2.1 (a ((un σ k i) k)) k n)
          rw [pPd_c (g := fun p => a (σ p)) k (fun j hj => by rw [un_n (show j ≠ k by omega)]), un_s]
          exact (Nat.max_eq_right (show pSg D a σ n k ≤ (nTime D.1 D.2.2.2.1 (a i) k n) by omega)).symm
        refine zs_callV (M := mX13_tryOrder) (As := [.int (nI (k + 1)), .int (nI (m ||| 2 ^ i)), .int (nI (pSg D a (un σ k i) n (k + 1)))]) (st := []) (Kc := [(mo, .inr (11, fMo e (mg g1 M.1) w)), ((e 14), .inl (0, 800, .inl nw)), ((e 24), .inl (0, 12, .inl (nF (M.2 24)))), ((e 25), .inl (0, 12, .inl (nF (M.2 25)))), ((e 26), .inl (0, 12, .inl (nF (M.2 26)))), ((e 27), .inl (0, 12, .inl (nF (M.2 27)))), ((e 28), .inl (0, 360, .inl (nF (M.2 28)))), ((e 29), .inl (0, 12, .inl (nF (M.2 29)))), ((e 30), .inl (0, 12, .inl (nF (M.2 30)))), ((e 31), .inl (0, 30, .inl (nF (M.2 31)))), ((e 32), .inl (0, 12, .inl (nF (M.2 32)))), ((e 46), .inl (0, 7, .inl (nF (un od k (a i))))), ((e 47), .inl (0, 7, .inl (nF a))), ((e 48), .inl (0, 7, .inl (nF br)))]) (Kr := []) [0, 1, 2, 3, 4, 5, 6, 7, 8, 9, 10, 11, 12, 13] [] 0 dX13_tryOrder_137 zl_RX13_392 kX13_tryOrder rfl rfl rfl rfl rfl (by decide) rfl rfl (show dd - 1 + 1 ≤ dd by omega) (Nat.zero_le _) (Nat.zero_le _) (Nat.le_of_ble_eq_true rfl) (hrec (un σ k i) (m ||| 2 ^ i) g1 (un od k (a i)) br o (fun c => Q c ∨ (lxE k c σ ∧ c k < i)) h52 hpre2 hc hB) (fun r K1 hr => ?_)
        obtain ⟨rfl, g', od', br', o', hfr', hc', hB', hod', rfl⟩ := hr
        refine zs_K (K' := [(mo, .inr (11, fMo e (mg g' M.1) w)), ((e 14), .inl (0, 800, .inl nw)), ((e 24), .inl (0, 12, .inl (nF (M.2 24)))), ((e 25), .inl (0, 12, .inl (nF (M.2 25)))), ((e 26), .inl (0, 12, .inl (nF (M.2 26)))), ((e 27), .inl (0, 12, .inl (nF (M.2 27)))), ((e 28), .inl (0, 360, .inl (nF (M.2 28)))), ((e 29), .inl (0, 12, .inl (nF (M.2 29)))), ((e 30), .inl (0, 12, .inl (nF (M.2 30)))), ((e 31), .inl (0, 30, .inl (nF (M.2 31)))), ((e 32), .inl (0, 12, .inl (nF (M.2 32)))), ((e 46), .inl (0, 7, .inl (nF od'))), ((e 47), .inl (0, 7, .inl (nF a))), ((e 48), .inl (0, 7, .inl (nF br')))]) [0, 1, 2, 3, 4, 5, 6, 7, 8, 9, 10, 11, 12, 13] rfl (by decide) ?_
        refine zs_iinc (v := (nI (i + 1))) (lv' := [(4, .int (nI (i + 1))), (5, .int (nI (nTime D.1 D.2.2.2.1 (a i) k n))), (0, .ref mo), (1, .int (nI k)), (2, .int (nI m)), (3, .int (nI (pSg D a σ n k)))]) dX13_tryOrder_140 rfl (nI_add _ 1) (Nat.le_of_ble_eq_true rfl) rfl ?_
        refine zs_goto (tgt := 63) dX13_tryOrder_143 (by decide) ?_
        refine zs_lv [2, 3, 4, 5, 0] rfl ?_
        refine ih (i + 1) (by omega) g' od' br' o' (mFr_t hfr hfr' (by decide) (by decide)) ((hfr' 52 (by decide)).trans h52) (fun p hp => (hod' p (by omega)).trans ((un_n (by omega)).trans (hod p hp))) (chm_q (fun c hV => ⟨fun h => ?_, fun h => ?_⟩) hc') hB'
        · rcases h with (h | h) | h
          · exact Or.inl h
          · exact Or.inr ⟨h.1, by omega⟩
          · exact Or.inr ⟨fun q hq => (h q (by omega)).trans (un_n (by omega)), by have h3 := h k (by omega); rw [un_s] at h3; omega⟩
        · rcases h with h | h
          · exact Or.inl (Or.inl h)
          · by_cases z : c k = i
            · exact Or.inr (fun q hq => (Nat.lt_or_eq_of_le (Nat.le_of_lt_succ hq)).elim (fun y => (h.1 q y).trans (un_n (by omega)).symm) (fun y => by rw [y, un_s]; exact z))
            · exact Or.inl (Or.inr ⟨h.1, by omega⟩)
    · have hus := bI_t c_2
      refine zs_goto (tgt := 140) dX13_tryOrder_81 (by decide) ?_
      refine zs_iinc (v := (nI (i + 1))) (lv' := [(4, .int (nI (i + 1))), (0, .ref mo), (1, .int (nI k)), (2, .int (nI m)), (3, .int (nI (pSg D a σ n k)))]) dX13_tryOrder_140 rfl (nI_add _ 1) (Nat.le_of_ble_eq_true rfl) rfl ?_
      refine zs_goto (tgt := 63) dX13_tryOrder_143 (by decide) ?_
      refine zs_lv [1, 2, 3, 4, 0] rfl ?_
      refine ih (i + 1) (by omega) g1 od br o hfr h52 hod (chm_q (fun c hV => ⟨fun h => h.elim Or.inl (fun z => Or.inr ⟨z.1, by omega⟩), fun h => h.elim Or.inl (fun z => Or.inr ⟨z.1, ?_⟩)⟩) hc) hB
      have h1 : tSt σ k i = true := by rw [← hbits i (by omega)]; exact hus
      obtain ⟨p, hp, e1⟩ := of_decide_eq_true h1
      have h2 : ¬ c k = i := fun q => by have := hV.2 k p hkn (by omega) (by rw [q, z.1 p hp, e1]); omega
      have := z.2
      omega
