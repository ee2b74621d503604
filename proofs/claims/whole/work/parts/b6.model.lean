/-! ===== the reference: a team begun, its ticks, what it throws ===== -/
theorem mg_f {S : List Nat} {g g' : Nat → Int32} {s : Nat → Nat} (h : mFr S (mg g s) g') (hS : ∀ k, 33 ≤ k ∧ k ≤ 42 ∧ k ≠ 34 → k ∉ S) : g' = mg g' s := by
  funext k
  unfold mg
  by_cases hk : 33 ≤ k ∧ k ≤ 42 ∧ k ≠ 34
  · rw [if_pos hk, h k (hS k hk), mg, if_pos hk]
  · rw [if_neg hk]
/-- a team begun: by how, so many -/
def tmSt (D : zYd) (h n : Nat) (s : zRs) : zRs :=
  (un (un (un (un (un (un (un (un s.1 33 (if h = 2 then (if D.1 6 < n then D.1 6 else n) else n)) 36 0) 37 (D.1 6)) 38 0) 39 0) 40 0) 41 0) 42 0,
   uu (uu (uu (uu (uu (uu s.2 25 (nCl (fun _ => 0) (s.2 25) 12)) 26 (nCl (fun _ => 0) (s.2 26) 12)) 27 (nCl (fun _ => 0) (s.2 27) 12)) 29 (nCl (fun _ => 0) (s.2 29) 12)) 30 (nCl (fun _ => 0) (s.2 30) 12)) 32 (nCl (fun _ => 0) (s.2 32) 12))
/-- the well told -/
def tmWl (s : zRs) (w : Nat) : zRs := (un s.1 35 w, s.2)
theorem tR_beg {D : zYd} {ff : Nat → Nat} {first n w : Nat} {ro M : zRs} (hD : yI D) (hn : 2 ≤ n ∧ n ≤ 12) (ht : ∀ p, p < n → M.2 24 p = ff (first + p) ∧ ff (first + p) < D.1 0) (hw : M.1 35 = w) (hT : tT D M) : tR D (cBeg D.1 D.2.2.2.1 ff first n w ro) (tmSt D 1 n M) := by
  have z12 : ∀ (f : Nat → Nat) p, p < n → nCl (fun _ => 0) f 12 p = 0 := fun f p hp => nCl_s (by omega)
  have zn : ∀ (f : Nat → Nat) p, p < n → nCl (fun _ => 0) f n p = 0 := fun f p hp => nCl_s hp
  refine tR_0 ⟨rfl, hw, rfl, rfl, rfl, rfl, rfl, rfl⟩ (fun p hp => ?_) rfl (fun x hx => (show nCl (fun _ => 0) (ro.2 10) 100 x = 0 from nCl_s hx)) rfl rfl rfl (fun p hp => ?_) hT
  · have hp : p < n := hp
    have h1 := ht p hp
    have e1 : (cBeg D.1 D.2.2.2.1 ff first n w ro).2 1 p = ff (first + p) := (show nCl (fun i => ff (first + i)) (ro.2 1) n p = ff (first + p) from nCl_s hp)
    have e3 : (cBeg D.1 D.2.2.2.1 ff first n w ro).2 3 p = 0 := zn (ro.2 3) p hp
    have e8 : (cBeg D.1 D.2.2.2.1 ff first n w ro).2 8 p = 0 := zn (ro.2 8) p hp
    refine ⟨by rw [e1]; exact h1.2, ?_, by rw [e1]; exact h1.1, ?_, ?_, ?_, ?_, ?_, fun i hi => by rw [e8] at hi; exact absurd hi (Nat.not_lt_zero i)⟩
    · rw [e1]
      exact (show nCl (fun i => nTime D.1 D.2.2.2.1 (ff (first + i)) i n) (ro.2 2) n p = nTime D.1 D.2.2.2.1 (ff (first + p)) p n from nCl_s hp)
    · rw [e3]; exact z12 (M.2 25) p hp
    · rw [if_pos e3]; exact z12 (M.2 26) p hp
    · exact (show nCl (fun _ => 0) (M.2 27) 12 p = nCl (fun _ => 0) (ro.2 5) n p from (z12 _ p hp).trans (zn _ p hp).symm)
    · rw [e8]; exact z12 (M.2 29) p hp
    · exact (show nCl (fun _ => 0) (M.2 30) 12 p = nCl (fun _ => 0) (ro.2 9) n p from (z12 _ p hp).trans (zn _ p hp).symm)
  · have hp : p < n := hp
    exact ⟨z12 (M.2 26) p hp, z12 (M.2 29) p hp⟩
theorem uR_beg {D : zYd} {ff : Nat → Nat} {first n w : Nat} {ru M : zRs} (hD : yI D) (hn : n ≤ 12) (ht : ∀ p, p < n → M.2 24 p = ff (first + p) ∧ ff (first + p) < D.1 0) (hw : M.1 35 = w) (hw9 : w ≤ 9999) (hI : rI ru) (hT : tT D M) : uR D (rBeg D.1 D.2.2.2.2.1 ff first n w ru) (tmSt D 2 n M) := by
  have hmn := Nat.min_le_left n (D.1 6)
  have z12 : ∀ (f : Nat → Nat) p, p < min n (D.1 6) → nCl (fun _ => 0) f 12 p = 0 := fun f p hp => nCl_s (by omega)
  have zn : ∀ (f : Nat → Nat) p, p < min n (D.1 6) → nCl (fun _ => 0) f (min n (D.1 6)) p = 0 := fun f p hp => nCl_s hp
  have h2 : ∀ p, p < min n (D.1 6) → (rBeg D.1 D.2.2.2.2.1 ff first n w ru).2 2 p = 0 := fun p hp => zn (ru.2 2) p hp
  refine ⟨⟨?_, hw, rfl, rfl⟩, fun p hp => ?_, ⟨fun p q hp hq e => absurd e (by rw [h2 p hp]; decide), fun q => absurd (show (0 : Nat) = 1 from q) (by decide), fun ⟨p, hp, e⟩ => absurd e (by rw [h2 p hp]; decide)⟩, ⟨hw9, hT⟩, rBeg_I hI hn hw9 hD.2.2.2.2.2.2.2.2.2.1.2⟩
  · show (if (2 : Nat) = 2 then (if D.1 6 < n then D.1 6 else n) else n) = min n (D.1 6)
    rw [if_pos rfl]
    by_cases q : D.1 6 < n
    · rw [if_pos q, Nat.min_eq_right (by omega)]
    · rw [if_neg q, Nat.min_eq_left (by omega)]
  · have hp : p < min n (D.1 6) := hp
    have h1 := ht p (by omega)
    refine ⟨by show M.2 24 p < _; rw [h1.1]; exact h1.2, ?_, ?_, ?_, fun q => by rw [h2 p hp] at q; omega⟩
    · show nCl (fun i => nUp (D.1 5) (D.2.2.2.2.1 (ff (first + i)))) (ru.2 1) (min n (D.1 6)) p = nUp (D.1 5) (D.2.2.2.2.1 (M.2 24 p))
      rw [nCl_s hp, h1.1]
    · exact (show nCl (fun _ => 0) (M.2 25) 12 p = nCl (fun _ => 0) (ru.2 3) (min n (D.1 6)) p from (z12 _ p hp).trans (zn _ p hp).symm)
    · exact (show nCl (fun _ => 0) (M.2 32) 12 p = nCl (fun _ => 0) (ru.2 2) (min n (D.1 6)) p from (z12 _ p hp).trans (zn _ p hp).symm)
/-- a yard that names the men's places so -/
abbrev yT (D : zYd) (T : Nat → Nat) : zYd := (D.1, D.2.1, T, D.2.2.2)
theorem yT_I {D : zYd} {T : Nat → Nat} (h : yI D) (hT : ∀ j, T j ≤ 12) : yI (yT D T) := by
  obtain ⟨a1, a2, a3, a4, a5⟩ := h
  exact ⟨a1, a2, a3, fun j => Nat.lt_of_le_of_lt (hT j) (by decide), a5⟩
theorem yT_0 {D : zYd} {M : zRs} : tT (yT D (fun _ => 12)) M := fun p _ h => absurd (show (12 : Nat) < 12 from h) (by decide)
theorem uR_up {D : zYd} {s M : zRs} (h : uR D s M) : uR D s (tmUp M) := h
set_option maxRecDepth 100000 in
theorem lp_tst {l : Launch} {dd : Nat} {Po : zPo} {K0 : zK} {h0 : List va_E} {Xo : zK → Prop} {Gc : zG → Prop} (mo : Nat) (e : Nat → Nat) (g : Nat → Int32) (w : Int64) (nw : Nat → Int32) (D : zYd) (s : zRs) (h n : Nat) 
    (hk : zS (l, mX13_start, dd, Po, K0, h0, Xo, Gc) 0 0 106 [(0, .ref mo), (1, .int (nI h)), (2, .int (nI n))] [] [(mo, .inr (11, fMo e (mg (upd g 34 (nI h)) (un (un (un (un (un (un (un (un s.1 33 n) 36 0) 37 (D.1 6)) 38 0) 39 0) 40 0) 41 0) 42 0)) w)), ((e 14), .inl (0, 800, .inl nw)), ((e 24), .inl (0, 12, .inl (nF (s.2 24)))), ((e 25), .inl (0, 12, .inl (nF (nCl (fun _ => 0) (s.2 25) 12)))), ((e 26), .inl (0, 12, .inl (nF (nCl (fun _ => 0) (s.2 26) 12)))), ((e 27), .inl (0, 12, .inl (nF (nCl (fun _ => 0) (s.2 27) 12)))), ((e 28), .inl (0, 360, .inl (nF (s.2 28)))), ((e 29), .inl (0, 12, .inl (nF (nCl (fun _ => 0) (s.2 29) 12)))), ((e 30), .inl (0, 12, .inl (nF (nCl (fun _ => 0) (s.2 30) 12)))), ((e 31), .inl (0, 30, .inl (nF (s.2 31)))), ((e 32), .inl (0, 12, .inl (nF (nCl (fun _ => 0) (s.2 32) 12))))]) :
    ∀ (m i : Nat) , i + m = 12 → zS (l, mX13_start, dd, Po, K0, h0, Xo, Gc) 0 0 52 [(0, .ref mo), (1, .int (nI h)), (2, .int (nI n)), (3, .int (nI i))] [] [(mo, .inr (11, fMo e (mg (upd g 34 (nI h)) (un (un (un (un (un (un (un (un s.1 33 n) 36 0) 37 (D.1 6)) 38 0) 39 0) 40 0) 41 0) 42 0)) w)), ((e 14), .inl (0, 800, .inl nw)), ((e 24), .inl (0, 12, .inl (nF (s.2 24)))), ((e 25), .inl (0, 12, .inl (nF (nCl (fun _ => 0) (s.2 25) i)))), ((e 26), .inl (0, 12, .inl (nF (nCl (fun _ => 0) (s.2 26) i)))), ((e 27), .inl (0, 12, .inl (nF (nCl (fun _ => 0) (s.2 27) i)))), ((e 28), .inl (0, 360, .inl (nF (s.2 28)))), ((e 29), .inl (0, 12, .inl (nF (nCl (fun _ => 0) (s.2 29) i)))), ((e 30), .inl (0, 12, .inl (nF (nCl (fun _ => 0) (s.2 30) i)))), ((e 31), .inl (0, 30, .inl (nF (s.2 31)))), ((e 32), .inl (0, 12, .inl (nF (nCl (fun _ => 0) (s.2 32) i))))] := by
  intro m
  induction m with
  | zero =>
    intro i hi
    refine zs_iload_n dX13_start_52 rfl ?_
    refine zs_bipush (v := nI 12) dX13_start_53 (by decide) ?_
    refine zs_icmp_ge (tgt := 106) dX13_start_55 (by decide) (fun c_1 => ?_) (fun c_1 => (c_1 (by rw [show i = 12 by omega]; exact Int32.le_refl _) : False).elim)
    rw [show i = 12 by omega]
    refine zs_lv [0, 1, 2] rfl ?_
    exact hk
  | succ m ih =>
    intro i hi
    refine zs_iload_n dX13_start_52 rfl ?_
    refine zs_bipush (v := nI 12) dX13_start_53 (by decide) ?_
    refine zs_icmp_ge (tgt := 106) dX13_start_55 (by decide) (fun c_1 => (nI_ge (show i < 12 by omega) (by omega) c_1 : False).elim) (fun c_1 => ?_)
    refine zs_aload_n dX13_start_58 rfl rfl ?_
    refine zs_get 0 dX13_start_59 zf_RX13_42 rfl (v := .ref (e 25)) rfl ?_
    refine zs_iload_n dX13_start_62 rfl ?_
    refine zs_iconst (v := nI 0) dX13_start_63 (by decide) ?_
    refine zs_iast 3 dX13_start_64 rfl (vp_in_nI (by omega) (by omega)) ?_
    rw [nI_c (n := i) (by omega), nF_u]
    rw [nCl_u (new := fun _ => 0) (old := s.2 25) (k := i) rfl]
    show zS _ _ _ _ _ _ [(mo, .inr (11, fMo e (mg (upd g 34 (nI h)) (un (un (un (un (un (un (un (un s.1 33 n) 36 0) 37 (D.1 6)) 38 0) 39 0) 40 0) 41 0) 42 0)) w)), ((e 14), .inl (0, 800, .inl nw)), ((e 24), .inl (0, 12, .inl (nF (s.2 24)))), ((e 25), .inl (0, 12, .inl (nF (nCl (fun _ => 0) (s.2 25) (i + 1))))), ((e 26), .inl (0, 12, .inl (nF (nCl (fun _ => 0) (s.2 26) i)))), ((e 27), .inl (0, 12, .inl (nF (nCl (fun _ => 0) (s.2 27) i)))), ((e 28), .inl (0, 360, .inl (nF (s.2 28)))), ((e 29), .inl (0, 12, .inl (nF (nCl (fun _ => 0) (s.2 29) i)))), ((e 30), .inl (0, 12, .inl (nF (nCl (fun _ => 0) (s.2 30) i)))), ((e 31), .inl (0, 30, .inl (nF (s.2 31)))), ((e 32), .inl (0, 12, .inl (nF (nCl (fun _ => 0) (s.2 32) i))))]
    refine zs_aload_n dX13_start_65 rfl rfl ?_
    refine zs_get 0 dX13_start_66 zf_RX13_45 rfl (v := .ref (e 26)) rfl ?_
    refine zs_iload_n dX13_start_69 rfl ?_
    refine zs_iconst (v := nI 0) dX13_start_70 (by decide) ?_
    refine zs_iast 4 dX13_start_71 rfl (vp_in_nI (by omega) (by omega)) ?_
    rw [nI_c (n := i) (by omega), nF_u]
    rw [nCl_u (new := fun _ => 0) (old := s.2 26) (k := i) rfl]
    show zS _ _ _ _ _ _ [(mo, .inr (11, fMo e (mg (upd g 34 (nI h)) (un (un (un (un (un (un (un (un s.1 33 n) 36 0) 37 (D.1 6)) 38 0) 39 0) 40 0) 41 0) 42 0)) w)), ((e 14), .inl (0, 800, .inl nw)), ((e 24), .inl (0, 12, .inl (nF (s.2 24)))), ((e 25), .inl (0, 12, .inl (nF (nCl (fun _ => 0) (s.2 25) (i + 1))))), ((e 26), .inl (0, 12, .inl (nF (nCl (fun _ => 0) (s.2 26) (i + 1))))), ((e 27), .inl (0, 12, .inl (nF (nCl (fun _ => 0) (s.2 27) i)))), ((e 28), .inl (0, 360, .inl (nF (s.2 28)))), ((e 29), .inl (0, 12, .inl (nF (nCl (fun _ => 0) (s.2 29) i)))), ((e 30), .inl (0, 12, .inl (nF (nCl (fun _ => 0) (s.2 30) i)))), ((e 31), .inl (0, 30, .inl (nF (s.2 31)))), ((e 32), .inl (0, 12, .inl (nF (nCl (fun _ => 0) (s.2 32) i))))]
    refine zs_aload_n dX13_start_72 rfl rfl ?_
    refine zs_get 0 dX13_start_73 zf_RX13_48 rfl (v := .ref (e 27)) rfl ?_
    refine zs_iload_n dX13_start_76 rfl ?_
    refine zs_iconst (v := nI 0) dX13_start_77 (by decide) ?_
    refine zs_iast 5 dX13_start_78 rfl (vp_in_nI (by omega) (by omega)) ?_
    rw [nI_c (n := i) (by omega), nF_u]
    rw [nCl_u (new := fun _ => 0) (old := s.2 27) (k := i) rfl]
    show zS _ _ _ _ _ _ [(mo, .inr (11, fMo e (mg (upd g 34 (nI h)) (un (un (un (un (un (un (un (un s.1 33 n) 36 0) 37 (D.1 6)) 38 0) 39 0) 40 0) 41 0) 42 0)) w)), ((e 14), .inl (0, 800, .inl nw)), ((e 24), .inl (0, 12, .inl (nF (s.2 24)))), ((e 25), .inl (0, 12, .inl (nF (nCl (fun _ => 0) (s.2 25) (i + 1))))), ((e 26), .inl (0, 12, .inl (nF (nCl (fun _ => 0) (s.2 26) (i + 1))))), ((e 27), .inl (0, 12, .inl (nF (nCl (fun _ => 0) (s.2 27) (i + 1))))), ((e 28), .inl (0, 360, .inl (nF (s.2 28)))), ((e 29), .inl (0, 12, .inl (nF (nCl (fun _ => 0) (s.2 29) i)))), ((e 30), .inl (0, 12, .inl (nF (nCl (fun _ => 0) (s.2 30) i)))), ((e 31), .inl (0, 30, .inl (nF (s.2 31)))), ((e 32), .inl (0, 12, .inl (nF (nCl (fun _ => 0) (s.2 32) i))))]
    refine zs_aload_n dX13_start_79 rfl rfl ?_
    refine zs_get 0 dX13_start_80 zf_RX13_54 rfl (v := .ref (e 29)) rfl ?_
    refine zs_iload_n dX13_start_83 rfl ?_
    refine zs_iconst (v := nI 0) dX13_start_84 (by decide) ?_
    refine zs_iast 7 dX13_start_85 rfl (vp_in_nI (by omega) (by omega)) ?_
    rw [nI_c (n := i) (by omega), nF_u]
    rw [nCl_u (new := fun _ => 0) (old := s.2 29) (k := i) rfl]
    show zS _ _ _ _ _ _ [(mo, .inr (11, fMo e (mg (upd g 34 (nI h)) (un (un (un (un (un (un (un (un s.1 33 n) 36 0) 37 (D.1 6)) 38 0) 39 0) 40 0) 41 0) 42 0)) w)), ((e 14), .inl (0, 800, .inl nw)), ((e 24), .inl (0, 12, .inl (nF (s.2 24)))), ((e 25), .inl (0, 12, .inl (nF (nCl (fun _ => 0) (s.2 25) (i + 1))))), ((e 26), .inl (0, 12, .inl (nF (nCl (fun _ => 0) (s.2 26) (i + 1))))), ((e 27), .inl (0, 12, .inl (nF (nCl (fun _ => 0) (s.2 27) (i + 1))))), ((e 28), .inl (0, 360, .inl (nF (s.2 28)))), ((e 29), .inl (0, 12, .inl (nF (nCl (fun _ => 0) (s.2 29) (i + 1))))), ((e 30), .inl (0, 12, .inl (nF (nCl (fun _ => 0) (s.2 30) i)))), ((e 31), .inl (0, 30, .inl (nF (s.2 31)))), ((e 32), .inl (0, 12, .inl (nF (nCl (fun _ => 0) (s.2 32) i))))]
    refine zs_aload_n dX13_start_86 rfl rfl ?_
    refine zs_get 0 dX13_start_87 zf_RX13_57 rfl (v := .ref (e 30)) rfl ?_
    refine zs_iload_n dX13_start_90 rfl ?_
    refine zs_iconst (v := nI 0) dX13_start_91 (by decide) ?_
    refine zs_iast 8 dX13_start_92 rfl (vp_in_nI (by omega) (by omega)) ?_
    rw [nI_c (n := i) (by omega), nF_u]
    rw [nCl_u (new := fun _ => 0) (old := s.2 30) (k := i) rfl]
    show zS _ _ _ _ _ _ [(mo, .inr (11, fMo e (mg (upd g 34 (nI h)) (un (un (un (un (un (un (un (un s.1 33 n) 36 0) 37 (D.1 6)) 38 0) 39 0) 40 0) 41 0) 42 0)) w)), ((e 14), .inl (0, 800, .inl nw)), ((e 24), .inl (0, 12, .inl (nF (s.2 24)))), ((e 25), .inl (0, 12, .inl (nF (nCl (fun _ => 0) (s.2 25) (i + 1))))), ((e 26), .inl (0, 12, .inl (nF (nCl (fun _ => 0) (s.2 26) (i + 1))))), ((e 27), .inl (0, 12, .inl (nF (nCl (fun _ => 0) (s.2 27) (i + 1))))), ((e 28), .inl (0, 360, .inl (nF (s.2 28)))), ((e 29), .inl (0, 12, .inl (nF (nCl (fun _ => 0) (s.2 29) (i + 1))))), ((e 30), .inl (0, 12, .inl (nF (nCl (fun _ => 0) (s.2 30) (i + 1))))), ((e 31), .inl (0, 30, .inl (nF (s.2 31)))), ((e 32), .inl (0, 12, .inl (nF (nCl (fun _ => 0) (s.2 32) i))))]
    refine zs_aload_n dX13_start_93 rfl rfl ?_
    refine zs_get 0 dX13_start_94 zf_RX13_63 rfl (v := .ref (e 32)) rfl ?_
    refine zs_iload_n dX13_start_97 rfl ?_
    refine zs_iconst (v := nI 0) dX13_start_98 (by decide) ?_
    refine zs_iast 10 dX13_start_99 rfl (vp_in_nI (by omega) (by omega)) ?_
    rw [nI_c (n := i) (by omega), nF_u]
    rw [nCl_u (new := fun _ => 0) (old := s.2 32) (k := i) rfl]
    show zS _ _ _ _ _ _ [(mo, .inr (11, fMo e (mg (upd g 34 (nI h)) (un (un (un (un (un (un (un (un s.1 33 n) 36 0) 37 (D.1 6)) 38 0) 39 0) 40 0) 41 0) 42 0)) w)), ((e 14), .inl (0, 800, .inl nw)), ((e 24), .inl (0, 12, .inl (nF (s.2 24)))), ((e 25), .inl (0, 12, .inl (nF (nCl (fun _ => 0) (s.2 25) (i + 1))))), ((e 26), .inl (0, 12, .inl (nF (nCl (fun _ => 0) (s.2 26) (i + 1))))), ((e 27), .inl (0, 12, .inl (nF (nCl (fun _ => 0) (s.2 27) (i + 1))))), ((e 28), .inl (0, 360, .inl (nF (s.2 28)))), ((e 29), .inl (0, 12, .inl (nF (nCl (fun _ => 0) (s.2 29) (i + 1))))), ((e 30), .inl (0, 12, .inl (nF (nCl (fun _ => 0) (s.2 30) (i + 1))))), ((e 31), .inl (0, 30, .inl (nF (s.2 31)))), ((e 32), .inl (0, 12, .inl (nF (nCl (fun _ => 0) (s.2 32) (i + 1)))))]
    refine zs_iinc (v := (nI (i + 1))) (lv' := [(3, .int (nI (i + 1))), (0, .ref mo), (1, .int (nI h)), (2, .int (nI n))]) dX13_start_100 rfl (nI_add _ 1) (Nat.le_of_ble_eq_true rfl) rfl ?_
    refine zs_goto (tgt := 52) dX13_start_103 (by decide) ?_
    refine zs_lv [1, 2, 3, 0] rfl ?_
    exact ih (i + 1) (by omega)
set_option maxRecDepth 100000 in
theorem s_tStart (l : Launch) (dd : Nat) (mo : Nat) (e : Nat → Nat) (g : Nat → Int32) (w : Int64) (nw : Nat → Int32) (D : zYd) (s : zRs) (h n : Nat) (hR : yR D nw) (hD : yI D) (hh : h ≤ 2) (hn : n ≤ 1000) : zSp l mX13_start dd 0 0 [.ref mo, .int (nI h), .int (nI n)] [(mo, .inr (11, fMo e (mg g s.1) w)), ((e 14), .inl (0, 800, .inl nw)), ((e 24), .inl (0, 12, .inl (nF (s.2 24)))), ((e 25), .inl (0, 12, .inl (nF (s.2 25)))), ((e 26), .inl (0, 12, .inl (nF (s.2 26)))), ((e 27), .inl (0, 12, .inl (nF (s.2 27)))), ((e 28), .inl (0, 360, .inl (nF (s.2 28)))), ((e 29), .inl (0, 12, .inl (nF (s.2 29)))), ((e 30), .inl (0, 12, .inl (nF (s.2 30)))), ((e 31), .inl (0, 30, .inl (nF (s.2 31)))), ((e 32), .inl (0, 12, .inl (nF (s.2 32))))] (fun r K' => r = none ∧ K' = kTm mo e (upd g 34 (nI h)) w nw (tmSt D h n s)) := by
  refine zSp.of (by decide) (Nat.le_of_ble_eq_true rfl) (fun h0 => ?_)
  show zS _ 0 0 0 [(0, .ref mo), (1, .int (nI h)), (2, .int (nI n))] [] [(mo, .inr (11, fMo e (mg g s.1) w)), ((e 14), .inl (0, 800, .inl nw)), ((e 24), .inl (0, 12, .inl (nF (s.2 24)))), ((e 25), .inl (0, 12, .inl (nF (s.2 25)))), ((e 26), .inl (0, 12, .inl (nF (s.2 26)))), ((e 27), .inl (0, 12, .inl (nF (s.2 27)))), ((e 28), .inl (0, 360, .inl (nF (s.2 28)))), ((e 29), .inl (0, 12, .inl (nF (s.2 29)))), ((e 30), .inl (0, 12, .inl (nF (s.2 30)))), ((e 31), .inl (0, 30, .inl (nF (s.2 31)))), ((e 32), .inl (0, 12, .inl (nF (s.2 32))))]
  have hD0 := hD.1
  have hC8 := hD.2.1
  have h5 := hD.2.2.2.2.2.2.2.2.2.1
  have h6 := hD.2.2.2.2.2.2.2.2.2.2.1
  have h7 := hD.2.2.2.2.2.2.2.2.2.2.2.1
  have h8 := hD.2.2.2.2.2.2.2.2.2.2.2.2.1
  have h9 := hD.2.2.2.2.2.2.2.2.2.2.2.2.2.1
  have h10 := hD.2.2.2.2.2.2.2.2.2.2.2.2.2.2.1
  have h11 := hD.2.2.2.2.2.2.2.2.2.2.2.2.2.2.2.1
  have h12 := hD.2.2.2.2.2.2.2.2.2.2.2.2.2.2.2.2.1
  refine zs_aload_n dX13_start_0 rfl rfl ?_
  refine zs_iload_n dX13_start_1 rfl ?_
  refine zs_put 0 dX13_start_2 zf_RX13_301 rfl (Nat.le_of_ble_eq_true rfl) (zPv_i _) ?_
  show zS _ _ _ _ _ _ [(mo, .inr (11, fMo e (mg (upd g 34 (nI h)) s.1) w)), ((e 14), .inl (0, 800, .inl nw)), ((e 24), .inl (0, 12, .inl (nF (s.2 24)))), ((e 25), .inl (0, 12, .inl (nF (s.2 25)))), ((e 26), .inl (0, 12, .inl (nF (s.2 26)))), ((e 27), .inl (0, 12, .inl (nF (s.2 27)))), ((e 28), .inl (0, 360, .inl (nF (s.2 28)))), ((e 29), .inl (0, 12, .inl (nF (s.2 29)))), ((e 30), .inl (0, 12, .inl (nF (s.2 30)))), ((e 31), .inl (0, 30, .inl (nF (s.2 31)))), ((e 32), .inl (0, 12, .inl (nF (s.2 32))))]
  refine zs_aload_n dX13_start_5 rfl rfl ?_
  refine zs_iload_n dX13_start_6 rfl ?_
  refine zs_put 0 dX13_start_7 zf_RX13_304 rfl (Nat.le_of_ble_eq_true rfl) (zPv_i _) ?_
  show zS _ _ _ _ _ _ [(mo, .inr (11, fMo e (mg (upd g 34 (nI h)) (un s.1 33 n)) w)), ((e 14), .inl (0, 800, .inl nw)), ((e 24), .inl (0, 12, .inl (nF (s.2 24)))), ((e 25), .inl (0, 12, .inl (nF (s.2 25)))), ((e 26), .inl (0, 12, .inl (nF (s.2 26)))), ((e 27), .inl (0, 12, .inl (nF (s.2 27)))), ((e 28), .inl (0, 360, .inl (nF (s.2 28)))), ((e 29), .inl (0, 12, .inl (nF (s.2 29)))), ((e 30), .inl (0, 12, .inl (nF (s.2 30)))), ((e 31), .inl (0, 30, .inl (nF (s.2 31)))), ((e 32), .inl (0, 12, .inl (nF (s.2 32))))]
  refine zs_aload_n dX13_start_10 rfl rfl ?_
  refine zs_iconst (v := nI 0) dX13_start_11 (by decide) ?_
  refine zs_put 0 dX13_start_12 zf_RX13_307 rfl (Nat.le_of_ble_eq_true rfl) (zPv_i _) ?_
  show zS _ _ _ _ _ _ [(mo, .inr (11, fMo e (mg (upd g 34 (nI h)) (un (un s.1 33 n) 36 0)) w)), ((e 14), .inl (0, 800, .inl nw)), ((e 24), .inl (0, 12, .inl (nF (s.2 24)))), ((e 25), .inl (0, 12, .inl (nF (s.2 25)))), ((e 26), .inl (0, 12, .inl (nF (s.2 26)))), ((e 27), .inl (0, 12, .inl (nF (s.2 27)))), ((e 28), .inl (0, 360, .inl (nF (s.2 28)))), ((e 29), .inl (0, 12, .inl (nF (s.2 29)))), ((e 30), .inl (0, 12, .inl (nF (s.2 30)))), ((e 31), .inl (0, 30, .inl (nF (s.2 31)))), ((e 32), .inl (0, 12, .inl (nF (s.2 32))))]
  refine zs_aload_n dX13_start_15 rfl rfl ?_
  refine zs_aload_n dX13_start_16 rfl rfl ?_
  refine zs_get 0 dX13_start_17 zf_RX13_13 rfl (v := .ref (e 14)) rfl ?_
  refine zs_iconst (v := nI 2) dX13_start_20 (by decide) ?_
  refine zs_iald 1 dX13_start_21 rfl (vp_in_nI (by omega) (by omega)) ?_
  refine zs_as (y := nI (D.1 6)) (by rw [nI_c (n := 2) (by omega)]; exact hR.2.2.1) ?_
  refine zs_put 0 dX13_start_22 zf_RX13_310 rfl (Nat.le_of_ble_eq_true rfl) (zPv_i _) ?_
  show zS _ _ _ _ _ _ [(mo, .inr (11, fMo e (mg (upd g 34 (nI h)) (un (un (un s.1 33 n) 36 0) 37 (D.1 6))) w)), ((e 14), .inl (0, 800, .inl nw)), ((e 24), .inl (0, 12, .inl (nF (s.2 24)))), ((e 25), .inl (0, 12, .inl (nF (s.2 25)))), ((e 26), .inl (0, 12, .inl (nF (s.2 26)))), ((e 27), .inl (0, 12, .inl (nF (s.2 27)))), ((e 28), .inl (0, 360, .inl (nF (s.2 28)))), ((e 29), .inl (0, 12, .inl (nF (s.2 29)))), ((e 30), .inl (0, 12, .inl (nF (s.2 30)))), ((e 31), .inl (0, 30, .inl (nF (s.2 31)))), ((e 32), .inl (0, 12, .inl (nF (s.2 32))))]
  refine zs_aload_n dX13_start_25 rfl rfl ?_
  refine zs_iconst (v := nI 0) dX13_start_26 (by decide) ?_
  refine zs_put 0 dX13_start_27 zf_RX13_313 rfl (Nat.le_of_ble_eq_true rfl) (zPv_i _) ?_
  show zS _ _ _ _ _ _ [(mo, .inr (11, fMo e (mg (upd g 34 (nI h)) (un (un (un (un s.1 33 n) 36 0) 37 (D.1 6)) 38 0)) w)), ((e 14), .inl (0, 800, .inl nw)), ((e 24), .inl (0, 12, .inl (nF (s.2 24)))), ((e 25), .inl (0, 12, .inl (nF (s.2 25)))), ((e 26), .inl (0, 12, .inl (nF (s.2 26)))), ((e 27), .inl (0, 12, .inl (nF (s.2 27)))), ((e 28), .inl (0, 360, .inl (nF (s.2 28)))), ((e 29), .inl (0, 12, .inl (nF (s.2 29)))), ((e 30), .inl (0, 12, .inl (nF (s.2 30)))), ((e 31), .inl (0, 30, .inl (nF (s.2 31)))), ((e 32), .inl (0, 12, .inl (nF (s.2 32))))]
  refine zs_aload_n dX13_start_30 rfl rfl ?_
  refine zs_iconst (v := nI 0) dX13_start_31 (by decide) ?_
  refine zs_put 0 dX13_start_32 zf_RX13_316 rfl (Nat.le_of_ble_eq_true rfl) (zPv_i _) ?_
  show zS _ _ _ _ _ _ [(mo, .inr (11, fMo e (mg (upd g 34 (nI h)) (un (un (un (un (un s.1 33 n) 36 0) 37 (D.1 6)) 38 0) 39 0)) w)), ((e 14), .inl (0, 800, .inl nw)), ((e 24), .inl (0, 12, .inl (nF (s.2 24)))), ((e 25), .inl (0, 12, .inl (nF (s.2 25)))), ((e 26), .inl (0, 12, .inl (nF (s.2 26)))), ((e 27), .inl (0, 12, .inl (nF (s.2 27)))), ((e 28), .inl (0, 360, .inl (nF (s.2 28)))), ((e 29), .inl (0, 12, .inl (nF (s.2 29)))), ((e 30), .inl (0, 12, .inl (nF (s.2 30)))), ((e 31), .inl (0, 30, .inl (nF (s.2 31)))), ((e 32), .inl (0, 12, .inl (nF (s.2 32))))]
  refine zs_aload_n dX13_start_35 rfl rfl ?_
  refine zs_iconst (v := nI 0) dX13_start_36 (by decide) ?_
  refine zs_put 0 dX13_start_37 zf_RX13_319 rfl (Nat.le_of_ble_eq_true rfl) (zPv_i _) ?_
  show zS _ _ _ _ _ _ [(mo, .inr (11, fMo e (mg (upd g 34 (nI h)) (un (un (un (un (un (un s.1 33 n) 36 0) 37 (D.1 6)) 38 0) 39 0) 40 0)) w)), ((e 14), .inl (0, 800, .inl nw)), ((e 24), .inl (0, 12, .inl (nF (s.2 24)))), ((e 25), .inl (0, 12, .inl (nF (s.2 25)))), ((e 26), .inl (0, 12, .inl (nF (s.2 26)))), ((e 27), .inl (0, 12, .inl (nF (s.2 27)))), ((e 28), .inl (0, 360, .inl (nF (s.2 28)))), ((e 29), .inl (0, 12, .inl (nF (s.2 29)))), ((e 30), .inl (0, 12, .inl (nF (s.2 30)))), ((e 31), .inl (0, 30, .inl (nF (s.2 31)))), ((e 32), .inl (0, 12, .inl (nF (s.2 32))))]
  refine zs_aload_n dX13_start_40 rfl rfl ?_
  refine zs_iconst (v := nI 0) dX13_start_41 (by decide) ?_
  refine zs_put 0 dX13_start_42 zf_RX13_322 rfl (Nat.le_of_ble_eq_true rfl) (zPv_i _) ?_
  show zS _ _ _ _ _ _ [(mo, .inr (11, fMo e (mg (upd g 34 (nI h)) (un (un (un (un (un (un (un s.1 33 n) 36 0) 37 (D.1 6)) 38 0) 39 0) 40 0) 41 0)) w)), ((e 14), .inl (0, 800, .inl nw)), ((e 24), .inl (0, 12, .inl (nF (s.2 24)))), ((e 25), .inl (0, 12, .inl (nF (s.2 25)))), ((e 26), .inl (0, 12, .inl (nF (s.2 26)))), ((e 27), .inl (0, 12, .inl (nF (s.2 27)))), ((e 28), .inl (0, 360, .inl (nF (s.2 28)))), ((e 29), .inl (0, 12, .inl (nF (s.2 29)))), ((e 30), .inl (0, 12, .inl (nF (s.2 30)))), ((e 31), .inl (0, 30, .inl (nF (s.2 31)))), ((e 32), .inl (0, 12, .inl (nF (s.2 32))))]
  refine zs_aload_n dX13_start_45 rfl rfl ?_
  refine zs_iconst (v := nI 0) dX13_start_46 (by decide) ?_
  refine zs_put 0 dX13_start_47 zf_RX13_325 rfl (Nat.le_of_ble_eq_true rfl) (zPv_i _) ?_
  show zS _ _ _ _ _ _ [(mo, .inr (11, fMo e (mg (upd g 34 (nI h)) (un (un (un (un (un (un (un (un s.1 33 n) 36 0) 37 (D.1 6)) 38 0) 39 0) 40 0) 41 0) 42 0)) w)), ((e 14), .inl (0, 800, .inl nw)), ((e 24), .inl (0, 12, .inl (nF (s.2 24)))), ((e 25), .inl (0, 12, .inl (nF (s.2 25)))), ((e 26), .inl (0, 12, .inl (nF (s.2 26)))), ((e 27), .inl (0, 12, .inl (nF (s.2 27)))), ((e 28), .inl (0, 360, .inl (nF (s.2 28)))), ((e 29), .inl (0, 12, .inl (nF (s.2 29)))), ((e 30), .inl (0, 12, .inl (nF (s.2 30)))), ((e 31), .inl (0, 30, .inl (nF (s.2 31)))), ((e 32), .inl (0, 12, .inl (nF (s.2 32))))]
  refine zs_iconst (v := nI 0) dX13_start_50 (by decide) ?_
  refine zs_istore_n (lv' := [(3, .int (nI 0)), (0, .ref mo), (1, .int (nI h)), (2, .int (nI n))]) dX13_start_51 (Nat.le_of_ble_eq_true rfl) rfl ?_
  refine zs_lv [1, 2, 3, 0] rfl ?_
  refine zs_eq (K' := [(mo, .inr (11, fMo e (mg (upd g 34 (nI h)) (un (un (un (un (un (un (un (un s.1 33 n) 36 0) 37 (D.1 6)) 38 0) 39 0) 40 0) 41 0) 42 0)) w)), ((e 14), .inl (0, 800, .inl nw)), ((e 24), .inl (0, 12, .inl (nF (s.2 24)))), ((e 25), .inl (0, 12, .inl (nF (nCl (fun _ => 0) (s.2 25) 0)))), ((e 26), .inl (0, 12, .inl (nF (nCl (fun _ => 0) (s.2 26) 0)))), ((e 27), .inl (0, 12, .inl (nF (nCl (fun _ => 0) (s.2 27) 0)))), ((e 28), .inl (0, 360, .inl (nF (s.2 28)))), ((e 29), .inl (0, 12, .inl (nF (nCl (fun _ => 0) (s.2 29) 0)))), ((e 30), .inl (0, 12, .inl (nF (nCl (fun _ => 0) (s.2 30) 0)))), ((e 31), .inl (0, 30, .inl (nF (s.2 31)))), ((e 32), .inl (0, 12, .inl (nF (nCl (fun _ => 0) (s.2 32) 0))))]) (by simp only [nCl_0]) ?_
  refine lp_tst mo e g w nw D s h n ?_ 12 0 (by omega)
  refine zs_iload_n dX13_start_106 rfl ?_
  refine zs_iconst (v := nI 2) dX13_start_107 (by decide) ?_
  refine zs_icmp_ne (tgt := 134) dX13_start_108 (by decide) (fun c_1 => ?_) (fun c_1 => ?_)
  · have c_1 : ¬ (h = 2) := by have hc := c_1; rw [nI_eq' (by omega) (by omega)] at hc; exact hc
    exact zs_vret dX13_start_134 rfl ⟨rfl, by rw [tmSt, if_neg c_1]; rfl⟩
  · have c_1 : h = 2 := by have hc := c_1; rw [nI_eq' (by omega) (by omega)] at hc; exact hc
    refine zs_aload_n dX13_start_111 rfl rfl ?_
    refine zs_get 0 dX13_start_112 zf_RX13_304 rfl (v := .int (nI n)) rfl ?_
    refine zs_aload_n dX13_start_115 rfl rfl ?_
    refine zs_get 0 dX13_start_116 zf_RX13_13 rfl (v := .ref (e 14)) rfl ?_
    refine zs_iconst (v := nI 2) dX13_start_119 (by decide) ?_
    refine zs_iald 1 dX13_start_120 rfl (vp_in_nI (by omega) (by omega)) ?_
    refine zs_as (y := nI (D.1 6)) (by rw [nI_c (n := 2) (by omega)]; exact hR.2.2.1) ?_
    refine zs_icmp_le (tgt := 134) dX13_start_121 (by decide) (fun c_2 => ?_) (fun c_2 => ?_)
    · have c_2 : n ≤ (D.1 6) := by have hc := c_2; rw [nI_le' (by omega) (by omega)] at hc; exact hc
      exact zs_vret dX13_start_134 rfl ⟨rfl, by rw [tmSt, if_pos c_1, if_neg (show ¬ D.1 6 < n by omega)]; rfl⟩
    · have c_2 : ¬ (n ≤ (D.1 6)) := by have hc := c_2; rw [nI_le' (by omega) (by omega)] at hc; exact hc
      refine zs_aload_n dX13_start_124 rfl rfl ?_
      refine zs_aload_n dX13_start_125 rfl rfl ?_
      refine zs_get 0 dX13_start_126 zf_RX13_13 rfl (v := .ref (e 14)) rfl ?_
      refine zs_iconst (v := nI 2) dX13_start_129 (by decide) ?_
      refine zs_iald 1 dX13_start_130 rfl (vp_in_nI (by omega) (by omega)) ?_
      refine zs_as (y := nI (D.1 6)) (by rw [nI_c (n := 2) (by omega)]; exact hR.2.2.1) ?_
      refine zs_put 0 dX13_start_131 zf_RX13_304 rfl (Nat.le_of_ble_eq_true rfl) (zPv_i _) ?_
      show zS _ _ _ _ _ _ [(mo, .inr (11, fMo e (mg (upd g 34 (nI h)) (un (un (un (un (un (un (un (un s.1 33 (D.1 6)) 36 0) 37 (D.1 6)) 38 0) 39 0) 40 0) 41 0) 42 0)) w)), ((e 14), .inl (0, 800, .inl nw)), ((e 24), .inl (0, 12, .inl (nF (s.2 24)))), ((e 25), .inl (0, 12, .inl (nF (nCl (fun _ => 0) (s.2 25) 12)))), ((e 26), .inl (0, 12, .inl (nF (nCl (fun _ => 0) (s.2 26) 12)))), ((e 27), .inl (0, 12, .inl (nF (nCl (fun _ => 0) (s.2 27) 12)))), ((e 28), .inl (0, 360, .inl (nF (s.2 28)))), ((e 29), .inl (0, 12, .inl (nF (nCl (fun _ => 0) (s.2 29) 12)))), ((e 30), .inl (0, 12, .inl (nF (nCl (fun _ => 0) (s.2 30) 12)))), ((e 31), .inl (0, 30, .inl (nF (s.2 31)))), ((e 32), .inl (0, 12, .inl (nF (nCl (fun _ => 0) (s.2 32) 12))))]
      exact zs_vret dX13_start_134 rfl ⟨rfl, by rw [tmSt, if_pos c_1, if_pos (show D.1 6 < n by omega)]; rfl⟩
theorem dX13_teamTick_0 : decode cX13_teamTick 0 = .ok (.aload_n 0, 1) := by decide +kernel
theorem dX13_teamTick_1 : decode cX13_teamTick 1 = .ok (.dup, 1) := by decide +kernel
theorem dX13_teamTick_2 : decode cX13_teamTick 2 = .ok (.getfield 307, 3) := by decide +kernel
theorem dX13_teamTick_5 : decode cX13_teamTick 5 = .ok (.iconst 1, 1) := by decide +kernel
theorem dX13_teamTick_6 : decode cX13_teamTick 6 = .ok (.iadd, 1) := by decide +kernel
theorem dX13_teamTick_7 : decode cX13_teamTick 7 = .ok (.putfield 307, 3) := by decide +kernel
theorem dX13_teamTick_10 : decode cX13_teamTick 10 = .ok (.aload_n 0, 1) := by decide +kernel
theorem dX13_teamTick_11 : decode cX13_teamTick 11 = .ok (.getfield 301, 3) := by decide +kernel
theorem dX13_teamTick_14 : decode cX13_teamTick 14 = .ok (.iconst 1, 1) := by decide +kernel
theorem dX13_teamTick_15 : decode cX13_teamTick 15 = .ok (.if_icmp .ne 7, 3) := by decide +kernel
theorem dX13_teamTick_18 : decode cX13_teamTick 18 = .ok (.aload_n 0, 1) := by decide +kernel
theorem dX13_teamTick_19 : decode cX13_teamTick 19 = .ok (.invokevirtual 360, 3) := by decide +kernel
theorem dX13_teamTick_22 : decode cX13_teamTick 22 = .ok (.aload_n 0, 1) := by decide +kernel
theorem dX13_teamTick_23 : decode cX13_teamTick 23 = .ok (.getfield 301, 3) := by decide +kernel
theorem dX13_teamTick_26 : decode cX13_teamTick 26 = .ok (.iconst 2, 1) := by decide +kernel
theorem dX13_teamTick_27 : decode cX13_teamTick 27 = .ok (.if_icmp .ne 7, 3) := by decide +kernel
theorem dX13_teamTick_30 : decode cX13_teamTick 30 = .ok (.aload_n 0, 1) := by decide +kernel
theorem dX13_teamTick_31 : decode cX13_teamTick 31 = .ok (.invokevirtual 363, 3) := by decide +kernel
theorem dX13_teamTick_34 : decode cX13_teamTick 34 = .ok (.return_, 1) := by decide +kernel
set_option maxRecDepth 100000 in
theorem s_tTick0 (l : Launch) (dd : Nat) (mo : Nat) (e : Nat → Nat) (g : Nat → Int32) (w : Int64) (nw : Nat → Int32) (D : zYd) (M : zRs) (hd : 5 ≤ dd) (hR : yR D nw) (hD : yI D) (h34 : g 34 = nI 0)  : zSp l mX13_teamTick dd 0 0 [.ref mo] [(mo, .inr (11, fMo e (mg g M.1) w)), ((e 14), .inl (0, 800, .inl nw)), ((e 24), .inl (0, 12, .inl (nF (M.2 24)))), ((e 25), .inl (0, 12, .inl (nF (M.2 25)))), ((e 26), .inl (0, 12, .inl (nF (M.2 26)))), ((e 27), .inl (0, 12, .inl (nF (M.2 27)))), ((e 28), .inl (0, 360, .inl (nF (M.2 28)))), ((e 29), .inl (0, 12, .inl (nF (M.2 29)))), ((e 30), .inl (0, 12, .inl (nF (M.2 30)))), ((e 31), .inl (0, 30, .inl (nF (M.2 31)))), ((e 32), .inl (0, 12, .inl (nF (M.2 32))))] (fun r K' => r = none ∧ K' = kTm mo e g w nw (tmUp M)) := by
  refine zSp.of (by decide) (Nat.le_of_ble_eq_true rfl) (fun h0 => ?_)
  show zS _ 0 0 0 [(0, .ref mo)] [] [(mo, .inr (11, fMo e (mg g M.1) w)), ((e 14), .inl (0, 800, .inl nw)), ((e 24), .inl (0, 12, .inl (nF (M.2 24)))), ((e 25), .inl (0, 12, .inl (nF (M.2 25)))), ((e 26), .inl (0, 12, .inl (nF (M.2 26)))), ((e 27), .inl (0, 12, .inl (nF (M.2 27)))), ((e 28), .inl (0, 360, .inl (nF (M.2 28)))), ((e 29), .inl (0, 12, .inl (nF (M.2 29)))), ((e 30), .inl (0, 12, .inl (nF (M.2 30)))), ((e 31), .inl (0, 30, .inl (nF (M.2 31)))), ((e 32), .inl (0, 12, .inl (nF (M.2 32))))]
  refine zs_aload_n dX13_teamTick_0 rfl rfl ?_
  refine zs_dup dX13_teamTick_1 rfl ?_
  refine zs_get 0 dX13_teamTick_2 zf_RX13_307 rfl (v := .int (nI (M.1 36))) rfl ?_
  refine zs_iconst (v := nI 1) dX13_teamTick_5 (by decide) ?_
  refine zs_iadd dX13_teamTick_6 ?_
  refine zs_as (y := nI ((M.1 36) + 1)) (nI_add _ _) ?_
  refine zs_put 0 dX13_teamTick_7 zf_RX13_307 rfl (Nat.le_of_ble_eq_true rfl) (zPv_i _) ?_
  show zS _ _ _ _ _ _ [(mo, .inr (11, fMo e (mg g (un M.1 36 ((M.1 36) + 1))) w)), ((e 14), .inl (0, 800, .inl nw)), ((e 24), .inl (0, 12, .inl (nF (M.2 24)))), ((e 25), .inl (0, 12, .inl (nF (M.2 25)))), ((e 26), .inl (0, 12, .inl (nF (M.2 26)))), ((e 27), .inl (0, 12, .inl (nF (M.2 27)))), ((e 28), .inl (0, 360, .inl (nF (M.2 28)))), ((e 29), .inl (0, 12, .inl (nF (M.2 29)))), ((e 30), .inl (0, 12, .inl (nF (M.2 30)))), ((e 31), .inl (0, 30, .inl (nF (M.2 31)))), ((e 32), .inl (0, 12, .inl (nF (M.2 32))))]
  refine zs_aload_n dX13_teamTick_10 rfl rfl ?_
  refine zs_get 0 dX13_teamTick_11 zf_RX13_301 rfl (v := .int (g 34)) rfl ?_
  refine zs_as (y := nI 0) h34 ?_
  refine zs_iconst (v := nI 1) dX13_teamTick_14 (by decide) ?_
  refine zs_icmp_ne (tgt := 22) dX13_teamTick_15 (by decide) (fun c_1 => ?_) (fun c_1 => (by first | exact absurd c_1 (by decide) | exact absurd (by decide) c_1 : False).elim)
  refine zs_aload_n dX13_teamTick_22 rfl rfl ?_
  refine zs_get 0 dX13_teamTick_23 zf_RX13_301 rfl (v := .int (g 34)) rfl ?_
  refine zs_as (y := nI 0) h34 ?_
  refine zs_iconst (v := nI 2) dX13_teamTick_26 (by decide) ?_
  refine zs_icmp_ne (tgt := 34) dX13_teamTick_27 (by decide) (fun c_2 => ?_) (fun c_2 => (by first | exact absurd c_2 (by decide) | exact absurd (by decide) c_2 : False).elim)
  exact zs_vret dX13_teamTick_34 rfl ⟨rfl, rfl⟩
set_option maxRecDepth 100000 in
theorem s_tTick1 (l : Launch) (dd : Nat) (mo : Nat) (e : Nat → Nat) (g : Nat → Int32) (w : Int64) (nw : Nat → Int32) (D : zYd) (M : zRs) (hd : 5 ≤ dd) (hR : yR D nw) (hD : yI D) (h34 : g 34 = nI 1) (c : zRs) (P t : Nat) (hJ : cJ P t c) (hP : P ≤ 30) (htt : t + 1 ≤ 3600) (h : tR D c M) : zSp l mX13_teamTick dd 0 0 [.ref mo] [(mo, .inr (11, fMo e (mg g M.1) w)), ((e 14), .inl (0, 800, .inl nw)), ((e 24), .inl (0, 12, .inl (nF (M.2 24)))), ((e 25), .inl (0, 12, .inl (nF (M.2 25)))), ((e 26), .inl (0, 12, .inl (nF (M.2 26)))), ((e 27), .inl (0, 12, .inl (nF (M.2 27)))), ((e 28), .inl (0, 360, .inl (nF (M.2 28)))), ((e 29), .inl (0, 12, .inl (nF (M.2 29)))), ((e 30), .inl (0, 12, .inl (nF (M.2 30)))), ((e 31), .inl (0, 30, .inl (nF (M.2 31)))), ((e 32), .inl (0, 12, .inl (nF (M.2 32))))] (fun r K' => r = none ∧ ∃ M', tR D (cTick (D.1 11) (D.1 10) (D.1 7) D.2.2.2.2.2.1 c) M' ∧ K' = kTm mo e g w nw M') := by
  refine zSp.of (by decide) (Nat.le_of_ble_eq_true rfl) (fun h0 => ?_)
  show zS _ 0 0 0 [(0, .ref mo)] [] [(mo, .inr (11, fMo e (mg g M.1) w)), ((e 14), .inl (0, 800, .inl nw)), ((e 24), .inl (0, 12, .inl (nF (M.2 24)))), ((e 25), .inl (0, 12, .inl (nF (M.2 25)))), ((e 26), .inl (0, 12, .inl (nF (M.2 26)))), ((e 27), .inl (0, 12, .inl (nF (M.2 27)))), ((e 28), .inl (0, 360, .inl (nF (M.2 28)))), ((e 29), .inl (0, 12, .inl (nF (M.2 29)))), ((e 30), .inl (0, 12, .inl (nF (M.2 30)))), ((e 31), .inl (0, 30, .inl (nF (M.2 31)))), ((e 32), .inl (0, 12, .inl (nF (M.2 32))))]
  refine zs_aload_n dX13_teamTick_0 rfl rfl ?_
  refine zs_dup dX13_teamTick_1 rfl ?_
  refine zs_get 0 dX13_teamTick_2 zf_RX13_307 rfl (v := .int (nI (M.1 36))) rfl ?_
  refine zs_iconst (v := nI 1) dX13_teamTick_5 (by decide) ?_
  refine zs_iadd dX13_teamTick_6 ?_
  refine zs_as (y := nI ((M.1 36) + 1)) (nI_add _ _) ?_
  refine zs_put 0 dX13_teamTick_7 zf_RX13_307 rfl (Nat.le_of_ble_eq_true rfl) (zPv_i _) ?_
  show zS _ _ _ _ _ _ [(mo, .inr (11, fMo e (mg g (un M.1 36 ((M.1 36) + 1))) w)), ((e 14), .inl (0, 800, .inl nw)), ((e 24), .inl (0, 12, .inl (nF (M.2 24)))), ((e 25), .inl (0, 12, .inl (nF (M.2 25)))), ((e 26), .inl (0, 12, .inl (nF (M.2 26)))), ((e 27), .inl (0, 12, .inl (nF (M.2 27)))), ((e 28), .inl (0, 360, .inl (nF (M.2 28)))), ((e 29), .inl (0, 12, .inl (nF (M.2 29)))), ((e 30), .inl (0, 12, .inl (nF (M.2 30)))), ((e 31), .inl (0, 30, .inl (nF (M.2 31)))), ((e 32), .inl (0, 12, .inl (nF (M.2 32))))]
  refine zs_aload_n dX13_teamTick_10 rfl rfl ?_
  refine zs_get 0 dX13_teamTick_11 zf_RX13_301 rfl (v := .int (g 34)) rfl ?_
  refine zs_as (y := nI 1) h34 ?_
  refine zs_iconst (v := nI 1) dX13_teamTick_14 (by decide) ?_
  refine zs_icmp_ne (tgt := 22) dX13_teamTick_15 (by decide) (fun c_1 => (by first | exact absurd c_1 (by decide) | exact absurd (by decide) c_1 : False).elim) (fun c_1 => ?_)
  refine zs_aload_n dX13_teamTick_18 rfl rfl ?_
  refine zs_callV (M := mX13_rowTick) (As := []) (st := []) (Kc := [(mo, .inr (11, fMo e (mg g (un M.1 36 ((M.1 36) + 1))) w)), ((e 14), .inl (0, 800, .inl nw)), ((e 24), .inl (0, 12, .inl (nF (M.2 24)))), ((e 25), .inl (0, 12, .inl (nF (M.2 25)))), ((e 26), .inl (0, 12, .inl (nF (M.2 26)))), ((e 27), .inl (0, 12, .inl (nF (M.2 27)))), ((e 28), .inl (0, 360, .inl (nF (M.2 28)))), ((e 29), .inl (0, 12, .inl (nF (M.2 29)))), ((e 30), .inl (0, 12, .inl (nF (M.2 30)))), ((e 31), .inl (0, 30, .inl (nF (M.2 31)))), ((e 32), .inl (0, 12, .inl (nF (M.2 32))))]) (Kr := []) [0, 1, 2, 3, 4, 5, 6, 7, 8, 9, 10] [] 0 dX13_teamTick_19 zl_RX13_360 kX13_rowTick rfl rfl rfl rfl rfl (by decide) rfl rfl (show dd - 1 + 1 ≤ dd by omega) (Nat.zero_le _) (Nat.zero_le _) (Nat.le_of_ble_eq_true rfl) (s_tRow l (dd - 1) mo e g w nw D c (tmUp M) P t (by omega) hR hD hJ hP htt (tR_up hD h hJ hP)) (fun r K1 hr => ?_)
  obtain ⟨rfl, M', hM, rfl⟩ := hr
  refine zs_K (K' := [(mo, .inr (11, fMo e (mg g M'.1) w)), ((e 14), .inl (0, 800, .inl nw)), ((e 24), .inl (0, 12, .inl (nF (M'.2 24)))), ((e 25), .inl (0, 12, .inl (nF (M'.2 25)))), ((e 26), .inl (0, 12, .inl (nF (M'.2 26)))), ((e 27), .inl (0, 12, .inl (nF (M'.2 27)))), ((e 28), .inl (0, 360, .inl (nF (M'.2 28)))), ((e 29), .inl (0, 12, .inl (nF (M'.2 29)))), ((e 30), .inl (0, 12, .inl (nF (M'.2 30)))), ((e 31), .inl (0, 30, .inl (nF (M'.2 31)))), ((e 32), .inl (0, 12, .inl (nF (M'.2 32))))]) [0, 1, 2, 3, 4, 5, 6, 7, 8, 9, 10] rfl (by decide) ?_
  refine zs_aload_n dX13_teamTick_22 rfl rfl ?_
  refine zs_get 0 dX13_teamTick_23 zf_RX13_301 rfl (v := .int (g 34)) rfl ?_
  refine zs_as (y := nI 1) h34 ?_
  refine zs_iconst (v := nI 2) dX13_teamTick_26 (by decide) ?_
  refine zs_icmp_ne (tgt := 34) dX13_teamTick_27 (by decide) (fun c_2 => ?_) (fun c_2 => (by first | exact absurd c_2 (by decide) | exact absurd (by decide) c_2 : False).elim)
  exact zs_vret dX13_teamTick_34 rfl ⟨rfl, M', hM, rfl⟩
set_option maxRecDepth 100000 in
theorem s_tTick2 (l : Launch) (dd : Nat) (mo : Nat) (e : Nat → Nat) (g : Nat → Int32) (w : Int64) (nw : Nat → Int32) (D : zYd) (M : zRs) (hd : 5 ≤ dd) (hR : yR D nw) (hD : yI D) (h34 : g 34 = nI 2) (c : zRs) (h : uR D c M) : zSp l mX13_teamTick dd 0 0 [.ref mo] [(mo, .inr (11, fMo e (mg g M.1) w)), ((e 14), .inl (0, 800, .inl nw)), ((e 24), .inl (0, 12, .inl (nF (M.2 24)))), ((e 25), .inl (0, 12, .inl (nF (M.2 25)))), ((e 26), .inl (0, 12, .inl (nF (M.2 26)))), ((e 27), .inl (0, 12, .inl (nF (M.2 27)))), ((e 28), .inl (0, 360, .inl (nF (M.2 28)))), ((e 29), .inl (0, 12, .inl (nF (M.2 29)))), ((e 30), .inl (0, 12, .inl (nF (M.2 30)))), ((e 31), .inl (0, 30, .inl (nF (M.2 31)))), ((e 32), .inl (0, 12, .inl (nF (M.2 32))))] (fun r K' => r = none ∧ ∃ M', uR D (rPl (D.1 7) (D.1 8) c (c.1 1)) M' ∧ K' = kTm mo e g w nw M') := by
  refine zSp.of (by decide) (Nat.le_of_ble_eq_true rfl) (fun h0 => ?_)
  show zS _ 0 0 0 [(0, .ref mo)] [] [(mo, .inr (11, fMo e (mg g M.1) w)), ((e 14), .inl (0, 800, .inl nw)), ((e 24), .inl (0, 12, .inl (nF (M.2 24)))), ((e 25), .inl (0, 12, .inl (nF (M.2 25)))), ((e 26), .inl (0, 12, .inl (nF (M.2 26)))), ((e 27), .inl (0, 12, .inl (nF (M.2 27)))), ((e 28), .inl (0, 360, .inl (nF (M.2 28)))), ((e 29), .inl (0, 12, .inl (nF (M.2 29)))), ((e 30), .inl (0, 12, .inl (nF (M.2 30)))), ((e 31), .inl (0, 30, .inl (nF (M.2 31)))), ((e 32), .inl (0, 12, .inl (nF (M.2 32))))]
  refine zs_aload_n dX13_teamTick_0 rfl rfl ?_
  refine zs_dup dX13_teamTick_1 rfl ?_
  refine zs_get 0 dX13_teamTick_2 zf_RX13_307 rfl (v := .int (nI (M.1 36))) rfl ?_
  refine zs_iconst (v := nI 1) dX13_teamTick_5 (by decide) ?_
  refine zs_iadd dX13_teamTick_6 ?_
  refine zs_as (y := nI ((M.1 36) + 1)) (nI_add _ _) ?_
  refine zs_put 0 dX13_teamTick_7 zf_RX13_307 rfl (Nat.le_of_ble_eq_true rfl) (zPv_i _) ?_
  show zS _ _ _ _ _ _ [(mo, .inr (11, fMo e (mg g (un M.1 36 ((M.1 36) + 1))) w)), ((e 14), .inl (0, 800, .inl nw)), ((e 24), .inl (0, 12, .inl (nF (M.2 24)))), ((e 25), .inl (0, 12, .inl (nF (M.2 25)))), ((e 26), .inl (0, 12, .inl (nF (M.2 26)))), ((e 27), .inl (0, 12, .inl (nF (M.2 27)))), ((e 28), .inl (0, 360, .inl (nF (M.2 28)))), ((e 29), .inl (0, 12, .inl (nF (M.2 29)))), ((e 30), .inl (0, 12, .inl (nF (M.2 30)))), ((e 31), .inl (0, 30, .inl (nF (M.2 31)))), ((e 32), .inl (0, 12, .inl (nF (M.2 32))))]
  refine zs_aload_n dX13_teamTick_10 rfl rfl ?_
  refine zs_get 0 dX13_teamTick_11 zf_RX13_301 rfl (v := .int (g 34)) rfl ?_
  refine zs_as (y := nI 2) h34 ?_
  refine zs_iconst (v := nI 1) dX13_teamTick_14 (by decide) ?_
  refine zs_icmp_ne (tgt := 22) dX13_teamTick_15 (by decide) (fun c_1 => ?_) (fun c_1 => (by first | exact absurd c_1 (by decide) | exact absurd (by decide) c_1 : False).elim)
  refine zs_aload_n dX13_teamTick_22 rfl rfl ?_
  refine zs_get 0 dX13_teamTick_23 zf_RX13_301 rfl (v := .int (g 34)) rfl ?_
  refine zs_as (y := nI 2) h34 ?_
  refine zs_iconst (v := nI 2) dX13_teamTick_26 (by decide) ?_
  refine zs_icmp_ne (tgt := 34) dX13_teamTick_27 (by decide) (fun c_2 => (by first | exact absurd c_2 (by decide) | exact absurd (by decide) c_2 : False).elim) (fun c_2 => ?_)
  refine zs_aload_n dX13_teamTick_30 rfl rfl ?_
  refine zs_callV (M := mX13_runTick) (As := []) (st := []) (Kc := [(mo, .inr (11, fMo e (mg g (un M.1 36 ((M.1 36) + 1))) w)), ((e 14), .inl (0, 800, .inl nw)), ((e 24), .inl (0, 12, .inl (nF (M.2 24)))), ((e 25), .inl (0, 12, .inl (nF (M.2 25)))), ((e 26), .inl (0, 12, .inl (nF (M.2 26)))), ((e 27), .inl (0, 12, .inl (nF (M.2 27)))), ((e 28), .inl (0, 360, .inl (nF (M.2 28)))), ((e 29), .inl (0, 12, .inl (nF (M.2 29)))), ((e 30), .inl (0, 12, .inl (nF (M.2 30)))), ((e 31), .inl (0, 30, .inl (nF (M.2 31)))), ((e 32), .inl (0, 12, .inl (nF (M.2 32))))]) (Kr := []) [0, 1, 2, 3, 4, 5, 6, 7, 8, 9, 10] [] 0 dX13_teamTick_31 zl_RX13_363 kX13_runTick rfl rfl rfl rfl rfl (by decide) rfl rfl (show dd - 1 + 1 ≤ dd by omega) (Nat.zero_le _) (Nat.zero_le _) (Nat.le_of_ble_eq_true rfl) (s_tRun l (dd - 1) mo e g w nw D c (tmUp M) (by omega) hR hD (uR_up h)) (fun r K1 hr => ?_)
  obtain ⟨rfl, M', hM, rfl⟩ := hr
  refine zs_K (K' := [(mo, .inr (11, fMo e (mg g M'.1) w)), ((e 14), .inl (0, 800, .inl nw)), ((e 24), .inl (0, 12, .inl (nF (M'.2 24)))), ((e 25), .inl (0, 12, .inl (nF (M'.2 25)))), ((e 26), .inl (0, 12, .inl (nF (M'.2 26)))), ((e 27), .inl (0, 12, .inl (nF (M'.2 27)))), ((e 28), .inl (0, 360, .inl (nF (M'.2 28)))), ((e 29), .inl (0, 12, .inl (nF (M'.2 29)))), ((e 30), .inl (0, 12, .inl (nF (M'.2 30)))), ((e 31), .inl (0, 30, .inl (nF (M'.2 31)))), ((e 32), .inl (0, 12, .inl (nF (M'.2 32))))]) [0, 1, 2, 3, 4, 5, 6, 7, 8, 9, 10] rfl (by decide) ?_
  exact zs_vret dX13_teamTick_34 rfl ⟨rfl, M', hM, rfl⟩
theorem dX13_throwsIn_0 : decode cX13_throwsIn 0 = .ok (.aload_n 0, 1) := by decide +kernel
theorem dX13_throwsIn_1 : decode cX13_throwsIn 1 = .ok (.iload_n 3, 1) := by decide +kernel
theorem dX13_throwsIn_2 : decode cX13_throwsIn 2 = .ok (.putfield 334, 3) := by decide +kernel
theorem dX13_throwsIn_5 : decode cX13_throwsIn 5 = .ok (.aload_n 0, 1) := by decide +kernel
theorem dX13_throwsIn_6 : decode cX13_throwsIn 6 = .ok (.iload_n 1, 1) := by decide +kernel
theorem dX13_throwsIn_7 : decode cX13_throwsIn 7 = .ok (.iload_n 2, 1) := by decide +kernel
theorem dX13_throwsIn_8 : decode cX13_throwsIn 8 = .ok (.invokevirtual 366, 3) := by decide +kernel
theorem dX13_throwsIn_11 : decode cX13_throwsIn 11 = .ok (.iconst 0, 1) := by decide +kernel
theorem dX13_throwsIn_12 : decode cX13_throwsIn 12 = .ok (.istore 5, 2) := by decide +kernel
theorem dX13_throwsIn_14 : decode cX13_throwsIn 14 = .ok (.iload 5, 2) := by decide +kernel
theorem dX13_throwsIn_16 : decode cX13_throwsIn 16 = .ok (.iload 4, 2) := by decide +kernel
theorem dX13_throwsIn_18 : decode cX13_throwsIn 18 = .ok (.if_icmp .ge 13, 3) := by decide +kernel
theorem dX13_throwsIn_21 : decode cX13_throwsIn 21 = .ok (.aload_n 0, 1) := by decide +kernel
theorem dX13_throwsIn_22 : decode cX13_throwsIn 22 = .ok (.invokevirtual 369, 3) := by decide +kernel
theorem dX13_throwsIn_25 : decode cX13_throwsIn 25 = .ok (.iinc 5 1, 3) := by decide +kernel
theorem dX13_throwsIn_28 : decode cX13_throwsIn 28 = .ok (.goto (-14), 3) := by decide +kernel
theorem dX13_throwsIn_31 : decode cX13_throwsIn 31 = .ok (.aload_n 0, 1) := by decide +kernel
theorem dX13_throwsIn_32 : decode cX13_throwsIn 32 = .ok (.getfield 316, 3) := by decide +kernel
theorem dX13_throwsIn_35 : decode cX13_throwsIn 35 = .ok (.ireturn, 1) := by decide +kernel
set_option maxRecDepth 100000 in
theorem lp_tth1 {l : Launch} {dd : Nat} {Po : zPo} {K0 : zK} {h0 : List va_E} {Xo : zK → Prop} {Gc : zG → Prop} (mo : Nat) (e : Nat → Nat) (g : Nat → Int32) (w : Int64) (nw : Nat → Int32) (D : zYd) (n wl k : Nat) (c0 : zRs) (P : Nat) (hP : P ≤ 30) (hJ0 : cJ P 0 c0) (hh : D.1 7 ≤ 20) (hd : 6 ≤ dd) (hR : yR D nw) (hD : yI D) (hk : k ≤ 3600) (hPo : ∀ r K', (r = some (.int (nI ((cWork (D.1 11) (D.1 10) (D.1 7) D.2.2.2.2.2.1 k c0).1 15))) ∧ ∃ M', tR D (cWork (D.1 11) (D.1 10) (D.1 7) D.2.2.2.2.2.1 k c0) M' ∧ K' = kTm mo e (upd g 34 (nI 1)) w nw M') → Po r K') : ∀ (m i : Nat) (M : zRs), i + m = k → tR D (cWork (D.1 11) (D.1 10) (D.1 7) D.2.2.2.2.2.1 i c0) M → zS (l, mX13_throwsIn, dd, Po, K0, h0, Xo, Gc) 0 0 14 [(0, .ref mo), (1, .int (nI 1)), (2, .int (nI n)), (3, .int (nI wl)), (4, .int (nI k)), (5, .int (nI i))] [] [(mo, .inr (11, fMo e (mg (upd g 34 (nI 1)) M.1) w)), ((e 14), .inl (0, 800, .inl nw)), ((e 24), .inl (0, 12, .inl (nF (M.2 24)))), ((e 25), .inl (0, 12, .inl (nF (M.2 25)))), ((e 26), .inl (0, 12, .inl (nF (M.2 26)))), ((e 27), .inl (0, 12, .inl (nF (M.2 27)))), ((e 28), .inl (0, 360, .inl (nF (M.2 28)))), ((e 29), .inl (0, 12, .inl (nF (M.2 29)))), ((e 30), .inl (0, 12, .inl (nF (M.2 30)))), ((e 31), .inl (0, 30, .inl (nF (M.2 31)))), ((e 32), .inl (0, 12, .inl (nF (M.2 32))))] := by
  intro m
  induction m with
  | zero =>
    intro i M hi h
    refine zs_iload dX13_throwsIn_14 rfl ?_
    refine zs_iload dX13_throwsIn_16 rfl ?_
    refine zs_icmp_ge (tgt := 31) dX13_throwsIn_18 (by decide) (fun c_1 => ?_) (fun c_1 => (c_1 (by rw [show i = k by omega]; exact Int32.le_refl _) : False).elim)
    refine zs_aload_n dX13_throwsIn_31 rfl rfl ?_
    refine zs_get 0 dX13_throwsIn_32 zf_RX13_316 rfl (v := .int (nI (M.1 39))) rfl ?_
    refine zs_as (y := nI ((cWork (D.1 11) (D.1 10) (D.1 7) D.2.2.2.2.2.1 i c0).1 15)) (congrArg nI h.1.2.2.2.2.1) ?_
    exact zs_iret dX13_throwsIn_35 rfl (hPo _ _ ⟨by rw [← show i = k by omega], M, by rw [← show i = k by omega]; exact h, rfl⟩)
  | succ m ih =>
    intro i M hi h
    refine zs_iload dX13_throwsIn_14 rfl ?_
    refine zs_iload dX13_throwsIn_16 rfl ?_
    refine zs_icmp_ge (tgt := 31) dX13_throwsIn_18 (by decide) (fun c_1 => (nI_ge (show i < k by omega) (by omega) c_1 : False).elim) (fun c_1 => ?_)
    refine zs_aload_n dX13_throwsIn_21 rfl rfl ?_
    refine zs_callV (M := mX13_teamTick) (As := []) (st := []) (Kc := [(mo, .inr (11, fMo e (mg (upd g 34 (nI 1)) M.1) w)), ((e 14), .inl (0, 800, .inl nw)), ((e 24), .inl (0, 12, .inl (nF (M.2 24)))), ((e 25), .inl (0, 12, .inl (nF (M.2 25)))), ((e 26), .inl (0, 12, .inl (nF (M.2 26)))), ((e 27), .inl (0, 12, .inl (nF (M.2 27)))), ((e 28), .inl (0, 360, .inl (nF (M.2 28)))), ((e 29), .inl (0, 12, .inl (nF (M.2 29)))), ((e 30), .inl (0, 12, .inl (nF (M.2 30)))), ((e 31), .inl (0, 30, .inl (nF (M.2 31)))), ((e 32), .inl (0, 12, .inl (nF (M.2 32))))]) (Kr := []) [0, 1, 2, 3, 4, 5, 6, 7, 8, 9, 10] [] 0 dX13_throwsIn_22 zl_RX13_369 kX13_teamTick rfl rfl rfl rfl rfl (by decide) rfl rfl (show dd - 1 + 1 ≤ dd by omega) (Nat.zero_le _) (Nat.zero_le _) (Nat.le_of_ble_eq_true rfl) (s_tTick1 l (dd - 1) mo e (upd g 34 (nI 1)) w nw D M (by omega) hR hD rfl (cWork (D.1 11) (D.1 10) (D.1 7) D.2.2.2.2.2.1 i c0) P i (by have := cWork_pails (back := D.1 11) (spill := D.1 10) (pww := D.2.2.2.2.2.1) hJ0 hP hh i (by omega); rwa [Nat.zero_add] at this) hP (by omega) h) (fun r K1 hr => ?_)
    obtain ⟨rfl, M', hM, rfl⟩ := hr
    refine zs_K (K' := [(mo, .inr (11, fMo e (mg (upd g 34 (nI 1)) M'.1) w)), ((e 14), .inl (0, 800, .inl nw)), ((e 24), .inl (0, 12, .inl (nF (M'.2 24)))), ((e 25), .inl (0, 12, .inl (nF (M'.2 25)))), ((e 26), .inl (0, 12, .inl (nF (M'.2 26)))), ((e 27), .inl (0, 12, .inl (nF (M'.2 27)))), ((e 28), .inl (0, 360, .inl (nF (M'.2 28)))), ((e 29), .inl (0, 12, .inl (nF (M'.2 29)))), ((e 30), .inl (0, 12, .inl (nF (M'.2 30)))), ((e 31), .inl (0, 30, .inl (nF (M'.2 31)))), ((e 32), .inl (0, 12, .inl (nF (M'.2 32))))]) [0, 1, 2, 3, 4, 5, 6, 7, 8, 9, 10] rfl (by decide) ?_
    refine zs_iinc (v := (nI (i + 1))) (lv' := [(5, .int (nI (i + 1))), (0, .ref mo), (1, .int (nI 1)), (2, .int (nI n)), (3, .int (nI wl)), (4, .int (nI k))]) dX13_throwsIn_25 rfl (nI_add _ 1) (Nat.le_of_ble_eq_true rfl) rfl ?_
    refine zs_goto (tgt := 14) dX13_throwsIn_28 (by decide) ?_
    refine zs_lv [1, 2, 3, 4, 5, 0] rfl ?_
    exact ih (i + 1) M' (by omega) hM
set_option maxRecDepth 100000 in
theorem s_tThrow1 (l : Launch) (dd : Nat) (mo : Nat) (e : Nat → Nat) (g : Nat → Int32) (w : Int64) (nw : Nat → Int32) (D : zYd) (s : zRs) (n wl k : Nat) (c0 : zRs) (P : Nat) (hP : P ≤ 30) (hJ0 : cJ P 0 c0)  (hd : 6 ≤ dd) (hR : yR D nw) (hD : yI D) (hn : n ≤ 1000) (hk : k ≤ 3600) (h : tR D c0 (tmSt D 1 n (tmWl s wl))) : zSp l mX13_throwsIn dd 0 0 [.ref mo, .int (nI 1), .int (nI n), .int (nI wl), .int (nI k)] [(mo, .inr (11, fMo e (mg g s.1) w)), ((e 14), .inl (0, 800, .inl nw)), ((e 24), .inl (0, 12, .inl (nF (s.2 24)))), ((e 25), .inl (0, 12, .inl (nF (s.2 25)))), ((e 26), .inl (0, 12, .inl (nF (s.2 26)))), ((e 27), .inl (0, 12, .inl (nF (s.2 27)))), ((e 28), .inl (0, 360, .inl (nF (s.2 28)))), ((e 29), .inl (0, 12, .inl (nF (s.2 29)))), ((e 30), .inl (0, 12, .inl (nF (s.2 30)))), ((e 31), .inl (0, 30, .inl (nF (s.2 31)))), ((e 32), .inl (0, 12, .inl (nF (s.2 32))))] (fun r K' => r = some (.int (nI ((cWork (D.1 11) (D.1 10) (D.1 7) D.2.2.2.2.2.1 k c0).1 15))) ∧ ∃ M', tR D (cWork (D.1 11) (D.1 10) (D.1 7) D.2.2.2.2.2.1 k c0) M' ∧ K' = kTm mo e (upd g 34 (nI 1)) w nw M') := by
  refine zSp.of (by decide) (Nat.le_of_ble_eq_true rfl) (fun h0 => ?_)
  show zS _ 0 0 0 [(0, .ref mo), (1, .int (nI 1)), (2, .int (nI n)), (3, .int (nI wl)), (4, .int (nI k))] [] [(mo, .inr (11, fMo e (mg g s.1) w)), ((e 14), .inl (0, 800, .inl nw)), ((e 24), .inl (0, 12, .inl (nF (s.2 24)))), ((e 25), .inl (0, 12, .inl (nF (s.2 25)))), ((e 26), .inl (0, 12, .inl (nF (s.2 26)))), ((e 27), .inl (0, 12, .inl (nF (s.2 27)))), ((e 28), .inl (0, 360, .inl (nF (s.2 28)))), ((e 29), .inl (0, 12, .inl (nF (s.2 29)))), ((e 30), .inl (0, 12, .inl (nF (s.2 30)))), ((e 31), .inl (0, 30, .inl (nF (s.2 31)))), ((e 32), .inl (0, 12, .inl (nF (s.2 32))))]
  refine zs_aload_n dX13_throwsIn_0 rfl rfl ?_
  refine zs_iload_n dX13_throwsIn_1 rfl ?_
  refine zs_put 0 dX13_throwsIn_2 zf_RX13_334 rfl (Nat.le_of_ble_eq_true rfl) (zPv_i _) ?_
  show zS _ _ _ _ _ _ [(mo, .inr (11, fMo e (mg g (un s.1 35 wl)) w)), ((e 14), .inl (0, 800, .inl nw)), ((e 24), .inl (0, 12, .inl (nF (s.2 24)))), ((e 25), .inl (0, 12, .inl (nF (s.2 25)))), ((e 26), .inl (0, 12, .inl (nF (s.2 26)))), ((e 27), .inl (0, 12, .inl (nF (s.2 27)))), ((e 28), .inl (0, 360, .inl (nF (s.2 28)))), ((e 29), .inl (0, 12, .inl (nF (s.2 29)))), ((e 30), .inl (0, 12, .inl (nF (s.2 30)))), ((e 31), .inl (0, 30, .inl (nF (s.2 31)))), ((e 32), .inl (0, 12, .inl (nF (s.2 32))))]
  refine zs_aload_n dX13_throwsIn_5 rfl rfl ?_
  refine zs_iload_n dX13_throwsIn_6 rfl ?_
  refine zs_iload_n dX13_throwsIn_7 rfl ?_
  refine zs_callV (M := mX13_start) (As := [.int (nI 1), .int (nI n)]) (st := []) (Kc := [(mo, .inr (11, fMo e (mg g (un s.1 35 wl)) w)), ((e 14), .inl (0, 800, .inl nw)), ((e 24), .inl (0, 12, .inl (nF (s.2 24)))), ((e 25), .inl (0, 12, .inl (nF (s.2 25)))), ((e 26), .inl (0, 12, .inl (nF (s.2 26)))), ((e 27), .inl (0, 12, .inl (nF (s.2 27)))), ((e 28), .inl (0, 360, .inl (nF (s.2 28)))), ((e 29), .inl (0, 12, .inl (nF (s.2 29)))), ((e 30), .inl (0, 12, .inl (nF (s.2 30)))), ((e 31), .inl (0, 30, .inl (nF (s.2 31)))), ((e 32), .inl (0, 12, .inl (nF (s.2 32))))]) (Kr := []) [0, 1, 2, 3, 4, 5, 6, 7, 8, 9, 10] [] 0 dX13_throwsIn_8 zl_RX13_366 kX13_start rfl rfl rfl rfl rfl (by decide) rfl rfl (show dd - 1 + 1 ≤ dd by omega) (Nat.zero_le _) (Nat.zero_le _) (Nat.le_of_ble_eq_true rfl) (s_tStart l (dd - 1) mo e g w nw D (tmWl s wl) 1 n hR hD (by omega) (by omega)) (fun r K1 hr => ?_)
  obtain ⟨rfl, rfl⟩ := hr
  refine zs_K (K' := [(mo, .inr (11, fMo e (mg (upd g 34 (nI 1)) ((tmSt D 1 n (tmWl s wl)).1)) w)), ((e 14), .inl (0, 800, .inl nw)), ((e 24), .inl (0, 12, .inl (nF ((tmSt D 1 n (tmWl s wl)).2 24)))), ((e 25), .inl (0, 12, .inl (nF ((tmSt D 1 n (tmWl s wl)).2 25)))), ((e 26), .inl (0, 12, .inl (nF ((tmSt D 1 n (tmWl s wl)).2 26)))), ((e 27), .inl (0, 12, .inl (nF ((tmSt D 1 n (tmWl s wl)).2 27)))), ((e 28), .inl (0, 360, .inl (nF ((tmSt D 1 n (tmWl s wl)).2 28)))), ((e 29), .inl (0, 12, .inl (nF ((tmSt D 1 n (tmWl s wl)).2 29)))), ((e 30), .inl (0, 12, .inl (nF ((tmSt D 1 n (tmWl s wl)).2 30)))), ((e 31), .inl (0, 30, .inl (nF ((tmSt D 1 n (tmWl s wl)).2 31)))), ((e 32), .inl (0, 12, .inl (nF ((tmSt D 1 n (tmWl s wl)).2 32))))]) [0, 1, 2, 3, 4, 5, 6, 7, 8, 9, 10] rfl (by decide) ?_
  refine zs_iconst (v := nI 0) dX13_throwsIn_11 (by decide) ?_
  refine zs_istore (lv' := [(5, .int (nI 0)), (0, .ref mo), (1, .int (nI 1)), (2, .int (nI n)), (3, .int (nI wl)), (4, .int (nI k))]) dX13_throwsIn_12 (Nat.le_of_ble_eq_true rfl) rfl ?_
  refine zs_lv [1, 2, 3, 4, 5, 0] rfl ?_
  exact lp_tth1 mo e g w nw D n wl k c0 P hP hJ0 hD.2.2.2.2.2.2.2.2.2.2.2.1.2 hd hR hD hk (fun r K1 h => h) k 0 (tmSt D 1 n (tmWl s wl)) (Nat.zero_add _) h
set_option maxRecDepth 100000 in
theorem lp_tth2 {l : Launch} {dd : Nat} {Po : zPo} {K0 : zK} {h0 : List va_E} {Xo : zK → Prop} {Gc : zG → Prop} (mo : Nat) (e : Nat → Nat) (g : Nat → Int32) (w : Int64) (nw : Nat → Int32) (D : zYd) (n wl k : Nat) (c0 : zRs)  (hd : 6 ≤ dd) (hR : yR D nw) (hD : yI D) (hk : k ≤ 3600) (hPo : ∀ r K', (r = some (.int (nI ((rWork (D.1 7) (D.1 8) c0 k).1 8))) ∧ ∃ M', uR D (rWork (D.1 7) (D.1 8) c0 k) M' ∧ K' = kTm mo e (upd g 34 (nI 2)) w nw M') → Po r K') : ∀ (m i : Nat) (M : zRs), i + m = k → uR D (rWork (D.1 7) (D.1 8) c0 i) M → zS (l, mX13_throwsIn, dd, Po, K0, h0, Xo, Gc) 0 0 14 [(0, .ref mo), (1, .int (nI 2)), (2, .int (nI n)), (3, .int (nI wl)), (4, .int (nI k)), (5, .int (nI i))] [] [(mo, .inr (11, fMo e (mg (upd g 34 (nI 2)) M.1) w)), ((e 14), .inl (0, 800, .inl nw)), ((e 24), .inl (0, 12, .inl (nF (M.2 24)))), ((e 25), .inl (0, 12, .inl (nF (M.2 25)))), ((e 26), .inl (0, 12, .inl (nF (M.2 26)))), ((e 27), .inl (0, 12, .inl (nF (M.2 27)))), ((e 28), .inl (0, 360, .inl (nF (M.2 28)))), ((e 29), .inl (0, 12, .inl (nF (M.2 29)))), ((e 30), .inl (0, 12, .inl (nF (M.2 30)))), ((e 31), .inl (0, 30, .inl (nF (M.2 31)))), ((e 32), .inl (0, 12, .inl (nF (M.2 32))))] := by
  intro m
  induction m with
  | zero =>
    intro i M hi h
    refine zs_iload dX13_throwsIn_14 rfl ?_
    refine zs_iload dX13_throwsIn_16 rfl ?_
    refine zs_icmp_ge (tgt := 31) dX13_throwsIn_18 (by decide) (fun c_1 => ?_) (fun c_1 => (c_1 (by rw [show i = k by omega]; exact Int32.le_refl _) : False).elim)
    refine zs_aload_n dX13_throwsIn_31 rfl rfl ?_
    refine zs_get 0 dX13_throwsIn_32 zf_RX13_316 rfl (v := .int (nI (M.1 39))) rfl ?_
    refine zs_as (y := nI ((rWork (D.1 7) (D.1 8) c0 i).1 8)) (congrArg nI h.1.2.2.1) ?_
    exact zs_iret dX13_throwsIn_35 rfl (hPo _ _ ⟨by rw [← show i = k by omega], M, by rw [← show i = k by omega]; exact h, rfl⟩)
  | succ m ih =>
    intro i M hi h
    refine zs_iload dX13_throwsIn_14 rfl ?_
    refine zs_iload dX13_throwsIn_16 rfl ?_
    refine zs_icmp_ge (tgt := 31) dX13_throwsIn_18 (by decide) (fun c_1 => (nI_ge (show i < k by omega) (by omega) c_1 : False).elim) (fun c_1 => ?_)
    refine zs_aload_n dX13_throwsIn_21 rfl rfl ?_
    refine zs_callV (M := mX13_teamTick) (As := []) (st := []) (Kc := [(mo, .inr (11, fMo e (mg (upd g 34 (nI 2)) M.1) w)), ((e 14), .inl (0, 800, .inl nw)), ((e 24), .inl (0, 12, .inl (nF (M.2 24)))), ((e 25), .inl (0, 12, .inl (nF (M.2 25)))), ((e 26), .inl (0, 12, .inl (nF (M.2 26)))), ((e 27), .inl (0, 12, .inl (nF (M.2 27)))), ((e 28), .inl (0, 360, .inl (nF (M.2 28)))), ((e 29), .inl (0, 12, .inl (nF (M.2 29)))), ((e 30), .inl (0, 12, .inl (nF (M.2 30)))), ((e 31), .inl (0, 30, .inl (nF (M.2 31)))), ((e 32), .inl (0, 12, .inl (nF (M.2 32))))]) (Kr := []) [0, 1, 2, 3, 4, 5, 6, 7, 8, 9, 10] [] 0 dX13_throwsIn_22 zl_RX13_369 kX13_teamTick rfl rfl rfl rfl rfl (by decide) rfl rfl (show dd - 1 + 1 ≤ dd by omega) (Nat.zero_le _) (Nat.zero_le _) (Nat.le_of_ble_eq_true rfl) (s_tTick2 l (dd - 1) mo e (upd g 34 (nI 2)) w nw D M (by omega) hR hD rfl (rWork (D.1 7) (D.1 8) c0 i) h) (fun r K1 hr => ?_)
    obtain ⟨rfl, M', hM, rfl⟩ := hr
    refine zs_K (K' := [(mo, .inr (11, fMo e (mg (upd g 34 (nI 2)) M'.1) w)), ((e 14), .inl (0, 800, .inl nw)), ((e 24), .inl (0, 12, .inl (nF (M'.2 24)))), ((e 25), .inl (0, 12, .inl (nF (M'.2 25)))), ((e 26), .inl (0, 12, .inl (nF (M'.2 26)))), ((e 27), .inl (0, 12, .inl (nF (M'.2 27)))), ((e 28), .inl (0, 360, .inl (nF (M'.2 28)))), ((e 29), .inl (0, 12, .inl (nF (M'.2 29)))), ((e 30), .inl (0, 12, .inl (nF (M'.2 30)))), ((e 31), .inl (0, 30, .inl (nF (M'.2 31)))), ((e 32), .inl (0, 12, .inl (nF (M'.2 32))))]) [0, 1, 2, 3, 4, 5, 6, 7, 8, 9, 10] rfl (by decide) ?_
    refine zs_iinc (v := (nI (i + 1))) (lv' := [(5, .int (nI (i + 1))), (0, .ref mo), (1, .int (nI 2)), (2, .int (nI n)), (3, .int (nI wl)), (4, .int (nI k))]) dX13_throwsIn_25 rfl (nI_add _ 1) (Nat.le_of_ble_eq_true rfl) rfl ?_
    refine zs_goto (tgt := 14) dX13_throwsIn_28 (by decide) ?_
    refine zs_lv [1, 2, 3, 4, 5, 0] rfl ?_
    exact ih (i + 1) M' (by omega) hM
set_option maxRecDepth 100000 in
theorem s_tThrow2 (l : Launch) (dd : Nat) (mo : Nat) (e : Nat → Nat) (g : Nat → Int32) (w : Int64) (nw : Nat → Int32) (D : zYd) (s : zRs) (n wl k : Nat) (c0 : zRs)  (hd : 6 ≤ dd) (hR : yR D nw) (hD : yI D) (hn : n ≤ 1000) (hk : k ≤ 3600) (h : uR D c0 (tmSt D 2 n (tmWl s wl))) : zSp l mX13_throwsIn dd 0 0 [.ref mo, .int (nI 2), .int (nI n), .int (nI wl), .int (nI k)] [(mo, .inr (11, fMo e (mg g s.1) w)), ((e 14), .inl (0, 800, .inl nw)), ((e 24), .inl (0, 12, .inl (nF (s.2 24)))), ((e 25), .inl (0, 12, .inl (nF (s.2 25)))), ((e 26), .inl (0, 12, .inl (nF (s.2 26)))), ((e 27), .inl (0, 12, .inl (nF (s.2 27)))), ((e 28), .inl (0, 360, .inl (nF (s.2 28)))), ((e 29), .inl (0, 12, .inl (nF (s.2 29)))), ((e 30), .inl (0, 12, .inl (nF (s.2 30)))), ((e 31), .inl (0, 30, .inl (nF (s.2 31)))), ((e 32), .inl (0, 12, .inl (nF (s.2 32))))] (fun r K' => r = some (.int (nI ((rWork (D.1 7) (D.1 8) c0 k).1 8))) ∧ ∃ M', uR D (rWork (D.1 7) (D.1 8) c0 k) M' ∧ K' = kTm mo e (upd g 34 (nI 2)) w nw M') := by
  refine zSp.of (by decide) (Nat.le_of_ble_eq_true rfl) (fun h0 => ?_)
  show zS _ 0 0 0 [(0, .ref mo), (1, .int (nI 2)), (2, .int (nI n)), (3, .int (nI wl)), (4, .int (nI k))] [] [(mo, .inr (11, fMo e (mg g s.1) w)), ((e 14), .inl (0, 800, .inl nw)), ((e 24), .inl (0, 12, .inl (nF (s.2 24)))), ((e 25), .inl (0, 12, .inl (nF (s.2 25)))), ((e 26), .inl (0, 12, .inl (nF (s.2 26)))), ((e 27), .inl (0, 12, .inl (nF (s.2 27)))), ((e 28), .inl (0, 360, .inl (nF (s.2 28)))), ((e 29), .inl (0, 12, .inl (nF (s.2 29)))), ((e 30), .inl (0, 12, .inl (nF (s.2 30)))), ((e 31), .inl (0, 30, .inl (nF (s.2 31)))), ((e 32), .inl (0, 12, .inl (nF (s.2 32))))]
  refine zs_aload_n dX13_throwsIn_0 rfl rfl ?_
  refine zs_iload_n dX13_throwsIn_1 rfl ?_
  refine zs_put 0 dX13_throwsIn_2 zf_RX13_334 rfl (Nat.le_of_ble_eq_true rfl) (zPv_i _) ?_
  show zS _ _ _ _ _ _ [(mo, .inr (11, fMo e (mg g (un s.1 35 wl)) w)), ((e 14), .inl (0, 800, .inl nw)), ((e 24), .inl (0, 12, .inl (nF (s.2 24)))), ((e 25), .inl (0, 12, .inl (nF (s.2 25)))), ((e 26), .inl (0, 12, .inl (nF (s.2 26)))), ((e 27), .inl (0, 12, .inl (nF (s.2 27)))), ((e 28), .inl (0, 360, .inl (nF (s.2 28)))), ((e 29), .inl (0, 12, .inl (nF (s.2 29)))), ((e 30), .inl (0, 12, .inl (nF (s.2 30)))), ((e 31), .inl (0, 30, .inl (nF (s.2 31)))), ((e 32), .inl (0, 12, .inl (nF (s.2 32))))]
  refine zs_aload_n dX13_throwsIn_5 rfl rfl ?_
  refine zs_iload_n dX13_throwsIn_6 rfl ?_
  refine zs_iload_n dX13_throwsIn_7 rfl ?_
  refine zs_callV (M := mX13_start) (As := [.int (nI 2), .int (nI n)]) (st := []) (Kc := [(mo, .inr (11, fMo e (mg g (un s.1 35 wl)) w)), ((e 14), .inl (0, 800, .inl nw)), ((e 24), .inl (0, 12, .inl (nF (s.2 24)))), ((e 25), .inl (0, 12, .inl (nF (s.2 25)))), ((e 26), .inl (0, 12, .inl (nF (s.2 26)))), ((e 27), .inl (0, 12, .inl (nF (s.2 27)))), ((e 28), .inl (0, 360, .inl (nF (s.2 28)))), ((e 29), .inl (0, 12, .inl (nF (s.2 29)))), ((e 30), .inl (0, 12, .inl (nF (s.2 30)))), ((e 31), .inl (0, 30, .inl (nF (s.2 31)))), ((e 32), .inl (0, 12, .inl (nF (s.2 32))))]) (Kr := []) [0, 1, 2, 3, 4, 5, 6, 7, 8, 9, 10] [] 0 dX13_throwsIn_8 zl_RX13_366 kX13_start rfl rfl rfl rfl rfl (by decide) rfl rfl (show dd - 1 + 1 ≤ dd by omega) (Nat.zero_le _) (Nat.zero_le _) (Nat.le_of_ble_eq_true rfl) (s_tStart l (dd - 1) mo e g w nw D (tmWl s wl) 2 n hR hD (by omega) (by omega)) (fun r K1 hr => ?_)
  obtain ⟨rfl, rfl⟩ := hr
  refine zs_K (K' := [(mo, .inr (11, fMo e (mg (upd g 34 (nI 2)) ((tmSt D 2 n (tmWl s wl)).1)) w)), ((e 14), .inl (0, 800, .inl nw)), ((e 24), .inl (0, 12, .inl (nF ((tmSt D 2 n (tmWl s wl)).2 24)))), ((e 25), .inl (0, 12, .inl (nF ((tmSt D 2 n (tmWl s wl)).2 25)))), ((e 26), .inl (0, 12, .inl (nF ((tmSt D 2 n (tmWl s wl)).2 26)))), ((e 27), .inl (0, 12, .inl (nF ((tmSt D 2 n (tmWl s wl)).2 27)))), ((e 28), .inl (0, 360, .inl (nF ((tmSt D 2 n (tmWl s wl)).2 28)))), ((e 29), .inl (0, 12, .inl (nF ((tmSt D 2 n (tmWl s wl)).2 29)))), ((e 30), .inl (0, 12, .inl (nF ((tmSt D 2 n (tmWl s wl)).2 30)))), ((e 31), .inl (0, 30, .inl (nF ((tmSt D 2 n (tmWl s wl)).2 31)))), ((e 32), .inl (0, 12, .inl (nF ((tmSt D 2 n (tmWl s wl)).2 32))))]) [0, 1, 2, 3, 4, 5, 6, 7, 8, 9, 10] rfl (by decide) ?_
  refine zs_iconst (v := nI 0) dX13_throwsIn_11 (by decide) ?_
  refine zs_istore (lv' := [(5, .int (nI 0)), (0, .ref mo), (1, .int (nI 2)), (2, .int (nI n)), (3, .int (nI wl)), (4, .int (nI k))]) dX13_throwsIn_12 (Nat.le_of_ble_eq_true rfl) rfl ?_
  refine zs_lv [1, 2, 3, 4, 5, 0] rfl ?_
  exact lp_tth2 mo e g w nw D n wl k c0  hd hR hD hk (fun r K1 h => h) k 0 (tmSt D 2 n (tmWl s wl)) (Nat.zero_add _) h
