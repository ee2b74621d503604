/-! ===== rows of zR for the JDK's own, for what stands from the start, and for the script ===== -/
section ZRJ
variable {E : zEv} {kc ks pc : Nat} {lv : List (Nat × Value)} {st : List Value} {h : List va_E}
theorem zr_mmax {idx : Nat} {x y : Int32} (d : decode E.2.1.2.1 pc = .ok (.invokestatic idx, 3)) (w : Cond.methodLink E.2.1.1.cls idx Lib.Math.max.name ∈ zTs) (w1 : Cond.static Lib.Math.max.name ∈ zTs) (w2 : Cond.initialized "java/lang/Math" ∈ zTs) (w3 : Cond.code Lib.Math.max.name Lib.Math.max.code 2 (some .int) ∈ zTs) (hd : 1 ≤ E.2.2.1) (hst : (st.map fun v => v.category).sum ≤ 8) (K : zR E kc ks (pc + 3) lv (.int (if x < y then y else x) :: st) h) : zR E kc ks pc lv (.int y :: .int x :: st) h := by
  intro G p e s m args below meth c A ad0 n0 mc ms Z F H locs cells slots ad ls D
  have h8 := zcat8 (G := G) (ad := ad) hst
  exact va_mmax F.ex F.cd (F.ml.trans D.lvh.1.symm) F.own (F.ws _ w) (F.ws _ w1) (F.ws _ w2) (F.ws _ w3) hd (show _ ≤ 60 * E.2.2.1 + 60 by omega) (by have := D.2.2.2.2.2.2.2.2.2.1; show cells ≤ mc; omega) (by have := D.2.2.2.2.2.2.2.2.2.2; show slots ≤ ms; omega) d (K G p e s m args below meth c A ad0 n0 mc ms Z F H locs cells slots ad ls (D.stk (zok_c D.d2 trivial)))
theorem zr_mmin {idx : Nat} {x y : Int32} (d : decode E.2.1.2.1 pc = .ok (.invokestatic idx, 3)) (w : Cond.methodLink E.2.1.1.cls idx Lib.Math.min.name ∈ zTs) (w1 : Cond.static Lib.Math.min.name ∈ zTs) (w2 : Cond.initialized "java/lang/Math" ∈ zTs) (w3 : Cond.code Lib.Math.min.name Lib.Math.min.code 2 (some .int) ∈ zTs) (hd : 1 ≤ E.2.2.1) (hst : (st.map fun v => v.category).sum ≤ 8) (K : zR E kc ks (pc + 3) lv (.int (if y < x then y else x) :: st) h) : zR E kc ks pc lv (.int y :: .int x :: st) h := by
  intro G p e s m args below meth c A ad0 n0 mc ms Z F H locs cells slots ad ls D
  have h8 := zcat8 (G := G) (ad := ad) hst
  exact va_mmin F.ex F.cd (F.ml.trans D.lvh.1.symm) F.own (F.ws _ w) (F.ws _ w1) (F.ws _ w2) (F.ws _ w3) hd (show _ ≤ 60 * E.2.2.1 + 60 by omega) (by have := D.2.2.2.2.2.2.2.2.2.1; show cells ≤ mc; omega) (by have := D.2.2.2.2.2.2.2.2.2.2; show slots ≤ ms; omega) d (K G p e s m args below meth c A ad0 n0 mc ms Z F H locs cells slots ad ls (D.stk (zok_c D.d2 trivial)))
theorem zr_mabs {idx : Nat} {x : Int32} (d : decode E.2.1.2.1 pc = .ok (.invokestatic idx, 3)) (w : Cond.methodLink E.2.1.1.cls idx Lib.Math.abs.name ∈ zTs) (w1 : Cond.static Lib.Math.abs.name ∈ zTs) (w2 : Cond.initialized "java/lang/Math" ∈ zTs) (w3 : Cond.code Lib.Math.abs.name Lib.Math.abs.code 1 (some .int) ∈ zTs) (hd : 1 ≤ E.2.2.1) (hst : (st.map fun v => v.category).sum ≤ 8) (K : zR E kc ks (pc + 3) lv (.int (if 0 ≤ x then x else 0 - x) :: st) h) : zR E kc ks pc lv (.int x :: st) h := by
  intro G p e s m args below meth c A ad0 n0 mc ms Z F H locs cells slots ad ls D
  have h8 := zcat8 (G := G) (ad := ad) hst
  exact va_mabs F.ex F.cd (F.ml.trans D.lvh.1.symm) F.own (F.ws _ w) (F.ws _ w1) (F.ws _ w2) (F.ws _ w3) hd (show _ ≤ 60 * E.2.2.1 + 60 by omega) (by have := D.2.2.2.2.2.2.2.2.2.1; show cells ≤ mc; omega) (by have := D.2.2.2.2.2.2.2.2.2.2; show slots ≤ ms; omega) d (K G p e s m args below meth c A ad0 n0 mc ms Z F H locs cells slots ad ls (D.stk (zok_c D.d1 trivial)))
theorem zr_copy {idx a a0 n1 n2 : Nat} {f g : Nat → Int32} {sp dp n : Int32} (d : decode E.2.1.2.1 pc = .ok (.invokestatic idx, 3)) (w : Cond.methodLink E.2.1.1.cls idx arraycopyName ∈ zTs) (w1 : Cond.native arraycopyName ∈ zTs) (w2 : Cond.static arraycopyName ∈ zTs) (w3 : Cond.initialized "java/lang/System" ∈ zTs) (hd : 1 ≤ E.2.2.1) (hst : (st.map fun v => v.category).sum ≤ 8) (ha0 : h[a0]? = some (.inl (0, n1, .inl f))) (ha : h[a]? = some (.inl (0, n2, .inl g))) (h1 : ¬ sp < 0) (h2 : ¬ dp < 0) (h3 : ¬ n < 0) (h4 : sp.toNatClampNeg + n.toNatClampNeg ≤ n1) (h5 : dp.toNatClampNeg + n.toNatClampNeg ≤ n2)
    (K : zR E kc ks (pc + 3) lv st (h.set a (.inl (0, n2, .inl (va_cpy f g sp.toNatClampNeg dp.toNatClampNeg n.toNatClampNeg))))) : zR E kc ks pc lv (.int n :: .int dp :: .ref a :: .int sp :: .ref a0 :: st) h := by
  intro G p e s m args below meth c A ad0 n0 mc ms Z F H locs cells slots ad ls D
  have h8 := zcat8 (G := G) (ad := ad) hst
  have hw : nativeFrameWords "java/lang/System" "arraycopy" 5 + 11 ≤ 60 := by decide
  refine va_copyi (D := G.2.1) (cl := vwCl) (tys := zTys G.1) F.ex F.cd (F.ml.trans D.lvh.1.symm) F.own (F.ws _ w) (F.ws _ w1) (F.ws _ w2) (F.ws _ w3) F.kn.1 D.1 D.2.1 D.2.2.2.1 a0 a 0 0 (zW_get (G := G) (ad := ad) ha0) (zW_get (G := G) (ad := ad) ha) rfl rfl rfl h1 h2 h3 h4 h5 (fun _ _ => rfl) hd (show _ ≤ 60 * E.2.2.1 + 60 by omega) d (fun H1 locs1 hP hD hS => ?_)
  have hset : (zW G ad h).set a (ad a, .inl (G.1 0, n2, .inl (va_cpy f g sp.toNatClampNeg dp.toNatClampNeg n.toNatClampNeg))) = zW G ad (h.set a (.inl (0, n2, .inl (va_cpy f g sp.toNatClampNeg dp.toNatClampNeg n.toNatClampNeg)))) := (zW_set G ad h a (.inl (0, n2, .inl (va_cpy f g sp.toNatClampNeg dp.toNatClampNeg n.toNatClampNeg))))
  rw [hset] at hP hD
  exact K G p e s m args below meth c A ad0 n0 mc ms Z F H1 locs1 cells slots ad ls (D.hp hP hD (D.2.2.1.set (e := .inl (0, n2, .inl (va_cpy f g sp.toNatClampNeg dp.toNatClampNeg n.toNatClampNeg))) trivial) hS (List.length_set ..) (fun v hv => D.sto v (by simp [hv])))
/-- a word of the enum -/
theorem zr_getsW {idx : Nat} {u : UInt32} (d : decode E.2.1.2.1 pc = .ok (.getstatic idx, 3)) (hu : u.toNat < 29) (w : Cond.fieldLink E.2.1.1.cls idx "PailRow$Word" (zNm.getD u.toNat "") zD10 ∈ zTs) (K : zR E kc ks (pc + 3) lv (.float u :: st) h) : zR E kc ks pc lv st h := by
  intro G p e s m args below meth c A ad0 n0 mc ms Z F H locs cells slots ad ls D
  exact va_gets F.ex F.cd (F.kn.2.1.1.1 u.toNat hu).1 D.2.2.2.1 F.own (F.ws _ w) (fun _ q => q) d (K G p e s m args below meth c A ad0 n0 mc ms Z F H locs cells slots ad ls (D.stk (zok_c D.sto trivial)))
theorem zr_getsAll {idx : Nat} (d : decode E.2.1.2.1 pc = .ok (.getstatic idx, 3)) (w : Cond.fieldLink E.2.1.1.cls idx "PailRow$Word" "ALL" "[LPailRow$Word;" ∈ zTs) (K : zR E kc ks (pc + 3) lv (.float 100 :: st) h) : zR E kc ks pc lv st h := by
  intro G p e s m args below meth c A ad0 n0 mc ms Z F H locs cells slots ad ls D
  exact va_gets F.ex F.cd F.kn.2.1.2.1 D.2.2.2.1 F.own (F.ws _ w) (fun _ q => q) d (K G p e s m args below meth c A ad0 n0 mc ms Z F H locs cells slots ad ls (D.stk (zok_c D.sto trivial)))
theorem zr_getsSw {idx : Nat} (d : decode E.2.1.2.1 pc = .ok (.getstatic idx, 3)) (w : Cond.fieldLink E.2.1.1.cls idx "PailRow$1" "$SwitchMap$PailRow$Word" "[I" ∈ zTs) (K : zR E kc ks (pc + 3) lv (.float 101 :: st) h) : zR E kc ks pc lv st h := by
  intro G p e s m args below meth c A ad0 n0 mc ms Z F H locs cells slots ad ls D
  exact va_gets F.ex F.cd F.kn.2.1.2.2.2.1 D.2.2.2.1 F.own (F.ws _ w) (fun _ q => q) d (K G p e s m args below meth c A ad0 n0 mc ms Z F H locs cells slots ad ls (D.stk (zok_c D.sto trivial)))
theorem zr_allAt {i : Int32} (d : decode E.2.1.2.1 pc = .ok (.aaload, 1)) (hin : vp_in i 29) (K : zR E kc ks (pc + 1) lv (.float (UInt32.ofNat i.toNatClampNeg) :: st) h) : zR E kc ks pc lv (.int i :: .float 100 :: st) h := by
  intro G p e s m args below meth c A ad0 n0 mc ms Z F H locs cells slots ad ls D
  have hi : i.toNatClampNeg < 29 := Nat.not_le.mp (fun q => hin (Or.inr q))
  refine vb_tq F.ex F.cd F.kn.2.1.2.2.1 D.2.2.2.1 hin (v := zV G.2.2.1 ad (.float (UInt32.ofNat i.toNatClampNeg))) ?_ d (K G p e s m args below meth c A ad0 n0 mc ms Z F H locs cells slots ad ls (D.stk (zok_c D.d2 trivial)))
  show Value.ref _ = Value.ref (G.2.2.1 (UInt32.ofNat i.toNatClampNeg).toNat)
  rw [UInt32.toNat_ofNat_of_lt' (Nat.lt_trans hi (by decide))]
theorem zr_allLen (d : decode E.2.1.2.1 pc = .ok (.arraylength, 1)) (K : zR E kc ks (pc + 1) lv (.int 29 :: st) h) : zR E kc ks pc lv (.float 100 :: st) h := by
  intro G p e s m args below meth c A ad0 n0 mc ms Z F H locs cells slots ad ls D
  exact va_tlen F.ex F.cd F.kn.2.1.2.2.1 D.2.2.2.1 rfl d (K G p e s m args below meth c A ad0 n0 mc ms Z F H locs cells slots ad ls (D.stk (zok_c D.d1 trivial)))
theorem zr_swAt {i : Int32} (d : decode E.2.1.2.1 pc = .ok (.iaload, 1)) (hin : vp_in i 29) (K : zR E kc ks (pc + 1) lv (.int (zSw.getD i.toNatClampNeg 0) :: st) h) : zR E kc ks pc lv (.int i :: .float 101 :: st) h := by
  intro G p e s m args below meth c A ad0 n0 mc ms Z F H locs cells slots ad ls D
  exact va_ti F.ex F.cd F.kn.2.1.2.2.2.2.1 D.2.2.2.1 hin (v := .int (zSw.getD i.toNatClampNeg 0)) rfl d (K G p e s m args below meth c A ad0 n0 mc ms Z F H locs cells slots ad ls (D.stk (zok_c D.d2 trivial)))
theorem zr_letters {idx : Nat} {u : UInt32} (d : decode E.2.1.2.1 pc = .ok (.getfield idx, 3)) (hu : u.toNat < 29) (w : Cond.fieldLink E.2.1.1.cls idx "PailRow$Word" "letters" "I" ∈ zTs) (K : zR E kc ks (pc + 3) lv (.int (zLet.getD u.toNat 0) :: st) h) : zR E kc ks pc lv (.float u :: st) h := by
  intro G p e s m args below meth c A ad0 n0 mc ms Z F H locs cells slots ad ls D
  exact va_getE (q := ("PailRow$Word", "letters", "I", zLet)) F.ex F.cd F.kn.2.1.1 hu D.2.2.2.1 F.own List.mem_cons_self (F.ws _ w) (fun _ q => q) d (K G p e s m args below meth c A ad0 n0 mc ms Z F H locs cells slots ad ls (D.stk (zok_c D.d1 trivial)))
theorem zr_scrLen {L : Nat} {v : Int32} (hL : ∀ G, E.2.2.2.2.2 G → G.2.2.2.1 = L) (d : decode E.2.1.2.1 pc = .ok (.arraylength, 1)) (hv : Int32.ofNat L = v) (K : zR E kc ks (pc + 1) lv (.int v :: st) h) : zR E kc ks pc lv (.float 102 :: st) h := by
  intro G p e s m args below meth c A ad0 n0 mc ms Z F H locs cells slots ad ls D
  exact va_tlen F.ex F.cd F.kn.2.1.2.2.2.2.2.1 D.2.2.2.1 (by rw [hL G F.gc]; exact hv) d (K G p e s m args below meth c A ad0 n0 mc ms Z F H locs cells slots ad ls (D.stk (zok_c D.d1 trivial)))
theorem zr_scrAt {L : Nat} {xs : Nat → Int32} {i : Int32} (hL : ∀ G, E.2.2.2.2.2 G → G.2.2.2.1 = L ∧ G.2.2.2.2 = xs) (d : decode E.2.1.2.1 pc = .ok (.iaload, 1)) (hin : vp_in i L) (K : zR E kc ks (pc + 1) lv (.int (xs i.toNatClampNeg) :: st) h) : zR E kc ks pc lv (.int i :: .float 102 :: st) h := by
  intro G p e s m args below meth c A ad0 n0 mc ms Z F H locs cells slots ad ls D
  have hg := hL G F.gc
  exact va_ti F.ex F.cd F.kn.2.1.2.2.2.2.2.1 D.2.2.2.1 (by rw [hg.1]; exact hin) (v := .int (xs i.toNatClampNeg)) (by rw [hg.2]) d (K G p e s m args below meth c A ad0 n0 mc ms Z F H locs cells slots ad ls (D.stk (zok_c D.d2 trivial)))
end ZRJ
