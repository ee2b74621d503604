/-! ===== calls ===== -/
theorem zEx.warm {s U : State} (hW : s.WarmedH U.vm) (h : zEx s) : zEx U := ⟨va_Nw.warmM hW h.1, va_Nw.warmM hW h.2.1, ⟨va_Nw.warmD hW h.2.2.1.1, va_Nw.warmC hW h.2.2.1.2.1, va_Nw.warmD hW h.2.2.1.2.2.1, va_Nw.warmD hW h.2.2.1.2.2.2.1, va_Nw.warmD hW h.2.2.1.2.2.2.2⟩, h.2.2.2.1.moved hW.alike, h.2.2.2.2.moved hW.alike⟩
theorem zEx.same {u U : State} (hv : u.vm = U.vm) (h : zEx u) : zEx U := ⟨va_Nw.same rfl hv h.1, va_Nw.same rfl hv h.2.1, ⟨va_Nw.same rfl hv h.2.2.1.1, va_Nw.same rfl hv h.2.2.1.2.1, va_Nw.same rfl hv h.2.2.1.2.2.1, va_Nw.same rfl hv h.2.2.1.2.2.2.1, va_Nw.same rfl hv h.2.2.1.2.2.2.2⟩, h.2.2.2.1.moved (hv ▸ Vm.Alike.refl u.vm), h.2.2.2.2.moved (hv ▸ Vm.Alike.refl u.vm)⟩
theorem zKn.warm {G : zG} {A B : Nat → Prop} {s U : State} {H : Heap} {locs : List Loc} (h : zKn G A s s.heap) (hS : va_S A s.heap H locs) (hAB : ∀ q, B q → A q) (hU : U.heap = H) (hW : s.WarmedH U.vm) : zKn G B U U.heap := by
  rw [hU]
  exact ⟨h.1.moved hW.alike, ((h.2.1.kept hS.2.1).narrow hAB).moved hW.alike, h.2.2.warm hW⟩
theorem zKn.same {G : zG} {A : Nat → Prop} {u U : State} {H : Heap} (hv : u.vm = U.vm) (h : zKn G A u H) : zKn G A U H :=
  ⟨h.1.moved (hv ▸ Vm.Alike.refl u.vm), h.2.1.moved (hv ▸ Vm.Alike.refl u.vm), h.2.2.same hv⟩
abbrev zPre (G : zG) (ad : Nat → Nat) (h : List va_E) (sz : Nat) : State → Prop := fun U => U.heap.size = sz ∧ va_P G.2.1 vwCl (zW G ad h) U.heap ∧ zKn G (va_A (zW G ad h) sz) U U.heap ∧ va_D (fun _ => True) (zW G ad h)
theorem zPre.blind {G : zG} {ad : Nat → Nat} {h : List va_E} {sz : Nat} {av : List Value} : FrameBlind (va_Pc av (zPre G ad h sz)) := by
  intro a U g mk q
  obtain ⟨q0, q1, qP, qK, qD⟩ := q
  exact ⟨q0, q1, qP, qK.same (U := U.calling g mk a) rfl, qD⟩
/-- a call of a method at these arguments and cells: it comes back, with Qm -/
def zCall (l : Launch) (M : zM) (dd kc ks : Nat) (as : List Value) (h : List va_E) (Qm : zQt) : Prop :=
  ∀ (G : zG) (ad : Nat → Nat) (sz : Nat), zCl h → (∀ v ∈ as, zOk h.length v) → Met l M.1 (Cond.code M.1 M.2.1 M.2.2.1 M.2.2.2 :: zTs) (zRm dd kc ks) (va_Pc (as.map (zV G.2.2.1 ad)) (zPre G ad h sz)) (zQ G ad h.length (va_A (zW G ad h) sz) Qm) kc ks (va_A (zW G ad h) sz)
def zCallX (l : Launch) (M : zM) (dd kc ks : Nat) (as : List Value) (h : List va_E) (Qm : zQt) (Xm : zXt) : Prop :=
  ∀ (G : zG) (ad : Nat → Nat) (sz : Nat), zCl h → (∀ v ∈ as, zOk h.length v) → vx_Met l M.1 (Cond.code M.1 M.2.1 M.2.2.1 M.2.2.2 :: zTs) (zRm dd kc ks) (va_Pc (as.map (zV G.2.2.1 ad)) (zPre G ad h sz)) (zQ G ad h.length (va_A (zW G ad h) sz) Qm) (zX G ad h.length (va_A (zW G ad h) sz) Xm) kc ks (va_A (zW G ad h) sz)
theorem zlg_len (kn ad : Nat → Nat) : ∀ as : List Value, (lg_sl (as.map (zV kn ad))).length = (lg_sl as).length := by
  intro as
  induction as with
  | nil => rfl
  | cons v t ih =>
    simp only [lg_sl, List.map_cons, List.flatMap_cons, List.length_append, zV_cat] at ih ⊢
    rw [ih]
    split <;> rfl
theorem zlv_args (kn ad : Nat → Nat) : ∀ (as : List Value) (i : Nat), lv_args i (as.map (zV kn ad)) = zLm kn ad (lv_args i as) := by
  intro as
  induction as with
  | nil => intro i; rfl
  | cons v t ih =>
    intro i
    simp only [List.map_cons, lv_args, zLm, zV_cat]
    rw [ih]
theorem zlv_mem : ∀ (as : List Value) (i : Nat), ∀ q ∈ lv_args i as, q.2 ∈ as := by
  intro as
  induction as with
  | nil => intro i q hq; cases hq
  | cons v t ih =>
    intro i q hq
    simp only [lv_args] at hq
    rcases List.mem_cons.mp hq with rfl | hq
    · exact List.mem_cons_self
    · exact List.mem_cons_of_mem _ (ih _ q hq)
/-- from the body, a method's contract that may throw -/
theorem zCallX.of {l : Launch} {M : zM} {dd kc ks : Nat} {as : List Value} {h : List va_E} {Qm : zQt} {Xm : zXt} (hy : plainName M.1.cls = true) (hL : (lg_sl as).length ≤ M.2.2.1) (k : zR (l, M, dd, Qm, Xm, fun _ => True) kc ks 0 (lv_args 0 as) [] h) : zCallX l M dd kc ks as h Qm Xm := by
  intro G ad sz hC has
  refine vx_ofW (cc := M.2.1) (maxL := M.2.2.1) (ret := M.2.2.2) hy rfl ?_
  intro p e s m args below meth c s₁ B hml het hv
  obtain ⟨rfl, hsz, hP, hK, hD0⟩ := hv
  subst hsz
  have hts := atoms_spec (ws := Cond.code M.1 M.2.1 M.2.2.1 M.2.2.2 :: zTs) B.pre
  have F : zFx (l, M, dd, Qm, Xm, fun _ => True) G p e s m (as.map (zV G.2.2.1 ad)).toArray below meth c (va_A (zW G ad h) s.heap.size) ad h.length kc ks (vx_MQ below (zQ G ad h.length (va_A (zW G ad h) s.heap.size) Qm) (zX G ad h.length (va_A (zW G ad h) s.heap.size) Xm) (as.map (zV G.2.2.1 ad)).toArray s kc ks (va_A (zW G ad h) s.heap.size)) :=
    ⟨B.exec, B.bytes, hml, B.returns, B.notSynchronized, (name_of_methodNamed B.named B.method).1, findClass_of_methodNamed B.named, fun w hw => hts w (List.mem_cons_of_mem _ hw), hK, fun q hq => Or.inr hq, fun x hx => (het x hx).elim,
      fun t ⟨o, b1, b2, b3, b4⟩ => ⟨o, b1, b2, Or.inl ⟨b3, b4⟩⟩, fun t ⟨o, b1, b2, b3⟩ => by
        rcases b3 with ⟨b3, -⟩ | b3
        · exact b3.elim
        · exact ⟨o, b1, b2, Or.inr b3⟩, trivial⟩
  have hl := lv_entry (as.map (zV G.2.2.1 ad)) (n := M.2.2.1) (by rw [zlg_len]; exact hL)
  rw [lg_entry_eq]
  rw [zlv_args] at hl
  exact k G p e s m _ below meth c _ ad h.length kc ks _ F s.heap [] 0 0 ad _ ⟨hP, hD0.self, hC, va_S.rf, Nat.le_refl _, fun _ _ => rfl, hl, fun q hq => has _ (zlv_mem as 0 q hq), (fun v hv => by cases hv), by omega, by omega⟩
theorem zCall.of {l : Launch} {M : zM} {dd kc ks : Nat} {as : List Value} {h : List va_E} {Qm : zQt} (hy : plainName M.1.cls = true) (hL : (lg_sl as).length ≤ M.2.2.1) (k : zR (l, M, dd, Qm, fun _ => False, fun _ => True) kc ks 0 (lv_args 0 as) [] h) : zCall l M dd kc ks as h Qm := by
  intro G ad sz hC has
  refine Met.ofW (cc := M.2.1) (maxL := M.2.2.1) (ret := M.2.2.2) hy rfl ?_
  intro p e s m args below meth c s₁ B hml hv
  obtain ⟨rfl, hsz, hP, hK, hD0⟩ := hv
  subst hsz
  have hts := atoms_spec (ws := Cond.code M.1 M.2.1 M.2.2.1 M.2.2.2 :: zTs) B.pre
  have het : ∀ x ∈ c.exceptionTable.toList, False := by
    obtain ⟨meth9, c9, h1, h2, -, -, -, -, h7, -⟩ := Cond.code_spec B.named (hts _ List.mem_cons_self)
    cases Option.some.inj (h1.symm.trans B.method)
    cases Option.some.inj (h2.symm.trans (Stand.of_body B).code)
    intro x hx
    rw [Array.isEmpty_iff.mp h7] at hx
    cases hx
  have F : zFx (l, M, dd, Qm, fun _ => False, fun _ => True) G p e s m (as.map (zV G.2.2.1 ad)).toArray below meth c (va_A (zW G ad h) s.heap.size) ad h.length kc ks (MQ below (zQ G ad h.length (va_A (zW G ad h) s.heap.size) Qm) (as.map (zV G.2.2.1 ad)).toArray s kc ks (va_A (zW G ad h) s.heap.size)) :=
    ⟨B.exec, B.bytes, hml, B.returns, B.notSynchronized, (name_of_methodNamed B.named B.method).1, findClass_of_methodNamed B.named, fun w hw => hts w (List.mem_cons_of_mem _ hw), hK, fun q hq => Or.inr hq, fun x hx => (het x hx).elim,
      fun t hh => hh, fun t ⟨o, b1, b2, b3⟩ => by
        rcases b3 with ⟨b3, -⟩ | ⟨q, -, E9, ce, L, ⟨-, ⟨h9, ad9, b4, -⟩, -⟩, -⟩
        · exact b3.elim
        · exact b4.elim, trivial⟩
  have hl := lv_entry (as.map (zV G.2.2.1 ad)) (n := M.2.2.1) (by rw [zlg_len]; exact hL)
  rw [lg_entry_eq]
  rw [zlv_args] at hl
  exact k G p e s m _ below meth c _ ad h.length kc ks _ F s.heap [] 0 0 ad _ ⟨hP, hD0.self, hC, va_S.rf, Nat.le_refl _, fun _ _ => rfl, hl, fun q hq => has _ (zlv_mem as 0 q hq), (fun v hv => by cases hv), by omega, by omega⟩
section ZRD
variable {E : zEv} {kc ks pc : Nat} {lv : List (Nat × Value)} {st : List Value} {h : List va_E} {kc' ks' : Nat}
variable {G : zG} {p : Program} {e : Env} {s : State} {m : MethodId} {args : Array Value} {below : List Frame} {meth : Method} {c : Code} {A : Nat → Prop} {ad0 : Nat → Nat} {n0 mc ms : Nat} {Z : State → Prop} {H : Heap} {locs : List Loc} {cells slots : Nat} {ad : Nat → Nat} {ls : Array Slot}
theorem zDx.A1 {stk : List Value} (F : zFx E G p e s m args below meth c A ad0 n0 mc ms Z) (D : zDx E kc ks lv stk h G s A ad0 n0 mc ms H locs cells slots ad ls) : ∀ q, va_A (zW G ad h) H.size q → A q := by
  intro q hq
  rcases hq with ⟨k, e, hk⟩ | hq
  · exact D.2.1.2 k _ hk
  · exact F.hA q (Nat.le_trans D.2.2.2.1.1 hq)
/-- behind a call -/
theorem zr_back {Qm' : zQt} {stk : List Value} {a : Array Value} (F : zFx E G p e s m args below meth c A ad0 n0 mc ms Z) (D : zDx E kc ks lv stk h G s A ad0 n0 mc ms H locs cells slots ad ls) (hst : ∀ v ∈ st, v ∈ stk) (hk : kc' ≤ kc) (hs : ks' ≤ ks)
    (hr : va_Run p E.1 e (zRm E.2.2.1 mc ms) s m args below meth c H locs cells slots kc' ks' (F0 m pc ls (stk.map (zV G.2.2.1 ad))) (st.map (zV G.2.2.1 ad)) (zQ G ad h.length (va_A (zW G ad h) H.size) Qm' a) (va_A (zW G ad h) H.size))
    (K : ∀ (r : Option Value) (h' : List va_E), Qm' r h' → h.length ≤ h'.length → zR E (kc - kc') (ks - ks') (pc + 3) lv (r.toList ++ st) h') :
    W p E.1 e (zRm E.2.2.1 mc ms) s m args below meth c H locs cells slots Z (F0 m pc ls (stk.map (zV G.2.2.1 ad))) := by
  intro T hT X
  obtain ⟨v, st₀, t, T', L, hh0, X', hL, e1, e2, ⟨⟨r, h', ad', hv, hq, hro, hn, ha, hP1, hK1, hD1, hC1⟩, hz, hk1⟩, stp⟩ := hr T hT X
  have hv := Outcome.returned.inj hv
  subst hv
  rw [hh0] at hz hk1
  have hA1 := D.A1 F
  have hso : ∀ v ∈ st, zOk h.length v := fun v hv => D.sto v (hst v hv)
  obtain ⟨d1, d2, d3, d4, d5, d6, d7, d8, d9, d10, d11⟩ := D
  have hS : va_S A s.heap T'.heap (locs ++ L) := ⟨Nat.le_trans d4.1 (by rw [e1]; exact hz), fun q h1 h2 => by
      rw [e1, hk1 q (Nat.lt_of_lt_of_le h1 d4.1) (fun z => h2 (hA1 q z))]; exact d4.2.1 q h1 h2, fun q hq => by
      rcases List.mem_append.mp hq with g | g
      · exact d4.2.2 q g
      · exact hA1 _ (hL q g)⟩
  have D' : zDx E (kc - kc') (ks - ks') lv (r.toList ++ st) h' G s A ad0 n0 mc ms T'.heap (locs ++ L) (cells + kc') (slots + ks') ad' ls := by
    refine ⟨by rw [e1]; exact hP1, hD1.weaken (fun k q _ z => hA1 _ z), hC1, hS, Nat.le_trans d5 hn, fun k hk => by rw [ha k (Nat.lt_of_lt_of_le hk d5)]; exact d6 k hk, ?_, fun q hq => (d8 q hq).up hn, fun v hv => ?_, by omega, by omega⟩
    · show lv_has ls E.2.1.2.2.1 (zLm G.2.2.1 ad' lv)
      rw [zlm_ext d8 ha]
      exact d7
    · rcases List.mem_append.mp hv with g | g
      · exact hro v (by cases r with
          | none => cases g
          | some w => rw [List.mem_singleton.mp g])
      · exact (hso v g).up hn
  obtain ⟨t2, a1, b1⟩ := K r h' hq hn G p e s m args below meth c A ad0 n0 mc ms Z F T'.heap (locs ++ L) (cells + kc') (slots + ks') ad' ls D' T' rfl X'
  refine ⟨t2, stp t2 ?_, b1⟩
  have hstk : (r.toList ++ st).map (zV G.2.2.1 ad') = (r.map (zV G.2.2.1 ad')).toList ++ st.map (zV G.2.2.1 ad) := by
    rw [List.map_append, zst_ext hso ha]
    cases r <;> rfl
  rw [hstk] at a1
  exact a1
end ZRD
def zDs (y : MethodName) (n : Nat) : Prop := y.cls ≠ "java/lang/invoke/MethodHandle" ∧ y.cls ≠ "java/lang/invoke/VarHandle" ∧ (parseMethodDescriptor y.desc).map (fun d => d.parameters.length) = some n
def zMv (own : String) (idx : Nat) (y : MethodName) (n : Nat) : Prop := (Cond.methodLink own idx y ∈ zTs ∧ Cond.instanceMethod y ∈ zTs ∧ Cond.selects y.cls y y ∈ zTs ∧ Cond.initialized y.cls ∈ zTs) ∧ zDs y n
def zMs (own : String) (idx : Nat) (y : MethodName) (n : Nat) : Prop := (Cond.methodLink own idx y ∈ zTs ∧ Cond.static y ∈ zTs ∧ Cond.initialized y.cls ∈ zTs) ∧ zDs y n
def zMi (own : String) (idx : Nat) (y : MethodName) (n : Nat) : Prop := (Cond.methodLink own idx y ∈ zTs ∧ Cond.instanceMethod y ∈ zTs ∧ Cond.initialized y.cls ∈ zTs) ∧ zDs y n ∧ y.name = "<init>"
def zCd (M : zM) : Prop := Cond.code M.1 M.2.1 M.2.2.1 M.2.2.2 ∈ zTs ∧ M.2.2.1 ≤ 40
theorem zCd.ws {M : zM} (h : zCd M) : ∀ w ∈ Cond.code M.1 M.2.1 M.2.2.1 M.2.2.2 :: zTs, w ∈ zTs := by
  intro w hw
  rcases List.mem_cons.mp hw with rfl | hw
  · exact h.1
  · exact hw
section ZRE
variable {E : zEv} {kc ks pc : Nat} {lv : List (Nat × Value)} {stk st : List Value} {h : List va_E} {kc' ks' dd' : Nat} {M : zM} {As : List Value} {Qm' : zQt}
theorem zcat8 {G : zG} {ad : Nat → Nat} {st : List Value} (h : (st.map fun v => v.category).sum ≤ 8) : ((st.map (zV G.2.2.1 ad)).map fun v => v.category).sum ≤ 8 := by
  rw [List.map_map, show ((fun v => v.category) ∘ zV G.2.2.1 ad) = (fun v => v.category) from funext (fun v => zV_cat _ _ v)]
  exact h
theorem zr_callV {idx a ci : Nat} {fs : List Value} {T : u_T} {N : Nat} (d : decode E.2.1.2.1 pc = .ok (.invokevirtual idx, 3)) (w : zMv E.2.1.1.cls idx M.1 As.length) (cd : zCd M) (he : stk = As.reverse ++ .ref a :: st) (hc : h[a]? = some (.inr (ci, fs))) (hcl : vwCl[ci]? = some (M.1.cls, T, N)) (hdd : dd' + 1 ≤ E.2.2.1) (hk : kc' ≤ kc) (hs : ks' ≤ ks) (hst : (st.map fun v => v.category).sum ≤ 8)
    (C : zCall E.1 M dd' kc' ks' (.ref a :: As) h Qm') (K : ∀ (r : Option Value) (h' : List va_E), Qm' r h' → h.length ≤ h'.length → zR E (kc - kc') (ks - ks') (pc + 3) lv (r.toList ++ st) h') : zR E kc ks pc lv stk h := by
  intro G p e s m args below meth c A ad0 n0 mc ms Z F H locs cells slots ad ls D
  subst he
  refine zr_back (a := (Value.ref (ad a) :: As.map (zV G.2.2.1 ad)).toArray) (st := st) (Qm' := Qm') F D (fun v hv => List.mem_append_right _ (List.mem_cons_of_mem _ hv)) hk hs ?_ K
  refine va_runV (C := M.1.cls) (As := As.map (zV G.2.2.1 ad)) (b := ad a) (n := As.length) (index := idx) (bytes := M.2.1) (maxL := M.2.2.1) (ret := M.2.2.2) (ws := Cond.code M.1 M.2.1 M.2.2.1 M.2.2.2 :: zTs) (rm := zRm dd' kc' ks') (Ts := zTs) (own := E.2.1.1.cls) (cc := E.2.1.2.1) (nL := E.2.1.2.2.1) ⟨F.ex, F.cd, F.ml, F.own, F.ws⟩ (C G ad H.size D.2.2.1 (fun v hv => ?_)) ?_ ⟨zPre.blind, va_recv F.kn.1 D.1 hcl (zW_get (G := G) (ad := ad) hc), fun U hU hW => ⟨rfl, by rw [hU], by rw [hU]; exact D.1, F.kn.warm D.2.2.2.1 (D.A1 F) hU hW, D.2.1.weaken (fun _ _ _ _ => trivial)⟩⟩ rfl (List.length_map ..) D.lvh.1 ?_ (lv_room (zcat8 hst)) d ⟨?_, ?_⟩
  · rcases List.mem_cons.mp hv with rfl | hv
    · exact D.sto _ (List.mem_append_right _ List.mem_cons_self)
    · exact D.sto _ (List.mem_append_left _ (List.mem_reverse.mpr hv))
  · refine ⟨callB_of As.length F.ws (zGoodIn cd.ws) rfl rfl rfl (F.ws _ w.1.2.2.2) (F.ws _ w.1.1) w.2 ⟨hdd, ?_⟩, F.ws _ w.1.2.1, F.ws _ w.1.2.2.1⟩
    have := cd.2
    show 8 + (M.2.2.1 + 11) + (60 * dd' + 60) ≤ 60 * E.2.2.1 + 60
    omega
  · show (As.reverse ++ .ref a :: st).map (zV G.2.2.1 ad) = _
    rw [List.map_append, List.map_reverse]
    rfl
  · have := D.2.2.2.2.2.2.2.2.2.1
    show cells + kc' ≤ mc
    omega
  · have := D.2.2.2.2.2.2.2.2.2.2
    show slots + ks' ≤ ms
    omega
theorem zr_callS {idx : Nat} (d : decode E.2.1.2.1 pc = .ok (.invokestatic idx, 3)) (w : zMs E.2.1.1.cls idx M.1 As.length) (cd : zCd M) (he : stk = As.reverse ++ st) (hdd : dd' + 1 ≤ E.2.2.1) (hk : kc' ≤ kc) (hs : ks' ≤ ks) (hst : (st.map fun v => v.category).sum ≤ 8)
    (C : zCall E.1 M dd' kc' ks' As h Qm') (K : ∀ (r : Option Value) (h' : List va_E), Qm' r h' → h.length ≤ h'.length → zR E (kc - kc') (ks - ks') (pc + 3) lv (r.toList ++ st) h') : zR E kc ks pc lv stk h := by
  intro G p e s m args below meth c A ad0 n0 mc ms Z F H locs cells slots ad ls D
  subst he
  refine zr_back (a := (As.map (zV G.2.2.1 ad)).toArray) (st := st) (Qm' := Qm') F D (fun v hv => List.mem_append_right _ hv) hk hs ?_ K
  refine va_runS (As := As.map (zV G.2.2.1 ad)) (n := As.length) (index := idx) (bytes := M.2.1) (maxL := M.2.2.1) (ret := M.2.2.2) (ws := Cond.code M.1 M.2.1 M.2.2.1 M.2.2.2 :: zTs) (rm := zRm dd' kc' ks') (Ts := zTs) (own := E.2.1.1.cls) (cc := E.2.1.2.1) (nL := E.2.1.2.2.1) ⟨F.ex, F.cd, F.ml, F.own, F.ws⟩ (C G ad H.size D.2.2.1 (fun v hv => ?_)) ?_ ⟨zPre.blind, fun U hU hW => ⟨rfl, by rw [hU], by rw [hU]; exact D.1, F.kn.warm D.2.2.2.1 (D.A1 F) hU hW, D.2.1.weaken (fun _ _ _ _ => trivial)⟩⟩ rfl (List.length_map ..) D.lvh.1 ?_ (lv_room (zcat8 hst)) d ⟨?_, ?_⟩
  · exact D.sto _ (List.mem_append_left _ (List.mem_reverse.mpr hv))
  · refine ⟨callB_of As.length F.ws (zGoodIn cd.ws) rfl rfl rfl (F.ws _ w.1.2.2) (F.ws _ w.1.1) w.2 ⟨hdd, ?_⟩, F.ws _ w.1.2.1⟩
    have := cd.2
    show 8 + (M.2.2.1 + 11) + (60 * dd' + 60) ≤ 60 * E.2.2.1 + 60
    omega
  · show (As.reverse ++ st).map (zV G.2.2.1 ad) = _
    rw [List.map_append, List.map_reverse]
  · have := D.2.2.2.2.2.2.2.2.2.1
    show cells + kc' ≤ mc
    omega
  · have := D.2.2.2.2.2.2.2.2.2.2
    show slots + ks' ≤ ms
    omega
theorem zr_callI {idx a : Nat} (d : decode E.2.1.2.1 pc = .ok (.invokespecial idx, 3)) (w : zMi E.2.1.1.cls idx M.1 As.length) (cd : zCd M) (hret : M.2.2.2 = none) (he : stk = As.reverse ++ .ref a :: st) (hdd : dd' + 1 ≤ E.2.2.1) (hk : kc' ≤ kc) (hs : ks' ≤ ks) (hst : (st.map fun v => v.category).sum ≤ 8)
    (C : zCall E.1 M dd' kc' ks' (.ref a :: As) h Qm') (K : ∀ (r : Option Value) (h' : List va_E), Qm' r h' → h.length ≤ h'.length → zR E (kc - kc') (ks - ks') (pc + 3) lv (r.toList ++ st) h') : zR E kc ks pc lv stk h := by
  intro G p e s m args below meth c A ad0 n0 mc ms Z F H locs cells slots ad ls D
  subst he
  refine zr_back (a := (Value.ref (ad a) :: As.map (zV G.2.2.1 ad)).toArray) (st := st) (Qm' := Qm') F D (fun v hv => List.mem_append_right _ (List.mem_cons_of_mem _ hv)) hk hs ?_ K
  refine va_runI (As := As.map (zV G.2.2.1 ad)) (b := ad a) (n := As.length) (index := idx) (bytes := M.2.1) (maxL := M.2.2.1) (ws := Cond.code M.1 M.2.1 M.2.2.1 M.2.2.2 :: zTs) (rm := zRm dd' kc' ks') (Ts := zTs) (own := E.2.1.1.cls) (cc := E.2.1.2.1) (nL := E.2.1.2.2.1) ⟨F.ex, F.cd, F.ml, F.own, F.ws⟩ (C G ad H.size D.2.2.1 (fun v hv => ?_)) ?_ ⟨zPre.blind, fun U hU hW => ⟨rfl, by rw [hU], by rw [hU]; exact D.1, F.kn.warm D.2.2.2.1 (D.A1 F) hU hW, D.2.1.weaken (fun _ _ _ _ => trivial)⟩⟩ rfl (List.length_map ..) D.lvh.1 ?_ (lv_room (zcat8 hst)) d ⟨?_, ?_⟩
  · rcases List.mem_cons.mp hv with rfl | hv
    · exact D.sto _ (List.mem_append_right _ List.mem_cons_self)
    · exact D.sto _ (List.mem_append_left _ (List.mem_reverse.mpr hv))
  · refine ⟨callB_of As.length F.ws (zGoodIn cd.ws) (by rw [hret]) rfl rfl (F.ws _ w.1.2.2) (F.ws _ w.1.1) w.2.1 ⟨hdd, ?_⟩, w.2.2, F.ws _ w.1.2.1⟩
    have := cd.2
    show 8 + (M.2.2.1 + 11) + (60 * dd' + 60) ≤ 60 * E.2.2.1 + 60
    omega
  · show (As.reverse ++ .ref a :: st).map (zV G.2.2.1 ad) = _
    rw [List.map_append, List.map_reverse]
    rfl
  · have := D.2.2.2.2.2.2.2.2.2.1
    show cells + kc' ≤ mc
    omega
  · have := D.2.2.2.2.2.2.2.2.2.2
    show slots + ks' ≤ ms
    omega
/-- PailRow.cutUp, called by its nest mates -/
theorem zr_callSN {idx : Nat} (d : decode E.2.1.2.1 pc = .ok (.invokestatic idx, 3)) (hw : (E.2.1.1.cls = "PailRow$Yard" ∧ idx = 175) ∨ (E.2.1.1.cls = "PailRow$Runners" ∧ idx = 49)) (hM : M.1 = yX12_cutUp) (hws : Cond.static M.1 ∈ zTs ∧ Cond.initialized M.1.cls ∈ zTs ∧ zDs M.1 As.length) (cd : zCd M) (he : stk = As.reverse ++ st) (hdd : dd' + 1 ≤ E.2.2.1) (hk : kc' ≤ kc) (hs : ks' ≤ ks) (hst : (st.map fun v => v.category).sum ≤ 8)
    (C : zCall E.1 M dd' kc' ks' As h Qm') (K : ∀ (r : Option Value) (h' : List va_E), Qm' r h' → h.length ≤ h'.length → zR E (kc - kc') (ks - ks') (pc + 3) lv (r.toList ++ st) h') : zR E kc ks pc lv stk h := by
  intro G p e s m args below meth c A ad0 n0 mc ms Z F H locs cells slots ad ls D
  subst he
  have hnest : va_Nw (.methodLinkNest E.2.1.1.cls idx M.1 "PailRow") s := by
    rcases hw with ⟨h1, rfl⟩ | ⟨h1, rfl⟩
    · rw [h1, hM]; exact F.kn.2.2.1
    · rw [h1, hM]; exact F.kn.2.2.2.1
  refine zr_back (a := (As.map (zV G.2.2.1 ad)).toArray) (st := st) (Qm' := Qm') F D (fun v hv => List.mem_append_right _ hv) hk hs ?_ K
  refine va_runSN (host := "PailRow") (As := As.map (zV G.2.2.1 ad)) (n := As.length) (index := idx) (bytes := M.2.1) (maxL := M.2.2.1) (ret := M.2.2.2) (ws := Cond.code M.1 M.2.1 M.2.2.1 M.2.2.2 :: zTs) (rm := zRm dd' kc' ks') (Ts := zTs) (own := E.2.1.1.cls) (cc := E.2.1.2.1) (nL := E.2.1.2.2.1) ⟨F.ex, F.cd, F.ml, F.own, F.ws⟩ (C G ad H.size D.2.2.1 (fun v hv => ?_)) ?_ ⟨zPre.blind, fun U hU hW => ⟨rfl, by rw [hU], by rw [hU]; exact D.1, F.kn.warm D.2.2.2.1 (D.A1 F) hU hW, D.2.1.weaken (fun _ _ _ _ => trivial)⟩⟩ rfl (List.length_map ..) D.lvh.1 ?_ (lv_room (zcat8 hst)) d ⟨?_, ?_⟩
  · exact D.sto _ (List.mem_append_left _ (List.mem_reverse.mpr hv))
  · refine ⟨va_cnB As.length F.ws (zGoodIn cd.ws) rfl rfl rfl hnest (F.ws _ hws.2.1) hws.2.2 ⟨hdd, ?_⟩, F.ws _ hws.1, trivial⟩
    have := cd.2
    show 8 + (M.2.2.1 + 11) + (60 * dd' + 60) ≤ 60 * E.2.2.1 + 60
    omega
  · show (As.reverse ++ st).map (zV G.2.2.1 ad) = _
    rw [List.map_append, List.map_reverse]
  · have := D.2.2.2.2.2.2.2.2.2.1
    show cells + kc' ≤ mc
    omega
  · have := D.2.2.2.2.2.2.2.2.2.2
    show slots + ks' ≤ ms
    omega
end ZRE
