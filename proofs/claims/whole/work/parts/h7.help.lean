/-! ===== a helper of the law: it catches what the class throws ===== -/
def zCallW (l : Launch) (M : zM) (hh : List (Nat × Nat × Nat × Nat)) (dd kc ks : Nat) (as : List Value) (h : List va_E) (Qm : zQt) : Prop :=
  ∀ (G : zG) (ad : Nat → Nat) (sz : Nat), zCl h → (∀ v ∈ as, zOk h.length v) → Met l M.1 (Cond.codeWith M.1 M.2.1 M.2.2.1 M.2.2.2 hh :: zTs) (zRm dd kc ks) (va_Pc (as.map (zV G.2.2.1 ad)) (zPre G ad h sz)) (zQ G ad h.length (va_A (zW G ad h) sz) Qm) kc ks (va_A (zW G ad h) sz)
/-- from this place, with this table -/
def zR1 (tb : List ExceptionTableEntry) (E : zEv) (kc ks pc : Nat) (lv : List (Nat × Value)) (st : List Value) (h : List va_E) : Prop :=
  ∀ (G : zG) (p : Program) (e : Env) (s : State) (m : MethodId) (args : Array Value) (below : List Frame) (meth : Method) (c : Code) (A : Nat → Prop) (ad0 : Nat → Nat) (n0 mc ms : Nat) (Z : State → Prop), zFx E G p e s m args below meth c A ad0 n0 mc ms Z → c.exceptionTable.toList = tb →
  ∀ (H : Heap) (locs : List Loc) (cells slots : Nat) (ad : Nat → Nat) (ls : Array Slot), zDx E kc ks lv st h G s A ad0 n0 mc ms H locs cells slots ad ls →
  W p E.1 e (zRm E.2.2.1 mc ms) s m args below meth c H locs cells slots Z (F0 m pc ls (st.map (zV G.2.2.1 ad)))
theorem zCallW.of {l : Launch} {M : zM} {hh : List (Nat × Nat × Nat × Nat)} {dd kc ks : Nat} {as : List Value} {h : List va_E} {Qm : zQt} (hown : M.1.cls = RL) (hy : plainName M.1.cls = true) (hL : (lg_sl as).length ≤ M.2.2.1) (k : zR1 (tableOf hh) (l, M, dd, Qm, fun _ => False, fun _ => True) kc ks 0 (lv_args 0 as) [] h) : zCallW l M hh dd kc ks as h Qm := by
  intro G ad sz hC has
  refine va_MetW (cc := M.2.1) (maxL := M.2.2.1) (ret := M.2.2.2) (hh := hh) hy rfl ?_
  intro p e s m args below meth c s₁ B hml hv
  obtain ⟨rfl, hsz, hP, hK, hD0⟩ := hv
  subst hsz
  have hts := atoms_spec (ws := Cond.codeWith M.1 M.2.1 M.2.2.1 M.2.2.2 hh :: zTs) B.pre
  have het : c.exceptionTable.toList = tableOf hh := vx_table (x := M.1) B (hts _ List.mem_cons_self)
  have F : zFx (l, M, dd, Qm, fun _ => False, fun _ => True) G p e s m (as.map (zV G.2.2.1 ad)).toArray below meth c (va_A (zW G ad h) s.heap.size) ad h.length kc ks (MQ below (zQ G ad h.length (va_A (zW G ad h) s.heap.size) Qm) (as.map (zV G.2.2.1 ad)).toArray s kc ks (va_A (zW G ad h) s.heap.size)) :=
    ⟨B.exec, B.bytes, hml, B.returns, B.notSynchronized, (name_of_methodNamed B.named B.method).1, findClass_of_methodNamed B.named, fun w hw => hts w (List.mem_cons_of_mem _ hw), hK, fun q hq => Or.inr hq, fun _ _ => hown,
      fun t hh => hh, fun t ⟨o, b1, b2, b3⟩ => by
        rcases b3 with ⟨b3, -⟩ | ⟨q, -, E9, ce, L, ⟨-, ⟨h9, ad9, b4, -⟩, -⟩, -⟩
        · exact b3.elim
        · exact b4.elim, trivial⟩
  have hl := lv_entry (as.map (zV G.2.2.1 ad)) (n := M.2.2.1) (by rw [zlg_len]; exact hL)
  rw [lg_entry_eq]
  rw [zlv_args] at hl
  exact k G p e s m _ below meth c _ ad h.length kc ks _ F het s.heap [] 0 0 ad _ ⟨hP, hD0.self, hC, va_S.rf, Nat.le_refl _, fun _ _ => rfl, hl, fun q hq => has _ (zlv_mem as 0 q hq), (fun v hv => by cases hv), by omega, by omega⟩
section ZR1
variable {tb : List ExceptionTableEntry} {E : zEv} {kc ks pc : Nat} {lv : List (Nat × Value)} {st : List Value} {h : List va_E}
theorem z1_iconst {n : Int} {v : Int32} (d : decode E.2.1.2.1 pc = .ok (.iconst n, 1)) (hv : (Int32.ofInt n = v)) (k : zR1 tb E kc ks (pc + 1) lv (.int v :: st) h) : zR1 tb E kc ks pc lv st h := by
  intro G p e s m args below meth c A ad0 n0 mc ms Z F ht H locs cells slots ad ls D
  exact lv_iconst F.1 F.2.1 d hv (k G p e s m args below meth c A ad0 n0 mc ms Z F ht H locs cells slots ad ls (D.stk (zok_c D.sto trivial)))
theorem z1_iload_n {i : Fin 4} {x : Int32} (d : decode E.2.1.2.1 pc = .ok (.iload_n i, 1)) (hl : zget lv i.val = some (.int x)) (k : zR1 tb E kc ks (pc + 1) lv (.int x :: st) h) : zR1 tb E kc ks pc lv st h := by
  intro G p e s m args below meth c A ad0 n0 mc ms Z F ht H locs cells slots ad ls D
  exact lv_iload_n F.1 F.2.1 d rfl (D.at hl) (k G p e s m args below meth c A ad0 n0 mc ms Z F ht H locs cells slots ad ls (D.stk (zok_c D.sto trivial)))
theorem z1_aload {i a : Nat} (d : decode E.2.1.2.1 pc = .ok (.aload i, 2)) (hl : zget lv i = some (.ref a)) (k : zR1 tb E kc ks (pc + 2) lv (.ref a :: st) h) : zR1 tb E kc ks pc lv st h := by
  intro G p e s m args below meth c A ad0 n0 mc ms Z F ht H locs cells slots ad ls D
  exact lv_aload F.1 F.2.1 d (D.at hl) (k G p e s m args below meth c A ad0 n0 mc ms Z F ht H locs cells slots ad ls (D.stk (zok_c D.sto (D.lvo _ (zget_mem hl)))))
theorem z1_aload_n {i : Fin 4} {a : Nat} (d : decode E.2.1.2.1 pc = .ok (.aload_n i, 1)) (hl : zget lv i.val = some (.ref a)) (k : zR1 tb E kc ks (pc + 1) lv (.ref a :: st) h) : zR1 tb E kc ks pc lv st h := by
  intro G p e s m args below meth c A ad0 n0 mc ms Z F ht H locs cells slots ad ls D
  exact lv_aload_n F.1 F.2.1 d rfl (D.at hl) (k G p e s m args below meth c A ad0 n0 mc ms Z F ht H locs cells slots ad ls (D.stk (zok_c D.sto (D.lvo _ (zget_mem hl)))))
/-- a call that may throw, within the table's one row: it comes back, or to the handler -/
theorem z1_tryV {idx a ci j kc' ks' dd' : Nat} {fs : List Value} {T : u_T} {N : Nat} {M : zM} {As stk : List Value} {Qm' : zQt} {Xm' : zXt} {x : ExceptionTableEntry} (d : decode E.2.1.2.1 pc = .ok (.invokevirtual idx, 3)) (w : zMv E.2.1.1.cls idx M.1 As.length) (cd : zCd M) (he : stk = As.reverse ++ .ref a :: st) (hc : h[a]? = some (.inr (ci, fs))) (hcl : vwCl[ci]? = some (M.1.cls, T, N)) (hdd : dd' + 1 ≤ E.2.2.1) (hk : kc' ≤ kc) (hs : ks' ≤ ks) (hst : (st.map fun v => v.category).sum ≤ 8)
    (hx : covers x pc = true) (h0 : x.catchType ≠ 0) (hlink : Cond.classLink E.2.1.1.cls x.catchType zNse ∈ zTs) (da : decode E.2.1.2.1 x.handlerPc = .ok (.astore j, 2)) (hj : j < E.2.1.2.2.1)
    (C : zCallX E.1 M dd' kc' ks' (.ref a :: As) h Qm' Xm') (K : ∀ (r : Option Value) (h' : List va_E), Qm' r h' → h.length ≤ h'.length → zR E (kc - kc') (ks - ks') (pc + 3) lv (r.toList ++ st) h')
    (KX : ∀ (h' : List va_E), Xm' h' → h.length ≤ h'.length → zR E (kc - kc') (ks - ks') (x.handlerPc + 2) [] [] h') : zR1 [x] E kc ks pc lv stk h := by
  intro G p e s m args below meth c A ad0 n0 mc ms Z F ht H locs cells slots ad ls D
  subst he
  have hA1 := D.A1 F
  have hr : vx_Run p E.1 e (zRm E.2.2.1 mc ms) s m args below meth c H locs cells slots kc' ks' (F0 m pc ls ((As.reverse ++ .ref a :: st).map (zV G.2.2.1 ad))) (st.map (zV G.2.2.1 ad)) (zQ G ad h.length (va_A (zW G ad h) H.size) Qm' (Value.ref (ad a) :: As.map (zV G.2.2.1 ad)).toArray) (zX G ad h.length (va_A (zW G ad h) H.size) Xm') (va_A (zW G ad h) H.size) := by
    refine vx_runV (C := M.1.cls) (As := As.map (zV G.2.2.1 ad)) (b := ad a) (n := As.length) (index := idx) (bytes := M.2.1) (maxL := M.2.2.1) (ret := M.2.2.2) (ws := Cond.code M.1 M.2.1 M.2.2.1 M.2.2.2 :: zTs) (rm := zRm dd' kc' ks') (Ts := zTs) (own := E.2.1.1.cls) (cc := E.2.1.2.1) (nL := E.2.1.2.2.1) ⟨F.ex, F.cd, F.ml, F.own, F.ws⟩ (C G ad H.size D.2.2.1 (fun v hv => ?_)) ?_ ⟨zPre.blind, va_recv F.kn.1 D.1 hcl (zW_get (G := G) (ad := ad) hc), fun U hU hW => ⟨rfl, by rw [hU], by rw [hU]; exact D.1, F.kn.warm D.2.2.2.1 (D.A1 F) hU hW, D.2.1.weaken (fun _ _ _ _ => trivial)⟩⟩ rfl (List.length_map ..) D.lvh.1 ?_ (lv_room (zcat8 hst)) d ⟨?_, ?_⟩
    · rcases List.mem_cons.mp hv with rfl | hv
      · exact D.sto _ (List.mem_append_right _ List.mem_cons_self)
      · exact D.sto _ (List.mem_append_left _ (List.mem_reverse.mpr hv))
    · refine ⟨callB_of As.length F.ws (zGoodIn cd.ws) rfl rfl rfl (F.ws _ w.1.2.2.2) (F.ws _ w.1.1) w.2 ⟨hdd, ?_⟩, F.ws _ w.1.2.1, F.ws _ w.1.2.2.1⟩
      have := cd.2
      show 8 + (M.2.2.1 + 11) + (60 * dd' + 60) ≤ 60 * E.2.2.1 + 60
      omega
    · show (As.reverse ++ .ref a :: st).map (zV G.2.2.1 ad) = _
      rw [List.map_append, List.map_reverse]
      rfl
    · have := D.2.2.2.2.2.2.2.2.2.1
      show cells + kc' ≤ mc
      omega
    · have := D.2.2.2.2.2.2.2.2.2.2
      show slots + ks' ≤ ms
      omega
  have hso : ∀ v ∈ st, zOk h.length v := fun v hv => D.sto v (List.mem_append_right _ (List.mem_cons_of_mem _ hv))
  obtain ⟨d1, d2, d3, d4, d5, d6, d7, d8, d9, d10, d11⟩ := D
  intro U hU X
  have grow : ∀ (t T' : State) (st₀ : State) (L : List Loc) (h' : List va_E) (ad' : Nat → Nat), st₀.heap = H → T'.heap = t.heap → (∀ q ∈ L, va_A (zW G ad h) H.size q.base) → h.length ≤ h'.length → (∀ k, k < h.length → ad' k = ad k) → va_P G.2.1 vwCl (zW G ad' h') t.heap → va_D (va_A (zW G ad h) H.size) (zW G ad' h') → zCl h' → va_F (va_A (zW G ad h) H.size) st₀ t → ∀ (lv' : List (Nat × Value)) (st' : List Value) (ls' : Array Slot), lv_has ls' E.2.1.2.2.1 (lv'.map (fun q => (q.1, zV G.2.2.1 ad' q.2))) → (∀ q ∈ lv', zOk h'.length q.2) → (∀ v ∈ st', zOk h'.length v) → zDx E (kc - kc') (ks - ks') lv' st' h' G s A ad0 n0 mc ms T'.heap (locs ++ L) (cells + kc') (slots + ks') ad' ls' := by
    intro t T' st₀ L h' ad' hh0 e1 hL hn ha hP1 hD1 hC1 hF lv' st' ls' q1 q2 q3
    obtain ⟨hz, hk1⟩ := hF
    rw [hh0] at hz hk1
    have hS : va_S A s.heap T'.heap (locs ++ L) := ⟨Nat.le_trans d4.1 (by rw [e1]; exact hz), fun q h1 h2 => by
        rw [e1, hk1 q (Nat.lt_of_lt_of_le h1 d4.1) (fun z => h2 (hA1 q z))]; exact d4.2.1 q h1 h2, fun q hq => by
        rcases List.mem_append.mp hq with g | g
        · exact d4.2.2 q g
        · exact hA1 _ (hL q g)⟩
    exact ⟨by rw [e1]; exact hP1, hD1.weaken (fun k q _ z => hA1 _ z), hC1, hS, Nat.le_trans d5 hn, fun k hk => by rw [ha k (Nat.lt_of_lt_of_le hk d5)]; exact d6 k hk, q1, q2, q3, by omega, by omega⟩
  rcases hr U hU X with ⟨v, st₀, t, T', L, hh0, X', hL, e1, e2, ⟨⟨r, h', ad', hv, hq, hro, hn, ha, hP1, hK1, hD1, hC1⟩, hF⟩, stp⟩ | ⟨q, st₀, t, T', L, E9, ce, hh0, X', hL, e1, e2, ⟨hE, ⟨h', ad', hq, hn, ha, hP1, hK1, hD1, hC1⟩, hF⟩, hce, hcv, hcls, stp⟩
  · have hv := Outcome.returned.inj hv
    subst hv
    have D' := grow t T' st₀ L h' ad' hh0 e1 hL hn ha hP1 hD1 hC1 hF lv (r.toList ++ st) ls (by show lv_has ls E.2.1.2.2.1 (zLm G.2.2.1 ad' lv); rw [zlm_ext d8 ha]; exact d7) (fun q hq => (d8 q hq).up hn) (fun v hv => by
      rcases List.mem_append.mp hv with g | g
      · exact hro v (by cases r with
          | none => cases g
          | some w => rw [List.mem_singleton.mp g])
      · exact (hso v g).up hn)
    obtain ⟨t2, a1, b1⟩ := K r h' hq hn G p e s m args below meth c A ad0 n0 mc ms Z F T'.heap (locs ++ L) (cells + kc') (slots + ks') ad' ls D' T' rfl X'
    refine ⟨t2, stp t2 ?_, b1⟩
    have hstk : (r.toList ++ st).map (zV G.2.2.1 ad') = (r.map (zV G.2.2.1 ad')).toList ++ st.map (zV G.2.2.1 ad) := by
      rw [List.map_append, zst_ext hso ha]
      cases r <;> rfl
    rw [hstk] at a1
    exact a1
  · subst hE
    have hx2 := F.kn.2.2.2.2.1.2
    have kk : W p E.1 e (zRm E.2.2.1 mc ms) s m args below meth c T'.heap (locs ++ L) (cells + kc') (slots + ks') Z (F0 m x.handlerPc ls [.ref q]) :=
      lv_astore F.ex F.cd da (lv := []) ⟨d7.1, d7.2.1, fun _ h => by cases h⟩ hj rfl (fun ls' hl' => KX h' hq hn G p e s m args below meth c A ad0 n0 mc ms Z F T'.heap (locs ++ L) (cells + kc') (slots + ks') ad' ls' (grow t T' st₀ L h' ad' hh0 e1 hL hn ha hP1 hD1 hC1 hF [] [] ls' ⟨hl'.1, hl'.2.1, fun _ h => by cases h⟩ (fun _ h => by cases h) (fun _ h => by cases h)))
    obtain ⟨t2, a1, b1⟩ := vx_catch (own := E.2.1.1.cls) (name := zNse) (E := zNse) (ce := ce) (q := q) (rest := st.map (zV G.2.2.1 ad)) F.own [] x [] ht (fun z hz => by cases hz) hx h0 (F.ws _ hlink) (va_Nw.use rfl hx2.1) (by rw [e1]; exact hce) hcv hcls kk T' rfl X'
    exact ⟨t2, stp.trans a1, b1⟩
end ZR1
/-- a helper's contract -/
def zSpW (l : Launch) (M : zM) (hh : List (Nat × Nat × Nat × Nat)) (dd kc ks : Nat) (as : List Value) (K : zK) (Po : zPo) : Prop := ∀ h : List va_E, zHas h K → zDj K → zCallW l M hh dd kc ks as h (zQp Po K h)
def zS1 (tb : List ExceptionTableEntry) (B : zB) (kc ks pc : Nat) (lv : List (Nat × Value)) (st : List Value) (K : zK) : Prop :=
  ∀ h : List va_E, zHas h K → zDj K → zFr (B.2.2.2.2.1.map Prod.fst) B.2.2.2.2.2.1 h → zAl (B.2.2.2.2.1.map Prod.fst) B.2.2.2.2.2.1.length K → zR1 tb (zBE B) kc ks pc lv st h
theorem zSpW.of {l : Launch} {M : zM} {hh : List (Nat × Nat × Nat × Nat)} {dd kc ks : Nat} {as : List Value} {K : zK} {Po : zPo} (hown : M.1.cls = RL) (hy : plainName M.1.cls = true) (hL : (lg_sl as).length ≤ M.2.2.1) (k : ∀ h0 : List va_E, zS1 (tableOf hh) (l, M, dd, Po, K, h0, (fun _ => False), (fun _ => True)) kc ks 0 (lv_args 0 as) [] K) : zSpW l M hh dd kc ks as K Po := by
  intro h H D
  refine zCallW.of hown hy hL ?_
  have hk := k h h H D ⟨Nat.le_refl _, fun _ _ _ => rfl⟩ (fun i q hq => Or.inl (List.mem_map.mpr ⟨q, List.mem_of_getElem? hq, rfl⟩))
  intro G p e s m args below meth c A ad0 n0 mc ms Z F ht
  refine hk G p e s m args below meth c A ad0 n0 mc ms Z ?_ ht
  obtain ⟨f1, f2, f3, f4, f5, f6, f7, f8, f9, f10, f11, f12, f13, f14⟩ := F
  refine ⟨f1, f2, f3, f4, f5, f6, f7, f8, f9, f10, f11, f12, fun t ht => f13 t ?_, f14⟩
  obtain ⟨o, b1, b2, b3⟩ := ht
  refine ⟨o, b1, b2, ?_⟩
  rcases b3 with ⟨b3, -⟩ | ⟨q, -, E9, ce, L, ⟨-, ⟨h9, ad9, ⟨K9, b4, -⟩, -⟩, -⟩, -⟩
  · exact b3.elim
  · exact b4.elim
section ZS1
variable {tb : List ExceptionTableEntry} {B : zB} {kc ks pc : Nat} {lv : List (Nat × Value)} {st : List Value} {K Kc Kr : zK}
theorem zt_iconst {n : Int} {v : Int32} (d : decode B.2.1.2.1 pc = .ok (.iconst n, 1)) (hv : (Int32.ofInt n = v)) (k : zS1 tb B kc ks (pc + 1) lv (.int v :: st) K) : zS1 tb B kc ks pc lv st K := fun h H D F L => z1_iconst d hv (k h H D F L)
theorem zt_iload_n {i : Fin 4} {x : Int32} (d : decode B.2.1.2.1 pc = .ok (.iload_n i, 1)) (hl : zget lv i.val = some (.int x)) (k : zS1 tb B kc ks (pc + 1) lv (.int x :: st) K) : zS1 tb B kc ks pc lv st K := fun h H D F L => z1_iload_n d hl (k h H D F L)
theorem zt_aload {i a : Nat} (d : decode B.2.1.2.1 pc = .ok (.aload i, 2)) (hl : zget lv i = some (.ref a)) (k : zS1 tb B kc ks (pc + 2) lv (.ref a :: st) K) : zS1 tb B kc ks pc lv st K := fun h H D F L => z1_aload d hl (k h H D F L)
theorem zt_aload_n {i : Fin 4} {a : Nat} (d : decode B.2.1.2.1 pc = .ok (.aload_n i, 1)) (hl : zget lv i.val = some (.ref a)) (k : zS1 tb B kc ks (pc + 1) lv (.ref a :: st) K) : zS1 tb B kc ks pc lv st K := fun h H D F L => z1_aload_n d hl (k h H D F L)
theorem zt_tryV {idx a ci j hp kc' ks' dd' : Nat} {fs : List Value} {T : u_T} {N : Nat} {M : zM} {As stk : List Value} {Po : zPo} {Xo : zK → Prop} {x : ExceptionTableEntry} (is isR : List Nat) (jj : Nat) (d : decode B.2.1.2.1 pc = .ok (.invokevirtual idx, 3)) (w : zMv B.2.1.1.cls idx M.1 As.length) (cd : zCd M) (he : stk = As.reverse ++ .ref a :: st) (PC : zPk K is Kc) (PR : zPk K isR Kr) (nC : va_nd is = true) (nR : va_nd isR = true) (dis : ∀ i ∈ isR, i ∉ is) (hc : Kc[jj]? = some (a, .inr (ci, fs))) (hcl : vwCl[ci]? = some (M.1.cls, T, N)) (hdd : dd' + 1 ≤ B.2.2.1) (hk : kc' ≤ kc) (hs : ks' ≤ ks) (hst : (st.map fun v => v.category).sum ≤ 8)
    (hx : covers x pc = true) (h0 : x.catchType ≠ 0) (hlink : Cond.classLink B.2.1.1.cls x.catchType zNse ∈ zTs) (da : decode B.2.1.2.1 x.handlerPc = .ok (.astore j, 2)) (hj : j < B.2.1.2.2.1) (hhp : x.handlerPc + 2 = hp + 3)
    (C : zSpX B.1 M dd' kc' ks' (.ref a :: As) Kc Po Xo) (k : ∀ (r : Option Value) (K1 : zK), Po r K1 → zS B (kc - kc') (ks - ks') (pc + 3) lv (r.toList ++ st) (Kr ++ K1)) (kx : ∀ (K1 : zK), Xo K1 → zS B (kc - kc') (ks - ks') (x.handlerPc + 2) [] [] (Kr ++ K1)) : zS1 [x] B kc ks pc lv stk K :=
  fun h H D F L => z1_tryV d w cd he (H.pk PC jj _ hc) hcl hdd hk hs hst hx h0 hlink da hj (C h (H.pk PC) (D.pk PC nC)) (zs_back is isR PC PR nR dis k H D F L)
    (fun h' q hn => by
      obtain ⟨K1, q1, q2⟩ := q
      rw [hhp]
      exact zs_back (Po := fun r K1 => r = none ∧ Xo K1) (lv := []) (st := []) is isR PC PR nR dis (fun r K1 q1 => by
        obtain ⟨rfl, q1⟩ := q1
        rw [← hhp]
        exact kx K1 q1) H D F L none h' ⟨K1, ⟨rfl, q1⟩, q2⟩ hn)
end ZS1
/-- a helper's call -/
theorem zr_callSW {E : zEv} {kc ks pc : Nat} {lv : List (Nat × Value)} {stk st : List Value} {h : List va_E} {kc' ks' dd' : Nat} {M : zM} {As : List Value} {Qm' : zQt} {hh : List (Nat × Nat × Nat × Nat)} {idx : Nat} (d : decode E.2.1.2.1 pc = .ok (.invokestatic idx, 3)) (w : zMs E.2.1.1.cls idx M.1 As.length) (cd : Cond.codeWith M.1 M.2.1 M.2.2.1 M.2.2.2 hh ∈ zTs ∧ M.2.2.1 ≤ 40) (he : stk = As.reverse ++ st) (hdd : dd' + 1 ≤ E.2.2.1) (hk : kc' ≤ kc) (hs : ks' ≤ ks) (hst : (st.map fun v => v.category).sum ≤ 8)
    (C : zCallW E.1 M hh dd' kc' ks' As h Qm') (K : ∀ (r : Option Value) (h' : List va_E), Qm' r h' → h.length ≤ h'.length → zR E (kc - kc') (ks - ks') (pc + 3) lv (r.toList ++ st) h') : zR E kc ks pc lv stk h := by
  intro G p e s m args below meth c A ad0 n0 mc ms Z F H locs cells slots ad ls D
  subst he
  refine zr_back (a := (As.map (zV G.2.2.1 ad)).toArray) (st := st) (Qm' := Qm') F D (fun v hv => List.mem_append_right _ hv) hk hs ?_ K
  refine vx_runSW (hh := hh) (As := As.map (zV G.2.2.1 ad)) (n := As.length) (index := idx) (bytes := M.2.1) (maxL := M.2.2.1) (ret := M.2.2.2) (ws := Cond.codeWith M.1 M.2.1 M.2.2.1 M.2.2.2 hh :: zTs) (rm := zRm dd' kc' ks') (Ts := zTs) (own := E.2.1.1.cls) (cc := E.2.1.2.1) (nL := E.2.1.2.2.1) ⟨F.ex, F.cd, F.ml, F.own, F.ws⟩ (C G ad H.size D.2.2.1 (fun v hv => ?_)) ?_ ⟨zPre.blind, fun U hU hW => ⟨rfl, by rw [hU], by rw [hU]; exact D.1, F.kn.warm D.2.2.2.1 (D.A1 F) hU hW, D.2.1.weaken (fun _ _ _ _ => trivial)⟩⟩ rfl (List.length_map ..) D.lvh.1 ?_ (lv_room (zcat8 hst)) d ⟨?_, ?_⟩
  · exact D.sto _ (List.mem_append_left _ (List.mem_reverse.mpr hv))
  · have hG : GoodIn zTs (Cond.codeWith M.1 M.2.1 M.2.2.1 M.2.2.2 hh :: zTs) := zGoodIn (fun w hw => by
      rcases List.mem_cons.mp hw with rfl | hw
      · exact cd.1
      · exact hw)
    refine ⟨⟨rfl, rfl, hdd, ?_, pay_in F.ws hG, List.mem_cons_self⟩, F.ws _ cd.1, F.ws _ w.1.2.2, ⟨w.2.1, w.2.2.1⟩, fun sig hsg => ?_, F.ws _ w.1.1, F.ws _ w.1.2.1⟩
    · have := cd.2
      show 8 + (M.2.2.1 + 11) + (60 * dd' + 60) ≤ 60 * E.2.2.1 + 60
      omega
    · have h2 := w.2.2.2
      rw [hsg] at h2
      exact (Option.some.inj h2).symm
  · show (As.reverse ++ st).map (zV G.2.2.1 ad) = _
    rw [List.map_append, List.map_reverse]
  · have := D.2.2.2.2.2.2.2.2.2.1
    show cells + kc' ≤ mc
    omega
  · have := D.2.2.2.2.2.2.2.2.2.2
    show slots + ks' ≤ ms
    omega
theorem zs_callSW {B : zB} {kc ks pc : Nat} {lv : List (Nat × Value)} {stk st : List Value} {K Kc Kr : zK} {kc' ks' dd' : Nat} {M : zM} {As : List Value} {Po : zPo} {hh : List (Nat × Nat × Nat × Nat)} {idx : Nat} (is isR : List Nat) (d : decode B.2.1.2.1 pc = .ok (.invokestatic idx, 3)) (w : zMs B.2.1.1.cls idx M.1 As.length) (cd : Cond.codeWith M.1 M.2.1 M.2.2.1 M.2.2.2 hh ∈ zTs ∧ M.2.2.1 ≤ 40) (he : stk = As.reverse ++ st) (PC : zPk K is Kc) (PR : zPk K isR Kr) (nC : va_nd is = true) (nR : va_nd isR = true) (dis : ∀ i ∈ isR, i ∉ is) (hdd : dd' + 1 ≤ B.2.2.1) (hk : kc' ≤ kc) (hs : ks' ≤ ks) (hst : (st.map fun v => v.category).sum ≤ 8)
    (C : zSpW B.1 M hh dd' kc' ks' As Kc Po) (k : ∀ (r : Option Value) (K1 : zK), Po r K1 → zS B (kc - kc') (ks - ks') (pc + 3) lv (r.toList ++ st) (Kr ++ K1)) : zS B kc ks pc lv stk K :=
  fun h H D F L => zr_callSW d w cd he hdd hk hs hst (C h (H.pk PC) (D.pk PC nC)) (zs_back is isR PC PR nR dis k H D F L)
