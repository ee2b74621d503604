/-! ===== rows of zR: stack, locals, branches ===== -/
def zget : List (Nat × Value) → Nat → Option Value
  | [], _ => none
  | (j, v) :: t, i => if j = i then some v else zget t i
theorem zget_mem {lv : List (Nat × Value)} {i : Nat} {v : Value} (h : zget lv i = some v) : (i, v) ∈ lv := by
  induction lv with
  | nil => cases h
  | cons q t ih =>
    obtain ⟨j, w⟩ := q
    simp only [zget] at h
    split at h
    · rename_i hj
      cases h
      subst hj
      exact List.mem_cons_self
    · exact List.mem_cons_of_mem _ (ih h)
theorem zV_cat (kn ad : Nat → Nat) (v : Value) : (zV kn ad v).category = v.category := by cases v <;> rfl
def zst (lv : List (Nat × Value)) (i : Nat) (v : Value) : List (Nat × Value) := (i, v) :: lv.filter (fun q => !(q.1 == i) && !(q.1 + 1 == i && q.2.category == 2))
def zstL (lv : List (Nat × Value)) (i : Nat) (v : Value) : List (Nat × Value) := (i, v) :: lv.filter (fun q => !(q.1 == i) && (!(q.1 == i + 1) && !(q.1 + 1 == i && q.2.category == 2)))
abbrev zLm (kn ad : Nat → Nat) (lv : List (Nat × Value)) : List (Nat × Value) := lv.map (fun q => (q.1, zV kn ad q.2))
theorem zst_map (kn ad : Nat → Nat) (lv : List (Nat × Value)) (i : Nat) (v : Value) : (i, zV kn ad v) :: (zLm kn ad lv).filter (fun q => !(q.1 == i) && !(q.1 + 1 == i && q.2.category == 2)) = zLm kn ad (zst lv i v) := by
  simp only [zst, zLm, List.map_cons, List.filter_map, Function.comp_def, zV_cat]
theorem zstL_map (kn ad : Nat → Nat) (lv : List (Nat × Value)) (i : Nat) (v : Value) : (i, zV kn ad v) :: (zLm kn ad lv).filter (fun q => !(q.1 == i) && (!(q.1 == i + 1) && !(q.1 + 1 == i && q.2.category == 2))) = zLm kn ad (zstL lv i v) := by
  simp only [zstL, zLm, List.map_cons, List.filter_map, Function.comp_def, zV_cat]
theorem zst_ok {n : Nat} {lv : List (Nat × Value)} {i : Nat} {v : Value} (h : ∀ q ∈ lv, zOk n q.2) (hv : zOk n v) : ∀ q ∈ zst lv i v, zOk n q.2 := by
  intro q hq
  rcases List.mem_cons.mp hq with rfl | hq
  · exact hv
  · exact h q (List.mem_filter.mp hq).1
theorem zstL_ok {n : Nat} {lv : List (Nat × Value)} {i : Nat} {v : Value} (h : ∀ q ∈ lv, zOk n q.2) (hv : zOk n v) : ∀ q ∈ zstL lv i v, zOk n q.2 := by
  intro q hq
  rcases List.mem_cons.mp hq with rfl | hq
  · exact hv
  · exact h q (List.mem_filter.mp hq).1
def zrf (v : Value) : Bool := match v with
  | .ref _ => true
  | .null => true
  | .float _ => true
  | _ => false
section ZRA
variable {E : zEv} {kc ks : Nat} {lv : List (Nat × Value)} {h : List va_E} {G : zG} {s : State} {A : Nat → Prop} {ad0 : Nat → Nat} {n0 mc ms : Nat} {H : Heap} {locs : List Loc} {cells slots : Nat} {ad : Nat → Nat} {ls : Array Slot}
theorem zDx.stk {st st' : List Value} (D : zDx E kc ks lv st h G s A ad0 n0 mc ms H locs cells slots ad ls) (hs : ∀ v ∈ st', zOk h.length v) : zDx E kc ks lv st' h G s A ad0 n0 mc ms H locs cells slots ad ls := by
  obtain ⟨d1, d2, d3, d4, d5, d6, d7, d8, -, d10⟩ := D
  exact ⟨d1, d2, d3, d4, d5, d6, d7, d8, hs, d10⟩
theorem zDx.loc {st : List Value} {lv' : List (Nat × Value)} {ls' : Array Slot} (D : zDx E kc ks lv st h G s A ad0 n0 mc ms H locs cells slots ad ls) (h1 : lv_has ls' E.2.1.2.2.1 (zLm G.2.2.1 ad lv')) (h2 : ∀ q ∈ lv', zOk h.length q.2) : zDx E kc ks lv' st h G s A ad0 n0 mc ms H locs cells slots ad ls' := by
  obtain ⟨d1, d2, d3, d4, d5, d6, -, -, d9, d10⟩ := D
  exact ⟨d1, d2, d3, d4, d5, d6, h1, h2, d9, d10⟩
theorem zDx.sto {st : List Value} (D : zDx E kc ks lv st h G s A ad0 n0 mc ms H locs cells slots ad ls) : ∀ v ∈ st, zOk h.length v := D.2.2.2.2.2.2.2.2.1
theorem zDx.lvo {st : List Value} (D : zDx E kc ks lv st h G s A ad0 n0 mc ms H locs cells slots ad ls) : ∀ q ∈ lv, zOk h.length q.2 := D.2.2.2.2.2.2.2.1
theorem zDx.lvh {st : List Value} (D : zDx E kc ks lv st h G s A ad0 n0 mc ms H locs cells slots ad ls) : lv_has ls E.2.1.2.2.1 (zLm G.2.2.1 ad lv) := D.2.2.2.2.2.2.1
theorem zDx.at {st : List Value} (D : zDx E kc ks lv st h G s A ad0 n0 mc ms H locs cells slots ad ls) {i : Nat} {v : Value} (hl : zget lv i = some v) : ls[i]? = some (.val (zV G.2.2.1 ad v)) := D.lvh.2.2 (i, zV G.2.2.1 ad v) (List.mem_map.mpr ⟨(i, v), zget_mem hl, rfl⟩)
theorem zDx.d1 {st : List Value} {v : Value} (D : zDx E kc ks lv (v :: st) h G s A ad0 n0 mc ms H locs cells slots ad ls) : ∀ w ∈ st, zOk h.length w := fun w hw => D.sto w (List.mem_cons_of_mem _ hw)
theorem zDx.d2 {st : List Value} {v u : Value} (D : zDx E kc ks lv (v :: u :: st) h G s A ad0 n0 mc ms H locs cells slots ad ls) : ∀ w ∈ st, zOk h.length w := fun w hw => D.sto w (List.mem_cons_of_mem _ (List.mem_cons_of_mem _ hw))
theorem zDx.d3 {st : List Value} {v u x : Value} (D : zDx E kc ks lv (v :: u :: x :: st) h G s A ad0 n0 mc ms H locs cells slots ad ls) : ∀ w ∈ st, zOk h.length w := fun w hw => D.sto w (List.mem_cons_of_mem _ (List.mem_cons_of_mem _ (List.mem_cons_of_mem _ hw)))
theorem zok_c {n : Nat} {st : List Value} {v : Value} (h : ∀ w ∈ st, zOk n w) (hv : zOk n v) : ∀ w ∈ v :: st, zOk n w := by
  intro w hw
  rcases List.mem_cons.mp hw with rfl | hw
  · exact hv
  · exact h w hw
theorem zDx.t0 {st : List Value} {v : Value} (D : zDx E kc ks lv (v :: st) h G s A ad0 n0 mc ms H locs cells slots ad ls) : zOk h.length v := D.sto v List.mem_cons_self
theorem zDx.t1 {st : List Value} {v u : Value} (D : zDx E kc ks lv (v :: u :: st) h G s A ad0 n0 mc ms H locs cells slots ad ls) : zOk h.length u := D.sto u (List.mem_cons_of_mem _ List.mem_cons_self)
end ZRA
section ZRB
variable {E : zEv} {kc ks pc : Nat} {lv : List (Nat × Value)} {st : List Value} {h : List va_E}
theorem zr_lv {lv' : List (Nat × Value)} (is : List Nat) (hl : lv_pick lv is = lv') (k : zR E kc ks pc lv' st h) : zR E kc ks pc lv st h := by
  intro G p e s m args below meth c A ad0 n0 mc ms Z F H locs cells slots ad ls D
  have hm : ∀ q ∈ lv', q ∈ lv := by
    intro q hq
    rw [← hl] at hq
    obtain ⟨i, -, hi⟩ := List.mem_filterMap.mp hq
    exact List.mem_of_getElem? hi
  refine k G p e s m args below meth c A ad0 n0 mc ms Z F H locs cells slots ad ls (D.loc ⟨D.lvh.1, D.lvh.2.1, fun q hq => ?_⟩ (fun q hq => D.lvo q (hm q hq)))
  obtain ⟨r, hr, rfl⟩ := List.mem_map.mp hq
  exact D.lvh.2.2 _ (List.mem_map.mpr ⟨r, hm r hr, rfl⟩)
theorem zr_kc {kc' ks' : Nat} (h1 : kc' ≤ kc) (h2 : ks' ≤ ks) (k : zR E kc' ks' pc lv st h) : zR E kc ks pc lv st h := by
  intro G p e s m args below meth c A ad0 n0 mc ms Z F H locs cells slots ad ls D
  obtain ⟨d1, d2, d3, d4, d5, d6, d7, d8, d9, d10, d11⟩ := D
  exact k G p e s m args below meth c A ad0 n0 mc ms Z F H locs cells slots ad ls ⟨d1, d2, d3, d4, d5, d6, d7, d8, d9, by omega, by omega⟩
theorem zr_iconst {n : Int} {v : Int32} (d : decode E.2.1.2.1 pc = .ok (.iconst n, 1)) (hv : (Int32.ofInt n = v)) (k : zR E kc ks (pc + 1) lv (.int v :: st) h) : zR E kc ks pc lv st h := by
  intro G p e s m args below meth c A ad0 n0 mc ms Z F H locs cells slots ad ls D
  exact lv_iconst F.1 F.2.1 d hv (k G p e s m args below meth c A ad0 n0 mc ms Z F H locs cells slots ad ls (D.stk (zok_c D.sto trivial)))
theorem zr_bipush {n : Int} {v : Int32} (d : decode E.2.1.2.1 pc = .ok (.bipush n, 2)) (hv : ((Int8.ofInt n).toInt32 = v)) (k : zR E kc ks (pc + 2) lv (.int v :: st) h) : zR E kc ks pc lv st h := by
  intro G p e s m args below meth c A ad0 n0 mc ms Z F H locs cells slots ad ls D
  exact lv_bipush F.1 F.2.1 d hv (k G p e s m args below meth c A ad0 n0 mc ms Z F H locs cells slots ad ls (D.stk (zok_c D.sto trivial)))
theorem zr_sipush {n : Int} {v : Int32} (d : decode E.2.1.2.1 pc = .ok (.sipush n, 3)) (hv : ((Int16.ofInt n).toInt32 = v)) (k : zR E kc ks (pc + 3) lv (.int v :: st) h) : zR E kc ks pc lv st h := by
  intro G p e s m args below meth c A ad0 n0 mc ms Z F H locs cells slots ad ls D
  exact lv_sipush F.1 F.2.1 d hv (k G p e s m args below meth c A ad0 n0 mc ms Z F H locs cells slots ad ls (D.stk (zok_c D.sto trivial)))
theorem zr_lconst {n : Fin 2} {v : Int64} (d : decode E.2.1.2.1 pc = .ok (.lconst n, 1)) (hv : Int64.ofNat (n : Nat) = v) (k : zR E kc ks (pc + 1) lv (.long v :: st) h) : zR E kc ks pc lv st h := by
  intro G p e s m args below meth c A ad0 n0 mc ms Z F H locs cells slots ad ls D
  exact lv_lconst F.1 F.2.1 d hv (k G p e s m args below meth c A ad0 n0 mc ms Z F H locs cells slots ad ls (D.stk (zok_c D.sto trivial)))
theorem zr_null (d : decode E.2.1.2.1 pc = .ok (.aconst_null, 1)) (k : zR E kc ks (pc + 1) lv (.null :: st) h) : zR E kc ks pc lv st h := by
  intro G p e s m args below meth c A ad0 n0 mc ms Z F H locs cells slots ad ls D
  exact lv_null F.1 F.2.1 d (k G p e s m args below meth c A ad0 n0 mc ms Z F H locs cells slots ad ls (D.stk (zok_c D.sto trivial)))
theorem zr_ldc {idx : Nat} {v : Int32} (d : decode E.2.1.2.1 pc = .ok (.ldc idx, 2)) (w : Cond.constant E.2.1.1.cls idx v ∈ zTs) (k : zR E kc ks (pc + 2) lv (.int v :: st) h) : zR E kc ks pc lv st h := by
  intro G p e s m args below meth c A ad0 n0 mc ms Z F H locs cells slots ad ls D
  exact lv_ldc F.1 F.2.1 F.2.2.2.2.2.2.1 (F.2.2.2.2.2.2.2.1 _ w) d (k G p e s m args below meth c A ad0 n0 mc ms Z F H locs cells slots ad ls (D.stk (zok_c D.sto trivial)))
theorem zr_ldcw {idx : Nat} {v : Int32} (d : decode E.2.1.2.1 pc = .ok (.ldc_w idx, 3)) (w : Cond.constant E.2.1.1.cls idx v ∈ zTs) (k : zR E kc ks (pc + 3) lv (.int v :: st) h) : zR E kc ks pc lv st h := by
  intro G p e s m args below meth c A ad0 n0 mc ms Z F H locs cells slots ad ls D
  exact lv_ldcw F.1 F.2.1 F.2.2.2.2.2.2.1 (F.2.2.2.2.2.2.2.1 _ w) d (k G p e s m args below meth c A ad0 n0 mc ms Z F H locs cells slots ad ls (D.stk (zok_c D.sto trivial)))
theorem zr_ldc2 {idx : Nat} {v : Int64} (d : decode E.2.1.2.1 pc = .ok (.ldc2_w idx, 3)) (w : Cond.constantLong E.2.1.1.cls idx v ∈ zTs) (k : zR E kc ks (pc + 3) lv (.long v :: st) h) : zR E kc ks pc lv st h := by
  intro G p e s m args below meth c A ad0 n0 mc ms Z F H locs cells slots ad ls D
  exact lv_ldc2 F.1 F.2.1 F.2.2.2.2.2.2.1 (F.2.2.2.2.2.2.2.1 _ w) d (k G p e s m args below meth c A ad0 n0 mc ms Z F H locs cells slots ad ls (D.stk (zok_c D.sto trivial)))
theorem zr_iload {i : Nat} {x : Int32} (d : decode E.2.1.2.1 pc = .ok (.iload i, 2)) (hl : zget lv i = some (.int x)) (k : zR E kc ks (pc + 2) lv (.int x :: st) h) : zR E kc ks pc lv st h := by
  intro G p e s m args below meth c A ad0 n0 mc ms Z F H locs cells slots ad ls D
  exact lv_iload F.1 F.2.1 d (D.at hl) (k G p e s m args below meth c A ad0 n0 mc ms Z F H locs cells slots ad ls (D.stk (zok_c D.sto trivial)))
theorem zr_iload_n {i : Fin 4} {x : Int32} (d : decode E.2.1.2.1 pc = .ok (.iload_n i, 1)) (hl : zget lv i.val = some (.int x)) (k : zR E kc ks (pc + 1) lv (.int x :: st) h) : zR E kc ks pc lv st h := by
  intro G p e s m args below meth c A ad0 n0 mc ms Z F H locs cells slots ad ls D
  exact lv_iload_n F.1 F.2.1 d rfl (D.at hl) (k G p e s m args below meth c A ad0 n0 mc ms Z F H locs cells slots ad ls (D.stk (zok_c D.sto trivial)))
theorem zr_lload {i : Nat} {x : Int64} (d : decode E.2.1.2.1 pc = .ok (.lload i, 2)) (hl : zget lv i = some (.long x)) (k : zR E kc ks (pc + 2) lv (.long x :: st) h) : zR E kc ks pc lv st h := by
  intro G p e s m args below meth c A ad0 n0 mc ms Z F H locs cells slots ad ls D
  exact lv_lload F.1 F.2.1 d (D.at hl) (k G p e s m args below meth c A ad0 n0 mc ms Z F H locs cells slots ad ls (D.stk (zok_c D.sto trivial)))
theorem zr_lload_n {i : Fin 4} {x : Int64} (d : decode E.2.1.2.1 pc = .ok (.lload_n i, 1)) (hl : zget lv i.val = some (.long x)) (k : zR E kc ks (pc + 1) lv (.long x :: st) h) : zR E kc ks pc lv st h := by
  intro G p e s m args below meth c A ad0 n0 mc ms Z F H locs cells slots ad ls D
  exact lv_lload_n F.1 F.2.1 d rfl (D.at hl) (k G p e s m args below meth c A ad0 n0 mc ms Z F H locs cells slots ad ls (D.stk (zok_c D.sto trivial)))
theorem zr_aload {i : Nat} {v : Value} (d : decode E.2.1.2.1 pc = .ok (.aload i, 2)) (hl : zget lv i = some v) (hv : zrf v = true) (k : zR E kc ks (pc + 2) lv (v :: st) h) : zR E kc ks pc lv st h := by
  intro G p e s m args below meth c A ad0 n0 mc ms Z F H locs cells slots ad ls D
  have hz := D.at hl
  have ho : zOk h.length v := D.lvo _ (zget_mem hl)
  have kk := k G p e s m args below meth c A ad0 n0 mc ms Z F H locs cells slots ad ls (D.stk (zok_c D.sto ho))
  cases v with
  | ref a => exact lv_aload F.1 F.2.1 d hz kk
  | null => exact lv_aloadN F.1 F.2.1 d hz kk
  | float u => exact lv_aload F.1 F.2.1 d hz kk
  | int x => cases hv
  | long x => cases hv
  | double x => cases hv
  | retAddr z => cases hv
theorem zr_aload_n {i : Fin 4} {v : Value} (d : decode E.2.1.2.1 pc = .ok (.aload_n i, 1)) (hl : zget lv i.val = some v) (hv : zrf v = true) (k : zR E kc ks (pc + 1) lv (v :: st) h) : zR E kc ks pc lv st h := by
  intro G p e s m args below meth c A ad0 n0 mc ms Z F H locs cells slots ad ls D
  have hz := D.at hl
  have ho : zOk h.length v := D.lvo _ (zget_mem hl)
  have kk := k G p e s m args below meth c A ad0 n0 mc ms Z F H locs cells slots ad ls (D.stk (zok_c D.sto ho))
  cases v with
  | ref a => exact lv_aload_n F.1 F.2.1 d rfl hz kk
  | null => exact lv_aload_nN F.1 F.2.1 d rfl hz kk
  | float u => exact lv_aload_n F.1 F.2.1 d rfl hz kk
  | int x => cases hv
  | long x => cases hv
  | double x => cases hv
  | retAddr z => cases hv
theorem zr_istore {i : Nat} {x : Int32} {lv' : List (Nat × Value)} (d : decode E.2.1.2.1 pc = .ok (.istore i, 2)) (hn : i < E.2.1.2.2.1) (hl : zst lv i (.int x) = lv') (k : zR E kc ks (pc + 2) lv' st h) : zR E kc ks pc lv (.int x :: st) h := by
  subst hl
  intro G p e s m args below meth c A ad0 n0 mc ms Z F H locs cells slots ad ls D
  exact lv_istore F.1 F.2.1 d D.lvh hn (zst_map G.2.2.1 ad lv i (.int x)) (fun ls' hl' => k G p e s m args below meth c A ad0 n0 mc ms Z F H locs cells slots ad ls' ((D.stk D.d1).loc hl' (zst_ok D.lvo trivial)))
theorem zr_istore_n {i : Fin 4} {x : Int32} {lv' : List (Nat × Value)} (d : decode E.2.1.2.1 pc = .ok (.istore_n i, 1)) (hn : i.val < E.2.1.2.2.1) (hl : zst lv i.val (.int x) = lv') (k : zR E kc ks (pc + 1) lv' st h) : zR E kc ks pc lv (.int x :: st) h := by
  subst hl
  intro G p e s m args below meth c A ad0 n0 mc ms Z F H locs cells slots ad ls D
  exact lv_istore_n F.1 F.2.1 d rfl D.lvh hn (zst_map G.2.2.1 ad lv i.val (.int x)) (fun ls' hl' => k G p e s m args below meth c A ad0 n0 mc ms Z F H locs cells slots ad ls' ((D.stk D.d1).loc hl' (zst_ok D.lvo trivial)))
theorem zr_lstore {i : Nat} {x : Int64} {lv' : List (Nat × Value)} (d : decode E.2.1.2.1 pc = .ok (.lstore i, 2)) (hn : i + 1 < E.2.1.2.2.1) (hl : zstL lv i (.long x) = lv') (k : zR E kc ks (pc + 2) lv' st h) : zR E kc ks pc lv (.long x :: st) h := by
  subst hl
  intro G p e s m args below meth c A ad0 n0 mc ms Z F H locs cells slots ad ls D
  exact lv_lstore F.1 F.2.1 d D.lvh hn (zstL_map G.2.2.1 ad lv i (.long x)) (fun ls' hl' => k G p e s m args below meth c A ad0 n0 mc ms Z F H locs cells slots ad ls' ((D.stk D.d1).loc hl' (zstL_ok D.lvo trivial)))
theorem zr_lstore_n {i : Fin 4} {x : Int64} {lv' : List (Nat × Value)} (d : decode E.2.1.2.1 pc = .ok (.lstore_n i, 1)) (hn : i.val + 1 < E.2.1.2.2.1) (hl : zstL lv i.val (.long x) = lv') (k : zR E kc ks (pc + 1) lv' st h) : zR E kc ks pc lv (.long x :: st) h := by
  subst hl
  intro G p e s m args below meth c A ad0 n0 mc ms Z F H locs cells slots ad ls D
  exact lv_lstore_n F.1 F.2.1 d rfl D.lvh hn (zstL_map G.2.2.1 ad lv i.val (.long x)) (fun ls' hl' => k G p e s m args below meth c A ad0 n0 mc ms Z F H locs cells slots ad ls' ((D.stk D.d1).loc hl' (zstL_ok D.lvo trivial)))
theorem zr_astore {i : Nat} {v : Value} {lv' : List (Nat × Value)} (d : decode E.2.1.2.1 pc = .ok (.astore i, 2)) (hn : i < E.2.1.2.2.1) (hv : zrf v = true) (hl : zst lv i v = lv') (k : zR E kc ks (pc + 2) lv' st h) : zR E kc ks pc lv (v :: st) h := by
  subst hl
  intro G p e s m args below meth c A ad0 n0 mc ms Z F H locs cells slots ad ls D
  cases v with
  | ref a => exact lv_astore F.1 F.2.1 d D.lvh hn (zst_map G.2.2.1 ad lv i (.ref a)) (fun ls' hl' => k G p e s m args below meth c A ad0 n0 mc ms Z F H locs cells slots ad ls' ((D.stk D.d1).loc hl' (zst_ok D.lvo D.t0)))
  | null => exact lv_astoreN F.1 F.2.1 d D.lvh hn (zst_map G.2.2.1 ad lv i .null) (fun ls' hl' => k G p e s m args below meth c A ad0 n0 mc ms Z F H locs cells slots ad ls' ((D.stk D.d1).loc hl' (zst_ok D.lvo D.t0)))
  | float u => exact lv_astore F.1 F.2.1 d D.lvh hn (zst_map G.2.2.1 ad lv i (.float u)) (fun ls' hl' => k G p e s m args below meth c A ad0 n0 mc ms Z F H locs cells slots ad ls' ((D.stk D.d1).loc hl' (zst_ok D.lvo D.t0)))
  | int x => cases hv
  | long x => cases hv
  | double x => cases hv
  | retAddr z => cases hv
theorem zr_astore_n {i : Fin 4} {v : Value} {lv' : List (Nat × Value)} (d : decode E.2.1.2.1 pc = .ok (.astore_n i, 1)) (hn : i.val < E.2.1.2.2.1) (hv : zrf v = true) (hl : zst lv i.val v = lv') (k : zR E kc ks (pc + 1) lv' st h) : zR E kc ks pc lv (v :: st) h := by
  subst hl
  intro G p e s m args below meth c A ad0 n0 mc ms Z F H locs cells slots ad ls D
  cases v with
  | ref a => exact lv_astore_n F.1 F.2.1 d rfl D.lvh hn (zst_map G.2.2.1 ad lv i.val (.ref a)) (fun ls' hl' => k G p e s m args below meth c A ad0 n0 mc ms Z F H locs cells slots ad ls' ((D.stk D.d1).loc hl' (zst_ok D.lvo D.t0)))
  | null => exact lv_astore_nN F.1 F.2.1 d rfl D.lvh hn (zst_map G.2.2.1 ad lv i.val .null) (fun ls' hl' => k G p e s m args below meth c A ad0 n0 mc ms Z F H locs cells slots ad ls' ((D.stk D.d1).loc hl' (zst_ok D.lvo D.t0)))
  | float u => exact lv_astore_n F.1 F.2.1 d rfl D.lvh hn (zst_map G.2.2.1 ad lv i.val (.float u)) (fun ls' hl' => k G p e s m args below meth c A ad0 n0 mc ms Z F H locs cells slots ad ls' ((D.stk D.d1).loc hl' (zst_ok D.lvo D.t0)))
  | int x => cases hv
  | long x => cases hv
  | double x => cases hv
  | retAddr z => cases hv
theorem zr_iinc {i : Nat} {n : Int} {x v : Int32} {lv' : List (Nat × Value)} (d : decode E.2.1.2.1 pc = .ok (.iinc i n, 3)) (hk : zget lv i = some (.int x)) (hv : x + Int32.ofInt n = v) (hn : i < E.2.1.2.2.1) (hl : zst lv i (.int v) = lv') (k : zR E kc ks (pc + 3) lv' st h) : zR E kc ks pc lv st h := by
  subst hl
  intro G p e s m args below meth c A ad0 n0 mc ms Z F H locs cells slots ad ls D
  obtain ⟨j, hj⟩ := List.getElem?_of_mem (zget_mem hk)
  exact lv_iinc (k := j) F.1 F.2.1 d D.lvh (by rw [List.getElem?_map, hj]; rfl) hv hn (zst_map G.2.2.1 ad lv i (.int v)) (fun ls' hl' => k G p e s m args below meth c A ad0 n0 mc ms Z F H locs cells slots ad ls' (D.loc hl' (zst_ok D.lvo trivial)))
theorem zr_iadd {x y : Int32} (d : decode E.2.1.2.1 pc = .ok (.iadd, 1)) (k : zR E kc ks (pc + 1) lv (.int (x + y) :: st) h) : zR E kc ks pc lv (.int y :: .int x :: st) h := by
  intro G p e s m args below meth c A ad0 n0 mc ms Z F H locs cells slots ad ls D
  exact lv_iadd F.1 F.2.1 d (k G p e s m args below meth c A ad0 n0 mc ms Z F H locs cells slots ad ls (D.stk (zok_c D.d2 trivial)))
theorem zr_isub {x y : Int32} (d : decode E.2.1.2.1 pc = .ok (.isub, 1)) (k : zR E kc ks (pc + 1) lv (.int (x - y) :: st) h) : zR E kc ks pc lv (.int y :: .int x :: st) h := by
  intro G p e s m args below meth c A ad0 n0 mc ms Z F H locs cells slots ad ls D
  exact lv_isub F.1 F.2.1 d (k G p e s m args below meth c A ad0 n0 mc ms Z F H locs cells slots ad ls (D.stk (zok_c D.d2 trivial)))
theorem zr_imul {x y : Int32} (d : decode E.2.1.2.1 pc = .ok (.imul, 1)) (k : zR E kc ks (pc + 1) lv (.int (x * y) :: st) h) : zR E kc ks pc lv (.int y :: .int x :: st) h := by
  intro G p e s m args below meth c A ad0 n0 mc ms Z F H locs cells slots ad ls D
  exact lv_imul F.1 F.2.1 d (k G p e s m args below meth c A ad0 n0 mc ms Z F H locs cells slots ad ls (D.stk (zok_c D.d2 trivial)))
theorem zr_iand {x y : Int32} (d : decode E.2.1.2.1 pc = .ok (.iand, 1)) (k : zR E kc ks (pc + 1) lv (.int (x &&& y) :: st) h) : zR E kc ks pc lv (.int y :: .int x :: st) h := by
  intro G p e s m args below meth c A ad0 n0 mc ms Z F H locs cells slots ad ls D
  exact lv_iand F.1 F.2.1 d (k G p e s m args below meth c A ad0 n0 mc ms Z F H locs cells slots ad ls (D.stk (zok_c D.d2 trivial)))
theorem zr_ior {x y : Int32} (d : decode E.2.1.2.1 pc = .ok (.ior, 1)) (k : zR E kc ks (pc + 1) lv (.int (x ||| y) :: st) h) : zR E kc ks pc lv (.int y :: .int x :: st) h := by
  intro G p e s m args below meth c A ad0 n0 mc ms Z F H locs cells slots ad ls D
  exact lv_ior F.1 F.2.1 d (k G p e s m args below meth c A ad0 n0 mc ms Z F H locs cells slots ad ls (D.stk (zok_c D.d2 trivial)))
theorem zr_ixor {x y : Int32} (d : decode E.2.1.2.1 pc = .ok (.ixor, 1)) (k : zR E kc ks (pc + 1) lv (.int (x ^^^ y) :: st) h) : zR E kc ks pc lv (.int y :: .int x :: st) h := by
  intro G p e s m args below meth c A ad0 n0 mc ms Z F H locs cells slots ad ls D
  exact lv_ixor F.1 F.2.1 d (k G p e s m args below meth c A ad0 n0 mc ms Z F H locs cells slots ad ls (D.stk (zok_c D.d2 trivial)))
theorem zr_ishl {x y : Int32} (d : decode E.2.1.2.1 pc = .ok (.ishl, 1)) (k : zR E kc ks (pc + 1) lv (.int (x <<< (y &&& 31)) :: st) h) : zR E kc ks pc lv (.int y :: .int x :: st) h := by
  intro G p e s m args below meth c A ad0 n0 mc ms Z F H locs cells slots ad ls D
  exact lv_ishl F.1 F.2.1 d (k G p e s m args below meth c A ad0 n0 mc ms Z F H locs cells slots ad ls (D.stk (zok_c D.d2 trivial)))
theorem zr_ishr {x y : Int32} (d : decode E.2.1.2.1 pc = .ok (.ishr, 1)) (k : zR E kc ks (pc + 1) lv (.int (x >>> (y &&& 31)) :: st) h) : zR E kc ks pc lv (.int y :: .int x :: st) h := by
  intro G p e s m args below meth c A ad0 n0 mc ms Z F H locs cells slots ad ls D
  exact lv_ishr F.1 F.2.1 d (k G p e s m args below meth c A ad0 n0 mc ms Z F H locs cells slots ad ls (D.stk (zok_c D.d2 trivial)))
theorem zr_ladd {x y : Int64} (d : decode E.2.1.2.1 pc = .ok (.ladd, 1)) (k : zR E kc ks (pc + 1) lv (.long (x + y) :: st) h) : zR E kc ks pc lv (.long y :: .long x :: st) h := by
  intro G p e s m args below meth c A ad0 n0 mc ms Z F H locs cells slots ad ls D
  exact lv_ladd F.1 F.2.1 d (k G p e s m args below meth c A ad0 n0 mc ms Z F H locs cells slots ad ls (D.stk (zok_c D.d2 trivial)))
theorem zr_lsub {x y : Int64} (d : decode E.2.1.2.1 pc = .ok (.lsub, 1)) (k : zR E kc ks (pc + 1) lv (.long (x - y) :: st) h) : zR E kc ks pc lv (.long y :: .long x :: st) h := by
  intro G p e s m args below meth c A ad0 n0 mc ms Z F H locs cells slots ad ls D
  exact lv_lsub F.1 F.2.1 d (k G p e s m args below meth c A ad0 n0 mc ms Z F H locs cells slots ad ls (D.stk (zok_c D.d2 trivial)))
theorem zr_lmul {x y : Int64} (d : decode E.2.1.2.1 pc = .ok (.lmul, 1)) (k : zR E kc ks (pc + 1) lv (.long (x * y) :: st) h) : zR E kc ks pc lv (.long y :: .long x :: st) h := by
  intro G p e s m args below meth c A ad0 n0 mc ms Z F H locs cells slots ad ls D
  exact lv_lmul F.1 F.2.1 d (k G p e s m args below meth c A ad0 n0 mc ms Z F H locs cells slots ad ls (D.stk (zok_c D.d2 trivial)))
theorem zr_idiv {x y : Int32} (d : decode E.2.1.2.1 pc = .ok (.idiv, 1)) (hne : ¬ y = 0) (k : zR E kc ks (pc + 1) lv (.int (x / y) :: st) h) : zR E kc ks pc lv (.int y :: .int x :: st) h := by
  intro G p e s m args below meth c A ad0 n0 mc ms Z F H locs cells slots ad ls D
  exact lv_idiv F.1 F.2.1 d hne (k G p e s m args below meth c A ad0 n0 mc ms Z F H locs cells slots ad ls (D.stk (zok_c D.d2 trivial)))
theorem zr_irem {x y : Int32} (d : decode E.2.1.2.1 pc = .ok (.irem, 1)) (hne : ¬ y = 0) (k : zR E kc ks (pc + 1) lv (.int (x - x / y * y) :: st) h) : zR E kc ks pc lv (.int y :: .int x :: st) h := by
  intro G p e s m args below meth c A ad0 n0 mc ms Z F H locs cells slots ad ls D
  exact lv_irem F.1 F.2.1 d hne (k G p e s m args below meth c A ad0 n0 mc ms Z F H locs cells slots ad ls (D.stk (zok_c D.d2 trivial)))
theorem zr_iushr {x y v : Int32} (d : decode E.2.1.2.1 pc = .ok (.iushr, 1)) (hv : (x.toUInt32 >>> (y.toUInt32 &&& Int32.toUInt32 31)).toInt32 = v) (k : zR E kc ks (pc + 1) lv (.int v :: st) h) : zR E kc ks pc lv (.int y :: .int x :: st) h := by
  intro G p e s m args below meth c A ad0 n0 mc ms Z F H locs cells slots ad ls D
  exact lv_iushr F.1 F.2.1 d hv (k G p e s m args below meth c A ad0 n0 mc ms Z F H locs cells slots ad ls (D.stk (zok_c D.d2 trivial)))
theorem zr_ineg {x : Int32} (d : decode E.2.1.2.1 pc = .ok (.ineg, 1)) (k : zR E kc ks (pc + 1) lv (.int (-x) :: st) h) : zR E kc ks pc lv (.int x :: st) h := by
  intro G p e s m args below meth c A ad0 n0 mc ms Z F H locs cells slots ad ls D
  exact lv_ineg F.1 F.2.1 d (k G p e s m args below meth c A ad0 n0 mc ms Z F H locs cells slots ad ls (D.stk (zok_c D.d1 trivial)))
theorem zr_i2l {x : Int32} {v : Int64} (d : decode E.2.1.2.1 pc = .ok (.i2l, 1)) (hv : x.toInt64 = v) (k : zR E kc ks (pc + 1) lv (.long v :: st) h) : zR E kc ks pc lv (.int x :: st) h := by
  intro G p e s m args below meth c A ad0 n0 mc ms Z F H locs cells slots ad ls D
  exact lv_i2l F.1 F.2.1 d hv (k G p e s m args below meth c A ad0 n0 mc ms Z F H locs cells slots ad ls (D.stk (zok_c D.d1 trivial)))
theorem zr_lcmp {x y : Int64} (d : decode E.2.1.2.1 pc = .ok (.lcmp, 1)) (k : zR E kc ks (pc + 1) lv (.int (lg_cmp x y) :: st) h) : zR E kc ks pc lv (.long y :: .long x :: st) h := by
  intro G p e s m args below meth c A ad0 n0 mc ms Z F H locs cells slots ad ls D
  exact W.lcmp F.1 F.2.1 d (k G p e s m args below meth c A ad0 n0 mc ms Z F H locs cells slots ad ls (D.stk (zok_c D.d2 trivial)))
theorem zr_dup {v : Value} (d : decode E.2.1.2.1 pc = .ok (.dup, 1)) (hv : v.category = 1) (k : zR E kc ks (pc + 1) lv (v :: v :: st) h) : zR E kc ks pc lv (v :: st) h := by
  intro G p e s m args below meth c A ad0 n0 mc ms Z F H locs cells slots ad ls D
  exact lv_dup F.1 F.2.1 d ((zV_cat _ _ v).trans hv) (k G p e s m args below meth c A ad0 n0 mc ms Z F H locs cells slots ad ls (D.stk (zok_c D.sto D.t0)))
theorem zr_pop {v : Value} (d : decode E.2.1.2.1 pc = .ok (.pop, 1)) (hv : v.category = 1) (k : zR E kc ks (pc + 1) lv st h) : zR E kc ks pc lv (v :: st) h := by
  intro G p e s m args below meth c A ad0 n0 mc ms Z F H locs cells slots ad ls D
  exact lv_pop F.1 F.2.1 d ((zV_cat _ _ v).trans hv) (k G p e s m args below meth c A ad0 n0 mc ms Z F H locs cells slots ad ls (D.stk D.d1))
theorem zr_dup2 {v u : Value} (d : decode E.2.1.2.1 pc = .ok (.dup2, 1)) (hv : v.category = 1) (hu : u.category = 1) (k : zR E kc ks (pc + 1) lv (v :: u :: v :: u :: st) h) : zR E kc ks pc lv (v :: u :: st) h := by
  intro G p e s m args below meth c A ad0 n0 mc ms Z F H locs cells slots ad ls D
  exact lv_dup2_11 F.1 F.2.1 d ((zV_cat _ _ v).trans hv) ((zV_cat _ _ u).trans hu) (k G p e s m args below meth c A ad0 n0 mc ms Z F H locs cells slots ad ls (D.stk (zok_c (zok_c D.sto D.t1) D.t0)))
theorem zr_dup_x1 {v u : Value} (d : decode E.2.1.2.1 pc = .ok (.dup_x1, 1)) (hv : v.category = 1) (hu : u.category = 1) (k : zR E kc ks (pc + 1) lv (v :: u :: v :: st) h) : zR E kc ks pc lv (v :: u :: st) h := by
  intro G p e s m args below meth c A ad0 n0 mc ms Z F H locs cells slots ad ls D
  exact lv_dup_x1 F.1 F.2.1 d ((zV_cat _ _ v).trans hv) ((zV_cat _ _ u).trans hu) (k G p e s m args below meth c A ad0 n0 mc ms Z F H locs cells slots ad ls (D.stk (zok_c (zok_c (zok_c D.d2 D.t0) D.t1) D.t0)))
theorem zr_if_eq {x : Int32} {off : Int} {tgt : Nat} (d : decode E.2.1.2.1 pc = .ok (.ifCond .eq off, 3)) (ht : (pc : Int) + off = (tgt : Int)) (kt : x = 0 → zR E kc ks tgt lv st h) (kf : ¬ (x = 0) → zR E kc ks (pc + 3) lv st h) : zR E kc ks pc lv (.int x :: st) h := by
  intro G p e s m args below meth c A ad0 n0 mc ms Z F H locs cells slots ad ls D
  exact lv_if_eq F.1 F.2.1 d ht (fun q => kt q G p e s m args below meth c A ad0 n0 mc ms Z F H locs cells slots ad ls (D.stk D.d1)) (fun q => kf q G p e s m args below meth c A ad0 n0 mc ms Z F H locs cells slots ad ls (D.stk D.d1))
theorem zr_if_ne {x : Int32} {off : Int} {tgt : Nat} (d : decode E.2.1.2.1 pc = .ok (.ifCond .ne off, 3)) (ht : (pc : Int) + off = (tgt : Int)) (kt : ¬ x = 0 → zR E kc ks tgt lv st h) (kf : x = 0 → zR E kc ks (pc + 3) lv st h) : zR E kc ks pc lv (.int x :: st) h := by
  intro G p e s m args below meth c A ad0 n0 mc ms Z F H locs cells slots ad ls D
  exact lv_if_ne F.1 F.2.1 d ht (fun q => kt q G p e s m args below meth c A ad0 n0 mc ms Z F H locs cells slots ad ls (D.stk D.d1)) (fun q => kf q G p e s m args below meth c A ad0 n0 mc ms Z F H locs cells slots ad ls (D.stk D.d1))
theorem zr_if_lt {x : Int32} {off : Int} {tgt : Nat} (d : decode E.2.1.2.1 pc = .ok (.ifCond .lt off, 3)) (ht : (pc : Int) + off = (tgt : Int)) (kt : x < 0 → zR E kc ks tgt lv st h) (kf : ¬ (x < 0) → zR E kc ks (pc + 3) lv st h) : zR E kc ks pc lv (.int x :: st) h := by
  intro G p e s m args below meth c A ad0 n0 mc ms Z F H locs cells slots ad ls D
  exact lv_if_lt F.1 F.2.1 d ht (fun q => kt q G p e s m args below meth c A ad0 n0 mc ms Z F H locs cells slots ad ls (D.stk D.d1)) (fun q => kf q G p e s m args below meth c A ad0 n0 mc ms Z F H locs cells slots ad ls (D.stk D.d1))
theorem zr_if_ge {x : Int32} {off : Int} {tgt : Nat} (d : decode E.2.1.2.1 pc = .ok (.ifCond .ge off, 3)) (ht : (pc : Int) + off = (tgt : Int)) (kt : 0 ≤ x → zR E kc ks tgt lv st h) (kf : ¬ (0 ≤ x) → zR E kc ks (pc + 3) lv st h) : zR E kc ks pc lv (.int x :: st) h := by
  intro G p e s m args below meth c A ad0 n0 mc ms Z F H locs cells slots ad ls D
  exact lv_if_ge F.1 F.2.1 d ht (fun q => kt q G p e s m args below meth c A ad0 n0 mc ms Z F H locs cells slots ad ls (D.stk D.d1)) (fun q => kf q G p e s m args below meth c A ad0 n0 mc ms Z F H locs cells slots ad ls (D.stk D.d1))
theorem zr_if_gt {x : Int32} {off : Int} {tgt : Nat} (d : decode E.2.1.2.1 pc = .ok (.ifCond .gt off, 3)) (ht : (pc : Int) + off = (tgt : Int)) (kt : 0 < x → zR E kc ks tgt lv st h) (kf : ¬ (0 < x) → zR E kc ks (pc + 3) lv st h) : zR E kc ks pc lv (.int x :: st) h := by
  intro G p e s m args below meth c A ad0 n0 mc ms Z F H locs cells slots ad ls D
  exact lv_if_gt F.1 F.2.1 d ht (fun q => kt q G p e s m args below meth c A ad0 n0 mc ms Z F H locs cells slots ad ls (D.stk D.d1)) (fun q => kf q G p e s m args below meth c A ad0 n0 mc ms Z F H locs cells slots ad ls (D.stk D.d1))
theorem zr_if_le {x : Int32} {off : Int} {tgt : Nat} (d : decode E.2.1.2.1 pc = .ok (.ifCond .le off, 3)) (ht : (pc : Int) + off = (tgt : Int)) (kt : x ≤ 0 → zR E kc ks tgt lv st h) (kf : ¬ (x ≤ 0) → zR E kc ks (pc + 3) lv st h) : zR E kc ks pc lv (.int x :: st) h := by
  intro G p e s m args below meth c A ad0 n0 mc ms Z F H locs cells slots ad ls D
  exact lv_if_le F.1 F.2.1 d ht (fun q => kt q G p e s m args below meth c A ad0 n0 mc ms Z F H locs cells slots ad ls (D.stk D.d1)) (fun q => kf q G p e s m args below meth c A ad0 n0 mc ms Z F H locs cells slots ad ls (D.stk D.d1))
theorem zr_icmp_eq {x y : Int32} {off : Int} {tgt : Nat} (d : decode E.2.1.2.1 pc = .ok (.if_icmp .eq off, 3)) (ht : (pc : Int) + off = (tgt : Int)) (kt : x = y → zR E kc ks tgt lv st h) (kf : ¬ (x = y) → zR E kc ks (pc + 3) lv st h) : zR E kc ks pc lv (.int y :: .int x :: st) h := by
  intro G p e s m args below meth c A ad0 n0 mc ms Z F H locs cells slots ad ls D
  exact lv_icmp_eq F.1 F.2.1 d ht (fun q => kt q G p e s m args below meth c A ad0 n0 mc ms Z F H locs cells slots ad ls (D.stk D.d2)) (fun q => kf q G p e s m args below meth c A ad0 n0 mc ms Z F H locs cells slots ad ls (D.stk D.d2))
theorem zr_icmp_ne {x y : Int32} {off : Int} {tgt : Nat} (d : decode E.2.1.2.1 pc = .ok (.if_icmp .ne off, 3)) (ht : (pc : Int) + off = (tgt : Int)) (kt : ¬ x = y → zR E kc ks tgt lv st h) (kf : x = y → zR E kc ks (pc + 3) lv st h) : zR E kc ks pc lv (.int y :: .int x :: st) h := by
  intro G p e s m args below meth c A ad0 n0 mc ms Z F H locs cells slots ad ls D
  exact lv_icmp_ne F.1 F.2.1 d ht (fun q => kt q G p e s m args below meth c A ad0 n0 mc ms Z F H locs cells slots ad ls (D.stk D.d2)) (fun q => kf q G p e s m args below meth c A ad0 n0 mc ms Z F H locs cells slots ad ls (D.stk D.d2))
theorem zr_icmp_lt {x y : Int32} {off : Int} {tgt : Nat} (d : decode E.2.1.2.1 pc = .ok (.if_icmp .lt off, 3)) (ht : (pc : Int) + off = (tgt : Int)) (kt : x < y → zR E kc ks tgt lv st h) (kf : ¬ (x < y) → zR E kc ks (pc + 3) lv st h) : zR E kc ks pc lv (.int y :: .int x :: st) h := by
  intro G p e s m args below meth c A ad0 n0 mc ms Z F H locs cells slots ad ls D
  exact lv_icmp_lt F.1 F.2.1 d ht (fun q => kt q G p e s m args below meth c A ad0 n0 mc ms Z F H locs cells slots ad ls (D.stk D.d2)) (fun q => kf q G p e s m args below meth c A ad0 n0 mc ms Z F H locs cells slots ad ls (D.stk D.d2))
theorem zr_icmp_ge {x y : Int32} {off : Int} {tgt : Nat} (d : decode E.2.1.2.1 pc = .ok (.if_icmp .ge off, 3)) (ht : (pc : Int) + off = (tgt : Int)) (kt : y ≤ x → zR E kc ks tgt lv st h) (kf : ¬ (y ≤ x) → zR E kc ks (pc + 3) lv st h) : zR E kc ks pc lv (.int y :: .int x :: st) h := by
  intro G p e s m args below meth c A ad0 n0 mc ms Z F H locs cells slots ad ls D
  exact lv_icmp_ge F.1 F.2.1 d ht (fun q => kt q G p e s m args below meth c A ad0 n0 mc ms Z F H locs cells slots ad ls (D.stk D.d2)) (fun q => kf q G p e s m args below meth c A ad0 n0 mc ms Z F H locs cells slots ad ls (D.stk D.d2))
theorem zr_icmp_gt {x y : Int32} {off : Int} {tgt : Nat} (d : decode E.2.1.2.1 pc = .ok (.if_icmp .gt off, 3)) (ht : (pc : Int) + off = (tgt : Int)) (kt : y < x → zR E kc ks tgt lv st h) (kf : ¬ (y < x) → zR E kc ks (pc + 3) lv st h) : zR E kc ks pc lv (.int y :: .int x :: st) h := by
  intro G p e s m args below meth c A ad0 n0 mc ms Z F H locs cells slots ad ls D
  exact lv_icmp_gt F.1 F.2.1 d ht (fun q => kt q G p e s m args below meth c A ad0 n0 mc ms Z F H locs cells slots ad ls (D.stk D.d2)) (fun q => kf q G p e s m args below meth c A ad0 n0 mc ms Z F H locs cells slots ad ls (D.stk D.d2))
theorem zr_icmp_le {x y : Int32} {off : Int} {tgt : Nat} (d : decode E.2.1.2.1 pc = .ok (.if_icmp .le off, 3)) (ht : (pc : Int) + off = (tgt : Int)) (kt : x ≤ y → zR E kc ks tgt lv st h) (kf : ¬ (x ≤ y) → zR E kc ks (pc + 3) lv st h) : zR E kc ks pc lv (.int y :: .int x :: st) h := by
  intro G p e s m args below meth c A ad0 n0 mc ms Z F H locs cells slots ad ls D
  exact lv_icmp_le F.1 F.2.1 d ht (fun q => kt q G p e s m args below meth c A ad0 n0 mc ms Z F H locs cells slots ad ls (D.stk D.d2)) (fun q => kf q G p e s m args below meth c A ad0 n0 mc ms Z F H locs cells slots ad ls (D.stk D.d2))
theorem zr_goto {off : Int} {tgt : Nat} (d : decode E.2.1.2.1 pc = .ok (.goto off, 3)) (ht : (pc : Int) + off = (tgt : Int)) (k : zR E kc ks tgt lv st h) : zR E kc ks pc lv st h := by
  intro G p e s m args below meth c A ad0 n0 mc ms Z F H locs cells slots ad ls D
  exact lv_goto F.1 F.2.1 d ht (k G p e s m args below meth c A ad0 n0 mc ms Z F H locs cells slots ad ls D)
theorem zr_tableOut {dflt lo hi : Int} {offs : Array Int} {len : Nat} {x : Int32} {tgt : Nat} (d : decode E.2.1.2.1 pc = .ok (.tableswitch dflt lo hi offs, len)) (hx : x.toInt < lo ∨ hi < x.toInt) (ht : (pc : Int) + dflt = (tgt : Int)) (k : zR E kc ks tgt lv st h) : zR E kc ks pc lv (.int x :: st) h := by
  intro G p e s m args below meth c A ad0 n0 mc ms Z F H locs cells slots ad ls D
  exact lv_tableOut F.1 F.2.1 d hx ht (k G p e s m args below meth c A ad0 n0 mc ms Z F H locs cells slots ad ls (D.stk D.d1))
theorem zr_tableIn {dflt lo hi : Int} {offs : Array Int} {len : Nat} {x : Int32} {off : Int} {tgt : Nat} (d : decode E.2.1.2.1 pc = .ok (.tableswitch dflt lo hi offs, len)) (h1 : ¬ x.toInt < lo) (h2 : ¬ hi < x.toInt) (ho : offs[(x.toInt - lo).toNat]? = some off) (ht : (pc : Int) + off = (tgt : Int)) (k : zR E kc ks tgt lv st h) : zR E kc ks pc lv (.int x :: st) h := by
  intro G p e s m args below meth c A ad0 n0 mc ms Z F H locs cells slots ad ls D
  exact lv_tableIn F.1 F.2.1 d h1 h2 ho ht (k G p e s m args below meth c A ad0 n0 mc ms Z F H locs cells slots ad ls (D.stk D.d1))
theorem zr_ifnonnull {v : Value} {off : Int} {tgt : Nat} (d : decode E.2.1.2.1 pc = .ok (.ifnonnull off, 3)) (ht : (pc : Int) + off = (tgt : Int)) (hv : zrf v = true) (kt : ¬ v = .null → zR E kc ks tgt lv st h) (kf : v = .null → zR E kc ks (pc + 3) lv st h) : zR E kc ks pc lv (v :: st) h := by
  intro G p e s m args below meth c A ad0 n0 mc ms Z F H locs cells slots ad ls D
  cases v with
  | ref a => exact lv_ifnonnull F.1 F.2.1 d ht (kt (fun q => by cases q) G p e s m args below meth c A ad0 n0 mc ms Z F H locs cells slots ad ls (D.stk D.d1))
  | null => exact lv_ifnonnullN F.1 F.2.1 d (kf rfl G p e s m args below meth c A ad0 n0 mc ms Z F H locs cells slots ad ls (D.stk D.d1))
  | float u => exact lv_ifnonnull F.1 F.2.1 d ht (kt (fun q => by cases q) G p e s m args below meth c A ad0 n0 mc ms Z F H locs cells slots ad ls (D.stk D.d1))
  | int x => cases hv
  | long x => cases hv
  | double x => cases hv
  | retAddr z => cases hv
def zwd (v : Value) : Bool := match v with
  | .null => true
  | .float u => decide (u.toNat < 29)
  | _ => false
theorem zV_wd {kn ad : Nat → Nat} {v : Value} (hv : zwd v = true) : ∃ r : Option Nat, zV kn ad v = va_rf (r.map kn) ∧ (∀ i, r = some i → i < 29) ∧ ∀ w : Value, zwd w = true → (v = w ↔ r = (match w with | .float u => some u.toNat | _ => none)) := by
  cases v with
  | null =>
    refine ⟨none, rfl, (fun i hi => by cases hi), (fun w hw => ?_)⟩
    cases w with
    | null => exact ⟨fun _ => rfl, fun _ => rfl⟩
    | float u => exact ⟨fun q => by (cases q), fun q => by (cases q)⟩
    | ref a => cases hw
    | int x => cases hw
    | long x => cases hw
    | double x => cases hw
    | retAddr z => cases hw
  | float u =>
    refine ⟨some u.toNat, rfl, (fun i hi => by cases hi; exact of_decide_eq_true hv), (fun w hw => ?_)⟩
    cases w with
    | null => exact ⟨fun q => by (cases q), fun q => by (cases q)⟩
    | float u2 => exact ⟨fun q => by (cases q; rfl), fun q => by rw [UInt32.toNat_inj.mp (Option.some.inj q)]⟩
    | ref a => cases hw
    | int x => cases hw
    | long x => cases hw
    | double x => cases hw
    | retAddr z => cases hw
  | ref a => cases hv
  | int x => cases hv
  | long x => cases hv
  | double x => cases hv
  | retAddr z => cases hv
theorem zr_acmp_eq {u v : Value} {off : Int} {tgt : Nat} (d : decode E.2.1.2.1 pc = .ok (.if_acmp .eq off, 3)) (ht : (pc : Int) + off = (tgt : Int)) (hv : zwd v = true) (hu : zwd u = true) (kt : v = u → zR E kc ks tgt lv st h) (kf : ¬ (v = u) → zR E kc ks (pc + 3) lv st h) : zR E kc ks pc lv (u :: v :: st) h := by
  intro G p e s m args below meth c A ad0 n0 mc ms Z F H locs cells slots ad ls D
  obtain ⟨r, er, hr, er2⟩ := zV_wd (kn := G.2.2.1) (ad := ad) hv
  obtain ⟨q, eq, hq, eq2⟩ := zV_wd (kn := G.2.2.1) (ad := ad) hu
  have hinj : r.map G.2.2.1 = q.map G.2.2.1 ↔ v = u := by
    rw [er2 u hu, ← (eq2 u hu).mp rfl]
    constructor
    · intro z
      cases r with
      | none => cases q with
        | none => rfl
        | some j => cases z
      | some i => cases q with
        | none => cases z
        | some j => rw [F.2.2.2.2.2.2.2.2.1.2.1.1.2 i j (hr i rfl) (hq j rfl) (Option.some.inj z)]
    · intro z
      rw [z]
  show W p E.1 e (zRm E.2.2.1 mc ms) s m args below meth c H locs cells slots Z (F0 m pc ls (zV G.2.2.1 ad u :: zV G.2.2.1 ad v :: st.map (zV G.2.2.1 ad)))
  rw [er, eq]
  exact lv_acmp_eq F.1 F.2.1 d ht (fun z => kt (hinj.mp z) G p e s m args below meth c A ad0 n0 mc ms Z F H locs cells slots ad ls (D.stk D.d2)) (fun z => kf (fun y => z (hinj.mpr y)) G p e s m args below meth c A ad0 n0 mc ms Z F H locs cells slots ad ls (D.stk D.d2))
theorem zr_acmp_ne {u v : Value} {off : Int} {tgt : Nat} (d : decode E.2.1.2.1 pc = .ok (.if_acmp .ne off, 3)) (ht : (pc : Int) + off = (tgt : Int)) (hv : zwd v = true) (hu : zwd u = true) (kt : ¬ v = u → zR E kc ks tgt lv st h) (kf : v = u → zR E kc ks (pc + 3) lv st h) : zR E kc ks pc lv (u :: v :: st) h := by
  intro G p e s m args below meth c A ad0 n0 mc ms Z F H locs cells slots ad ls D
  obtain ⟨r, er, hr, er2⟩ := zV_wd (kn := G.2.2.1) (ad := ad) hv
  obtain ⟨q, eq, hq, eq2⟩ := zV_wd (kn := G.2.2.1) (ad := ad) hu
  have hinj : r.map G.2.2.1 = q.map G.2.2.1 ↔ v = u := by
    rw [er2 u hu, ← (eq2 u hu).mp rfl]
    constructor
    · intro z
      cases r with
      | none => cases q with
        | none => rfl
        | some j => cases z
      | some i => cases q with
        | none => cases z
        | some j => rw [F.2.2.2.2.2.2.2.2.1.2.1.1.2 i j (hr i rfl) (hq j rfl) (Option.some.inj z)]
    · intro z
      rw [z]
  show W p E.1 e (zRm E.2.2.1 mc ms) s m args below meth c H locs cells slots Z (F0 m pc ls (zV G.2.2.1 ad u :: zV G.2.2.1 ad v :: st.map (zV G.2.2.1 ad)))
  rw [er, eq]
  exact lv_acmp_ne F.1 F.2.1 d ht (fun z => kt (fun y => z (hinj.mpr y)) G p e s m args below meth c A ad0 n0 mc ms Z F H locs cells slots ad ls (D.stk D.d2)) (fun z => kf (hinj.mp z) G p e s m args below meth c A ad0 n0 mc ms Z F H locs cells slots ad ls (D.stk D.d2))
end ZRB
