/-! ===== small worlds: a run's cells as a list, a cell told by its place in it ===== -/
abbrev zG : Type := (Nat → ClassId) × va_G × (Nat → Nat) × Nat × (Nat → Int32)
def zV (kn ad : Nat → Nat) (v : Value) : Value := match v with
  | .ref a => .ref (ad a)
  | .float i => .ref (kn i.toNat)
  | w => w
def zF (ad : Nat → Nat) (a : vp_A) : vp_A := match a with
  | (n, .inr (.inr (.inr (.inr f)))) => (n, .inr (.inr (.inr (.inr (fun j => (f j).map ad)))))
  | (n, .inl f) => (n, .inl f)
  | (n, .inr (.inl f)) => (n, .inr (.inl f))
  | (n, .inr (.inr (.inl f))) => (n, .inr (.inr (.inl f)))
  | (n, .inr (.inr (.inr (.inl f)))) => (n, .inr (.inr (.inr (.inl f))))
def zE (G : zG) (ad : Nat → Nat) (e : va_E) : va_E := match e with
  | .inl a => .inl (G.1 a.1, zF ad a.2)
  | .inr o => .inr (o.1, o.2.map (zV G.2.2.1 ad))
def zW (G : zG) (ad : Nat → Nat) (h : List va_E) : va_W := h.mapIdx (fun k e => (ad k, zE G ad e))
/-- no address is told that is not there -/
def zOk (n : Nat) (v : Value) : Prop := match v with
  | .ref a => a < n
  | _ => True
def zFo (n : Nat) (a : vp_A) : Prop := match a with
  | (_, .inr (.inr (.inr (.inr f)))) => ∀ j b, f j = some b → b < n
  | _ => True
def zEo (n : Nat) (e : va_E) : Prop := match e with
  | .inl a => zFo n a.2
  | .inr o => ∀ v ∈ o.2, zOk n v
def zCl (h : List va_E) : Prop := ∀ (k : Nat) (e : va_E), h[k]? = some e → zEo h.length e
theorem zOk.up {n n' : Nat} {v : Value} (h : zOk n v) (hn : n ≤ n') : zOk n' v := by
  cases v <;> first | trivial | exact Nat.lt_of_lt_of_le h hn
theorem zFo.up {n n' : Nat} {a : vp_A} (h : zFo n a) (hn : n ≤ n') : zFo n' a := by
  obtain ⟨m, f⟩ := a
  rcases f with f | f | f | f | f <;> first | trivial | exact fun j b q => Nat.lt_of_lt_of_le (h j b q) hn
theorem zEo.up {n n' : Nat} {e : va_E} (h : zEo n e) (hn : n ≤ n') : zEo n' e := by
  rcases e with a | o
  · exact zFo.up (a := a.2) h hn
  · exact fun v hv => zOk.up (h v hv) hn
theorem zV_ext {kn ad ad' : Nat → Nat} {n : Nat} {v : Value} (h : zOk n v) (ha : ∀ k, k < n → ad' k = ad k) : zV kn ad' v = zV kn ad v := by
  cases v <;> first | rfl | exact congrArg Value.ref (ha _ h)
theorem zF_ext {ad ad' : Nat → Nat} {n : Nat} {a : vp_A} (h : zFo n a) (ha : ∀ k, k < n → ad' k = ad k) : zF ad' a = zF ad a := by
  obtain ⟨m, f⟩ := a
  rcases f with f | f | f | f | f <;> first | rfl | skip
  have : (fun j => (f j).map ad') = (fun j => (f j).map ad) := by
    funext j
    cases hj : f j with
    | none => rfl
    | some b => exact congrArg some (ha b (h j b hj))
  show ((m, .inr (.inr (.inr (.inr (fun j => (f j).map ad'))))) : vp_A) = (m, .inr (.inr (.inr (.inr (fun j => (f j).map ad)))))
  rw [this]
theorem zE_ext {G : zG} {ad ad' : Nat → Nat} {n : Nat} {e : va_E} (h : zEo n e) (ha : ∀ k, k < n → ad' k = ad k) : zE G ad' e = zE G ad e := by
  rcases e with a | o
  · show Sum.inl (G.1 a.1, zF ad' a.2) = Sum.inl (G.1 a.1, zF ad a.2)
    rw [zF_ext (a := a.2) h ha]
  · show Sum.inr (o.1, o.2.map (zV G.2.2.1 ad')) = Sum.inr (o.1, o.2.map (zV G.2.2.1 ad))
    rw [List.map_congr_left (fun v hv => zV_ext (h v hv) ha)]
theorem zW_len (G : zG) (ad : Nat → Nat) (h : List va_E) : (zW G ad h).length = h.length := by simp [zW]
theorem zW_get {G : zG} {ad : Nat → Nat} {h : List va_E} {k : Nat} {e : va_E} (hk : h[k]? = some e) : (zW G ad h)[k]? = some (ad k, zE G ad e) := by
  simp [zW, List.getElem?_mapIdx, hk]
theorem zW_inv {G : zG} {ad : Nat → Nat} {h : List va_E} {k : Nat} {q : Nat × va_E} (hk : (zW G ad h)[k]? = some q) : ∃ e, h[k]? = some e ∧ q = (ad k, zE G ad e) := by
  rw [zW, List.getElem?_mapIdx] at hk
  cases he : h[k]? with
  | none => rw [he] at hk; cases hk
  | some e => rw [he] at hk; exact ⟨e, rfl, (Option.some.inj hk).symm⟩
theorem zW_set (G : zG) (ad : Nat → Nat) (h : List va_E) (k : Nat) (e : va_E) : (zW G ad h).set k (ad k, zE G ad e) = zW G ad (h.set k e) := by
  apply List.ext_getElem?
  intro i
  rw [zW, zW, List.getElem?_set, List.getElem?_mapIdx, List.getElem?_mapIdx, List.getElem?_set]
  by_cases hi : k = i
  · subst hi
    by_cases hl : k < h.length
    · simp [hl]
    · simp [hl]
  · simp [hi]
theorem zW_ext {G : zG} {ad ad' : Nat → Nat} {h : List va_E} (hc : zCl h) (ha : ∀ k, k < h.length → ad' k = ad k) : zW G ad' h = zW G ad h := by
  apply List.ext_getElem?
  intro i
  rw [zW, zW, List.getElem?_mapIdx, List.getElem?_mapIdx]
  cases he : h[i]? with
  | none => rfl
  | some e =>
    have hl : i < h.length := (List.getElem?_eq_some_iff.mp he).1
    show some (ad' i, zE G ad' e) = some (ad i, zE G ad e)
    rw [ha i hl, zE_ext (hc i e he) ha]
theorem zW_push {G : zG} {ad ad' : Nat → Nat} {h : List va_E} {q : Nat} {e : va_E} (hc : zCl h) (ha : ∀ k, k < h.length → ad' k = ad k) (hq : ad' h.length = q) : zW G ad h ++ [(q, zE G ad' e)] = zW G ad' (h ++ [e]) := by
  rw [← zW_ext (G := G) hc ha]
  subst hq
  simp [zW, List.mapIdx_append]
def zUp (ad : Nat → Nat) (n q : Nat) : Nat → Nat := fun k => if k = n then q else ad k
theorem zUp_lt {ad : Nat → Nat} {n q k : Nat} (h : k < n) : zUp ad n q k = ad k := if_neg (Nat.ne_of_lt h)
theorem zUp_at {ad : Nat → Nat} {n q : Nat} : zUp ad n q n = q := if_pos rfl
theorem zCl.set {h : List va_E} {k : Nat} {e : va_E} (hc : zCl h) (he : zEo h.length e) : zCl (h.set k e) := by
  intro i x hx
  rw [List.length_set]
  rw [List.getElem?_set] at hx
  by_cases hi : k = i
  · rw [if_pos hi] at hx
    split at hx
    · cases hx; exact he
    · cases hx
  · rw [if_neg hi] at hx
    exact hc i x hx
theorem zCl.push {h : List va_E} {e : va_E} (hc : zCl h) (he : zEo (h.length + 1) e) : zCl (h ++ [e]) := by
  intro i x hx
  rw [List.length_append, List.length_singleton]
  by_cases hi : i < h.length
  · rw [List.getElem?_append_left hi] at hx
    exact zEo.up (hc i x hx) (Nat.le_succ _)
  · rw [List.getElem?_append_right (Nat.not_lt.mp hi)] at hx
    rcases Nat.eq_zero_or_pos (i - h.length) with h0 | h0
    · rw [h0] at hx
      cases hx; exact he
    · rw [List.getElem?_eq_none (by simp; omega)] at hx
      cases hx
/-! ===== what stands from the start and is never written: the words of the enum, their list, the map of the switch, the script ===== -/
abbrev zNm : List String := ["MAN", "WAY", "PAILS", "WELL", "SPILL", "BACK", "THROW", "CELLS", "BURN", "WIND", "NORTH", "EAST", "SOUTH", "WEST", "AT", "ROW", "RUN", "STOP", "AIM", "GIVE", "OR", "AND", "NOT", "OUT", "MINUTE", "THROWN", "LOST", "BURNS", "WATER"]
abbrev zD10 : String := "LPailRow$Word;"
abbrev zLet : List Int32 := [9518, 16819, 8529643, 456690, 10419204, 40187, 10799834, 1701829, 55175, 459652, 7749089, 99677, 10408481, 456887, 47, 13550, 13703, 388978, 985, 144941, 423, 1111, 10631, 11522, 191610176, 291595532, 247664, 1489744, 12257559]
abbrev zOrd : List Int32 := [0, 1, 2, 3, 4, 5, 6, 7, 8, 9, 10, 11, 12, 13, 14, 15, 16, 17, 18, 19, 20, 21, 22, 23, 24, 25, 26, 27, 28]
abbrev zSw : List Int32 := [1, 7, 5, 6, 8, 9, 10, 2, 3, 4, 0, 0, 0, 0, 0, 0, 0, 0, 0, 0, 0, 0, 0, 0, 0, 0, 0, 0, 0]
abbrev zFl10 : List (String × String × String × List Int32) := [("PailRow$Word", "letters", "I", zLet), ("java/lang/Enum", "ordinal", "I", zOrd)]
abbrev zNest : List (String × Nat) := [("PailRow$Yard", 175), ("PailRow$Runners", 49)]
def zSt (kn : Nat → Nat) (L : Nat) (xs : Nat → Int32) (A : Nat → Prop) (U : State) (H : Heap) : Prop :=
  va_En "PailRow$Word" zD10 zNm zFl10 kn A U H ∧
  va_Z "PailRow$Word" "ALL" "[LPailRow$Word;" (.ref (kn 100)) A U H ∧ va_T (.object "PailRow$Word") (kn 100) 29 (fun j => .ref (kn j)) A U H ∧
  va_Z "PailRow$1" "$SwitchMap$PailRow$Word" "[I" (.ref (kn 101)) A U H ∧ va_T .int (kn 101) 29 (fun j => .int (zSw.getD j 0)) A U H ∧
  va_T .int (kn 102) L (fun j => .int (xs j)) A U H ∧
  vx_Zq Bundle.tN "UNASSIGNED_STACK" Bundle.steD A U H ∧ vx_Zq Bundle.tN "SUPPRESSED_SENTINEL" Bundle.listD A U H
theorem zSt.moved {kn : Nat → Nat} {L : Nat} {xs : Nat → Int32} {A : Nat → Prop} {u U : State} {H : Heap} (hvm : u.vm.Alike U.vm) (h : zSt kn L xs A u H) : zSt kn L xs A U H :=
  ⟨h.1.moved hvm, h.2.1.moved hvm, h.2.2.1.moved hvm, h.2.2.2.1.moved hvm, h.2.2.2.2.1.moved hvm, h.2.2.2.2.2.1.moved hvm, h.2.2.2.2.2.2.1.moved hvm, h.2.2.2.2.2.2.2.moved hvm⟩
theorem zSt.kept {kn : Nat → Nat} {L : Nat} {xs : Nat → Int32} {A : Nat → Prop} {U : State} {H H1 : Heap} (h : zSt kn L xs A U H) (hq : ∀ a : Nat, a < H.size → ¬ A a → H1[a]? = H[a]?) : zSt kn L xs A U H1 :=
  ⟨h.1.kept hq, h.2.1.kept hq, h.2.2.1.kept hq, h.2.2.2.1.kept hq, h.2.2.2.2.1.kept hq, h.2.2.2.2.2.1.kept hq, h.2.2.2.2.2.2.1.kept hq, h.2.2.2.2.2.2.2.kept hq⟩
theorem zSt.narrow {kn : Nat → Nat} {L : Nat} {xs : Nat → Int32} {A B : Nat → Prop} {U : State} {H : Heap} (h : zSt kn L xs A U H) (hAB : ∀ q, B q → A q) : zSt kn L xs B U H :=
  ⟨h.1.narrow hAB, h.2.1.narrow hAB, h.2.2.1.narrow hAB, h.2.2.2.1.narrow hAB, h.2.2.2.2.1.narrow hAB, h.2.2.2.2.2.1.narrow hAB, h.2.2.2.2.2.2.1.narrow hAB, h.2.2.2.2.2.2.2.narrow hAB⟩
abbrev zNse : String := "java/util/NoSuchElementException"
/-- what a throw of ours wants beside the list -/
abbrev zTw (U : State) : Prop := va_Nw (.castable zNse zNse) U ∧ va_Nw (.declares (Bundle.init0 "java/lang/RuntimeException")) U ∧ va_Nw (.declares (Bundle.init0 "java/lang/Exception")) U ∧ va_Nw (.declares (Bundle.init0 Bundle.tN)) U
/-- words that go along beside the list: what nest mates link, what ordinal() is, arrays over two of ours -/
def zEx (U : State) : Prop := va_Nw (.methodLinkNest "PailRow$Yard" 175 yX12_cutUp "PailRow") U ∧ va_Nw (.methodLinkNest "PailRow$Runners" 49 yX12_cutUp "PailRow") U ∧ (va_Nw (.declares ⟨"java/lang/Enum", "ordinal", "()I"⟩) U ∧ zTw U) ∧ va_AO "PailRow$State" U ∧ va_AO "PailRow$Fire" U
def zTys (dA : Nat → ClassId) : List (ClassId × FieldType) := [(dA 0, .int), (dA 1, .boolean), (dA 2, .long), (dA 3, .object "PailRow$State"), (dA 4, .object "PailRow$Fire")]
def zKn (G : zG) (A : Nat → Prop) (U : State) (H : Heap) : Prop := va_K G.2.1 vwCl (zTys G.1) U ∧ zSt G.2.2.1 G.2.2.2.1 G.2.2.2.2 A U H ∧ zEx U
def zTs : List Cond := lw_tbl.filter goodWord
theorem zIn {w : Cond} (i : Nat) (h : lw_tbl[i]? = some w) (g : goodWord w = true) : w ∈ zTs := List.mem_filter.mpr ⟨List.mem_of_getElem? h, g⟩
theorem zTs_good {w : Cond} (h : w ∈ zTs) : (w.onTables && w.keeps) = true ∨ ∃ ty, w = .arrayClass ty := good_of_word (List.mem_filter.mp h).2
theorem zGoodIn {ws : List Cond} (h : ∀ w ∈ ws, w ∈ zTs) : GoodIn zTs ws := fun w hw => ⟨h w hw, zTs_good (h w hw)⟩
def zRm (dd kc ks : Nat) : Room := { frames := dd, cells := kc, slots := ks, locals := 60 * dd + 60 }
abbrev zM : Type := MethodName × ByteArray × Nat × Option FieldType
abbrev zQt : Type := Option Value → List va_E → Prop
abbrev zXt : Type := List va_E → Prop
abbrev zEv : Type := Launch × zM × Nat × zQt × zXt × (zG → Prop)
/-- how a method ends: its answer, its cells then; what was there keeps its address -/
def zEnd (G : zG) (ad0 : Nat → Nat) (n0 : Nat) (A : Nat → Prop) (t : State) (h' : List va_E) (ad' : Nat → Nat) : Prop :=
  n0 ≤ h'.length ∧ (∀ k, k < n0 → ad' k = ad0 k) ∧ va_P G.2.1 vwCl (zW G ad' h') t.heap ∧ va_K G.2.1 vwCl (zTys G.1) t ∧ va_D A (zW G ad' h') ∧ zCl h'
def zQ (G : zG) (ad0 : Nat → Nat) (n0 : Nat) (A : Nat → Prop) (Qm : zQt) : Array Value → State → Outcome → State → Prop := fun _ st oc t =>
  (∃ (r : Option Value) (h' : List va_E) (ad' : Nat → Nat), oc = .returned (r.map (zV G.2.2.1 ad')) ∧ Qm r h' ∧ (∀ v, r = some v → zOk h'.length v) ∧ zEnd G ad0 n0 A t h' ad') ∧ va_F A st t
def zX (G : zG) (ad0 : Nat → Nat) (n0 : Nat) (A : Nat → Prop) (Xm : zXt) : String → State → State → Prop := fun E st t =>
  E = "java/util/NoSuchElementException" ∧ (∃ (h' : List va_E) (ad' : Nat → Nat), Xm h' ∧ zEnd G ad0 n0 A t h' ad') ∧ va_F A st t
/-- what stays the same in a method's run -/
def zFx (E : zEv) (G : zG) (p : Program) (e : Env) (s : State) (m : MethodId) (args : Array Value) (below : List Frame) (meth : Method) (c : Code) (A : Nat → Prop) (ad0 : Nat → Nat) (n0 mc ms : Nat) (Z : State → Prop) : Prop :=
  p.tables.exec = Jvm.exec ∧ c.code = E.2.1.2.1 ∧ c.maxLocals = E.2.1.2.2.1 ∧ meth.sig.returnType = E.2.1.2.2.2 ∧ meth.locks = false ∧ meth.name = E.2.1.1.name ∧ s.vm.findClass E.2.1.1.cls = some m.cls ∧ (∀ w ∈ zTs, w.before args s = true) ∧ zKn G A s s.heap ∧ (∀ q, s.heap.size ≤ q → A q) ∧ (∀ x ∈ c.exceptionTable.toList, E.2.1.1.cls = RL) ∧
  (∀ t, MQ below (zQ G ad0 n0 A E.2.2.2.1) args s mc ms A t → Z t) ∧ (∀ t, vx_MQ below (fun _ _ _ _ => False) (zX G ad0 n0 A E.2.2.2.2.1) args s mc ms A t → Z t) ∧ E.2.2.2.2.2 G
/-- what holds at a place of it -/
def zDx (E : zEv) (kc ks : Nat) (lv : List (Nat × Value)) (st : List Value) (h : List va_E) (G : zG) (s : State) (A : Nat → Prop) (ad0 : Nat → Nat) (n0 mc ms : Nat) (H : Heap) (locs : List Loc) (cells slots : Nat) (ad : Nat → Nat) (ls : Array Slot) : Prop :=
  va_P G.2.1 vwCl (zW G ad h) H ∧ va_D A (zW G ad h) ∧ zCl h ∧ va_S A s.heap H locs ∧ n0 ≤ h.length ∧ (∀ k, k < n0 → ad k = ad0 k) ∧ lv_has ls E.2.1.2.2.1 (lv.map (fun q => (q.1, zV G.2.2.1 ad q.2))) ∧ (∀ q ∈ lv, zOk h.length q.2) ∧ (∀ v ∈ st, zOk h.length v) ∧ cells + kc ≤ mc ∧ slots + ks ≤ ms
/-- from this place of the method, with these locals, this stack, these cells, it comes to its end -/
def zR (E : zEv) (kc ks pc : Nat) (lv : List (Nat × Value)) (st : List Value) (h : List va_E) : Prop :=
  ∀ (G : zG) (p : Program) (e : Env) (s : State) (m : MethodId) (args : Array Value) (below : List Frame) (meth : Method) (c : Code) (A : Nat → Prop) (ad0 : Nat → Nat) (n0 mc ms : Nat) (Z : State → Prop), zFx E G p e s m args below meth c A ad0 n0 mc ms Z →
  ∀ (H : Heap) (locs : List Loc) (cells slots : Nat) (ad : Nat → Nat) (ls : Array Slot), zDx E kc ks lv st h G s A ad0 n0 mc ms H locs cells slots ad ls →
  W p E.1 e (zRm E.2.2.1 mc ms) s m args below meth c H locs cells slots Z (F0 m pc ls (st.map (zV G.2.2.1 ad)))
theorem W.mono {p : Program} {l : Launch} {e : Env} {R : Room} {s : State} {m : MethodId} {args : Array Value} {below : List Frame} {meth : Method} {c : Code} {H : Heap} {locs : List Loc} {cells slots : Nat} {Q Z : State → Prop} {g : JFrame} (k : W p l e R s m args below meth c H locs cells slots Q g) (hZ : ∀ t, Q t → Z t) : W p l e R s m args below meth c H locs cells slots Z g := by
  intro T hT X
  obtain ⟨t, a1, b1⟩ := k T hT X
  exact ⟨t, a1, hZ t b1⟩
