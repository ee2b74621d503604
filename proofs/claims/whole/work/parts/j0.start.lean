/-! ===== the start: what the Statement gives of the machine, as this proof wants it ===== -/
abbrev zFl0 : List Cond := flatC (Jvm.Cond.and given_1 narrow_1)
def zpE : List Nat := [129, 132, 135, 138, 141, 144, 147, 150, 153, 156, 70, 73, 76, 79, 82, 85, 88, 97, 91, 94, 124, 121, 100, 103, 106, 109, 112, 115, 118]
def zpO : List Nat := [130, 133, 136, 139, 142, 145, 148, 151, 154, 157, 71, 74, 77, 80, 83, 86, 89, 98, 92, 95, 125, 122, 101, 104, 107, 110, 113, 116, 119]
def zpL : List Nat := [131, 134, 137, 140, 143, 146, 149, 152, 155, 158, 72, 75, 78, 81, 84, 87, 90, 99, 93, 96, 126, 123, 102, 105, 108, 111, 114, 117, 120]
def zpS : List Nat := [2102, 2103, 2104, 2105, 2106, 2107, 2108, 2109, 2110, 2111, 783, 785, 787, 789, 825, 834, 847, 866, 849, 864, 923, 921, 891, 893, 898, 900, 902, 904, 906]
def zpA : List Nat := [9, 10, 11, 12, 13, 14, 15, 16, 17, 18, 19, 20, 21, 22, 23, 24, 25, 26, 27, 28, 29, 30, 31, 32, 33, 34, 35, 36, 37]
def zpW : List Nat := [41, 42, 43, 44, 45, 46, 47, 48, 49, 50, 51, 52, 53, 54, 55, 56, 57, 58, 59, 60, 61, 62, 63, 64, 65, 66, 67, 68, 69]
theorem zqE : ∀ i, i < 29 → zFl0[zpE.getD i 0]? = some (Cond.exactly (.static "PailRow$Word" (zNm.getD i "") zD10) "PailRow$Word") := by decide +kernel
theorem zqO : ∀ i, i < 29 → zFl0[zpO.getD i 0]? = some (Cond.eq (.field (.static "PailRow$Word" (zNm.getD i "") zD10) "java/lang/Enum" "ordinal" "I") (.int (zOrd.getD i 0))) := by decide +kernel
theorem zqL : ∀ i, i < 29 → zFl0[zpL.getD i 0]? = some (Cond.eq (.field (.static "PailRow$Word" (zNm.getD i "") zD10) "PailRow$Word" "letters" "I") (.int (zLet.getD i 0))) := by decide +kernel
theorem zqS : ∀ i, i < 29 → lw_tbl[zpS.getD i 0]? = some (Cond.laysStatic "PailRow$Word" (zNm.getD i "") zD10) := by decide +kernel
theorem zqA : ∀ i, i < 29 → zFl0[zpA.getD i 0]? = some (Cond.eq (.elem (.static "PailRow$Word" "ALL" "[LPailRow$Word;") (.int (Int32.ofNat i))) (.static "PailRow$Word" (zNm.getD i "") zD10)) := by decide +kernel
theorem zqW : ∀ i, i < 29 → zFl0[zpW.getD i 0]? = some (Cond.eq (.elem (.static "PailRow$1" "$SwitchMap$PailRow$Word" "[I") (.int (Int32.ofNat i))) (.int (zSw.getD i 0))) := by decide +kernel
theorem zOd_inj : ∀ i, i < 29 → ∀ j, j < 29 → zOrd.getD i 0 = zOrd.getD j 0 → i = j := by decide +kernel
theorem va_En.congr {E d : String} {nm : List String} {F : List (String × String × String × List Int32)} {ad ad' : Nat → Nat} {A : Nat → Prop} {U : State} {H : Heap} (h : va_En E d nm F ad A U H) (hq : ∀ i, i < nm.length → ad' i = ad i) : va_En E d nm F ad' A U H :=
  ⟨fun i hi => by rw [hq i hi]; exact h.1 i hi, fun i j hi hj e => by rw [hq i hi, hq j hj] at e; exact h.2 i j hi hj e⟩
theorem va_T.congr {ty : FieldType} {t N : Nat} {f g : Nat → Value} {A : Nat → Prop} {U : State} {H : Heap} (h : va_T ty t N f A U H) (hq : ∀ i, i < N → f i = g i) : va_T ty t N g A U H := by
  obtain ⟨cell, h1, h2, h3, h4, h5, h6, h7⟩ := h
  exact ⟨cell, h1, h2, h3, h4, h5, fun j hj => by rw [← hq j hj]; exact h6 j hj, h7⟩
/-- the words of an enum that differ by a field of theirs -/
theorem zEnof {args : Array Value} {s : State} {E d : String} {nm : List String} {F : List (String × String × String × List Int32)} {A : Nat → Prop} {O : String × String × String × List Int32} (hl : ∀ i, i < nm.length → (Cond.laysStatic E (nm.getD i "") d).before args s = true) (hini : (Cond.initialized E).before args s = true)
    (hex : ∀ i, i < nm.length → (Cond.exactly (.static E (nm.getD i "") d) E).before args s = true) (hf : ∀ q ∈ F, ∀ i, i < nm.length → (Cond.eq (.field (.static E (nm.getD i "") d) q.1 q.2.1 q.2.2.1) (.int (q.2.2.2.getD i 0))).before args s = true)
    (hO : O ∈ F) (hd : ∀ i, i < nm.length → ∀ j, j < nm.length → O.2.2.2.getD i 0 = O.2.2.2.getD j 0 → i = j)
    (hA : ∀ a : Nat, a < s.heap.size → ¬ A a) : ∃ ad : Nat → Nat, va_En E d nm F ad A s s.heap ∧ ∀ i, i < nm.length → (Term.static E (nm.getD i "") d).eval args s none [] s = some (.ref (ad i)) := by
  have h0 : ∀ i : Nat, ∃ t : Nat, i < nm.length → (Term.static E (nm.getD i "") d).eval args s none [] s = some (.ref t) ∧ va_O E t A s s.heap := by
    intro i
    by_cases hi : i < nm.length
    · obtain ⟨a, c, cell, k, q1, q2, q3, q4, q5, q6, -⟩ := Cond.exactly_spec (hex i hi)
      exact ⟨a, fun _ => ⟨q1, cell, q3, q5, by rw [q6]; exact q2, hA a (Array.getElem?_eq_some_iff.mp q3).1⟩⟩
    · exact ⟨0, fun h => absurd h hi⟩
  obtain ⟨ad, had⟩ := Classical.axiomOfChoice h0
  refine ⟨ad, ⟨fun i hi => ⟨va_Zref (hl i hi) hini (had i hi).1 hA, (had i hi).2, fun q hq => ?_⟩, fun i j hi hj e => ?_⟩, fun i hi => (had i hi).1⟩
  · have hv := va_eqt (hf q hq i hi)
    cases hfo : s.fieldFound? q.1 q.2.1 q.2.2.1 with
    | none =>
      rw [va_fe (had i hi).1] at hv
      simp [State.fieldOf?, State.fieldNamed?, hfo] at hv
    | some x =>
      obtain ⟨cf, k, fi, f⟩ := x
      obtain ⟨g1, cell, g2, g3, -, -, g6⟩ := Term.field_spec hfo (had i hi).1 hv
      exact ⟨cf, k, fi, f, cell, hfo, g1, g2, g3, g6, hA _ (Array.getElem?_eq_some_iff.mp g2).1⟩
  · have h1 := va_eqt (hf O hO i hi)
    have h2 := va_eqt (hf O hO j hj)
    rw [va_fe (had i hi).1] at h1
    rw [va_fe (had j hj).1, ← e, h1] at h2
    exact hd i hi j hj (Value.int.inj (Option.some.inj h2))
theorem zArI {args : Array Value} {s : State} (h : (Cond.arrayClass .int).before args s = true) : ∃ cA : ClassId, ArrOfT s cA .int ∧ va_RA s cA .int := by
  obtain ⟨cA, kA, comp, h1, h2, h3⟩ := Cond.arrayClass_spec h
  exact ⟨cA, fun n z => ⟨fun k h => (by cases h), kA, h2, comp, h3⟩, h1⟩
theorem zArB {args : Array Value} {s : State} (h : (Cond.arrayClass .boolean).before args s = true) : ∃ cA : ClassId, ArrOfT s cA .boolean ∧ va_RA s cA .boolean := by
  obtain ⟨cA, kA, comp, h1, h2, h3⟩ := Cond.arrayClass_spec h
  exact ⟨cA, fun n z => ⟨fun k h => (by cases h), kA, h2, comp, h3⟩, h1⟩
theorem zArL {args : Array Value} {s : State} (h : (Cond.arrayClass .long).before args s = true) : ∃ cA : ClassId, ArrOfT s cA .long ∧ va_RA s cA .long := by
  obtain ⟨cA, kA, comp, h1, h2, h3⟩ := Cond.arrayClass_spec h
  exact ⟨cA, fun n z => ⟨fun k h => (by cases h), kA, h2, comp, h3⟩, h1⟩
theorem zArO {args : Array Value} {s : State} {C : String} (h : (Cond.arrayOver (.object C)).before args s = true) : ∃ cA : ClassId, ArrOfT s cA (.object C) ∧ va_RA s cA (.object C) := by
  obtain ⟨comp, cA, kA, h1, -, h2, h3, h4⟩ := Cond.arrayOver_spec h
  exact ⟨cA, fun n z => ⟨fun k h => (by cases h), kA, h2, comp, h3⟩, kA, comp, h2, h3, h1, h4⟩
theorem zAt_lt {i n : Nat} {α : Type} {xs : List α} {q : α} (h : xs[i]? = some q) (hn : xs.length = n) : i < n := hn ▸ (List.getElem?_eq_some_iff.mp h).1
/-- every class has its number and its places -/
theorem zKcl {s : State} {args : Array Value} (hts : ∀ w ∈ zTs, w.before args s = true) : ∃ D : va_G, ∀ (c : Nat) (q : vw_C), vwCl[c]? = some q → u_Kn s q.1 q.2.1 q.2.2 (D.1 c) (D.2 c) := by
  have h1 : ∀ (c : Nat) (q : vw_C), vwCl[c]? = some q → ∃ (cC : ClassId) (iS : Nat → Nat), u_Kn s q.1 q.2.1 q.2.2 cC iS := by
    intro c q hq
    obtain ⟨g1, -⟩ := zci (ci := c) (C := q.1) (T := q.2.1) (N := q.2.2) hq
    have hi : Cond.instantiable q.1 q.2.2 ∈ zTs := by
      have hc : c < 12 := zAt_lt hq rfl
      match c, hc, hq with
      | 0, _, hq => cases hq; exact (zIt2 190 rfl rfl)
      | 1, _, hq => cases hq; exact (zIt2 132 rfl rfl)
      | 2, _, hq => cases hq; exact (zIt2 220 rfl rfl)
      | 3, _, hq => cases hq; exact (zIt1 191 rfl rfl)
      | 4, _, hq => cases hq; exact (zIt2 19 rfl rfl)
      | 5, _, hq => cases hq; exact (zIt2 91 rfl rfl)
      | 6, _, hq => cases hq; exact (zIt1 219 rfl rfl)
      | 7, _, hq => cases hq; exact (zIt1 88 rfl rfl)
      | 8, _, hq => cases hq; exact (zIt1 31 rfl rfl)
      | 9, _, hq => cases hq; exact (zIt1 94 rfl rfl)
      | 10, _, hq => cases hq; exact (zIt1 23 rfl rfl)
      | 11, _, hq => cases hq; exact (zIt6 51 rfl rfl)
      | n + 12, hc, _ => omega
    exact u_known hts g1 (hts _ hi)
  have h2 : ∀ c : Nat, ∃ x : ClassId × (Nat → Nat), ∀ q : vw_C, vwCl[c]? = some q → u_Kn s q.1 q.2.1 q.2.2 x.1 x.2 := by
    intro c
    cases hq : vwCl[c]? with
    | none => exact ⟨(0, fun _ => 0), fun q h => by cases h⟩
    | some q =>
      obtain ⟨cC, iS, h⟩ := h1 c q hq
      exact ⟨(cC, iS), fun q' h' => by cases h'; exact h⟩
  obtain ⟨f, hf⟩ := Classical.axiomOfChoice h2
  exact ⟨(fun c => (f c).1, fun c => (f c).2), fun c q hq => hf c q hq⟩
theorem zKn_0 {s : State} {b L : Nat} {xs : Nat → Int32} (hts : ∀ w ∈ lw_tbl, w.before #[Value.ref b] s = true) (hX : va_X b L xs s s.heap) (hbl : b < s.heap.size) (hgv : (Jvm.Cond.and given_1 narrow_1).before #[Value.ref b] s = true) : ∃ (dA : Nat → ClassId) (D : va_G) (kn : Nat → Nat), kn 102 = b ∧ zKn (dA, D, kn, L, xs) (fun q => s.heap.size ≤ q) s s.heap := by
  have hA : ∀ a : Nat, a < s.heap.size → ¬ (fun q : Nat => s.heap.size ≤ q) a := fun a h => Nat.not_le.mpr h
  have hfl := flat_of_before _ hgv
  have tb : ∀ (i : Nat) (w : Cond), lw_tbl[i]? = some w → w.before #[Value.ref b] s = true := fun i w h => hts w (List.mem_of_getElem? h)
  have fl : ∀ (i : Nat) (w : Cond), zFl0[i]? = some w → w.before #[Value.ref b] s = true := fun i w h => hfl w (List.mem_of_getElem? h)
  obtain ⟨D, hD⟩ := zKcl (s := s) (args := #[Value.ref b]) (fun w hw => hts w (List.mem_filter.mp hw).1)
  obtain ⟨c0, a0, r0⟩ := zArI (tb 201 _ (by decide +kernel))
  obtain ⟨c1, a1, r1⟩ := zArB (tb 304 _ (by decide +kernel))
  obtain ⟨c2, a2, r2⟩ := zArL (tb 1645 _ (by decide +kernel))
  have o3 := tb 372 (.arrayOver (.object "PailRow$State")) (by decide +kernel)
  have o4 := tb 551 (.arrayOver (.object "PailRow$Fire")) (by decide +kernel)
  obtain ⟨c3, a3, r3⟩ := zArO o3
  obtain ⟨c4, a4, r4⟩ := zArO o4
  obtain ⟨ad, hE, hev⟩ := zEnof (args := #[Value.ref b]) (s := s) (E := "PailRow$Word") (d := zD10) (nm := zNm) (F := zFl10) (A := fun q : Nat => s.heap.size ≤ q) (O := ("java/lang/Enum", "ordinal", "I", zOrd)) (fun i hi => tb _ _ (zqS i hi)) (tb 130 _ (by decide +kernel)) (fun i hi => fl _ _ (zqE i hi)) (fun q hq i hi => by
    rcases List.mem_cons.mp hq with rfl | hq
    · exact fl _ _ (zqL i hi)
    · rcases List.mem_cons.mp hq with rfl | hq
      · exact fl _ _ (zqO i hi)
      · cases hq) (List.mem_cons_of_mem _ List.mem_cons_self) (fun i hi j hj e => zOd_inj i hi j hj e) hA
  obtain ⟨tA, vA, hTA⟩ := va_Tof (args := #[Value.ref b]) (s := s) (tm := .static "PailRow$Word" "ALL" "[LPailRow$Word;") (ty := .object "PailRow$Word") (N := 29) (f := fun j => .ref (ad j)) (A := fun q : Nat => s.heap.size ≤ q) (by decide) (fl 6 _ (by decide +kernel)) (va_eqt (fl 7 (.eq (.length (.static "PailRow$Word" "ALL" "[LPailRow$Word;")) (.int 29)) (by decide +kernel))) (fun j hj => va_eqv (fl _ _ (zqA j hj)) (hev j hj)) hA
  obtain ⟨tW, vW, hTW⟩ := va_Tof (args := #[Value.ref b]) (s := s) (tm := .static "PailRow$1" "$SwitchMap$PailRow$Word" "[I") (ty := .int) (N := 29) (f := fun j => .int (zSw.getD j 0)) (A := fun q : Nat => s.heap.size ≤ q) (by decide) (fl 39 _ (by decide +kernel)) (va_eqt (fl 40 (.eq (.length (.static "PailRow$1" "$SwitchMap$PailRow$Word" "[I")) (.int 29)) (by decide +kernel))) (fun j hj => va_eqt (fl _ _ (zqW j hj))) hA
  refine ⟨fun k => if k = 0 then c0 else if k = 1 then c1 else if k = 2 then c2 else if k = 3 then c3 else c4, D, fun k => if k = 100 then tA else if k = 101 then tW else if k = 102 then b else ad k, rfl, ⟨hD, fun k q hq => ?_⟩, ⟨hE.congr (fun i hi => ?_), va_Zref (tb 715 _ (by decide +kernel)) (tb 130 _ (by decide +kernel)) vA hA, hTA.congr (fun i hi => ?_), va_Zref (tb 734 _ (by decide +kernel)) (tb 131 _ (by decide +kernel)) vW hA, hTW, ?_, vx_Zqof (tb 1317 _ (by decide +kernel)) (tb 132 _ (by decide +kernel)) (fl 127 _ (by decide +kernel)) hA, vx_Zqof (tb 1319 _ (by decide +kernel)) (tb 132 _ (by decide +kernel)) (fl 128 _ (by decide +kernel)) hA⟩, ?_⟩
  · have hk : k < 5 := zAt_lt hq rfl
    match k, hk, hq with
    | 0, _, hq => cases hq; exact ⟨a0, r0⟩
    | 1, _, hq => cases hq; exact ⟨a1, r1⟩
    | 2, _, hq => cases hq; exact ⟨a2, r2⟩
    | 3, _, hq => cases hq; exact ⟨a3, r3⟩
    | 4, _, hq => cases hq; exact ⟨a4, r4⟩
    | n + 5, hk, _ => omega
  · have hi : i < 29 := hi
    show (if i = 100 then tA else if i = 101 then tW else if i = 102 then b else ad i) = ad i
    rw [if_neg (by omega), if_neg (by omega), if_neg (by omega)]
  · have hi : i < 29 := hi
    show Value.ref (ad i) = Value.ref (if i = 100 then tA else if i = 101 then tW else if i = 102 then b else ad i)
    rw [if_neg (by omega), if_neg (by omega), if_neg (by omega)]
  · obtain ⟨scr, h1, h2, h3, h4, h5⟩ := hX
    exact ⟨scr, h1, h2, h3, (show L ≤ scr.slots.size by omega), by rw [h4], h5, Nat.not_le.mpr hbl⟩
  · exact ⟨va_tabs rfl rfl (tb 961 _ (by decide +kernel)), va_tabs rfl rfl (tb 1044 _ (by decide +kernel)), ⟨va_tabs rfl rfl (tb 737 _ (by decide +kernel)), va_tabs rfl rfl (tb 1292 _ (by decide +kernel)), va_tabs rfl rfl (tb 1293 _ (by decide +kernel)), va_tabs rfl rfl (tb 1295 _ (by decide +kernel)), va_tabs rfl rfl (tb 1297 _ (by decide +kernel))⟩, va_AO.of o3, va_AO.of o4⟩
/-- less room asked -/
theorem zRoom {p : Program} {l : Launch} {e : Env} {R R' : Room} {s : State} {m : MethodId} {args : Array Value} {below : List Frame} {meth : Method} {c : Code} {T : State} {locs : List Loc} {cells slots : Nat} (X : Stand p l e R s m args below meth c T locs cells slots) (hf : R'.frames ≤ R.frames) (hl : R'.locals ≤ R.locals) (hc : R'.cells ≤ R.cells) (hs : R'.slots ≤ R.slots) : Stand p l e R' s m args below meth c T locs cells slots := by
  have hroom : s.hasRoom e.platform R' = true := by
    have h := X.room
    simp only [State.hasRoom, Bool.and_eq_true, decide_eq_true_eq] at h ⊢
    obtain ⟨⟨⟨⟨h1, h2, h3, h4, h5, h6⟩, h7⟩, h8⟩, h9⟩ := h
    exact ⟨⟨⟨⟨by omega, by omega, by omega, by omega, by omega, h6⟩, by omega⟩, by omega⟩, h9⟩
  exact { X with room := hroom }
