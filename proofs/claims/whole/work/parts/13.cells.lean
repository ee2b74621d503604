/-! ===== what is known of our classes; rows of zR for fields, arrays, making, returning ===== -/
theorem zIns {ws : List Cond} (ps : List Nat) (hp : ws = ps.filterMap (fun i => lw_tbl[i]?)) (g : ws.all goodWord = true) : ∀ w ∈ ws, w ∈ zTs := by
  intro w hw
  have h1 := List.all_eq_true.mp g w hw
  rw [hp] at hw
  obtain ⟨i, -, hi⟩ := List.mem_filterMap.mp hw
  exact List.mem_filter.mpr ⟨List.mem_of_getElem? hi, h1⟩
abbrev zCiP (C : String) (T : u_T) (N : Nat) : Prop := (∀ w ∈ u_ws C T N, w ∈ zTs) ∧ (∀ a, a < N → ∀ b, b < N → a ≠ b → (T a).2.1 ≠ (T b).2.1) ∧ ∃ ty0 : Nat → FieldType, ∀ k, k < N → parseFieldDescriptor (T k).2.2.1 = some (ty0 k)
set_option maxRecDepth 100000 in
theorem zci_1 : zCiP RX1 TX1 6 := ⟨zIns [561, 563, 565, 567, 569, 571] (by decide +kernel) (by decide +kernel), nmX1, tyX1, tyX1_ok⟩
set_option maxRecDepth 100000 in
theorem zci_2 : zCiP RX2 TX2 12 := ⟨zIns [519, 521, 523, 525, 527, 529, 531, 533, 535, 537, 539, 541] (by decide +kernel) (by decide +kernel), nmX2, tyX2, tyX2_ok⟩
set_option maxRecDepth 100000 in
theorem zci_3 : zCiP RX3 TX3 7 := ⟨zIns [595, 597, 599, 601, 603, 605, 607] (by decide +kernel) (by decide +kernel), nmX3, tyX3, tyX3_ok⟩
set_option maxRecDepth 100000 in
theorem zci_4 : zCiP RX4 TX4 5 := ⟨zIns [322, 324, 326, 328, 330] (by decide +kernel) (by decide +kernel), nmX4, tyX4, tyX4_ok⟩
set_option maxRecDepth 100000 in
theorem zci_5 : zCiP RX5 TX5 19 := ⟨zIns [406, 408, 410, 412, 414, 416, 418, 420, 422, 424, 426, 428, 430, 432, 434, 436, 438, 440, 442] (by decide +kernel) (by decide +kernel), nmX5, tyX5, tyX5_ok⟩
set_option maxRecDepth 100000 in
theorem zci_6 : zCiP RX6 TX6 10 := ⟨zIns [465, 467, 469, 471, 473, 475, 477, 479, 481, 483] (by decide +kernel) (by decide +kernel), nmX6, tyX6, tyX6_ok⟩
set_option maxRecDepth 100000 in
theorem zci_7 : zCiP RX7 TX7 6 := ⟨zIns [346, 348, 350, 352, 354, 356] (by decide +kernel) (by decide +kernel), nmX7, tyX7, tyX7_ok⟩
set_option maxRecDepth 100000 in
theorem zci_8 : zCiP RX8 TX8 3 := ⟨zIns [365, 367, 369] (by decide +kernel) (by decide +kernel), nmX8, tyX8, tyX8_ok⟩
set_option maxRecDepth 100000 in
theorem zci_9 : zCiP RX9 TX9 12 := ⟨zIns [176, 178, 180, 182, 184, 186, 188, 190, 192, 194, 196, 198] (by decide +kernel) (by decide +kernel), nmX9, tyX9, tyX9_ok⟩
set_option maxRecDepth 100000 in
theorem zci_11 : zCiP RX11 TX11 19 := ⟨zIns [265, 267, 269, 271, 273, 275, 277, 279, 281, 283, 285, 287, 289, 291, 293, 295, 297, 299, 301] (by decide +kernel) (by decide +kernel), nmX11, tyX11, tyX11_ok⟩
set_option maxRecDepth 100000 in
theorem zci_12 : zCiP RX12 TX12 19 := ⟨zIns [629, 631, 633, 635, 637, 639, 641, 643, 645, 647, 649, 651, 653, 655, 657, 659, 661, 663, 665] (by decide +kernel) (by decide +kernel), nmX12, tyX12, tyX12_ok⟩
set_option maxRecDepth 100000 in
theorem zci_13 : zCiP RX13 TX13 91 := ⟨zIns [1462, 1464, 1466, 1468, 1470, 1472, 1474, 1476, 1478, 1480, 1482, 1484, 1486, 1488, 1490, 1492, 1494, 1496, 1498, 1500, 1502, 1504, 1506, 1508, 1510, 1512, 1514, 1516, 1518, 1520, 1522, 1524, 1526, 1528, 1530, 1532, 1534, 1536, 1538, 1540, 1542, 1544, 1546, 1548, 1550, 1552, 1554, 1556, 1558, 1560, 1562, 1564, 1566, 1568, 1570, 1572, 1574, 1576, 1578, 1580, 1582, 1584, 1586, 1588, 1590, 1592, 1594, 1596, 1598, 1600, 1602, 1604, 1606, 1608, 1610, 1612, 1614, 1616, 1618, 1620, 1622, 1624, 1626, 1628, 1630, 1632, 1634, 1636, 1638, 1640, 1642] (by decide +kernel) (by decide +kernel), nmX13, tyX13, tyX13_ok⟩
theorem zci {ci : Nat} {C : String} {T : u_T} {N : Nat} (h : vwCl[ci]? = some (C, T, N)) : zCiP C T N := by
  match ci, h with
  | 0, h => cases h; exact zci_1
  | 1, h => cases h; exact zci_2
  | 2, h => cases h; exact zci_3
  | 3, h => cases h; exact zci_4
  | 4, h => cases h; exact zci_5
  | 5, h => cases h; exact zci_6
  | 6, h => cases h; exact zci_7
  | 7, h => cases h; exact zci_8
  | 8, h => cases h; exact zci_9
  | 9, h => cases h; exact zci_11
  | 10, h => cases h; exact zci_12
  | 11, h => cases h; exact zci_13
  | k + 12, h => exact absurd h (by simp [vwCl])
/-- a field as an instruction of a method of 'own' links it: place k of our kind ci -/
def zFd (own : String) (idx ci k : Nat) (ty : FieldType) (fin : Bool) : Prop := ∃ (C : String) (T : u_T) (N : Nat), vwCl[ci]? = some (C, T, N) ∧ k < N ∧ Cond.fieldLink own idx (T k).1 (T k).2.1 (T k).2.2.1 ∈ zTs ∧ parseFieldDescriptor (T k).2.2.1 = some ty ∧ (T k).2.2.2 = fin ∧ (T k).1 = C
/-- what may be put into a field of a type -/
def zPv (ty : FieldType) (v : Value) : Prop := ∀ kn ad : Nat → Nat, narrow ty (zV kn ad v) = zV kn ad v ∧ fits ty (zV kn ad v) = true
theorem zPv_i (x : Int32) : zPv .int (.int x) := fun _ _ => ⟨rfl, rfl⟩
theorem zPv_j (x : Int64) : zPv .long (.long x) := fun _ _ => ⟨rfl, rfl⟩
theorem zPv_z {x : Int32} (h : x = 0 ∨ x = 1) : zPv .boolean (.int x) := by
  rcases h with rfl | rfl <;> exact fun _ _ => ⟨rfl, rfl⟩
theorem zPv_o {n : String} {v : Value} (h : zrf v = true) : zPv (.object n) v := by
  cases v <;> first | exact fun _ _ => ⟨rfl, rfl⟩ | cases h
theorem zPv_a {t : FieldType} {v : Value} (h : zrf v = true) : zPv (.array t) v := by
  cases v <;> first | exact fun _ _ => ⟨rfl, rfl⟩ | cases h
def zNew (own : String) (idx ci : Nat) (fs : List Value) : Prop := ∃ (C : String) (T : u_T) (N : Nat) (ty0 : Nat → FieldType), vwCl[ci]? = some (C, T, N) ∧ (∀ k, k < N → parseFieldDescriptor (T k).2.2.1 = some (ty0 k)) ∧ (∀ j, j < N → defaultValue (ty0 j) = vp_V fs j) ∧ Cond.classLink own idx C ∈ zTs ∧ Cond.instantiable C N ∈ zTs ∧ Cond.initialized C ∈ zTs ∧ (∀ v ∈ fs, v = .null ∨ v = .int 0 ∨ v = .long 0) ∧ fs.length = N
theorem zar_int : Cond.arrayClass .int ∈ zTs := zIn 201 (by decide +kernel) rfl
theorem zar_boolean : Cond.arrayClass .boolean ∈ zTs := zIn 304 (by decide +kernel) rfl
theorem zar_long : Cond.arrayClass .long ∈ zTs := zIn 1645 (by decide +kernel) rfl
theorem zoi1 : Cond.instanceMethod objectInit ∈ zTs := zIn 143 (by decide +kernel) rfl
theorem zoi2 : Cond.code objectInit ⟨#[0xb1]⟩ 1 none ∈ zTs := zIn 144 (by decide +kernel) rfl
section ZFX
variable {E : zEv} {G : zG} {p : Program} {e : Env} {s : State} {m : MethodId} {args : Array Value} {below : List Frame} {meth : Method} {c : Code} {A : Nat → Prop} {ad0 : Nat → Nat} {n0 mc ms : Nat} {Z : State → Prop}
theorem zFx.ex (F : zFx E G p e s m args below meth c A ad0 n0 mc ms Z) : p.tables.exec = Jvm.exec := F.1
theorem zFx.cd (F : zFx E G p e s m args below meth c A ad0 n0 mc ms Z) : c.code = E.2.1.2.1 := F.2.1
theorem zFx.ml (F : zFx E G p e s m args below meth c A ad0 n0 mc ms Z) : c.maxLocals = E.2.1.2.2.1 := F.2.2.1
theorem zFx.rt (F : zFx E G p e s m args below meth c A ad0 n0 mc ms Z) : meth.sig.returnType = E.2.1.2.2.2 := F.2.2.2.1
theorem zFx.lk (F : zFx E G p e s m args below meth c A ad0 n0 mc ms Z) : meth.locks = false := F.2.2.2.2.1
theorem zFx.nm (F : zFx E G p e s m args below meth c A ad0 n0 mc ms Z) : meth.name = E.2.1.1.name := F.2.2.2.2.2.1
theorem zFx.own (F : zFx E G p e s m args below meth c A ad0 n0 mc ms Z) : s.vm.findClass E.2.1.1.cls = some m.cls := F.2.2.2.2.2.2.1
theorem zFx.ws (F : zFx E G p e s m args below meth c A ad0 n0 mc ms Z) : ∀ w ∈ zTs, w.before args s = true := F.2.2.2.2.2.2.2.1
theorem zFx.kn (F : zFx E G p e s m args below meth c A ad0 n0 mc ms Z) : zKn G A s s.heap := F.2.2.2.2.2.2.2.2.1
theorem zFx.hA (F : zFx E G p e s m args below meth c A ad0 n0 mc ms Z) : ∀ q, s.heap.size ≤ q → A q := F.2.2.2.2.2.2.2.2.2.1
theorem zFx.et (F : zFx E G p e s m args below meth c A ad0 n0 mc ms Z) : ∀ x ∈ c.exceptionTable.toList, E.2.1.1.cls = RL := F.2.2.2.2.2.2.2.2.2.2.1
theorem zFx.Zr (F : zFx E G p e s m args below meth c A ad0 n0 mc ms Z) : ∀ t, MQ below (zQ G ad0 n0 A E.2.2.2.1) args s mc ms A t → Z t := F.2.2.2.2.2.2.2.2.2.2.2.1
theorem zFx.Zx (F : zFx E G p e s m args below meth c A ad0 n0 mc ms Z) : ∀ t, vx_MQ below (fun _ _ _ _ => False) (zX G ad0 n0 A E.2.2.2.2.1) args s mc ms A t → Z t := F.2.2.2.2.2.2.2.2.2.2.2.2.1
theorem zFx.gc (F : zFx E G p e s m args below meth c A ad0 n0 mc ms Z) : E.2.2.2.2.2 G := F.2.2.2.2.2.2.2.2.2.2.2.2.2
variable {kc ks : Nat} {lv : List (Nat × Value)} {st : List Value} {h : List va_E} {H : Heap} {locs : List Loc} {cells slots : Nat} {ad : Nat → Nat} {ls : Array Slot}
theorem zDx.hp {h' : List va_E} {st' : List Value} {H' : Heap} {locs' : List Loc} (D : zDx E kc ks lv st h G s A ad0 n0 mc ms H locs cells slots ad ls) (h1 : va_P G.2.1 vwCl (zW G ad h') H') (h2 : va_D A (zW G ad h')) (h3 : zCl h') (h4 : va_S A s.heap H' locs') (hn : h'.length = h.length) (hs : ∀ v ∈ st', zOk h.length v) : zDx E kc ks lv st' h' G s A ad0 n0 mc ms H' locs' cells slots ad ls := by
  obtain ⟨d1, d2, d3, d4, d5, d6, d7, d8, d9, d10, d11⟩ := D
  exact ⟨h1, h2, h3, h4, by rw [hn]; exact d5, d6, d7, by rw [hn]; exact d8, by rw [hn]; exact hs, d10, d11⟩
theorem zst_ext {kn ad' : Nat → Nat} {n : Nat} (hs : ∀ v ∈ st, zOk n v) (ha : ∀ k, k < n → ad' k = ad k) : st.map (zV kn ad') = st.map (zV kn ad) := List.map_congr_left (fun v hv => zV_ext (hs v hv) ha)
theorem zlm_ext {kn ad' : Nat → Nat} {n : Nat} (hs : ∀ q ∈ lv, zOk n q.2) (ha : ∀ k, k < n → ad' k = ad k) : zLm kn ad' lv = zLm kn ad lv := List.map_congr_left (fun q hq => by rw [zV_ext (hs q hq) ha])
/-- a new cell: its small address is the place behind all others -/
theorem zDx.push {e1 : va_E} {q n : Nat} {H' : Heap} {locs' : List Loc} (D : zDx E kc ks lv st h G s A ad0 n0 mc ms H locs cells slots ad ls) (he : zEo (h.length + 1) e1) (h1 : va_P G.2.1 vwCl (zW G ad h ++ [(q, zE G (zUp ad h.length q) e1)]) H') (h2 : va_D A (zW G ad h ++ [(q, zE G (zUp ad h.length q) e1)])) (h4 : va_S A s.heap H' locs') (hk : 1 ≤ kc) (hn : n ≤ ks) :
    zDx E (kc - 1) (ks - n) lv (.ref h.length :: st) (h ++ [e1]) G s A ad0 n0 mc ms H' locs' (cells + 1) (slots + n) (zUp ad h.length q) ls := by
  obtain ⟨d1, d2, d3, d4, d5, d6, d7, d8, d9, d10, d11⟩ := D
  have hx : ∀ k, k < h.length → zUp ad h.length q k = ad k := fun k hk => zUp_lt hk
  have hw := zW_push (G := G) (e := e1) d3 hx (zUp_at (ad := ad) (n := h.length) (q := q))
  rw [hw] at h1 h2
  have hl : (h ++ [e1]).length = h.length + 1 := by rw [List.length_append, List.length_singleton]
  refine ⟨h1, h2, d3.push he, h4, by omega, fun k hk => by rw [hx k (by omega), d6 k hk], ?_, fun q hq => by rw [hl]; exact (d8 q hq).up (Nat.le_succ _), ?_, by omega, by omega⟩
  · rw [show List.map (fun q_1 => (q_1.1, zV G.2.2.1 (zUp ad h.length q) q_1.2)) lv = zLm G.2.2.1 ad lv from zlm_ext d8 hx]
    exact d7
  · rw [hl]
    exact zok_c (fun w hw => (d9 w hw).up (Nat.le_succ _)) (Nat.lt_succ_self _)
end ZFX
section ZRC
variable {E : zEv} {kc ks pc : Nat} {lv : List (Nat × Value)} {st : List Value} {h : List va_E}
theorem zr_get {idx ci k a : Nat} {ty : FieldType} {fin : Bool} {fs : List Value} {v : Value} (d : decode E.2.1.2.1 pc = .ok (.getfield idx, 3)) (f : zFd E.2.1.1.cls idx ci k ty fin) (hc : h[a]? = some (.inr (ci, fs))) (hv : fs[k]? = some v) (K : zR E kc ks (pc + 3) lv (v :: st) h) : zR E kc ks pc lv (.ref a :: st) h := by
  intro G p e s m args below meth c A ad0 n0 mc ms Z F H locs cells slots ad ls D
  obtain ⟨C, T, N, h1, h2, h3, h4, h5, h6⟩ := f
  obtain ⟨g1, g2, ty0, g3⟩ := zci h1
  have hz := zW_get (G := G) (ad := ad) hc
  refine va_get (D := G.2.1) (cl := vwCl) (tys := zTys G.1) (ci := ci) (fs := fs.map (zV G.2.2.1 ad)) F.ex F.cd F.ws g1 F.own F.kn.1 D.1 a hz h1 k h2 (F.ws _ h3) (fun _ q => q) (v := zV G.2.2.1 ad v) (by rw [List.getElem?_map, hv]; rfl) d ?_
  exact K G p e s m args below meth c A ad0 n0 mc ms Z F H locs cells slots ad ls (D.stk (zok_c D.d1 (D.2.2.1 a _ hc v (List.mem_of_getElem? hv))))
theorem zr_put {idx ci k a : Nat} {ty : FieldType} {fs : List Value} {v : Value} (d : decode E.2.1.2.1 pc = .ok (.putfield idx, 3)) (f : zFd E.2.1.1.cls idx ci k ty false) (hc : h[a]? = some (.inr (ci, fs))) (hl : k < fs.length) (hp : zPv ty v) (K : zR E kc ks (pc + 3) lv st (h.set a (.inr (ci, fs.set k v)))) : zR E kc ks pc lv (v :: .ref a :: st) h := by
  intro G p e s m args below meth c A ad0 n0 mc ms Z F H locs cells slots ad ls D
  obtain ⟨C, T, N, h1, h2, h3, h4, h5, h6⟩ := f
  obtain ⟨g1, g2, ty0, g3⟩ := zci h1
  have hz := zW_get (G := G) (ad := ad) hc
  have hset : (zW G ad h).set a (ad a, .inr (ci, (fs.map (zV G.2.2.1 ad)).set k (zV G.2.2.1 ad v))) = zW G ad (h.set a (.inr (ci, fs.set k v))) := by
    rw [← zW_set]
    simp only [zE, List.map_set]
  have hcl : zCl (h.set a (.inr (ci, fs.set k v))) := D.2.2.1.set (fun w hw => by
    rcases List.mem_or_eq_of_mem_set hw with q | q
    · exact D.2.2.1 a _ hc w q
    · rw [q]; exact D.t0)
  refine va_put (D := G.2.1) (cl := vwCl) (tys := zTys G.1) (ci := ci) (fs := fs.map (zV G.2.2.1 ad)) F.ex F.cd F.ws g1 ty0 g3 g2 F.own F.kn.1 D.1 D.2.1 D.2.2.2.1 a hz h1 k h2 (F.ws _ h3) (fun _ q => q) h5 h4 (hp _ _).1 (hp _ _).2 (by rw [List.length_map]; exact hl) d (fun H1 locs1 hP hD hS => ?_)
  rw [hset] at hP hD
  exact K G p e s m args below meth c A ad0 n0 mc ms Z F H1 locs1 cells slots ad ls (D.hp hP hD hcl hS (List.length_set ..) D.d2)
theorem zr_putF {idx ci k a : Nat} {ty : FieldType} {fs : List Value} {v : Value} (d : decode E.2.1.2.1 pc = .ok (.putfield idx, 3)) (f : zFd E.2.1.1.cls idx ci k ty true) (hc : h[a]? = some (.inr (ci, fs))) (hl : k < fs.length) (hp : zPv ty v) (hi : E.2.1.1.name = "<init>") (ho : ∀ (C : String) (T : u_T) (N : Nat), vwCl[ci]? = some (C, T, N) → C = E.2.1.1.cls) (K : zR E kc ks (pc + 3) lv st (h.set a (.inr (ci, fs.set k v)))) : zR E kc ks pc lv (v :: .ref a :: st) h := by
  intro G p e s m args below meth c A ad0 n0 mc ms Z F H locs cells slots ad ls D
  obtain ⟨C, T, N, h1, h2, h3, h4, h5, h6⟩ := f
  obtain ⟨g1, g2, ty0, g3⟩ := zci h1
  have hz := zW_get (G := G) (ad := ad) hc
  have hset : (zW G ad h).set a (ad a, .inr (ci, (fs.map (zV G.2.2.1 ad)).set k (zV G.2.2.1 ad v))) = zW G ad (h.set a (.inr (ci, fs.set k v))) := by
    rw [← zW_set]
    simp only [zE, List.map_set]
  have hcl : zCl (h.set a (.inr (ci, fs.set k v))) := D.2.2.1.set (fun w hw => by
    rcases List.mem_or_eq_of_mem_set hw with q | q
    · exact D.2.2.1 a _ hc w q
    · rw [q]; exact D.t0)
  refine va_putF (D := G.2.1) (cl := vwCl) (tys := zTys G.1) (ci := ci) (fs := fs.map (zV G.2.2.1 ad)) F.ex F.cd F.ws g1 ty0 g3 g2 F.own F.kn.1 D.1 D.2.1 D.2.2.2.1 a hz h1 k h2 (F.ws _ h3) (fun _ q => q) h5 (F.nm.trans hi) (h6.trans (ho C T N h1)) h4 (hp _ _).1 (hp _ _).2 (by rw [List.length_map]; exact hl) d (fun H1 locs1 hP hD hS => ?_)
  rw [hset] at hP hD
  exact K G p e s m args below meth c A ad0 n0 mc ms Z F H1 locs1 cells slots ad ls (D.hp hP hD hcl hS (List.length_set ..) D.d2)
theorem zr_iald {a n : Nat} {f : Nat → Int32} {i : Int32} (d : decode E.2.1.2.1 pc = .ok (.iaload, 1)) (ha : h[a]? = some (.inl (0, n, .inl f))) (hin : vp_in i n) (K : zR E kc ks (pc + 1) lv (.int (f i.toNatClampNeg) :: st) h) : zR E kc ks pc lv (.int i :: .ref a :: st) h := by
  intro G p e s m args below meth c A ad0 n0 mc ms Z F H locs cells slots ad ls D
  exact va_iald (D := G.2.1) (cl := vwCl) (tys := zTys G.1) F.ex F.cd F.kn.1 D.1 a 0 (zW_get (G := G) (ad := ad) ha) rfl hin d (K G p e s m args below meth c A ad0 n0 mc ms Z F H locs cells slots ad ls (D.stk (zok_c D.d2 trivial)))
theorem zr_zald {a n : Nat} {f : Nat → Int32} {i : Int32} (d : decode E.2.1.2.1 pc = .ok (.baload, 1)) (ha : h[a]? = some (.inl (1, n, .inl f))) (hin : vp_in i n) (K : zR E kc ks (pc + 1) lv (.int (f i.toNatClampNeg) :: st) h) : zR E kc ks pc lv (.int i :: .ref a :: st) h := by
  intro G p e s m args below meth c A ad0 n0 mc ms Z F H locs cells slots ad ls D
  exact va_zald (D := G.2.1) (cl := vwCl) (tys := zTys G.1) F.ex F.cd F.kn.1 D.1 a 1 (zW_get (G := G) (ad := ad) ha) rfl hin d (K G p e s m args below meth c A ad0 n0 mc ms Z F H locs cells slots ad ls (D.stk (zok_c D.d2 trivial)))
theorem zr_lald {a n : Nat} {f : Nat → Int64} {i : Int32} (d : decode E.2.1.2.1 pc = .ok (.laload, 1)) (ha : h[a]? = some (.inl (2, n, .inr (.inl f)))) (hin : vp_in i n) (K : zR E kc ks (pc + 1) lv (.long (f i.toNatClampNeg) :: st) h) : zR E kc ks pc lv (.int i :: .ref a :: st) h := by
  intro G p e s m args below meth c A ad0 n0 mc ms Z F H locs cells slots ad ls D
  exact va_lald (D := G.2.1) (cl := vwCl) (tys := zTys G.1) F.ex F.cd F.kn.1 D.1 a 2 (zW_get (G := G) (ad := ad) ha) rfl hin d (K G p e s m args below meth c A ad0 n0 mc ms Z F H locs cells slots ad ls (D.stk (zok_c D.d2 trivial)))
theorem zr_iast {a n : Nat} {f : Nat → Int32} {i : Int32} {x : Int32} (d : decode E.2.1.2.1 pc = .ok (.iastore, 1)) (ha : h[a]? = some (.inl (0, n, .inl f))) (hin : vp_in i n) (K : zR E kc ks (pc + 1) lv st (h.set a (.inl (0, n, .inl (upd f i.toNatClampNeg x))))) : zR E kc ks pc lv (.int x :: .int i :: .ref a :: st) h := by
  intro G p e s m args below meth c A ad0 n0 mc ms Z F H locs cells slots ad ls D
  refine va_iast (D := G.2.1) (cl := vwCl) (tys := zTys G.1) F.ex F.cd F.kn.1 D.1 D.2.1 D.2.2.2.1 a 0 (zW_get (G := G) (ad := ad) ha) rfl hin d (fun H1 locs1 hP hD hS => ?_)
  have hset : (zW G ad h).set a (ad a, .inl (G.1 0, n, .inl (upd f i.toNatClampNeg x))) = zW G ad (h.set a (.inl (0, n, .inl (upd f i.toNatClampNeg x)))) := (zW_set G ad h a (.inl (0, n, .inl (upd f i.toNatClampNeg x))))
  rw [hset] at hP hD
  exact K G p e s m args below meth c A ad0 n0 mc ms Z F H1 locs1 cells slots ad ls (D.hp hP hD (D.2.2.1.set (e := .inl (0, n, .inl (upd f i.toNatClampNeg x))) trivial) hS (List.length_set ..) D.d3)
theorem zr_last {a n : Nat} {f : Nat → Int64} {i : Int32} {x : Int64} (d : decode E.2.1.2.1 pc = .ok (.lastore, 1)) (ha : h[a]? = some (.inl (2, n, .inr (.inl f)))) (hin : vp_in i n) (K : zR E kc ks (pc + 1) lv st (h.set a (.inl (2, n, .inr (.inl (vp_updL f i.toNatClampNeg x)))))) : zR E kc ks pc lv (.long x :: .int i :: .ref a :: st) h := by
  intro G p e s m args below meth c A ad0 n0 mc ms Z F H locs cells slots ad ls D
  refine va_last (D := G.2.1) (cl := vwCl) (tys := zTys G.1) F.ex F.cd F.kn.1 D.1 D.2.1 D.2.2.2.1 a 2 (zW_get (G := G) (ad := ad) ha) rfl hin d (fun H1 locs1 hP hD hS => ?_)
  have hset : (zW G ad h).set a (ad a, .inl (G.1 2, n, .inr (.inl (vp_updL f i.toNatClampNeg x)))) = zW G ad (h.set a (.inl (2, n, .inr (.inl (vp_updL f i.toNatClampNeg x))))) := (zW_set G ad h a (.inl (2, n, .inr (.inl (vp_updL f i.toNatClampNeg x)))))
  rw [hset] at hP hD
  exact K G p e s m args below meth c A ad0 n0 mc ms Z F H1 locs1 cells slots ad ls (D.hp hP hD (D.2.2.1.set (e := .inl (2, n, .inr (.inl (vp_updL f i.toNatClampNeg x)))) trivial) hS (List.length_set ..) D.d3)
theorem zr_zast {a n : Nat} {f : Nat → Int32} {i : Int32} {x : Int32} (d : decode E.2.1.2.1 pc = .ok (.bastore, 1)) (ha : h[a]? = some (.inl (1, n, .inl f))) (hin : vp_in i n) (hx : x = 0 ∨ x = 1) (K : zR E kc ks (pc + 1) lv st (h.set a (.inl (1, n, .inl (upd f i.toNatClampNeg x))))) : zR E kc ks pc lv (.int x :: .int i :: .ref a :: st) h := by
  have hnx : vp_nar .boolean x = x := by rcases hx with rfl | rfl <;> rfl
  intro G p e s m args below meth c A ad0 n0 mc ms Z F H locs cells slots ad ls D
  refine va_zast (D := G.2.1) (cl := vwCl) (tys := zTys G.1) F.ex F.cd F.kn.1 D.1 D.2.1 D.2.2.2.1 a 1 (zW_get (G := G) (ad := ad) ha) rfl hin d (fun H1 locs1 hP hD hS => ?_)
  rw [hnx] at hP hD
  have hset : (zW G ad h).set a (ad a, .inl (G.1 1, n, .inl (upd f i.toNatClampNeg x))) = zW G ad (h.set a (.inl (1, n, .inl (upd f i.toNatClampNeg x)))) := (zW_set G ad h a (.inl (1, n, .inl (upd f i.toNatClampNeg x))))
  rw [hset] at hP hD
  exact K G p e s m args below meth c A ad0 n0 mc ms Z F H1 locs1 cells slots ad ls (D.hp hP hD (D.2.2.1.set (e := .inl (1, n, .inl (upd f i.toNatClampNeg x))) trivial) hS (List.length_set ..) D.d3)
theorem zr_alen {a t : Nat} {x : vp_A} {v : Int32} (d : decode E.2.1.2.1 pc = .ok (.arraylength, 1)) (ha : h[a]? = some (.inl (t, x))) (ht : t < 5) (hv : Int32.ofNat x.1 = v) (K : zR E kc ks (pc + 1) lv (.int v :: st) h) : zR E kc ks pc lv (.ref a :: st) h := by
  intro G p e s m args below meth c A ad0 n0 mc ms Z F H locs cells slots ad ls D
  have hx : (zF ad x).1 = x.1 := by obtain ⟨n, f⟩ := x; rcases f with f | f | f | f | f <;> rfl
  have htt : ∃ ty, (zTys G.1)[t]? = some (G.1 t, ty) := by
    match t, ht with
    | 0, _ => exact ⟨_, rfl⟩
    | 1, _ => exact ⟨_, rfl⟩
    | 2, _ => exact ⟨_, rfl⟩
    | 3, _ => exact ⟨_, rfl⟩
    | 4, _ => exact ⟨_, rfl⟩
  obtain ⟨ty, hty⟩ := htt
  exact va_alen (D := G.2.1) (cl := vwCl) (tys := zTys G.1) F.ex F.cd F.kn.1 D.1 a t (zW_get (G := G) (ad := ad) ha) hty (by show Int32.ofNat (zF ad x).1 = v; rw [hx]; exact hv) d (K G p e s m args below meth c A ad0 n0 mc ms Z F H locs cells slots ad ls (D.stk (zok_c D.d1 trivial)))
theorem zr_aald3 {a n b : Nat} {f : Nat → Option Nat} {i : Int32} (d : decode E.2.1.2.1 pc = .ok (.aaload, 1)) (ha : h[a]? = some (.inl (3, n, .inr (.inr (.inr (.inr f)))))) (hin : vp_in i n) (hb : f i.toNatClampNeg = some b) (K : zR E kc ks (pc + 1) lv (.ref b :: st) h) : zR E kc ks pc lv (.int i :: .ref a :: st) h := by
  intro G p e s m args below meth c A ad0 n0 mc ms Z F H locs cells slots ad ls D
  refine va_aldq (D := G.2.1) (cl := vwCl) (tys := zTys G.1) F.ex F.cd F.kn.1 D.1 a 3 (zW_get (G := G) (ad := ad) ha) rfl hin d ?_
  show W p E.1 e (zRm E.2.2.1 mc ms) s m args below meth c H locs cells slots Z (F0 m (pc + 1) ls (va_rf ((f i.toNatClampNeg).map ad) :: st.map (zV G.2.2.1 ad)))
  rw [hb]
  exact K G p e s m args below meth c A ad0 n0 mc ms Z F H locs cells slots ad ls (D.stk (zok_c D.d2 (D.2.2.1 a _ ha _ b hb)))
theorem zr_aast3 {a n b ci : Nat} {f : Nat → Option Nat} {i : Int32} {vs : List Value} {T : u_T} {N : Nat} (d : decode E.2.1.2.1 pc = .ok (.aastore, 1)) (ha : h[a]? = some (.inl (3, n, .inr (.inr (.inr (.inr f)))))) (hin : vp_in i n) (hb : h[b]? = some (.inr (ci, vs))) (hc : vwCl[ci]? = some ("PailRow$State", T, N)) (K : zR E kc ks (pc + 1) lv st (h.set a (.inl (3, n, .inr (.inr (.inr (.inr (va_up f i.toNatClampNeg (some b)))))))) ) : zR E kc ks pc lv (.ref b :: .int i :: .ref a :: st) h := by
  intro G p e s m args below meth c A ad0 n0 mc ms Z F H locs cells slots ad ls D
  refine va_astq (D := G.2.1) (cl := vwCl) (tys := zTys G.1) F.ex F.cd F.kn.1 D.1 D.2.1 D.2.2.2.1 a 3 b ci (zW_get (G := G) (ad := ad) ha) rfl (zW_get (G := G) (ad := ad) hb) hc hin d (fun H1 locs1 hP hD hS => ?_)
  have hset : (zW G ad h).set a (ad a, .inl (G.1 3, n, .inr (.inr (.inr (.inr (va_up (fun j => (f j).map ad) i.toNatClampNeg (some (ad b)))))))) = zW G ad (h.set a (.inl (3, n, .inr (.inr (.inr (.inr (va_up f i.toNatClampNeg (some b)))))))) := by
    have hf : va_up (fun j => (f j).map ad) i.toNatClampNeg (some (ad b)) = fun j => (va_up f i.toNatClampNeg (some b) j).map ad := by
      funext j
      simp only [va_up]
      split <;> rfl
    rw [hf]
    exact zW_set G ad h a (.inl (3, n, .inr (.inr (.inr (.inr (va_up f i.toNatClampNeg (some b)))))))
  rw [hset] at hP hD
  have hbl : b < h.length := (List.getElem?_eq_some_iff.mp hb).1
  exact K G p e s m args below meth c A ad0 n0 mc ms Z F H1 locs1 cells slots ad ls (D.hp hP hD (D.2.2.1.set (e := .inl (3, n, .inr (.inr (.inr (.inr (va_up f i.toNatClampNeg (some b))))))) (fun j x hj => by simp only [va_up] at hj; split at hj; (cases hj; exact hbl); exact D.2.2.1 a _ ha j x hj)) hS (List.length_set ..) D.d3)
theorem zr_aald4 {a n b : Nat} {f : Nat → Option Nat} {i : Int32} (d : decode E.2.1.2.1 pc = .ok (.aaload, 1)) (ha : h[a]? = some (.inl (4, n, .inr (.inr (.inr (.inr f)))))) (hin : vp_in i n) (hb : f i.toNatClampNeg = some b) (K : zR E kc ks (pc + 1) lv (.ref b :: st) h) : zR E kc ks pc lv (.int i :: .ref a :: st) h := by
  intro G p e s m args below meth c A ad0 n0 mc ms Z F H locs cells slots ad ls D
  refine va_aldq (D := G.2.1) (cl := vwCl) (tys := zTys G.1) F.ex F.cd F.kn.1 D.1 a 4 (zW_get (G := G) (ad := ad) ha) rfl hin d ?_
  show W p E.1 e (zRm E.2.2.1 mc ms) s m args below meth c H locs cells slots Z (F0 m (pc + 1) ls (va_rf ((f i.toNatClampNeg).map ad) :: st.map (zV G.2.2.1 ad)))
  rw [hb]
  exact K G p e s m args below meth c A ad0 n0 mc ms Z F H locs cells slots ad ls (D.stk (zok_c D.d2 (D.2.2.1 a _ ha _ b hb)))
theorem zr_aast4 {a n b ci : Nat} {f : Nat → Option Nat} {i : Int32} {vs : List Value} {T : u_T} {N : Nat} (d : decode E.2.1.2.1 pc = .ok (.aastore, 1)) (ha : h[a]? = some (.inl (4, n, .inr (.inr (.inr (.inr f)))))) (hin : vp_in i n) (hb : h[b]? = some (.inr (ci, vs))) (hc : vwCl[ci]? = some ("PailRow$Fire", T, N)) (K : zR E kc ks (pc + 1) lv st (h.set a (.inl (4, n, .inr (.inr (.inr (.inr (va_up f i.toNatClampNeg (some b)))))))) ) : zR E kc ks pc lv (.ref b :: .int i :: .ref a :: st) h := by
  intro G p e s m args below meth c A ad0 n0 mc ms Z F H locs cells slots ad ls D
  refine va_astq (D := G.2.1) (cl := vwCl) (tys := zTys G.1) F.ex F.cd F.kn.1 D.1 D.2.1 D.2.2.2.1 a 4 b ci (zW_get (G := G) (ad := ad) ha) rfl (zW_get (G := G) (ad := ad) hb) hc hin d (fun H1 locs1 hP hD hS => ?_)
  have hset : (zW G ad h).set a (ad a, .inl (G.1 4, n, .inr (.inr (.inr (.inr (va_up (fun j => (f j).map ad) i.toNatClampNeg (some (ad b)))))))) = zW G ad (h.set a (.inl (4, n, .inr (.inr (.inr (.inr (va_up f i.toNatClampNeg (some b)))))))) := by
    have hf : va_up (fun j => (f j).map ad) i.toNatClampNeg (some (ad b)) = fun j => (va_up f i.toNatClampNeg (some b) j).map ad := by
      funext j
      simp only [va_up]
      split <;> rfl
    rw [hf]
    exact zW_set G ad h a (.inl (4, n, .inr (.inr (.inr (.inr (va_up f i.toNatClampNeg (some b)))))))
  rw [hset] at hP hD
  have hbl : b < h.length := (List.getElem?_eq_some_iff.mp hb).1
  exact K G p e s m args below meth c A ad0 n0 mc ms Z F H1 locs1 cells slots ad ls (D.hp hP hD (D.2.2.1.set (e := .inl (4, n, .inr (.inr (.inr (.inr (va_up f i.toNatClampNeg (some b))))))) (fun j x hj => by simp only [va_up] at hj; split at hj; (cases hj; exact hbl); exact D.2.2.1 a _ ha j x hj)) hS (List.length_set ..) D.d3)
theorem zr_newa_int {n : Int32} {N : Nat} (d : decode E.2.1.2.1 pc = .ok (.newarray .int, 2)) (hn : ¬ n < 0) (hN : n.toNatClampNeg = N) (hb : N ≤ 65536) (hk : 1 ≤ kc) (hs : N ≤ ks) (K : zR E (kc - 1) (ks - N) (pc + 2) lv (.ref h.length :: st) (h ++ [.inl (0, N, .inl (fun _ => 0))])) : zR E kc ks pc lv (.int n :: st) h := by
  intro G p e s m args below meth c A ad0 n0 mc ms Z F H locs cells slots ad ls D
  refine va_newa (D := G.2.1) (cl := vwCl) (tys := zTys G.1) (atype := .int) (ty := .int) (N' := N) (a0 := (N, .inl (fun _ => 0))) F.ex F.cd (F.ws _ zar_int) rfl F.kn.1 D.1 D.2.1 D.2.2.2.1 F.hA (fun _ => rfl) hn hN (Nat.le_trans (Nat.mul_le_mul_right _ hb) (by decide)) (by have := D.2.2.2.2.2.2.2.2.2.1; show cells + 1 ≤ mc; omega) (by have := D.2.2.2.2.2.2.2.2.2.2; show slots + N ≤ ms; omega) d (fun q cA H1 hK hP hD hS => ?_)
  have hcA : cA = G.1 0 := Option.some.inj ((show s.vm.findClass ("[" ++ FieldType.toString .int) = some cA from (hK.2 5 (cA, .int) rfl).2).symm.trans (show s.vm.findClass ("[" ++ FieldType.toString .int) = some (G.1 0) from (F.kn.1.2 0 (G.1 0, .int) rfl).2))
  subst hcA
  have D2 := (D.stk D.d1).push (e1 := .inl (0, N, .inl (fun _ => 0))) (q := q) (n := N) trivial hP hD hS hk hs
  have e2 : st.map (zV G.2.2.1 (zUp ad h.length q)) = st.map (zV G.2.2.1 ad) := zst_ext D.d1 (fun k hk => zUp_lt hk)
  have := K G p e s m args below meth c A ad0 n0 mc ms Z F H1 locs (cells + 1) (slots + N) (zUp ad h.length q) ls D2
  simp only [List.map_cons, e2] at this
  rw [show zV G.2.2.1 (zUp ad h.length q) (.ref h.length) = .ref q from congrArg Value.ref zUp_at] at this
  exact this
theorem zr_newa_boolean {n : Int32} {N : Nat} (d : decode E.2.1.2.1 pc = .ok (.newarray .boolean, 2)) (hn : ¬ n < 0) (hN : n.toNatClampNeg = N) (hb : N ≤ 65536) (hk : 1 ≤ kc) (hs : N ≤ ks) (K : zR E (kc - 1) (ks - N) (pc + 2) lv (.ref h.length :: st) (h ++ [.inl (1, N, .inl (fun _ => 0))])) : zR E kc ks pc lv (.int n :: st) h := by
  intro G p e s m args below meth c A ad0 n0 mc ms Z F H locs cells slots ad ls D
  refine va_newa (D := G.2.1) (cl := vwCl) (tys := zTys G.1) (atype := .boolean) (ty := .boolean) (N' := N) (a0 := (N, .inl (fun _ => 0))) F.ex F.cd (F.ws _ zar_boolean) rfl F.kn.1 D.1 D.2.1 D.2.2.2.1 F.hA (fun _ => rfl) hn hN (Nat.le_trans (Nat.mul_le_mul_right _ hb) (by decide)) (by have := D.2.2.2.2.2.2.2.2.2.1; show cells + 1 ≤ mc; omega) (by have := D.2.2.2.2.2.2.2.2.2.2; show slots + N ≤ ms; omega) d (fun q cA H1 hK hP hD hS => ?_)
  have hcA : cA = G.1 1 := Option.some.inj ((show s.vm.findClass ("[" ++ FieldType.toString .boolean) = some cA from (hK.2 5 (cA, .boolean) rfl).2).symm.trans (show s.vm.findClass ("[" ++ FieldType.toString .boolean) = some (G.1 1) from (F.kn.1.2 1 (G.1 1, .boolean) rfl).2))
  subst hcA
  have D2 := (D.stk D.d1).push (e1 := .inl (1, N, .inl (fun _ => 0))) (q := q) (n := N) trivial hP hD hS hk hs
  have e2 : st.map (zV G.2.2.1 (zUp ad h.length q)) = st.map (zV G.2.2.1 ad) := zst_ext D.d1 (fun k hk => zUp_lt hk)
  have := K G p e s m args below meth c A ad0 n0 mc ms Z F H1 locs (cells + 1) (slots + N) (zUp ad h.length q) ls D2
  simp only [List.map_cons, e2] at this
  rw [show zV G.2.2.1 (zUp ad h.length q) (.ref h.length) = .ref q from congrArg Value.ref zUp_at] at this
  exact this
theorem zr_newa_long {n : Int32} {N : Nat} (d : decode E.2.1.2.1 pc = .ok (.newarray .long, 2)) (hn : ¬ n < 0) (hN : n.toNatClampNeg = N) (hb : N ≤ 65536) (hk : 1 ≤ kc) (hs : N ≤ ks) (K : zR E (kc - 1) (ks - N) (pc + 2) lv (.ref h.length :: st) (h ++ [.inl (2, N, .inr (.inl (fun _ => 0)))])) : zR E kc ks pc lv (.int n :: st) h := by
  intro G p e s m args below meth c A ad0 n0 mc ms Z F H locs cells slots ad ls D
  refine va_newa (D := G.2.1) (cl := vwCl) (tys := zTys G.1) (atype := .long) (ty := .long) (N' := N) (a0 := (N, .inr (.inl (fun _ => 0)))) F.ex F.cd (F.ws _ zar_long) rfl F.kn.1 D.1 D.2.1 D.2.2.2.1 F.hA (fun _ => rfl) hn hN (Nat.le_trans (Nat.mul_le_mul_right _ hb) (by decide)) (by have := D.2.2.2.2.2.2.2.2.2.1; show cells + 1 ≤ mc; omega) (by have := D.2.2.2.2.2.2.2.2.2.2; show slots + N ≤ ms; omega) d (fun q cA H1 hK hP hD hS => ?_)
  have hcA : cA = G.1 2 := Option.some.inj ((show s.vm.findClass ("[" ++ FieldType.toString .long) = some cA from (hK.2 5 (cA, .long) rfl).2).symm.trans (show s.vm.findClass ("[" ++ FieldType.toString .long) = some (G.1 2) from (F.kn.1.2 2 (G.1 2, .long) rfl).2))
  subst hcA
  have D2 := (D.stk D.d1).push (e1 := .inl (2, N, .inr (.inl (fun _ => 0)))) (q := q) (n := N) trivial hP hD hS hk hs
  have e2 : st.map (zV G.2.2.1 (zUp ad h.length q)) = st.map (zV G.2.2.1 ad) := zst_ext D.d1 (fun k hk => zUp_lt hk)
  have := K G p e s m args below meth c A ad0 n0 mc ms Z F H1 locs (cells + 1) (slots + N) (zUp ad h.length q) ls D2
  simp only [List.map_cons, e2] at this
  rw [show zV G.2.2.1 (zUp ad h.length q) (.ref h.length) = .ref q from congrArg Value.ref zUp_at] at this
  exact this
theorem zr_anew3 {n : Int32} {N idx : Nat} (d : decode E.2.1.2.1 pc = .ok (.anewarray idx, 3)) (w : Cond.classLink E.2.1.1.cls idx "PailRow$State" ∈ zTs) (hn : ¬ n < 0) (hN : n.toNatClampNeg = N) (hb : N ≤ 65536) (hk : 1 ≤ kc) (hs : N ≤ ks) (K : zR E (kc - 1) (ks - N) (pc + 3) lv (.ref h.length :: st) (h ++ [.inl (3, N, .inr (.inr (.inr (.inr (fun _ => none)))))])) : zR E kc ks pc lv (.int n :: st) h := by
  intro G p e s m args below meth c A ad0 n0 mc ms Z F H locs cells slots ad ls D
  refine va_newq (D := G.2.1) (cl := vwCl) (tys := zTys G.1) (C := "PailRow$State") (N' := N) F.ex F.cd F.own (F.ws _ w) F.kn.2.2.2.2.2.1 F.kn.1 D.1 D.2.1 D.2.2.2.1 F.hA hn hN (Nat.le_trans (Nat.mul_le_mul_right _ hb) (by decide)) (by have := D.2.2.2.2.2.2.2.2.2.1; show cells + 1 ≤ mc; omega) (by have := D.2.2.2.2.2.2.2.2.2.2; show slots + N ≤ ms; omega) d (fun q cA H1 hK hP hD hS => ?_)
  obtain ⟨kA, comp, -, -, -, w1⟩ : va_RA s cA (.object "PailRow$State") := (hK.2 5 (cA, .object "PailRow$State") rfl).2
  obtain ⟨kA2, comp2, -, -, -, w2⟩ : va_RA s (G.1 3) (.object "PailRow$State") := (F.kn.1.2 3 (G.1 3, .object "PailRow$State") rfl).2
  have hcA : cA = G.1 3 := Option.some.inj (w1.symm.trans w2)
  subst hcA
  have D2 := (D.stk D.d1).push (e1 := .inl (3, N, .inr (.inr (.inr (.inr (fun _ => none)))))) (q := q) (n := N) (fun j b hj => by cases hj) hP hD hS hk hs
  have e2 : st.map (zV G.2.2.1 (zUp ad h.length q)) = st.map (zV G.2.2.1 ad) := zst_ext D.d1 (fun k hk => zUp_lt hk)
  have := K G p e s m args below meth c A ad0 n0 mc ms Z F H1 locs (cells + 1) (slots + N) (zUp ad h.length q) ls D2
  simp only [List.map_cons, e2] at this
  rw [show zV G.2.2.1 (zUp ad h.length q) (.ref h.length) = .ref q from congrArg Value.ref zUp_at] at this
  exact this
theorem zr_anew4 {n : Int32} {N idx : Nat} (d : decode E.2.1.2.1 pc = .ok (.anewarray idx, 3)) (w : Cond.classLink E.2.1.1.cls idx "PailRow$Fire" ∈ zTs) (hn : ¬ n < 0) (hN : n.toNatClampNeg = N) (hb : N ≤ 65536) (hk : 1 ≤ kc) (hs : N ≤ ks) (K : zR E (kc - 1) (ks - N) (pc + 3) lv (.ref h.length :: st) (h ++ [.inl (4, N, .inr (.inr (.inr (.inr (fun _ => none)))))])) : zR E kc ks pc lv (.int n :: st) h := by
  intro G p e s m args below meth c A ad0 n0 mc ms Z F H locs cells slots ad ls D
  refine va_newq (D := G.2.1) (cl := vwCl) (tys := zTys G.1) (C := "PailRow$Fire") (N' := N) F.ex F.cd F.own (F.ws _ w) F.kn.2.2.2.2.2.2 F.kn.1 D.1 D.2.1 D.2.2.2.1 F.hA hn hN (Nat.le_trans (Nat.mul_le_mul_right _ hb) (by decide)) (by have := D.2.2.2.2.2.2.2.2.2.1; show cells + 1 ≤ mc; omega) (by have := D.2.2.2.2.2.2.2.2.2.2; show slots + N ≤ ms; omega) d (fun q cA H1 hK hP hD hS => ?_)
  obtain ⟨kA, comp, -, -, -, w1⟩ : va_RA s cA (.object "PailRow$Fire") := (hK.2 5 (cA, .object "PailRow$Fire") rfl).2
  obtain ⟨kA2, comp2, -, -, -, w2⟩ : va_RA s (G.1 4) (.object "PailRow$Fire") := (F.kn.1.2 4 (G.1 4, .object "PailRow$Fire") rfl).2
  have hcA : cA = G.1 4 := Option.some.inj (w1.symm.trans w2)
  subst hcA
  have D2 := (D.stk D.d1).push (e1 := .inl (4, N, .inr (.inr (.inr (.inr (fun _ => none)))))) (q := q) (n := N) (fun j b hj => by cases hj) hP hD hS hk hs
  have e2 : st.map (zV G.2.2.1 (zUp ad h.length q)) = st.map (zV G.2.2.1 ad) := zst_ext D.d1 (fun k hk => zUp_lt hk)
  have := K G p e s m args below meth c A ad0 n0 mc ms Z F H1 locs (cells + 1) (slots + N) (zUp ad h.length q) ls D2
  simp only [List.map_cons, e2] at this
  rw [show zV G.2.2.1 (zUp ad h.length q) (.ref h.length) = .ref q from congrArg Value.ref zUp_at] at this
  exact this
theorem zr_new {idx ci : Nat} {fs : List Value} (d : decode E.2.1.2.1 pc = .ok (.new idx, 3)) (w : zNew E.2.1.1.cls idx ci fs) (hk : 1 ≤ kc) (hs : fs.length ≤ ks) (K : zR E (kc - 1) (ks - fs.length) (pc + 3) lv (.ref h.length :: st) (h ++ [.inr (ci, fs)])) : zR E kc ks pc lv st h := by
  intro G p e s m args below meth c A ad0 n0 mc ms Z F H locs cells slots ad ls D
  obtain ⟨C, T, N, ty0, w1, w2, w3, w4, w5, w6, w7, rfl⟩ := w
  obtain ⟨g1, g2, -⟩ := zci w1
  have hfz : ∀ ad : Nat → Nat, fs.map (zV G.2.2.1 ad) = fs := fun ad => by
    rw [List.map_congr_left (g := id) (fun v hv => by rcases w7 v hv with rfl | rfl | rfl <;> rfl), List.map_id]
  refine va_new (D := G.2.1) (cl := vwCl) (tys := zTys G.1) (ci := ci) (fs := fs) F.ex F.cd F.ws g1 ty0 w2 F.own (F.ws _ w4) (F.ws _ w5) (F.ws _ w6) F.kn.1 D.1 D.2.1 D.2.2.2.1 F.hA w1 w3 (by have := D.2.2.2.2.2.2.2.2.2.1; show cells + 1 ≤ mc; omega) (by have := D.2.2.2.2.2.2.2.2.2.2; show slots + fs.length ≤ ms; omega) d (fun q H1 hP hD hS => ?_)
  have hz : (.inr (ci, fs) : va_E) = zE G (zUp ad h.length q) (.inr (ci, fs)) := by simp only [zE, hfz]
  rw [hz] at hP hD
  have D2 := D.push (e1 := .inr (ci, fs)) (q := q) (n := fs.length) (fun v hv => by rcases w7 v hv with rfl | rfl | rfl <;> trivial) hP hD hS hk hs
  have e2 : st.map (zV G.2.2.1 (zUp ad h.length q)) = st.map (zV G.2.2.1 ad) := zst_ext D.sto (fun k hk => zUp_lt hk)
  have := K G p e s m args below meth c A ad0 n0 mc ms Z F H1 locs (cells + 1) (slots + fs.length) (zUp ad h.length q) ls D2
  simp only [List.map_cons, e2] at this
  rw [show zV G.2.2.1 (zUp ad h.length q) (.ref h.length) = .ref q from congrArg Value.ref zUp_at] at this
  exact this
theorem zr_objInit {idx a : Nat} (d : decode E.2.1.2.1 pc = .ok (.invokespecial idx, 3)) (w : Cond.methodLink E.2.1.1.cls idx objectInit ∈ zTs) (hd : 1 ≤ E.2.2.1) (hst : ((st.map (zV (fun _ => 0) (fun _ => 0))).map fun v => v.category).sum ≤ 8) (K : zR E kc ks (pc + 3) lv st h) : zR E kc ks pc lv (.ref a :: st) h := by
  intro G p e s m args below meth c A ad0 n0 mc ms Z F H locs cells slots ad ls D
  have hcat : ((st.map (zV G.2.2.1 ad)).map fun v => v.category).sum ≤ 8 := by
    have : ∀ kn ad : Nat → Nat, (st.map (zV kn ad)).map (fun v => v.category) = st.map (fun v => v.category) := fun kn ad => by rw [List.map_map]; exact List.map_congr_left (fun v _ => zV_cat kn ad v)
    rw [this] at hst ⊢
    exact hst
  refine W.objInit F.ex F.cd F.own (F.ws _ w) (F.ws _ zoi1) (F.ws _ zoi2) rfl (by rw [F.ml]; exact D.lvh.1) rfl d hd ?_ ?_
  · have := lv_room (ls := ls) (rest := st.map (zV G.2.2.1 ad)) (m := m) (pc := pc) hcat
    show 2 * (F0 m pc ls _).monitorRoom + _ + 12 ≤ 60 * E.2.2.1 + 60
    have e1 : (F0 m pc ls ((Value.ref a :: st).map (zV G.2.2.1 ad))).monitorRoom = 0 := rfl
    omega
  · exact K G p e s m args below meth c A ad0 n0 mc ms Z F H locs cells slots ad ls (D.stk D.d1)
theorem zr_iret {x : Int32} (d : decode E.2.1.2.1 pc = .ok (.ireturn, 1)) (hr : E.2.1.2.2.2 = some .int) (q : E.2.2.2.1 (some (.int x)) h) : zR E kc ks pc lv [.int x] h := by
  intro G p e s m args below meth c A ad0 n0 mc ms Z F H locs cells slots ad ls D
  refine W.widen (k := mc) (n := ms) (by have := D.2.2.2.2.2.2.2.2.2.1; omega) (by have := D.2.2.2.2.2.2.2.2.2.2; omega) ?_
  exact W.mono (W.iret (Qc := zQ G ad0 n0 A E.2.2.2.1) F.ex F.cd (F.rt.trans hr) (fun t ht hW => ⟨⟨some (.int x), h, ad, rfl, q, (fun v hv => by cases hv; trivial), D.2.2.2.2.1, D.2.2.2.2.2.1, by rw [ht]; exact D.1, va_K.moved hW.alike F.kn.1, D.2.1, D.2.2.1⟩, D.2.2.2.1.F ht⟩) D.2.2.2.1.2.2 d F.lk) F.Zr
theorem zr_zret {x : Int32} (d : decode E.2.1.2.1 pc = .ok (.ireturn, 1)) (hr : E.2.1.2.2.2 = some .boolean) (hx : x = 0 ∨ x = 1) (q : E.2.2.2.1 (some (.int x)) h) : zR E kc ks pc lv [.int x] h := by
  intro G p e s m args below meth c A ad0 n0 mc ms Z F H locs cells slots ad ls D
  refine W.widen (k := mc) (n := ms) (by have := D.2.2.2.2.2.2.2.2.2.1; omega) (by have := D.2.2.2.2.2.2.2.2.2.2; omega) ?_
  exact W.mono (W.zret (Qc := zQ G ad0 n0 A E.2.2.2.1) F.ex F.cd (F.rt.trans hr) (by rcases hx with rfl | rfl <;> rfl) (fun t ht hW => ⟨⟨some (.int x), h, ad, rfl, q, (fun v hv => by cases hv; trivial), D.2.2.2.2.1, D.2.2.2.2.2.1, by rw [ht]; exact D.1, va_K.moved hW.alike F.kn.1, D.2.1, D.2.2.1⟩, D.2.2.2.1.F ht⟩) D.2.2.2.1.2.2 d F.lk) F.Zr
theorem zr_lret {x : Int64} (d : decode E.2.1.2.1 pc = .ok (.lreturn, 1)) (hr : E.2.1.2.2.2 = some .long) (q : E.2.2.2.1 (some (.long x)) h) : zR E kc ks pc lv [.long x] h := by
  intro G p e s m args below meth c A ad0 n0 mc ms Z F H locs cells slots ad ls D
  refine W.widen (k := mc) (n := ms) (by have := D.2.2.2.2.2.2.2.2.2.1; omega) (by have := D.2.2.2.2.2.2.2.2.2.2; omega) ?_
  exact W.mono (W.lret (Qc := zQ G ad0 n0 A E.2.2.2.1) F.ex F.cd (F.rt.trans hr) (fun t ht hW => ⟨⟨some (.long x), h, ad, rfl, q, (fun v hv => by cases hv; trivial), D.2.2.2.2.1, D.2.2.2.2.2.1, by rw [ht]; exact D.1, va_K.moved hW.alike F.kn.1, D.2.1, D.2.2.1⟩, D.2.2.2.1.F ht⟩) D.2.2.2.1.2.2 d F.lk) F.Zr
theorem zr_vret (d : decode E.2.1.2.1 pc = .ok (.return_, 1)) (hr : E.2.1.2.2.2 = none) (q : E.2.2.2.1 none h) : zR E kc ks pc lv [] h := by
  intro G p e s m args below meth c A ad0 n0 mc ms Z F H locs cells slots ad ls D
  refine W.widen (k := mc) (n := ms) (by have := D.2.2.2.2.2.2.2.2.2.1; omega) (by have := D.2.2.2.2.2.2.2.2.2.2; omega) ?_
  exact W.mono (W.vret (Qc := zQ G ad0 n0 A E.2.2.2.1) F.ex F.cd (F.rt.trans hr) (fun t ht hW => ⟨⟨none, h, ad, rfl, q, (fun v hv => by cases hv), D.2.2.2.2.1, D.2.2.2.2.2.1, by rw [ht]; exact D.1, va_K.moved hW.alike F.kn.1, D.2.1, D.2.2.1⟩, D.2.2.2.1.F ht⟩) D.2.2.2.1.2.2 d F.lk) F.Zr
theorem zr_aret {v : Value} {rt : FieldType} (d : decode E.2.1.2.1 pc = .ok (.areturn, 1)) (hr : E.2.1.2.2.2 = some rt) (hrt : (∃ n, rt = .object n) ∨ ∃ t, rt = .array t) (hv : zrf v = true) (q : E.2.2.2.1 (some v) h) : zR E kc ks pc lv [v] h := by
  intro G p e s m args below meth c A ad0 n0 mc ms Z F H locs cells slots ad ls D
  refine W.widen (k := mc) (n := ms) (by have := D.2.2.2.2.2.2.2.2.2.1; omega) (by have := D.2.2.2.2.2.2.2.2.2.2; omega) ?_
  have hz : zV G.2.2.1 ad v = .null ∨ ∃ a, zV G.2.2.1 ad v = .ref a := by cases v <;> first | exact Or.inl rfl | exact Or.inr ⟨_, rfl⟩ | cases hv
  exact W.mono (W.aret (Qc := zQ G ad0 n0 A E.2.2.2.1) F.ex F.cd (F.rt.trans hr) hrt hz (fun t ht hW => ⟨⟨some v, h, ad, rfl, q, (fun w hw => by cases hw; exact D.t0), D.2.2.2.2.1, D.2.2.2.2.2.1, by rw [ht]; exact D.1, va_K.moved hW.alike F.kn.1, D.2.1, D.2.2.1⟩, D.2.2.2.1.F ht⟩) D.2.2.2.1.2.2 d F.lk) F.Zr
end ZRC
