/-! ===== small worlds: a run's cells as a list, a cell told by its place in it ===== -/
abbrev zG : Type := (Nat → ClassId) × va_G × (Nat → Nat) × Nat × (Nat → Int32)
def zV (kn ad : Nat → Nat) (v : Value) : Value := match v with
  | .ref a => .ref (ad a)
  | .float i => .ref (kn i.toNat)
  | w => w
def zF (ad : Nat → Nat) (a : vp_A) : vp_A := match a with
  | (n, .inr (.inr (.inr (.inr f)))) => (n, .inr (.inr (.inr (.inr (fun j => (f j).map ad)))))
  | (n, .inl f) => (n, .inl f)
  | (n, .inr (.inl f)) => (n, .inr (.inl f))
  | (n, .inr (.inr (.inl f))) => (n, .inr (.inr (.inl f)))
  | (n, .inr (.inr (.inr (.inl f)))) => (n, .inr (.inr (.inr (.inl f))))
def zE (G : zG) (ad : Nat → Nat) (e : va_E) : va_E := match e with
  | .inl a => .inl (G.1 a.1, zF ad a.2)
  | .inr o => .inr (o.1, o.2.map (zV G.2.2.1 ad))
def zW (G : zG) (ad : Nat → Nat) (h : List va_E) : va_W := h.mapIdx (fun k e => (ad k, zE G ad e))
/-- no address is told that is not there -/
def zOk (n : Nat) (v : Value) : Prop := match v with
  | .ref a => a < n
  | _ => True
def zFo (n : Nat) (a : vp_A) : Prop := match a with
  | (_, .inr (.inr (.inr (.inr f)))) => ∀ j b, f j = some b → b < n
  | _ => True
def zEo (n : Nat) (e : va_E) : Prop := match e with
  | .inl a => zFo n a.2
  | .inr o => ∀ v ∈ o.2, zOk n v
def zCl (h : List va_E) : Prop := ∀ (k : Nat) (e : va_E), h[k]? = some e → zEo h.length e
theorem zOk.up {n n' : Nat} {v : Value} (h : zOk n v) (hn : n ≤ n') : zOk n' v := by
  cases v <;> first | trivial | exact Nat.lt_of_lt_of_le h hn
theorem zFo.up {n n' : Nat} {a : vp_A} (h : zFo n a) (hn : n ≤ n') : zFo n' a := by
  obtain ⟨m, f⟩ := a
  rcases f with f | f | f | f | f <;> first | trivial | exact fun j b q => Nat.lt_of_lt_of_le (h j b q) hn
theorem zEo.up {n n' : Nat} {e : va_E} (h : zEo n e) (hn : n ≤ n') : zEo n' e := by
  rcases e with a | o
  · exact zFo.up (a := a.2) h hn
  · exact fun v hv => zOk.up (h v hv) hn
theorem zV_ext {kn ad ad' : Nat → Nat} {n : Nat} {v : Value} (h : zOk n v) (ha : ∀ k, k < n → ad' k = ad k) : zV kn ad' v = zV kn ad v := by
  cases v <;> first | rfl | exact congrArg Value.ref (ha _ h)
theorem zF_ext {ad ad' : Nat → Nat} {n : Nat} {a : vp_A} (h : zFo n a) (ha : ∀ k, k < n → ad' k = ad k) : zF ad' a = zF ad a := by
  obtain ⟨m, f⟩ := a
  rcases f with f | f | f | f | f <;> first | rfl | skip
  have : (fun j => (f j).map ad') = (fun j => (f j).map ad) := by
    funext j
    cases hj : f j with
    | none => rfl
    | some b => exact congrArg some (ha b (h j b hj))
  show ((m, .inr (.inr (.inr (.inr (fun j => (f j).map ad'))))) : vp_A) = (m, .inr (.inr (.inr (.inr (fun j => (f j).map ad)))))
  rw [this]
theorem zE_ext {G : zG} {ad ad' : Nat → Nat} {n : Nat} {e : va_E} (h : zEo n e) (ha : ∀ k, k < n → ad' k = ad k) : zE G ad' e = zE G ad e := by
  rcases e with a | o
  · show Sum.inl (G.1 a.1, zF ad' a.2) = Sum.inl (G.1 a.1, zF ad a.2)
    rw [zF_ext (a := a.2) h ha]
  · show Sum.inr (o.1, o.2.map (zV G.2.2.1 ad')) = Sum.inr (o.1, o.2.map (zV G.2.2.1 ad))
    rw [List.map_congr_left (fun v hv => zV_ext (h v hv) ha)]
theorem zW_len (G : zG) (ad : Nat → Nat) (h : List va_E) : (zW G ad h).length = h.length := by simp [zW]
theorem zW_get {G : zG} {ad : Nat → Nat} {h : List va_E} {k : Nat} {e : va_E} (hk : h[k]? = some e) : (zW G ad h)[k]? = some (ad k, zE G ad e) := by
  simp [zW, List.getElem?_mapIdx, hk]
theorem zW_inv {G : zG} {ad : Nat → Nat} {h : List va_E} {k : Nat} {q : Nat × va_E} (hk : (zW G ad h)[k]? = some q) : ∃ e, h[k]? = some e ∧ q = (ad k, zE G ad e) := by
  rw [zW, List.getElem?_mapIdx] at hk
  cases he : h[k]? with
  | none => rw [he] at hk; cases hk
  | some e => rw [he] at hk; exact ⟨e, rfl, (Option.some.inj hk).symm⟩
theorem zW_set (G : zG) (ad : Nat → Nat) (h : List va_E) (k : Nat) (e : va_E) : (zW G ad h).set k (ad k, zE G ad e) = zW G ad (h.set k e) := by
  apply List.ext_getElem?
  intro i
  rw [zW, zW, List.getElem?_set, List.getElem?_mapIdx, List.getElem?_mapIdx, List.getElem?_set]
  by_cases hi : k = i
  · subst hi
    by_cases hl : k < h.length
    · simp [hl]
    · simp [hl]
  · simp [hi]
theorem zW_ext {G : zG} {ad ad' : Nat → Nat} {h : List va_E} (hc : zCl h) (ha : ∀ k, k < h.length → ad' k = ad k) : zW G ad' h = zW G ad h := by
  apply List.ext_getElem?
  intro i
  rw [zW, zW, List.getElem?_mapIdx, List.getElem?_mapIdx]
  cases he : h[i]? with
  | none => rfl
  | some e =>
    have hl : i < h.length := (List.getElem?_eq_some_iff.mp he).1
    show some (ad' i, zE G ad' e) = some (ad i, zE G ad e)
    rw [ha i hl, zE_ext (hc i e he) ha]
theorem zW_push {G : zG} {ad ad' : Nat → Nat} {h : List va_E} {q : Nat} {e : va_E} (hc : zCl h) (ha : ∀ k, k < h.length → ad' k = ad k) (hq : ad' h.length = q) : zW G ad h ++ [(q, zE G ad' e)] = zW G ad' (h ++ [e]) := by
  rw [← zW_ext (G := G) hc ha]
  subst hq
  simp [zW, List.mapIdx_append]
def zUp (ad : Nat → Nat) (n q : Nat) : Nat → Nat := fun k => if k = n then q else ad k
theorem zUp_lt {ad : Nat → Nat} {n q k : Nat} (h : k < n) : zUp ad n q k = ad k := if_neg (Nat.ne_of_lt h)
theorem zUp_at {ad : Nat → Nat} {n q : Nat} : zUp ad n q n = q := if_pos rfl
theorem zCl.set {h : List va_E} {k : Nat} {e : va_E} (hc : zCl h) (he : zEo h.length e) : zCl (h.set k e) := by
  intro i x hx
  rw [List.length_set]
  rw [List.getElem?_set] at hx
  by_cases hi : k = i
  · rw [if_pos hi] at hx
    split at hx
    · cases hx; exact he
    · cases hx
  · rw [if_neg hi] at hx
    exact hc i x hx
theorem zCl.push {h : List va_E} {e : va_E} (hc : zCl h) (he : zEo (h.length + 1) e) : zCl (h ++ [e]) := by
  intro i x hx
  rw [List.length_append, List.length_singleton]
  by_cases hi : i < h.length
  · rw [List.getElem?_append_left hi] at hx
    exact zEo.up (hc i x hx) (Nat.le_succ _)
  · rw [List.getElem?_append_right (Nat.not_lt.mp hi)] at hx
    rcases Nat.eq_zero_or_pos (i - h.length) with h0 | h0
    · rw [h0] at hx
      cases hx; exact he
    · rw [List.getElem?_eq_none (by simp; omega)] at hx
      cases hx
/-! ===== what stands from the start and is never written: the words of the enum, their list, the map of the switch, the script ===== -/
abbrev zNm : List String := ["MAN", "WAY", "PAILS", "WELL", "SPILL", "BACK", "THROW", "CELLS", "BURN", "WIND", "NORTH", "EAST", "SOUTH", "WEST", "AT", "ROW", "RUN", "STOP", "AIM", "GIVE", "OR", "AND", "NOT", "OUT", "MINUTE", "THROWN", "LOST", "BURNS", "WATER"]
abbrev zD10 : String := "LPailRow$Word;"
