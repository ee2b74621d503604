/-! ===== the law's beginning: the two worlds, side by side ===== -/
abbrev gM0 : Nat → Int32 := upd (fun _ => 0) 75 (-1)
abbrev sC0 : Nat → Int32 := upd z0 11 (-1)
abbrev rZ0 : zRs := (fun _ => 0, fun _ _ => 0)
theorem mg_0 : mg gM0 (fun _ => 0) = gM0 := by
  funext k
  unfold mg
  split
  · rename_i h
    show nI 0 = upd (fun _ => 0) 75 (-1) k
    unfold upd
    rw [if_neg (by omega)]
    rfl
  · rfl
theorem yI_00 : yI (yClr zYd0) := yClr_I (fun _ => by show (0 : Nat) < 400000000; omega) (fun _ => Nat.zero_le _) (fun _ => Nat.zero_le _) (fun _ => ⟨Nat.zero_le _, Nat.zero_le _, Nat.zero_le _⟩)
theorem zKp_00 {nw : Nat → Int32} {nm : Nat → Int64} (h200 : nw 200 = 0) (h540 : nw 540 = 0) : zKp (yClr zYd0) zpl0 zse0 (mStd nw) nm :=
  zKp_y (D := yClr zYd0) (P := zpl0) (S := zse0) yI_00 yX_clr ⟨yR_std, fun j hj => absurd hj (Nat.not_lt_zero j)⟩ ((mStd_200 (by omega)).trans h200) ((mStd_200 (by omega)).trans h540) ⟨fun _ => by show (0 : Nat) < 12; omega, fun _ => Nat.zero_le _⟩ (fun _ => ⟨Nat.zero_le _, by show (0 : Nat) < 256; omega, Nat.zero_le _⟩)
theorem cW_00 : cW rZ0 := ⟨fun p _ => ⟨by show (0 : Nat) < 12; omega, Nat.zero_le _, Nat.zero_le _, Nat.zero_le _, Nat.zero_le _, by show (0 : Nat) < 30; omega, Nat.zero_le _, Nat.zero_le _⟩, fun _ _ => Nat.zero_le _⟩
theorem rI_00 : rI rZ0 := ⟨Nat.zero_le _, fun _ _ => ⟨Nat.zero_le _, Nat.zero_le _, Nat.zero_le _, Nat.zero_le _⟩, Nat.zero_le _, Nat.zero_le _⟩
theorem mRw_00 : mRw rZ0 rBy0 (fun _ => 0) 0 := by
  refine ⟨rfl, fun j hj => ?_, fun p hp => absurd hp (Nat.not_lt_zero p)⟩
  have e : rBy rZ0 (nI j) = -1 := if_pos rfl
  rw [e]
  rcases (show j = 0 ∨ j = 1 ∨ j = 2 ∨ j = 3 ∨ j = 4 ∨ j = 5 by omega) with rfl | rfl | rfl | rfl | rfl | rfl <;> rfl
theorem zRel_0 (kf : Nat → Option Nat) (k0 : Nat) (k1 : Nat) (sg : Nat → Option Nat) (T : Nat → Nat) (ss : zSs) (o1 : Nat → Int32) (o2 : Nat → Int32) (o3 : Nat → Int32) (o4 : Nat → Int32) (fo : Nat → Nat) (fb : Nat → Nat) (fh : Nat → Nat) (hkf : kf 0 = some k0 ∧ kf 1 = some k1) (hT : ∀ j, j < 4 → sg j = some (T j)) : zRel 0 0 0 (fun _ => 0) 0 (fun _ => yClr zYd0) (fun _ => zpl0) (fun _ => zse0) (fun _ _ => 0) kf k0 k1 (fun _ => 0) (fun _ => rZ0) rZ0 (fun _ => sC0) (fun _ => (z0, z0, z0)) sg T 0 ss o1 o2 o3 o4 0 0 0 fo fb fh gM0 (fun _ => 0) (fun _ => 0) (fun _ => 0) (fun _ => 0) (fun _ => 0) rBy0 (fun _ => 0) (fun _ => 0) (fun _ => 0) (fun _ => 0) (fun _ => 0) (fun _ => 0) :=
  ⟨(Nat.zero_le _), (fun _ => by show (0 : Nat) < 256; omega), (Nat.zero_le _), hkf, hT, (by show zKp (yClr zYd0) zpl0 zse0 (mLay gM0 (fun _ => 0)) (fun _ => 0); rw [show mLay gM0 (fun _ => 0) = mStd (fun _ => 0) from if_pos rfl]; exact zKp_00 rfl rfl), (zKp_q (zKp_00 (nw := fun _ => 0) (nm := fun _ => 0) rfl rfl)), (zKp_q (zKp_00 (nw := fun _ => 0) (nm := fun _ => 0) rfl rfl)), (zKp_q (zKp_00 (nw := fun _ => 0) (nm := fun _ => 0) rfl rfl)), (fun _ _ => ⟨Nat.zero_le _, rfl⟩), (fun h => absurd h (by decide)), (fun h => absurd h (by decide)), (Or.inl rfl), cW_00, (Nat.zero_le _), cW_00, rI_00, (fun _ => ⟨Nat.zero_le _, Nat.zero_le _⟩), mRw_00, (Nat.zero_le _), ⟨rfl, fun p hp => absurd hp (Nat.not_lt_zero p)⟩, (Nat.zero_le _), ⟨rfl, fun p hp => absurd hp (Nat.not_lt_zero p)⟩, (Nat.zero_le _), ⟨rfl, fun p hp => absurd hp (Nat.not_lt_zero p)⟩, ⟨rfl, 0, 0, ⟨Nat.zero_le _, Nat.zero_le _, rfl, rfl, rfl⟩, Nat.zero_le _, Nat.zero_le _, Or.inl ⟨rfl, rfl, rfl⟩⟩, (Nat.zero_le _), ⟨rfl, fun j hj => absurd hj (Nat.not_lt_zero j)⟩, rfl, rfl, (Or.inl rfl)⟩
