/-! ===== a plan's text ===== -/
/-- a plan's data: how many things, their minutes, kinds, numbers, men -/
abbrev zPl : Type := Nat × (Nat → Nat) × (Nat → Nat) × (Nat → Nat) × (Nat → Nat)
abbrev kPl (p : Nat) (ap : Nat → Nat) (P : zPl) : zK := kPlan p ap P.1 P.2.1 P.2.2.1 P.2.2.2.1 P.2.2.2.2
abbrev zPp : Type := Nat × zTk × Nat × zPl
abbrev pWn (P : zPl) (k : Nat) : zPl := (P.1, P.2.1, P.2.2.1, un P.2.2.2.1 P.1 k, P.2.2.2.2)
abbrev pWk (P : zPl) (k : Nat) : zPl := (P.1, P.2.1, un P.2.2.1 P.1 k, P.2.2.2)
abbrev pWt (P : zPl) (k : Nat) : zPl := (P.1, un P.2.1 P.1 k, P.2.2)
abbrev pWm (P : zPl) (k v : Nat) : zPl := (P.1, P.2.1, P.2.2.1, P.2.2.2.1, un P.2.2.2.2 (P.1 * 12 + k) v)
def pSt (pm : Nat → Nat) (f k v : Nat) : Bool := decide (∃ j, j < k ∧ pm (f + j) = v)
def pMs (b : Nat → Nat) (n L : Nat) (D : zYd) (lst : Nat) : Nat → Nat → zTk → Nat → zPl → zPp
  | 0, _, τ, tk, P => (3, τ, tk, P)
  | q + 1, k, τ, tk, P =>
    if lst ≤ k ∧ tAt τ 59 = true then (0, τ, tk, pWn P k) else
    if tNm τ = false then (1, τ, tk, P) else
    match mFind D.2.2.1 τ.2.2.2.1 (D.1 0) 0 with
    | none => (3, τ, tk, P)
    | some i => if 12 ≤ k then (3, τ, tk, P) else if pSt P.2.2.2.2 (P.1 * 12) k i = true then (3, τ, tk, P) else pMs b n L D lst q (k + 1) (nxt b n L τ) tk (pWm P k i)
def pAmP (b : Nat → Nat) (n L : Nat) (D : zYd) (τ : zTk) (tk : Nat) (P : zPl) : zPp :=
  if (nxt b n L τ).1 = 3 ∧ pTold (nI (D.1 14)) (nI (D.1 15)) (nI (nxt b n L τ).2.2.2.1) = false then (2, nxt b n L τ, tk, P) else
  if tNu (nxt b n L τ) 0 2147483647 = 0 then (0, nxt b n L (nxt b n L τ), (nxt b n L τ).2.2.2.1, pWn P (nxt b n L τ).2.2.2.1) else (tNu (nxt b n L τ) 0 2147483647, nxt b n L τ, tk, pWn P tk)
def pGive (b : Nat → Nat) (n L : Nat) (D : zYd) (τ : zTk) (tk : Nat) (P : zPl) : zPp :=
  if tNuC (nxt b n L τ) (D.1 14) = 0 then (0, nxt b n L (nxt b n L τ), (nxt b n L τ).2.2.2.1, pWn P (nxt b n L τ).2.2.2.1) else (tNuC (nxt b n L τ) (D.1 14), nxt b n L τ, tk, pWn P tk)
def pThing (b : Nat → Nat) (n L : Nat) (D : zYd) (τ : zTk) (tk : Nat) (P : zPl) : zPp :=
  if τ.2.2.2.2 = some 15 then pMs b n L D 2 13 0 (nxt b n L τ) tk (pWk P 0) else
  if τ.2.2.2.2 = some 16 then pMs b n L D 1 13 0 (nxt b n L τ) tk (pWk P 1) else
  if τ.2.2.2.2 = some 18 then pAmP b n L D τ tk (pWk P 3) else
  if τ.2.2.2.2 = some 19 then pGive b n L D τ tk (pWk P 4) else
  if τ.2.2.2.2 = some 17 then (0, nxt b n L τ, tk, pWk P 2) else (1, τ, tk, P)
/-- q things at most; e: the earliest minute that may stand -/
def pThs (b : Nat → Nat) (n L : Nat) (D : zYd) : Nat → Nat → zTk → Nat → zPl → zPp
  | 0, _, τ, tk, P => (4, τ, tk, P)
  | q + 1, e, τ, tk, P =>
    if τ.1 = 0 then (if tEn n L τ = true then (0, τ, tk, P) else (1, τ, tk, P)) else
    if ¬ τ.2.2.2.2 = some 14 then (1, τ, tk, P) else
    if 20 ≤ P.1 then (4, τ, tk, P) else
    if ¬ tNu (nxt b n L τ) e 59 = 0 then (tNu (nxt b n L τ) e 59, nxt b n L τ, tk, P) else
    if ¬ (pThing b n L D (nxt b n L (nxt b n L τ)) (nxt b n L τ).2.2.2.1 (pWt P (nxt b n L τ).2.2.2.1)).1 = 0 then pThing b n L D (nxt b n L (nxt b n L τ)) (nxt b n L τ).2.2.2.1 (pWt P (nxt b n L τ).2.2.2.1) else
    if tAt (pThing b n L D (nxt b n L (nxt b n L τ)) (nxt b n L τ).2.2.2.1 (pWt P (nxt b n L τ).2.2.2.1)).2.1 59 = true then
      pThs b n L D q (nxt b n L τ).2.2.2.1 (nxt b n L (pThing b n L D (nxt b n L (nxt b n L τ)) (nxt b n L τ).2.2.2.1 (pWt P (nxt b n L τ).2.2.2.1)).2.1) (pThing b n L D (nxt b n L (nxt b n L τ)) (nxt b n L τ).2.2.2.1 (pWt P (nxt b n L τ).2.2.2.1)).2.2.1 (P.1 + 1, (pThing b n L D (nxt b n L (nxt b n L τ)) (nxt b n L τ).2.2.2.1 (pWt P (nxt b n L τ).2.2.2.1)).2.2.2.2)
    else (1, (pThing b n L D (nxt b n L (nxt b n L τ)) (nxt b n L τ).2.2.2.1 (pWt P (nxt b n L τ).2.2.2.1)).2)
theorem dX4_init_0 : decode cX4_init 0 = .ok (.aload_n 0, 1) := by decide +kernel
theorem dX4_init_1 : decode cX4_init 1 = .ok (.invokespecial 3, 3) := by decide +kernel
theorem dX4_init_4 : decode cX4_init 4 = .ok (.aload_n 0, 1) := by decide +kernel
theorem dX4_init_5 : decode cX4_init 5 = .ok (.bipush 20, 2) := by decide +kernel
theorem dX4_init_7 : decode cX4_init 7 = .ok (.newarray .int, 2) := by decide +kernel
theorem dX4_init_9 : decode cX4_init 9 = .ok (.putfield 9, 3) := by decide +kernel
theorem dX4_init_12 : decode cX4_init 12 = .ok (.aload_n 0, 1) := by decide +kernel
theorem dX4_init_13 : decode cX4_init 13 = .ok (.bipush 20, 2) := by decide +kernel
theorem dX4_init_15 : decode cX4_init 15 = .ok (.newarray .int, 2) := by decide +kernel
theorem dX4_init_17 : decode cX4_init 17 = .ok (.putfield 15, 3) := by decide +kernel
theorem dX4_init_20 : decode cX4_init 20 = .ok (.aload_n 0, 1) := by decide +kernel
theorem dX4_init_21 : decode cX4_init 21 = .ok (.bipush 20, 2) := by decide +kernel
theorem dX4_init_23 : decode cX4_init 23 = .ok (.newarray .int, 2) := by decide +kernel
theorem dX4_init_25 : decode cX4_init 25 = .ok (.putfield 18, 3) := by decide +kernel
theorem dX4_init_28 : decode cX4_init 28 = .ok (.aload_n 0, 1) := by decide +kernel
theorem dX4_init_29 : decode cX4_init 29 = .ok (.sipush 240, 3) := by decide +kernel
theorem dX4_init_32 : decode cX4_init 32 = .ok (.newarray .int, 2) := by decide +kernel
theorem dX4_init_34 : decode cX4_init 34 = .ok (.putfield 21, 3) := by decide +kernel
theorem dX4_init_37 : decode cX4_init 37 = .ok (.return_, 1) := by decide +kernel
set_option maxRecDepth 100000 in
theorem s_PlanInit (l : Launch) (dd : Nat) (t : Nat) (hd : 1 ≤ dd) : zSp l mX4_init dd 4 300 [.ref t] [(t, .inr (3, [.int 0, .null, .null, .null, .null]))] (fun r K' => r = none ∧ ∃ ap, K' = kPl t ap (0, fun _ => 0, fun _ => 0, fun _ => 0, fun _ => 0)) := by
  refine zSp.of (by decide) (Nat.le_of_ble_eq_true rfl) (fun h0 => ?_)
  show zS _ 4 300 0 [(0, .ref t)] [] [(t, .inr (3, [.int 0, .null, .null, .null, .null]))]
  refine zs_aload_n dX4_init_0 rfl rfl ?_
  refine zs_objInit dX4_init_1 zo_RX4 (show 1 ≤ dd by omega) (Nat.le_of_ble_eq_true rfl) ?_
  refine zs_aload_n dX4_init_4 rfl rfl ?_
  refine zs_bipush (v := nI 20) dX4_init_5 (by decide) ?_
  refine zs_newa_int (N := 20) dX4_init_7 (by decide) (by decide) (by decide) (by first | omega | (simp only [List.length_cons, List.length_nil]; omega)) (by first | omega | (simp only [List.length_cons, List.length_nil]; omega)) (fun q_1 => ?_)
  show zS _ _ _ _ _ _ [(t, .inr (3, [.int 0, .null, .null, .null, .null])), (q_1, .inl (0, 20, .inl (fun _ => 0)))]
  refine zs_putF 0 dX4_init_9 zf_RX4_9 rfl (Nat.le_of_ble_eq_true rfl) (zPv_a rfl) rfl (fun C T N hh => by cases hh; rfl) ?_
  show zS _ _ _ _ _ _ [(t, .inr (3, [.int 0, .ref q_1, .null, .null, .null])), (q_1, .inl (0, 20, .inl (fun _ => 0)))]
  refine zs_aload_n dX4_init_12 rfl rfl ?_
  refine zs_bipush (v := nI 20) dX4_init_13 (by decide) ?_
  refine zs_newa_int (N := 20) dX4_init_15 (by decide) (by decide) (by decide) (by first | omega | (simp only [List.length_cons, List.length_nil]; omega)) (by first | omega | (simp only [List.length_cons, List.length_nil]; omega)) (fun q_2 => ?_)
  show zS _ _ _ _ _ _ [(t, .inr (3, [.int 0, .ref q_1, .null, .null, .null])), (q_1, .inl (0, 20, .inl (fun _ => 0))), (q_2, .inl (0, 20, .inl (fun _ => 0)))]
  refine zs_putF 0 dX4_init_17 zf_RX4_15 rfl (Nat.le_of_ble_eq_true rfl) (zPv_a rfl) rfl (fun C T N hh => by cases hh; rfl) ?_
  show zS _ _ _ _ _ _ [(t, .inr (3, [.int 0, .ref q_1, .ref q_2, .null, .null])), (q_1, .inl (0, 20, .inl (fun _ => 0))), (q_2, .inl (0, 20, .inl (fun _ => 0)))]
  refine zs_aload_n dX4_init_20 rfl rfl ?_
  refine zs_bipush (v := nI 20) dX4_init_21 (by decide) ?_
  refine zs_newa_int (N := 20) dX4_init_23 (by decide) (by decide) (by decide) (by first | omega | (simp only [List.length_cons, List.length_nil]; omega)) (by first | omega | (simp only [List.length_cons, List.length_nil]; omega)) (fun q_3 => ?_)
  show zS _ _ _ _ _ _ [(t, .inr (3, [.int 0, .ref q_1, .ref q_2, .null, .null])), (q_1, .inl (0, 20, .inl (fun _ => 0))), (q_2, .inl (0, 20, .inl (fun _ => 0))), (q_3, .inl (0, 20, .inl (fun _ => 0)))]
  refine zs_putF 0 dX4_init_25 zf_RX4_18 rfl (Nat.le_of_ble_eq_true rfl) (zPv_a rfl) rfl (fun C T N hh => by cases hh; rfl) ?_
  show zS _ _ _ _ _ _ [(t, .inr (3, [.int 0, .ref q_1, .ref q_2, .ref q_3, .null])), (q_1, .inl (0, 20, .inl (fun _ => 0))), (q_2, .inl (0, 20, .inl (fun _ => 0))), (q_3, .inl (0, 20, .inl (fun _ => 0)))]
  refine zs_aload_n dX4_init_28 rfl rfl ?_
  refine zs_sipush (v := nI 240) dX4_init_29 (by decide) ?_
  refine zs_newa_int (N := 240) dX4_init_32 (by decide) (by decide) (by decide) (by first | omega | (simp only [List.length_cons, List.length_nil]; omega)) (by first | omega | (simp only [List.length_cons, List.length_nil]; omega)) (fun q_4 => ?_)
  show zS _ _ _ _ _ _ [(t, .inr (3, [.int 0, .ref q_1, .ref q_2, .ref q_3, .null])), (q_1, .inl (0, 20, .inl (fun _ => 0))), (q_2, .inl (0, 20, .inl (fun _ => 0))), (q_3, .inl (0, 20, .inl (fun _ => 0))), (q_4, .inl (0, 240, .inl (fun _ => 0)))]
  refine zs_putF 0 dX4_init_34 zf_RX4_21 rfl (Nat.le_of_ble_eq_true rfl) (zPv_a rfl) rfl (fun C T N hh => by cases hh; rfl) ?_
  show zS _ _ _ _ _ _ [(t, .inr (3, [.int 0, .ref q_1, .ref q_2, .ref q_3, .ref q_4])), (q_1, .inl (0, 20, .inl (fun _ => 0))), (q_2, .inl (0, 20, .inl (fun _ => 0))), (q_3, .inl (0, 20, .inl (fun _ => 0))), (q_4, .inl (0, 240, .inl (fun _ => 0)))]
  exact zs_vret dX4_init_37 rfl ⟨rfl, (fun j => [0, q_1, q_2, q_3, q_4].getD j 0), rfl⟩
theorem dX4_clear_0 : decode cX4_clear 0 = .ok (.aload_n 0, 1) := by decide +kernel
theorem dX4_clear_1 : decode cX4_clear 1 = .ok (.iconst 0, 1) := by decide +kernel
theorem dX4_clear_2 : decode cX4_clear 2 = .ok (.putfield 24, 3) := by decide +kernel
theorem dX4_clear_5 : decode cX4_clear 5 = .ok (.return_, 1) := by decide +kernel
set_option maxRecDepth 100000 in
theorem s_pClear (l : Launch) (dd : Nat) (p : Nat) (ap : Nat → Nat) (P : zPl)  : zSp l mX4_clear dd 0 0 [.ref p] [(p, .inr (3, fPlan ap P.1))] (fun r K' => r = none ∧ K' = [(p, .inr (3, fPlan ap 0))]) := by
  refine zSp.of (by decide) (Nat.le_of_ble_eq_true rfl) (fun h0 => ?_)
  show zS _ 0 0 0 [(0, .ref p)] [] [(p, .inr (3, fPlan ap P.1))]
  refine zs_aload_n dX4_clear_0 rfl rfl ?_
  refine zs_iconst (v := nI 0) dX4_clear_1 (by decide) ?_
  refine zs_put 0 dX4_clear_2 zf_RX4_24 rfl (Nat.le_of_ble_eq_true rfl) (zPv_i _) ?_
  show zS _ _ _ _ _ _ [(p, .inr (3, fPlan ap 0))]
  exact zs_vret dX4_clear_5 rfl ⟨rfl, rfl⟩
theorem dX4_copy_0 : decode cX4_copy 0 = .ok (.aload_n 0, 1) := by decide +kernel
theorem dX4_copy_1 : decode cX4_copy 1 = .ok (.aload_n 1, 1) := by decide +kernel
theorem dX4_copy_2 : decode cX4_copy 2 = .ok (.getfield 24, 3) := by decide +kernel
theorem dX4_copy_5 : decode cX4_copy 5 = .ok (.putfield 24, 3) := by decide +kernel
theorem dX4_copy_8 : decode cX4_copy 8 = .ok (.aload_n 1, 1) := by decide +kernel
theorem dX4_copy_9 : decode cX4_copy 9 = .ok (.getfield 9, 3) := by decide +kernel
theorem dX4_copy_12 : decode cX4_copy 12 = .ok (.iconst 0, 1) := by decide +kernel
theorem dX4_copy_13 : decode cX4_copy 13 = .ok (.aload_n 0, 1) := by decide +kernel
theorem dX4_copy_14 : decode cX4_copy 14 = .ok (.getfield 9, 3) := by decide +kernel
theorem dX4_copy_17 : decode cX4_copy 17 = .ok (.iconst 0, 1) := by decide +kernel
theorem dX4_copy_18 : decode cX4_copy 18 = .ok (.bipush 20, 2) := by decide +kernel
theorem dX4_copy_20 : decode cX4_copy 20 = .ok (.invokestatic 28, 3) := by decide +kernel
theorem dX4_copy_23 : decode cX4_copy 23 = .ok (.aload_n 1, 1) := by decide +kernel
theorem dX4_copy_24 : decode cX4_copy 24 = .ok (.getfield 15, 3) := by decide +kernel
theorem dX4_copy_27 : decode cX4_copy 27 = .ok (.iconst 0, 1) := by decide +kernel
theorem dX4_copy_28 : decode cX4_copy 28 = .ok (.aload_n 0, 1) := by decide +kernel
theorem dX4_copy_29 : decode cX4_copy 29 = .ok (.getfield 15, 3) := by decide +kernel
theorem dX4_copy_32 : decode cX4_copy 32 = .ok (.iconst 0, 1) := by decide +kernel
theorem dX4_copy_33 : decode cX4_copy 33 = .ok (.bipush 20, 2) := by decide +kernel
theorem dX4_copy_35 : decode cX4_copy 35 = .ok (.invokestatic 28, 3) := by decide +kernel
theorem dX4_copy_38 : decode cX4_copy 38 = .ok (.aload_n 1, 1) := by decide +kernel
theorem dX4_copy_39 : decode cX4_copy 39 = .ok (.getfield 18, 3) := by decide +kernel
theorem dX4_copy_42 : decode cX4_copy 42 = .ok (.iconst 0, 1) := by decide +kernel
theorem dX4_copy_43 : decode cX4_copy 43 = .ok (.aload_n 0, 1) := by decide +kernel
theorem dX4_copy_44 : decode cX4_copy 44 = .ok (.getfield 18, 3) := by decide +kernel
theorem dX4_copy_47 : decode cX4_copy 47 = .ok (.iconst 0, 1) := by decide +kernel
theorem dX4_copy_48 : decode cX4_copy 48 = .ok (.bipush 20, 2) := by decide +kernel
theorem dX4_copy_50 : decode cX4_copy 50 = .ok (.invokestatic 28, 3) := by decide +kernel
theorem dX4_copy_53 : decode cX4_copy 53 = .ok (.aload_n 1, 1) := by decide +kernel
theorem dX4_copy_54 : decode cX4_copy 54 = .ok (.getfield 21, 3) := by decide +kernel
theorem dX4_copy_57 : decode cX4_copy 57 = .ok (.iconst 0, 1) := by decide +kernel
theorem dX4_copy_58 : decode cX4_copy 58 = .ok (.aload_n 0, 1) := by decide +kernel
theorem dX4_copy_59 : decode cX4_copy 59 = .ok (.getfield 21, 3) := by decide +kernel
theorem dX4_copy_62 : decode cX4_copy 62 = .ok (.iconst 0, 1) := by decide +kernel
theorem dX4_copy_63 : decode cX4_copy 63 = .ok (.sipush 240, 3) := by decide +kernel
theorem dX4_copy_66 : decode cX4_copy 66 = .ok (.invokestatic 28, 3) := by decide +kernel
theorem dX4_copy_69 : decode cX4_copy 69 = .ok (.return_, 1) := by decide +kernel
def pCp (P Q : zPl) : zPl := (Q.1, nCl Q.2.1 P.2.1 20, nCl Q.2.2.1 P.2.2.1 20, nCl Q.2.2.2.1 P.2.2.2.1 20, nCl Q.2.2.2.2 P.2.2.2.2 240)
set_option maxRecDepth 100000 in
theorem s_pCopy (l : Launch) (dd : Nat) (p q : Nat) (ap aq : Nat → Nat) (P Q : zPl) (hd : 1 ≤ dd) : zSp l mX4_copy dd 0 0 [.ref p, .ref q] [(p, .inr (3, fPlan ap P.1)), (ap 1, .inl (0, 20, .inl (nF P.2.1))), (ap 2, .inl (0, 20, .inl (nF P.2.2.1))), (ap 3, .inl (0, 20, .inl (nF P.2.2.2.1))), (ap 4, .inl (0, 240, .inl (nF P.2.2.2.2))), (q, .inr (3, fPlan aq Q.1)), (aq 1, .inl (0, 20, .inl (nF Q.2.1))), (aq 2, .inl (0, 20, .inl (nF Q.2.2.1))), (aq 3, .inl (0, 20, .inl (nF Q.2.2.2.1))), (aq 4, .inl (0, 240, .inl (nF Q.2.2.2.2)))] (fun r K' => r = none ∧ K' = kPl p ap (pCp P Q) ++ kPl q aq Q) := by
  refine zSp.of (by decide) (Nat.le_of_ble_eq_true rfl) (fun h0 => ?_)
  show zS _ 0 0 0 [(0, .ref p), (1, .ref q)] [] [(p, .inr (3, fPlan ap P.1)), (ap 1, .inl (0, 20, .inl (nF P.2.1))), (ap 2, .inl (0, 20, .inl (nF P.2.2.1))), (ap 3, .inl (0, 20, .inl (nF P.2.2.2.1))), (ap 4, .inl (0, 240, .inl (nF P.2.2.2.2))), (q, .inr (3, fPlan aq Q.1)), (aq 1, .inl (0, 20, .inl (nF Q.2.1))), (aq 2, .inl (0, 20, .inl (nF Q.2.2.1))), (aq 3, .inl (0, 20, .inl (nF Q.2.2.2.1))), (aq 4, .inl (0, 240, .inl (nF Q.2.2.2.2)))]
  refine zs_aload_n dX4_copy_0 rfl rfl ?_
  refine zs_aload_n dX4_copy_1 rfl rfl ?_
  refine zs_get 5 dX4_copy_2 zf_RX4_24 rfl (v := .int (nI Q.1)) rfl ?_
  refine zs_put 0 dX4_copy_5 zf_RX4_24 rfl (Nat.le_of_ble_eq_true rfl) (zPv_i _) ?_
  show zS _ _ _ _ _ _ [(p, .inr (3, fPlan ap Q.1)), (ap 1, .inl (0, 20, .inl (nF P.2.1))), (ap 2, .inl (0, 20, .inl (nF P.2.2.1))), (ap 3, .inl (0, 20, .inl (nF P.2.2.2.1))), (ap 4, .inl (0, 240, .inl (nF P.2.2.2.2))), (q, .inr (3, fPlan aq Q.1)), (aq 1, .inl (0, 20, .inl (nF Q.2.1))), (aq 2, .inl (0, 20, .inl (nF Q.2.2.1))), (aq 3, .inl (0, 20, .inl (nF Q.2.2.2.1))), (aq 4, .inl (0, 240, .inl (nF Q.2.2.2.2)))]
  refine zs_aload_n dX4_copy_8 rfl rfl ?_
  refine zs_get 5 dX4_copy_9 zf_RX4_9 rfl (v := .ref (aq 1)) rfl ?_
  refine zs_iconst (v := nI 0) dX4_copy_12 (by decide) ?_
  refine zs_aload_n dX4_copy_13 rfl rfl ?_
  refine zs_get 0 dX4_copy_14 zf_RX4_9 rfl (v := .ref (ap 1)) rfl ?_
  refine zs_iconst (v := nI 0) dX4_copy_17 (by decide) ?_
  refine zs_bipush (v := nI 20) dX4_copy_18 (by decide) ?_
  refine zs_copy 6 1 dX4_copy_20 zl_RX4_28 zcpy1 zcpy2 zcpy3 (show 1 ≤ dd by omega) (Nat.le_of_ble_eq_true rfl) rfl rfl (by decide) (by decide) (by decide) (by decide) (by decide) ?_
  show zS _ _ _ _ _ _ [(p, .inr (3, fPlan ap Q.1)), (ap 1, .inl (0, 20, .inl (va_cpy (nF Q.2.1) (nF P.2.1) (nI 0).toNatClampNeg (nI 0).toNatClampNeg (nI 20).toNatClampNeg))), (ap 2, .inl (0, 20, .inl (nF P.2.2.1))), (ap 3, .inl (0, 20, .inl (nF P.2.2.2.1))), (ap 4, .inl (0, 240, .inl (nF P.2.2.2.2))), (q, .inr (3, fPlan aq Q.1)), (aq 1, .inl (0, 20, .inl (nF Q.2.1))), (aq 2, .inl (0, 20, .inl (nF Q.2.2.1))), (aq 3, .inl (0, 20, .inl (nF Q.2.2.2.1))), (aq 4, .inl (0, 240, .inl (nF Q.2.2.2.2)))]
  rw [show (nI 0).toNatClampNeg = 0 from rfl, show (nI 20).toNatClampNeg = 20 from rfl, va_cpy_0, pCl_nF]
  show zS _ _ _ _ _ _ [(p, .inr (3, fPlan ap Q.1)), (ap 1, .inl (0, 20, .inl (nF (nCl Q.2.1 P.2.1 20)))), (ap 2, .inl (0, 20, .inl (nF P.2.2.1))), (ap 3, .inl (0, 20, .inl (nF P.2.2.2.1))), (ap 4, .inl (0, 240, .inl (nF P.2.2.2.2))), (q, .inr (3, fPlan aq Q.1)), (aq 1, .inl (0, 20, .inl (nF Q.2.1))), (aq 2, .inl (0, 20, .inl (nF Q.2.2.1))), (aq 3, .inl (0, 20, .inl (nF Q.2.2.2.1))), (aq 4, .inl (0, 240, .inl (nF Q.2.2.2.2)))]
  refine zs_aload_n dX4_copy_23 rfl rfl ?_
  refine zs_get 5 dX4_copy_24 zf_RX4_15 rfl (v := .ref (aq 2)) rfl ?_
  refine zs_iconst (v := nI 0) dX4_copy_27 (by decide) ?_
  refine zs_aload_n dX4_copy_28 rfl rfl ?_
  refine zs_get 0 dX4_copy_29 zf_RX4_15 rfl (v := .ref (ap 2)) rfl ?_
  refine zs_iconst (v := nI 0) dX4_copy_32 (by decide) ?_
  refine zs_bipush (v := nI 20) dX4_copy_33 (by decide) ?_
  refine zs_copy 7 2 dX4_copy_35 zl_RX4_28 zcpy1 zcpy2 zcpy3 (show 1 ≤ dd by omega) (Nat.le_of_ble_eq_true rfl) rfl rfl (by decide) (by decide) (by decide) (by decide) (by decide) ?_
  show zS _ _ _ _ _ _ [(p, .inr (3, fPlan ap Q.1)), (ap 1, .inl (0, 20, .inl (nF (nCl Q.2.1 P.2.1 20)))), (ap 2, .inl (0, 20, .inl (va_cpy (nF Q.2.2.1) (nF P.2.2.1) (nI 0).toNatClampNeg (nI 0).toNatClampNeg (nI 20).toNatClampNeg))), (ap 3, .inl (0, 20, .inl (nF P.2.2.2.1))), (ap 4, .inl (0, 240, .inl (nF P.2.2.2.2))), (q, .inr (3, fPlan aq Q.1)), (aq 1, .inl (0, 20, .inl (nF Q.2.1))), (aq 2, .inl (0, 20, .inl (nF Q.2.2.1))), (aq 3, .inl (0, 20, .inl (nF Q.2.2.2.1))), (aq 4, .inl (0, 240, .inl (nF Q.2.2.2.2)))]
  rw [show (nI 0).toNatClampNeg = 0 from rfl, show (nI 20).toNatClampNeg = 20 from rfl, va_cpy_0, pCl_nF]
  show zS _ _ _ _ _ _ [(p, .inr (3, fPlan ap Q.1)), (ap 1, .inl (0, 20, .inl (nF (nCl Q.2.1 P.2.1 20)))), (ap 2, .inl (0, 20, .inl (nF (nCl Q.2.2.1 P.2.2.1 20)))), (ap 3, .inl (0, 20, .inl (nF P.2.2.2.1))), (ap 4, .inl (0, 240, .inl (nF P.2.2.2.2))), (q, .inr (3, fPlan aq Q.1)), (aq 1, .inl (0, 20, .inl (nF Q.2.1))), (aq 2, .inl (0, 20, .inl (nF Q.2.2.1))), (aq 3, .inl (0, 20, .inl (nF Q.2.2.2.1))), (aq 4, .inl (0, 240, .inl (nF Q.2.2.2.2)))]
  refine zs_aload_n dX4_copy_38 rfl rfl ?_
  refine zs_get 5 dX4_copy_39 zf_RX4_18 rfl (v := .ref (aq 3)) rfl ?_
  refine zs_iconst (v := nI 0) dX4_copy_42 (by decide) ?_
  refine zs_aload_n dX4_copy_43 rfl rfl ?_
  refine zs_get 0 dX4_copy_44 zf_RX4_18 rfl (v := .ref (ap 3)) rfl ?_
  refine zs_iconst (v := nI 0) dX4_copy_47 (by decide) ?_
  refine zs_bipush (v := nI 20) dX4_copy_48 (by decide) ?_
  refine zs_copy 8 3 dX4_copy_50 zl_RX4_28 zcpy1 zcpy2 zcpy3 (show 1 ≤ dd by omega) (Nat.le_of_ble_eq_true rfl) rfl rfl (by decide) (by decide) (by decide) (by decide) (by decide) ?_
  show zS _ _ _ _ _ _ [(p, .inr (3, fPlan ap Q.1)), (ap 1, .inl (0, 20, .inl (nF (nCl Q.2.1 P.2.1 20)))), (ap 2, .inl (0, 20, .inl (nF (nCl Q.2.2.1 P.2.2.1 20)))), (ap 3, .inl (0, 20, .inl (va_cpy (nF Q.2.2.2.1) (nF P.2.2.2.1) (nI 0).toNatClampNeg (nI 0).toNatClampNeg (nI 20).toNatClampNeg))), (ap 4, .inl (0, 240, .inl (nF P.2.2.2.2))), (q, .inr (3, fPlan aq Q.1)), (aq 1, .inl (0, 20, .inl (nF Q.2.1))), (aq 2, .inl (0, 20, .inl (nF Q.2.2.1))), (aq 3, .inl (0, 20, .inl (nF Q.2.2.2.1))), (aq 4, .inl (0, 240, .inl (nF Q.2.2.2.2)))]
  rw [show (nI 0).toNatClampNeg = 0 from rfl, show (nI 20).toNatClampNeg = 20 from rfl, va_cpy_0, pCl_nF]
  show zS _ _ _ _ _ _ [(p, .inr (3, fPlan ap Q.1)), (ap 1, .inl (0, 20, .inl (nF (nCl Q.2.1 P.2.1 20)))), (ap 2, .inl (0, 20, .inl (nF (nCl Q.2.2.1 P.2.2.1 20)))), (ap 3, .inl (0, 20, .inl (nF (nCl Q.2.2.2.1 P.2.2.2.1 20)))), (ap 4, .inl (0, 240, .inl (nF P.2.2.2.2))), (q, .inr (3, fPlan aq Q.1)), (aq 1, .inl (0, 20, .inl (nF Q.2.1))), (aq 2, .inl (0, 20, .inl (nF Q.2.2.1))), (aq 3, .inl (0, 20, .inl (nF Q.2.2.2.1))), (aq 4, .inl (0, 240, .inl (nF Q.2.2.2.2)))]
  refine zs_aload_n dX4_copy_53 rfl rfl ?_
  refine zs_get 5 dX4_copy_54 zf_RX4_21 rfl (v := .ref (aq 4)) rfl ?_
  refine zs_iconst (v := nI 0) dX4_copy_57 (by decide) ?_
  refine zs_aload_n dX4_copy_58 rfl rfl ?_
  refine zs_get 0 dX4_copy_59 zf_RX4_21 rfl (v := .ref (ap 4)) rfl ?_
  refine zs_iconst (v := nI 0) dX4_copy_62 (by decide) ?_
  refine zs_sipush (v := nI 240) dX4_copy_63 (by decide) ?_
  refine zs_copy 9 4 dX4_copy_66 zl_RX4_28 zcpy1 zcpy2 zcpy3 (show 1 ≤ dd by omega) (Nat.le_of_ble_eq_true rfl) rfl rfl (by decide) (by decide) (by decide) (by decide) (by decide) ?_
  show zS _ _ _ _ _ _ [(p, .inr (3, fPlan ap Q.1)), (ap 1, .inl (0, 20, .inl (nF (nCl Q.2.1 P.2.1 20)))), (ap 2, .inl (0, 20, .inl (nF (nCl Q.2.2.1 P.2.2.1 20)))), (ap 3, .inl (0, 20, .inl (nF (nCl Q.2.2.2.1 P.2.2.2.1 20)))), (ap 4, .inl (0, 240, .inl (va_cpy (nF Q.2.2.2.2) (nF P.2.2.2.2) (nI 0).toNatClampNeg (nI 0).toNatClampNeg (nI 240).toNatClampNeg))), (q, .inr (3, fPlan aq Q.1)), (aq 1, .inl (0, 20, .inl (nF Q.2.1))), (aq 2, .inl (0, 20, .inl (nF Q.2.2.1))), (aq 3, .inl (0, 20, .inl (nF Q.2.2.2.1))), (aq 4, .inl (0, 240, .inl (nF Q.2.2.2.2)))]
  rw [show (nI 0).toNatClampNeg = 0 from rfl, show (nI 240).toNatClampNeg = 240 from rfl, va_cpy_0, pCl_nF]
  show zS _ _ _ _ _ _ [(p, .inr (3, fPlan ap Q.1)), (ap 1, .inl (0, 20, .inl (nF (nCl Q.2.1 P.2.1 20)))), (ap 2, .inl (0, 20, .inl (nF (nCl Q.2.2.1 P.2.2.1 20)))), (ap 3, .inl (0, 20, .inl (nF (nCl Q.2.2.2.1 P.2.2.2.1 20)))), (ap 4, .inl (0, 240, .inl (nF (nCl Q.2.2.2.2 P.2.2.2.2 240)))), (q, .inr (3, fPlan aq Q.1)), (aq 1, .inl (0, 20, .inl (nF Q.2.1))), (aq 2, .inl (0, 20, .inl (nF Q.2.2.1))), (aq 3, .inl (0, 20, .inl (nF Q.2.2.2.1))), (aq 4, .inl (0, 240, .inl (nF Q.2.2.2.2)))]
  exact zs_vret dX4_copy_69 rfl ⟨rfl, rfl⟩
theorem dX4_stands_0 : decode cX4_stands 0 = .ok (.iconst 0, 1) := by decide +kernel
theorem dX4_stands_1 : decode cX4_stands 1 = .ok (.istore 4, 2) := by decide +kernel
theorem dX4_stands_3 : decode cX4_stands 3 = .ok (.iload 4, 2) := by decide +kernel
theorem dX4_stands_5 : decode cX4_stands 5 = .ok (.iload_n 2, 1) := by decide +kernel
theorem dX4_stands_6 : decode cX4_stands 6 = .ok (.if_icmp .ge 24, 3) := by decide +kernel
theorem dX4_stands_9 : decode cX4_stands 9 = .ok (.aload_n 0, 1) := by decide +kernel
theorem dX4_stands_10 : decode cX4_stands 10 = .ok (.getfield 21, 3) := by decide +kernel
theorem dX4_stands_13 : decode cX4_stands 13 = .ok (.iload_n 1, 1) := by decide +kernel
theorem dX4_stands_14 : decode cX4_stands 14 = .ok (.iload 4, 2) := by decide +kernel
theorem dX4_stands_16 : decode cX4_stands 16 = .ok (.iadd, 1) := by decide +kernel
theorem dX4_stands_17 : decode cX4_stands 17 = .ok (.iaload, 1) := by decide +kernel
theorem dX4_stands_18 : decode cX4_stands 18 = .ok (.iload_n 3, 1) := by decide +kernel
theorem dX4_stands_19 : decode cX4_stands 19 = .ok (.if_icmp .ne 5, 3) := by decide +kernel
theorem dX4_stands_22 : decode cX4_stands 22 = .ok (.iconst 1, 1) := by decide +kernel
theorem dX4_stands_23 : decode cX4_stands 23 = .ok (.ireturn, 1) := by decide +kernel
theorem dX4_stands_24 : decode cX4_stands 24 = .ok (.iinc 4 1, 3) := by decide +kernel
theorem dX4_stands_27 : decode cX4_stands 27 = .ok (.goto (-24), 3) := by decide +kernel
theorem dX4_stands_30 : decode cX4_stands 30 = .ok (.iconst 0, 1) := by decide +kernel
theorem dX4_stands_31 : decode cX4_stands 31 = .ok (.ireturn, 1) := by decide +kernel
theorem pSt_0 {pm : Nat → Nat} {f v : Nat} : pSt pm f 0 v = false := decide_eq_false (fun ⟨_, h, _⟩ => absurd h (Nat.not_lt_zero _))
theorem pSt_y {pm : Nat → Nat} {f k v i : Nat} (hi : i < k) (h : pm (f + i) = v) : pSt pm f k v = true := decide_eq_true ⟨i, hi, h⟩
theorem pSt_n {pm : Nat → Nat} {f k v : Nat} (h : ∀ j, j < k → pm (f + j) ≠ v) : pSt pm f k v = false := decide_eq_false (fun ⟨j, hj, e⟩ => h j hj e)
set_option maxRecDepth 100000 in
theorem lp_stands {l : Launch} {dd : Nat} {Po : zPo} {K0 : zK} {h0 : List va_E} {Xo : zK → Prop} {Gc : zG → Prop} (p : Nat) (ap : Nat → Nat) (P : zPl) (f k v : Nat) (hf : f + k ≤ 240) (hv : v < 2147483648) (hpm : ∀ j, P.2.2.2.2 j < 2147483648) (hP : ∀ r K', r = some (.int (bI (pSt P.2.2.2.2 f k v))) ∧ K' = [(p, .inr (3, fPlan ap P.1)), (ap 4, .inl (0, 240, .inl (nF P.2.2.2.2)))] → Po r K') : ∀ (m i : Nat), i + m = k → (∀ j, j < i → P.2.2.2.2 (f + j) ≠ v) → zS (l, mX4_stands, dd, Po, K0, h0, Xo, Gc) 0 0 3 [(0, .ref p), (1, .int (nI f)), (2, .int (nI k)), (3, .int (nI v)), (4, .int (nI i))] [] [(p, .inr (3, fPlan ap P.1)), (ap 4, .inl (0, 240, .inl (nF P.2.2.2.2)))] := by
  intro m
  induction m with
  | zero =>
    intro i hi hno
    refine zs_iload dX4_stands_3 rfl ?_
    refine zs_iload_n dX4_stands_5 rfl ?_
    refine zs_icmp_ge (tgt := 30) dX4_stands_6 (by decide) (fun c_1 => ?_) (fun c_1 => (c_1 (by rw [show i = k by omega]; exact Int32.le_refl _) : False).elim)
    refine zs_iconst (v := nI 0) dX4_stands_30 (by decide) ?_
    exact zs_zret dX4_stands_31 rfl (Or.inl rfl) (hP _ _ ⟨by rw [pSt_n (fun j hj => hno j (by omega))]; rfl, rfl⟩)
  | succ m ih =>
    intro i hi hno
    refine zs_iload dX4_stands_3 rfl ?_
    refine zs_iload_n dX4_stands_5 rfl ?_
    refine zs_icmp_ge (tgt := 30) dX4_stands_6 (by decide) (fun c_1 => (nI_ge (show i < k by omega) (by omega) c_1 : False).elim) (fun c_1 => ?_)
    refine zs_aload_n dX4_stands_9 rfl rfl ?_
    refine zs_get 0 dX4_stands_10 zf_RX4_21 rfl (v := .ref (ap 4)) rfl ?_
    refine zs_iload_n dX4_stands_13 rfl ?_
    refine zs_iload dX4_stands_14 rfl ?_
    refine zs_iadd dX4_stands_16 ?_
    refine zs_as (y := nI (f + i)) (nI_add _ _) ?_
    have hb := hpm (f + i)
    refine zs_iald 1 dX4_stands_17 rfl (vp_in_nI (by omega) (by omega)) ?_
    refine zs_as (y := nI (P.2.2.2.2 (f + i))) (by rw [nI_c (n := f + i) (by omega)]; rfl) ?_
    refine zs_iload_n dX4_stands_18 rfl ?_
    refine zs_icmp_ne (tgt := 24) dX4_stands_19 (by decide) (fun c_2 => ?_) (fun c_2 => ?_)
    · have c_2 : ¬ ((P.2.2.2.2 (f + i)) = v) := by have hc := c_2; rw [nI_eq' (by omega) (by omega)] at hc; exact hc
      refine zs_iinc (v := (nI (i + 1))) (lv' := [(4, .int (nI (i + 1))), (0, .ref p), (1, .int (nI f)), (2, .int (nI k)), (3, .int (nI v))]) dX4_stands_24 rfl (nI_add _ 1) (Nat.le_of_ble_eq_true rfl) rfl ?_
      refine zs_goto (tgt := 3) dX4_stands_27 (by decide) ?_
      refine zs_lv [1, 2, 3, 4, 0] rfl ?_
      exact ih (i + 1) (by omega) (fun j hj => (Nat.lt_or_eq_of_le (Nat.le_of_lt_succ hj)).elim (hno j) (fun e => e ▸ c_2))
    · have c_2 : (P.2.2.2.2 (f + i)) = v := by have hc := c_2; rw [nI_eq' (by omega) (by omega)] at hc; exact hc
      refine zs_iconst (v := nI 1) dX4_stands_22 (by decide) ?_
      exact zs_zret dX4_stands_23 rfl (Or.inr rfl) (hP _ _ ⟨by rw [pSt_y (show i < k by omega) c_2]; rfl, rfl⟩)
set_option maxRecDepth 100000 in
theorem s_stands (l : Launch) (dd : Nat) (p : Nat) (ap : Nat → Nat) (P : zPl) (f k v : Nat) (hf : f + k ≤ 240) (hv : v < 2147483648) (hpm : ∀ j, P.2.2.2.2 j < 2147483648) : zSp l mX4_stands dd 0 0 [.ref p, .int (nI f), .int (nI k), .int (nI v)] [(p, .inr (3, fPlan ap P.1)), (ap 4, .inl (0, 240, .inl (nF P.2.2.2.2)))] (fun r K' => r = some (.int (bI (pSt P.2.2.2.2 f k v))) ∧ K' = [(p, .inr (3, fPlan ap P.1)), (ap 4, .inl (0, 240, .inl (nF P.2.2.2.2)))]) := by
  refine zSp.of (by decide) (Nat.le_of_ble_eq_true rfl) (fun h0 => ?_)
  show zS _ 0 0 0 [(0, .ref p), (1, .int (nI f)), (2, .int (nI k)), (3, .int (nI v))] [] [(p, .inr (3, fPlan ap P.1)), (ap 4, .inl (0, 240, .inl (nF P.2.2.2.2)))]
  refine zs_iconst (v := nI 0) dX4_stands_0 (by decide) ?_
  refine zs_istore (lv' := [(4, .int (nI 0)), (0, .ref p), (1, .int (nI f)), (2, .int (nI k)), (3, .int (nI v))]) dX4_stands_1 (Nat.le_of_ble_eq_true rfl) rfl ?_
  refine zs_lv [1, 2, 3, 4, 0] rfl ?_
  exact lp_stands p ap P f k v hf hv hpm (fun r K1 h => h) k 0 (Nat.zero_add _) (fun j hj => absurd hj (Nat.not_lt_zero j))
theorem dX4_readMen_0 : decode cX4_readMen 0 = .ok (.aload_n 1, 1) := by decide +kernel
theorem dX4_readMen_1 : decode cX4_readMen 1 = .ok (.invokevirtual 58, 3) := by decide +kernel
theorem dX4_readMen_4 : decode cX4_readMen 4 = .ok (.aload_n 0, 1) := by decide +kernel
theorem dX4_readMen_5 : decode cX4_readMen 5 = .ok (.getfield 24, 3) := by decide +kernel
theorem dX4_readMen_8 : decode cX4_readMen 8 = .ok (.bipush 12, 2) := by decide +kernel
theorem dX4_readMen_10 : decode cX4_readMen 10 = .ok (.imul, 1) := by decide +kernel
theorem dX4_readMen_11 : decode cX4_readMen 11 = .ok (.istore 4, 2) := by decide +kernel
theorem dX4_readMen_13 : decode cX4_readMen 13 = .ok (.iconst 0, 1) := by decide +kernel
theorem dX4_readMen_14 : decode cX4_readMen 14 = .ok (.istore 5, 2) := by decide +kernel
theorem dX4_readMen_16 : decode cX4_readMen 16 = .ok (.iload 5, 2) := by decide +kernel
theorem dX4_readMen_18 : decode cX4_readMen 18 = .ok (.bipush 12, 2) := by decide +kernel
theorem dX4_readMen_20 : decode cX4_readMen 20 = .ok (.if_icmp .gt 108, 3) := by decide +kernel
theorem dX4_readMen_23 : decode cX4_readMen 23 = .ok (.iload 5, 2) := by decide +kernel
theorem dX4_readMen_25 : decode cX4_readMen 25 = .ok (.iload_n 3, 1) := by decide +kernel
theorem dX4_readMen_26 : decode cX4_readMen 26 = .ok (.if_icmp .lt 25, 3) := by decide +kernel
theorem dX4_readMen_29 : decode cX4_readMen 29 = .ok (.aload_n 1, 1) := by decide +kernel
theorem dX4_readMen_30 : decode cX4_readMen 30 = .ok (.bipush 59, 2) := by decide +kernel
theorem dX4_readMen_32 : decode cX4_readMen 32 = .ok (.invokevirtual 111, 3) := by decide +kernel
theorem dX4_readMen_35 : decode cX4_readMen 35 = .ok (.ifCond .eq 16, 3) := by decide +kernel
theorem dX4_readMen_38 : decode cX4_readMen 38 = .ok (.aload_n 0, 1) := by decide +kernel
theorem dX4_readMen_39 : decode cX4_readMen 39 = .ok (.getfield 18, 3) := by decide +kernel
theorem dX4_readMen_42 : decode cX4_readMen 42 = .ok (.aload_n 0, 1) := by decide +kernel
theorem dX4_readMen_43 : decode cX4_readMen 43 = .ok (.getfield 24, 3) := by decide +kernel
theorem dX4_readMen_46 : decode cX4_readMen 46 = .ok (.iload 5, 2) := by decide +kernel
theorem dX4_readMen_48 : decode cX4_readMen 48 = .ok (.iastore, 1) := by decide +kernel
theorem dX4_readMen_49 : decode cX4_readMen 49 = .ok (.iconst 1, 1) := by decide +kernel
theorem dX4_readMen_50 : decode cX4_readMen 50 = .ok (.ireturn, 1) := by decide +kernel
theorem dX4_readMen_51 : decode cX4_readMen 51 = .ok (.aload_n 1, 1) := by decide +kernel
theorem dX4_readMen_52 : decode cX4_readMen 52 = .ok (.invokevirtual 114, 3) := by decide +kernel
theorem dX4_readMen_55 : decode cX4_readMen 55 = .ok (.ifCond .ne 9, 3) := by decide +kernel
theorem dX4_readMen_58 : decode cX4_readMen 58 = .ok (.aload_n 1, 1) := by decide +kernel
theorem dX4_readMen_59 : decode cX4_readMen 59 = .ok (.iconst 1, 1) := by decide +kernel
theorem dX4_readMen_60 : decode cX4_readMen 60 = .ok (.invokevirtual 54, 3) := by decide +kernel
theorem dX4_readMen_63 : decode cX4_readMen 63 = .ok (.ireturn, 1) := by decide +kernel
theorem dX4_readMen_64 : decode cX4_readMen 64 = .ok (.aload_n 2, 1) := by decide +kernel
theorem dX4_readMen_65 : decode cX4_readMen 65 = .ok (.aload_n 1, 1) := by decide +kernel
theorem dX4_readMen_66 : decode cX4_readMen 66 = .ok (.getfield 102, 3) := by decide +kernel
theorem dX4_readMen_69 : decode cX4_readMen 69 = .ok (.invokevirtual 117, 3) := by decide +kernel
theorem dX4_readMen_72 : decode cX4_readMen 72 = .ok (.istore 6, 2) := by decide +kernel
theorem dX4_readMen_74 : decode cX4_readMen 74 = .ok (.iload 6, 2) := by decide +kernel
theorem dX4_readMen_76 : decode cX4_readMen 76 = .ok (.iconst (-1), 1) := by decide +kernel
theorem dX4_readMen_77 : decode cX4_readMen 77 = .ok (.if_icmp .eq 23, 3) := by decide +kernel
theorem dX4_readMen_80 : decode cX4_readMen 80 = .ok (.iload 5, 2) := by decide +kernel
theorem dX4_readMen_82 : decode cX4_readMen 82 = .ok (.bipush 12, 2) := by decide +kernel
theorem dX4_readMen_84 : decode cX4_readMen 84 = .ok (.if_icmp .ge 16, 3) := by decide +kernel
theorem dX4_readMen_87 : decode cX4_readMen 87 = .ok (.aload_n 0, 1) := by decide +kernel
theorem dX4_readMen_88 : decode cX4_readMen 88 = .ok (.iload 4, 2) := by decide +kernel
theorem dX4_readMen_90 : decode cX4_readMen 90 = .ok (.iload 5, 2) := by decide +kernel
theorem dX4_readMen_92 : decode cX4_readMen 92 = .ok (.iload 6, 2) := by decide +kernel
theorem dX4_readMen_94 : decode cX4_readMen 94 = .ok (.invokevirtual 121, 3) := by decide +kernel
theorem dX4_readMen_97 : decode cX4_readMen 97 = .ok (.ifCond .eq 9, 3) := by decide +kernel
theorem dX4_readMen_100 : decode cX4_readMen 100 = .ok (.aload_n 1, 1) := by decide +kernel
theorem dX4_readMen_101 : decode cX4_readMen 101 = .ok (.iconst 3, 1) := by decide +kernel
theorem dX4_readMen_102 : decode cX4_readMen 102 = .ok (.invokevirtual 54, 3) := by decide +kernel
theorem dX4_readMen_105 : decode cX4_readMen 105 = .ok (.ireturn, 1) := by decide +kernel
theorem dX4_readMen_106 : decode cX4_readMen 106 = .ok (.aload_n 0, 1) := by decide +kernel
theorem dX4_readMen_107 : decode cX4_readMen 107 = .ok (.getfield 21, 3) := by decide +kernel
theorem dX4_readMen_110 : decode cX4_readMen 110 = .ok (.iload 4, 2) := by decide +kernel
theorem dX4_readMen_112 : decode cX4_readMen 112 = .ok (.iload 5, 2) := by decide +kernel
theorem dX4_readMen_114 : decode cX4_readMen 114 = .ok (.iadd, 1) := by decide +kernel
theorem dX4_readMen_115 : decode cX4_readMen 115 = .ok (.iload 6, 2) := by decide +kernel
theorem dX4_readMen_117 : decode cX4_readMen 117 = .ok (.iastore, 1) := by decide +kernel
theorem dX4_readMen_118 : decode cX4_readMen 118 = .ok (.aload_n 1, 1) := by decide +kernel
theorem dX4_readMen_119 : decode cX4_readMen 119 = .ok (.invokevirtual 58, 3) := by decide +kernel
theorem dX4_readMen_122 : decode cX4_readMen 122 = .ok (.iinc 5 1, 3) := by decide +kernel
theorem dX4_readMen_125 : decode cX4_readMen 125 = .ok (.goto (-109), 3) := by decide +kernel
theorem dX4_readMen_128 : decode cX4_readMen 128 = .ok (.aload_n 1, 1) := by decide +kernel
theorem dX4_readMen_129 : decode cX4_readMen 129 = .ok (.iconst 3, 1) := by decide +kernel
theorem dX4_readMen_130 : decode cX4_readMen 130 = .ok (.invokevirtual 54, 3) := by decide +kernel
theorem dX4_readMen_133 : decode cX4_readMen 133 = .ok (.ireturn, 1) := by decide +kernel
section
variable {b : Nat → Nat} {n L : Nat} {D : zYd} {lst q k : Nat} {τ : zTk} {tk : Nat} {P : zPl}
theorem pMs_e (h1 : lst ≤ k) (h2 : tAt τ 59 = true) : pMs b n L D lst (q + 1) k τ tk P = (0, τ, tk, pWn P k) := by rw [pMs, if_pos ⟨h1, h2⟩]
theorem pMs_1 (h1 : ¬ (lst ≤ k ∧ tAt τ 59 = true)) (h2 : tNm τ = false) : pMs b n L D lst (q + 1) k τ tk P = (1, τ, tk, P) := by rw [pMs, if_neg h1, if_pos h2]
theorem pMs_3 (h1 : ¬ (lst ≤ k ∧ tAt τ 59 = true)) (h2 : ¬ tNm τ = false) (h : mFind D.2.2.1 τ.2.2.2.1 (D.1 0) 0 = none) : pMs b n L D lst (q + 1) k τ tk P = (3, τ, tk, P) := by
  rw [pMs, if_neg h1, if_neg h2]
  simp only [h]
theorem pMs_4 {i : Nat} (h1 : ¬ (lst ≤ k ∧ tAt τ 59 = true)) (h2 : ¬ tNm τ = false) (h : mFind D.2.2.1 τ.2.2.2.1 (D.1 0) 0 = some i) (h3 : 12 ≤ k) : pMs b n L D lst (q + 1) k τ tk P = (3, τ, tk, P) := by
  rw [pMs, if_neg h1, if_neg h2]
  simp only [h]
  rw [if_pos h3]
theorem pMs_5 {i : Nat} (h1 : ¬ (lst ≤ k ∧ tAt τ 59 = true)) (h2 : ¬ tNm τ = false) (h : mFind D.2.2.1 τ.2.2.2.1 (D.1 0) 0 = some i) (h3 : ¬ 12 ≤ k) (h4 : pSt P.2.2.2.2 (P.1 * 12) k i = true) : pMs b n L D lst (q + 1) k τ tk P = (3, τ, tk, P) := by
  rw [pMs, if_neg h1, if_neg h2]
  simp only [h]
  rw [if_neg h3, if_pos h4]
theorem pMs_s {i : Nat} (h1 : ¬ (lst ≤ k ∧ tAt τ 59 = true)) (h2 : ¬ tNm τ = false) (h : mFind D.2.2.1 τ.2.2.2.1 (D.1 0) 0 = some i) (h3 : ¬ 12 ≤ k) (h4 : ¬ pSt P.2.2.2.2 (P.1 * 12) k i = true) : pMs b n L D lst (q + 1) k τ tk P = pMs b n L D lst q (k + 1) (nxt b n L τ) tk (pWm P k i) := by
  rw [pMs, if_neg h1, if_neg h2]
  simp only [h]
  rw [if_neg h3, if_neg h4]
end
set_option maxRecDepth 100000 in
theorem lp_men {l : Launch} {dd : Nat} {Po : zPo} {K0 : zK} {h0 : List va_E} {Xo : zK → Prop} {Gc : zG → Prop} (x b n L y p : Nat) (ay ap : Nat → Nat) (bt : Nat → Nat) (pl : Nat) (D : zYd) (lst : Nat) (hd : 5 ≤ dd) (hn : n ≤ 740) (hL : L ≤ 740) (hbt : ∀ j, bt j < 256) (hD : yI D) (hl : lst ≤ 12) (R : zPp) (hP : ∀ r K', (R.1 = 0 ∧ r = some (.int 1) ∧ K' = kTx x b n L bt R.2.1 0 pl R.2.2.1 ++ kYd y ay D ++ kPl p ap R.2.2.2) ∨ (¬ R.1 = 0 ∧ r = some (.int 0) ∧ K' = kTx x b n L bt R.2.1 R.1 R.2.1.2.1 R.2.2.1 ++ kYd y ay D ++ kPl p ap R.2.2.2) → Po r K') : ∀ (q k : Nat) (τ : zTk) (tk : Nat) (P : zPl), k + q = 13 → tOK τ → P.1 < 20 → (∀ j, P.2.2.2.2 j < 12) → pMs bt n L D lst q k τ tk P = R → zS (l, mX4_readMen, dd, Po, K0, h0, Xo, Gc) 0 0 16 [(0, .ref p), (1, .ref x), (2, .ref y), (3, .int (nI lst)), (4, .int (nI (P.1 * 12))), (5, .int (nI k))] [] [(x, .inr (8, fTx b n L τ 0 pl (nI tk))), (b, .inl (0, 740, .inl (nF bt))), (y, .inr (9, fYard ay (ysN D.1 D.2.1))), (ay 1, .inl (0, 12, .inl (nF D.2.2.1))), (ay 2, .inl (0, 12, .inl (nF D.2.2.2.1))), (ay 3, .inl (0, 12, .inl (nF D.2.2.2.2.1))), (ay 4, .inl (0, 12, .inl (nF D.2.2.2.2.2.1))), (ay 5, .inl (0, 64, .inl (nF D.2.2.2.2.2.2.1))), (ay 6, .inl (1, 64, .inl (nF D.2.2.2.2.2.2.2))), (p, .inr (3, fPlan ap P.1)), (ap 1, .inl (0, 20, .inl (nF P.2.1))), (ap 2, .inl (0, 20, .inl (nF P.2.2.1))), (ap 3, .inl (0, 20, .inl (nF P.2.2.2.1))), (ap 4, .inl (0, 240, .inl (nF P.2.2.2.2)))] := by
  intro q
  induction q with
  | zero =>
    intro k τ tk P hk hτ h20 hpm hG
    refine zs_iload dX4_readMen_16 rfl ?_
    refine zs_bipush (v := nI 12) dX4_readMen_18 (by decide) ?_
    refine zs_icmp_gt (tgt := 128) dX4_readMen_20 (by decide) (fun c_1 => ?_) (fun c_1 => (c_1 (by rw [nI_lt' (by omega) (by omega)]; omega) : False).elim)
    refine zs_aload_n dX4_readMen_128 rfl rfl ?_
    refine zs_iconst (v := nI 3) dX4_readMen_129 (by decide) ?_
    refine zs_callV (M := mX9_refuse) (As := [.int (nI 3)]) (st := []) (Kc := [(x, .inr (8, fTx b n L τ 0 pl (nI tk)))]) (Kr := [(b, .inl (0, 740, .inl (nF bt))), (y, .inr (9, fYard ay (ysN D.1 D.2.1))), (ay 1, .inl (0, 12, .inl (nF D.2.2.1))), (ay 2, .inl (0, 12, .inl (nF D.2.2.2.1))), (ay 3, .inl (0, 12, .inl (nF D.2.2.2.2.1))), (ay 4, .inl (0, 12, .inl (nF D.2.2.2.2.2.1))), (ay 5, .inl (0, 64, .inl (nF D.2.2.2.2.2.2.1))), (ay 6, .inl (1, 64, .inl (nF D.2.2.2.2.2.2.2))), (p, .inr (3, fPlan ap P.1)), (ap 1, .inl (0, 20, .inl (nF P.2.1))), (ap 2, .inl (0, 20, .inl (nF P.2.2.1))), (ap 3, .inl (0, 20, .inl (nF P.2.2.2.1))), (ap 4, .inl (0, 240, .inl (nF P.2.2.2.2)))]) [0] [1, 2, 3, 4, 5, 6, 7, 8, 9, 10, 11, 12, 13] 0 dX4_readMen_130 zl_RX4_54 kX9_refuse rfl rfl rfl rfl rfl (by decide) rfl rfl (show dd - 1 + 1 ≤ dd by omega) (Nat.zero_le _) (Nat.zero_le _) (Nat.le_of_ble_eq_true rfl) (s_refuse l (dd - 1) x b n L τ pl 3 (nI tk)) (fun r K1 hr => ?_)
    obtain ⟨rfl, rfl⟩ := hr
    refine zs_K (K' := [(x, .inr (8, fTx b n L τ 3 τ.2.1 (nI tk))), (b, .inl (0, 740, .inl (nF bt))), (y, .inr (9, fYard ay (ysN D.1 D.2.1))), (ay 1, .inl (0, 12, .inl (nF D.2.2.1))), (ay 2, .inl (0, 12, .inl (nF D.2.2.2.1))), (ay 3, .inl (0, 12, .inl (nF D.2.2.2.2.1))), (ay 4, .inl (0, 12, .inl (nF D.2.2.2.2.2.1))), (ay 5, .inl (0, 64, .inl (nF D.2.2.2.2.2.2.1))), (ay 6, .inl (1, 64, .inl (nF D.2.2.2.2.2.2.2))), (p, .inr (3, fPlan ap P.1)), (ap 1, .inl (0, 20, .inl (nF P.2.1))), (ap 2, .inl (0, 20, .inl (nF P.2.2.1))), (ap 3, .inl (0, 20, .inl (nF P.2.2.2.1))), (ap 4, .inl (0, 240, .inl (nF P.2.2.2.2)))]) [13, 0, 1, 2, 3, 4, 5, 6, 7, 8, 9, 10, 11, 12] rfl (by decide) ?_
    have e : R = (3, τ, tk, P) := hG.symm
    exact zs_zret dX4_readMen_133 rfl (Or.inl rfl) (hP _ _ (Or.inr ⟨by rw [e]; exact (show ¬ 3 = 0 by decide), rfl, by rw [e]; rfl⟩))
  | succ q ih =>
    intro k τ tk P hk hτ h20 hpm hG
    refine zs_iload dX4_readMen_16 rfl ?_
    refine zs_bipush (v := nI 12) dX4_readMen_18 (by decide) ?_
    refine zs_icmp_gt (tgt := 128) dX4_readMen_20 (by decide) (fun c_1 => (absurd c_1 (by rw [nI_lt' (by omega) (by omega)]; omega) : False).elim) (fun c_1 => ?_)
    refine zs_iload dX4_readMen_23 rfl ?_
    refine zs_iload_n dX4_readMen_25 rfl ?_
    refine zs_icmp_lt (tgt := 51) dX4_readMen_26 (by decide) (fun c_2 => ?_) (fun c_2 => ?_)
    · have c_2 : k < lst := by have hc := c_2; rw [nI_lt' (by omega) (by omega)] at hc; exact hc
      refine zs_aload_n dX4_readMen_51 rfl rfl ?_
      refine zs_callV (M := mX9_isName) (As := []) (st := []) (Kc := [(x, .inr (8, fTx b n L τ 0 pl (nI tk)))]) (Kr := [(b, .inl (0, 740, .inl (nF bt))), (y, .inr (9, fYard ay (ysN D.1 D.2.1))), (ay 1, .inl (0, 12, .inl (nF D.2.2.1))), (ay 2, .inl (0, 12, .inl (nF D.2.2.2.1))), (ay 3, .inl (0, 12, .inl (nF D.2.2.2.2.1))), (ay 4, .inl (0, 12, .inl (nF D.2.2.2.2.2.1))), (ay 5, .inl (0, 64, .inl (nF D.2.2.2.2.2.2.1))), (ay 6, .inl (1, 64, .inl (nF D.2.2.2.2.2.2.2))), (p, .inr (3, fPlan ap P.1)), (ap 1, .inl (0, 20, .inl (nF P.2.1))), (ap 2, .inl (0, 20, .inl (nF P.2.2.1))), (ap 3, .inl (0, 20, .inl (nF P.2.2.2.1))), (ap 4, .inl (0, 240, .inl (nF P.2.2.2.2)))]) [0] [1, 2, 3, 4, 5, 6, 7, 8, 9, 10, 11, 12, 13] 0 dX4_readMen_52 zl_RX4_114 kX9_isName rfl rfl rfl rfl rfl (by decide) rfl rfl (show dd - 1 + 1 ≤ dd by omega) (Nat.zero_le _) (Nat.zero_le _) (Nat.le_of_ble_eq_true rfl) (s_isName l (dd - 1) x b n L τ 0 pl (nI tk) hτ) (fun r K1 hr => ?_)
      obtain ⟨rfl, rfl⟩ := hr
      refine zs_K (K' := [(x, .inr (8, fTx b n L τ 0 pl (nI tk))), (b, .inl (0, 740, .inl (nF bt))), (y, .inr (9, fYard ay (ysN D.1 D.2.1))), (ay 1, .inl (0, 12, .inl (nF D.2.2.1))), (ay 2, .inl (0, 12, .inl (nF D.2.2.2.1))), (ay 3, .inl (0, 12, .inl (nF D.2.2.2.2.1))), (ay 4, .inl (0, 12, .inl (nF D.2.2.2.2.2.1))), (ay 5, .inl (0, 64, .inl (nF D.2.2.2.2.2.2.1))), (ay 6, .inl (1, 64, .inl (nF D.2.2.2.2.2.2.2))), (p, .inr (3, fPlan ap P.1)), (ap 1, .inl (0, 20, .inl (nF P.2.1))), (ap 2, .inl (0, 20, .inl (nF P.2.2.1))), (ap 3, .inl (0, 20, .inl (nF P.2.2.2.1))), (ap 4, .inl (0, 240, .inl (nF P.2.2.2.2)))]) [13, 0, 1, 2, 3, 4, 5, 6, 7, 8, 9, 10, 11, 12] rfl (by decide) ?_
      refine zs_if_ne (tgt := 64) dX4_readMen_55 (by decide) (fun c_3 => ?_) (fun c_3 => ?_)
      · have hname := bI_t c_3
        have hv1 := hτ.2.2.2.2.2.2.1 (tNm_2 hname).1
        refine zs_aload_n dX4_readMen_64 rfl rfl ?_
        refine zs_aload_n dX4_readMen_65 rfl rfl ?_
        refine zs_get 0 dX4_readMen_66 zf_RX4_102 rfl (v := .int (nI τ.2.2.2.1)) rfl ?_
        refine zs_callV (M := mX11_manNamed) (As := [.int (nI τ.2.2.2.1)]) (st := []) (Kc := [(y, .inr (9, fYard ay (ysN D.1 D.2.1))), (ay 1, .inl (0, 12, .inl (nF D.2.2.1)))]) (Kr := [(x, .inr (8, fTx b n L τ 0 pl (nI tk))), (b, .inl (0, 740, .inl (nF bt))), (ay 2, .inl (0, 12, .inl (nF D.2.2.2.1))), (ay 3, .inl (0, 12, .inl (nF D.2.2.2.2.1))), (ay 4, .inl (0, 12, .inl (nF D.2.2.2.2.2.1))), (ay 5, .inl (0, 64, .inl (nF D.2.2.2.2.2.2.1))), (ay 6, .inl (1, 64, .inl (nF D.2.2.2.2.2.2.2))), (p, .inr (3, fPlan ap P.1)), (ap 1, .inl (0, 20, .inl (nF P.2.1))), (ap 2, .inl (0, 20, .inl (nF P.2.2.1))), (ap 3, .inl (0, 20, .inl (nF P.2.2.2.1))), (ap 4, .inl (0, 240, .inl (nF P.2.2.2.2)))]) [2, 3] [0, 1, 4, 5, 6, 7, 8, 9, 10, 11, 12, 13] 0 dX4_readMen_69 zl_RX4_117 kX11_manNamed rfl rfl rfl rfl rfl (by decide) rfl rfl (show dd - 1 + 1 ≤ dd by omega) (Nat.zero_le _) (Nat.zero_le _) (Nat.le_of_ble_eq_true rfl) (s_manNamed l (dd - 1) y ay D τ.2.2.2.1 hv1 hD.1 hD.2.2.2.1) (fun r K1 hr => ?_)
        obtain ⟨rfl, rfl⟩ := hr
        refine zs_K (K' := [(x, .inr (8, fTx b n L τ 0 pl (nI tk))), (b, .inl (0, 740, .inl (nF bt))), (y, .inr (9, fYard ay (ysN D.1 D.2.1))), (ay 1, .inl (0, 12, .inl (nF D.2.2.1))), (ay 2, .inl (0, 12, .inl (nF D.2.2.2.1))), (ay 3, .inl (0, 12, .inl (nF D.2.2.2.2.1))), (ay 4, .inl (0, 12, .inl (nF D.2.2.2.2.2.1))), (ay 5, .inl (0, 64, .inl (nF D.2.2.2.2.2.2.1))), (ay 6, .inl (1, 64, .inl (nF D.2.2.2.2.2.2.2))), (p, .inr (3, fPlan ap P.1)), (ap 1, .inl (0, 20, .inl (nF P.2.1))), (ap 2, .inl (0, 20, .inl (nF P.2.2.1))), (ap 3, .inl (0, 20, .inl (nF P.2.2.2.1))), (ap 4, .inl (0, 240, .inl (nF P.2.2.2.2)))]) [0, 1, 12, 13, 2, 3, 4, 5, 6, 7, 8, 9, 10, 11] rfl (by decide) ?_
        refine zs_istore (lv' := [(6, .int (oI (mFind D.2.2.1 τ.2.2.2.1 (D.1 0) 0))), (0, .ref p), (1, .ref x), (2, .ref y), (3, .int (nI lst)), (4, .int (nI (P.1 * 12))), (5, .int (nI k))]) dX4_readMen_72 (Nat.le_of_ble_eq_true rfl) rfl ?_
        refine zs_iload dX4_readMen_74 rfl ?_
        refine zs_iconst (v := (-1)) dX4_readMen_76 (by decide) ?_
        refine zs_icmp_eq (tgt := 100) dX4_readMen_77 (by decide) (fun c_4 => ?_) (fun c_4 => ?_)
        · refine zs_aload_n dX4_readMen_100 rfl rfl ?_
          refine zs_iconst (v := nI 3) dX4_readMen_101 (by decide) ?_
          refine zs_callV (M := mX9_refuse) (As := [.int (nI 3)]) (st := []) (Kc := [(x, .inr (8, fTx b n L τ 0 pl (nI tk)))]) (Kr := [(b, .inl (0, 740, .inl (nF bt))), (y, .inr (9, fYard ay (ysN D.1 D.2.1))), (ay 1, .inl (0, 12, .inl (nF D.2.2.1))), (ay 2, .inl (0, 12, .inl (nF D.2.2.2.1))), (ay 3, .inl (0, 12, .inl (nF D.2.2.2.2.1))), (ay 4, .inl (0, 12, .inl (nF D.2.2.2.2.2.1))), (ay 5, .inl (0, 64, .inl (nF D.2.2.2.2.2.2.1))), (ay 6, .inl (1, 64, .inl (nF D.2.2.2.2.2.2.2))), (p, .inr (3, fPlan ap P.1)), (ap 1, .inl (0, 20, .inl (nF P.2.1))), (ap 2, .inl (0, 20, .inl (nF P.2.2.1))), (ap 3, .inl (0, 20, .inl (nF P.2.2.2.1))), (ap 4, .inl (0, 240, .inl (nF P.2.2.2.2)))]) [0] [1, 2, 3, 4, 5, 6, 7, 8, 9, 10, 11, 12, 13] 0 dX4_readMen_102 zl_RX4_54 kX9_refuse rfl rfl rfl rfl rfl (by decide) rfl rfl (show dd - 1 + 1 ≤ dd by omega) (Nat.zero_le _) (Nat.zero_le _) (Nat.le_of_ble_eq_true rfl) (s_refuse l (dd - 1) x b n L τ pl 3 (nI tk)) (fun r K1 hr => ?_)
          obtain ⟨rfl, rfl⟩ := hr
          refine zs_K (K' := [(x, .inr (8, fTx b n L τ 3 τ.2.1 (nI tk))), (b, .inl (0, 740, .inl (nF bt))), (y, .inr (9, fYard ay (ysN D.1 D.2.1))), (ay 1, .inl (0, 12, .inl (nF D.2.2.1))), (ay 2, .inl (0, 12, .inl (nF D.2.2.2.1))), (ay 3, .inl (0, 12, .inl (nF D.2.2.2.2.1))), (ay 4, .inl (0, 12, .inl (nF D.2.2.2.2.2.1))), (ay 5, .inl (0, 64, .inl (nF D.2.2.2.2.2.2.1))), (ay 6, .inl (1, 64, .inl (nF D.2.2.2.2.2.2.2))), (p, .inr (3, fPlan ap P.1)), (ap 1, .inl (0, 20, .inl (nF P.2.1))), (ap 2, .inl (0, 20, .inl (nF P.2.2.1))), (ap 3, .inl (0, 20, .inl (nF P.2.2.2.1))), (ap 4, .inl (0, 240, .inl (nF P.2.2.2.2)))]) [13, 0, 1, 2, 3, 4, 5, 6, 7, 8, 9, 10, 11, 12] rfl (by decide) ?_
          have e : R = (3, τ, tk, (P.1, P.2.1, P.2.2.1, P.2.2.2.1, P.2.2.2.2)) := hG.symm.trans (pMs_3 (show ¬ (lst ≤ k ∧ tAt τ 59 = true) from fun h => by have := h.1; omega) (show ¬ tNm τ = false from fun h => by rw [hname] at h; exact absurd h (by decide)) (oI_n (fun j hj => by have := (mFind_lt _ _ _ hj).1; have := hD.1; omega) c_4))
          exact zs_zret dX4_readMen_105 rfl (Or.inl rfl) (hP _ _ (Or.inr ⟨by rw [e]; exact (show ¬ 3 = 0 by decide), rfl, by rw [e]; rfl⟩))
        · obtain ⟨i, hi⟩ : ∃ i, mFind D.2.2.1 τ.2.2.2.1 (D.1 0) 0 = some i := by
            cases hq : mFind D.2.2.1 τ.2.2.2.1 (D.1 0) 0 with
            | none => exact absurd (by rw [hq]; rfl) c_4
            | some i => exact ⟨i, rfl⟩
          have hi12 := (mFind_lt _ _ _ hi).1
          have hd12 := hD.1
          rw [hi]
          show zS _ 0 0 80 [(6, .int (nI i)), (0, .ref p), (1, .ref x), (2, .ref y), (3, .int (nI lst)), (4, .int (nI (P.1 * 12))), (5, .int (nI k))] [] [(x, .inr (8, fTx b n L τ 0 pl (nI tk))), (b, .inl (0, 740, .inl (nF bt))), (y, .inr (9, fYard ay (ysN D.1 D.2.1))), (ay 1, .inl (0, 12, .inl (nF D.2.2.1))), (ay 2, .inl (0, 12, .inl (nF D.2.2.2.1))), (ay 3, .inl (0, 12, .inl (nF D.2.2.2.2.1))), (ay 4, .inl (0, 12, .inl (nF D.2.2.2.2.2.1))), (ay 5, .inl (0, 64, .inl (nF D.2.2.2.2.2.2.1))), (ay 6, .inl (1, 64, .inl (nF D.2.2.2.2.2.2.2))), (p, .inr (3, fPlan ap P.1)), (ap 1, .inl (0, 20, .inl (nF P.2.1))), (ap 2, .inl (0, 20, .inl (nF P.2.2.1))), (ap 3, .inl (0, 20, .inl (nF P.2.2.2.1))), (ap 4, .inl (0, 240, .inl (nF P.2.2.2.2)))]
          refine zs_iload dX4_readMen_80 rfl ?_
          refine zs_bipush (v := nI 12) dX4_readMen_82 (by decide) ?_
          refine zs_icmp_ge (tgt := 100) dX4_readMen_84 (by decide) (fun c_5 => ?_) (fun c_5 => ?_)
          · have c_5 : 12 ≤ k := by have hc := c_5; rw [nI_le' (by omega) (by omega)] at hc; exact hc
            refine zs_aload_n dX4_readMen_100 rfl rfl ?_
            refine zs_iconst (v := nI 3) dX4_readMen_101 (by decide) ?_
            refine zs_callV (M := mX9_refuse) (As := [.int (nI 3)]) (st := []) (Kc := [(x, .inr (8, fTx b n L τ 0 pl (nI tk)))]) (Kr := [(b, .inl (0, 740, .inl (nF bt))), (y, .inr (9, fYard ay (ysN D.1 D.2.1))), (ay 1, .inl (0, 12, .inl (nF D.2.2.1))), (ay 2, .inl (0, 12, .inl (nF D.2.2.2.1))), (ay 3, .inl (0, 12, .inl (nF D.2.2.2.2.1))), (ay 4, .inl (0, 12, .inl (nF D.2.2.2.2.2.1))), (ay 5, .inl (0, 64, .inl (nF D.2.2.2.2.2.2.1))), (ay 6, .inl (1, 64, .inl (nF D.2.2.2.2.2.2.2))), (p, .inr (3, fPlan ap P.1)), (ap 1, .inl (0, 20, .inl (nF P.2.1))), (ap 2, .inl (0, 20, .inl (nF P.2.2.1))), (ap 3, .inl (0, 20, .inl (nF P.2.2.2.1))), (ap 4, .inl (0, 240, .inl (nF P.2.2.2.2)))]) [0] [1, 2, 3, 4, 5, 6, 7, 8, 9, 10, 11, 12, 13] 0 dX4_readMen_102 zl_RX4_54 kX9_refuse rfl rfl rfl rfl rfl (by decide) rfl rfl (show dd - 1 + 1 ≤ dd by omega) (Nat.zero_le _) (Nat.zero_le _) (Nat.le_of_ble_eq_true rfl) (s_refuse l (dd - 1) x b n L τ pl 3 (nI tk)) (fun r K1 hr => ?_)
            obtain ⟨rfl, rfl⟩ := hr
            refine zs_K (K' := [(x, .inr (8, fTx b n L τ 3 τ.2.1 (nI tk))), (b, .inl (0, 740, .inl (nF bt))), (y, .inr (9, fYard ay (ysN D.1 D.2.1))), (ay 1, .inl (0, 12, .inl (nF D.2.2.1))), (ay 2, .inl (0, 12, .inl (nF D.2.2.2.1))), (ay 3, .inl (0, 12, .inl (nF D.2.2.2.2.1))), (ay 4, .inl (0, 12, .inl (nF D.2.2.2.2.2.1))), (ay 5, .inl (0, 64, .inl (nF D.2.2.2.2.2.2.1))), (ay 6, .inl (1, 64, .inl (nF D.2.2.2.2.2.2.2))), (p, .inr (3, fPlan ap P.1)), (ap 1, .inl (0, 20, .inl (nF P.2.1))), (ap 2, .inl (0, 20, .inl (nF P.2.2.1))), (ap 3, .inl (0, 20, .inl (nF P.2.2.2.1))), (ap 4, .inl (0, 240, .inl (nF P.2.2.2.2)))]) [13, 0, 1, 2, 3, 4, 5, 6, 7, 8, 9, 10, 11, 12] rfl (by decide) ?_
            have e : R = (3, τ, tk, (P.1, P.2.1, P.2.2.1, P.2.2.2.1, P.2.2.2.2)) := hG.symm.trans (pMs_4 (show ¬ (lst ≤ k ∧ tAt τ 59 = true) from fun h => by have := h.1; omega) (show ¬ tNm τ = false from fun h => by rw [hname] at h; exact absurd h (by decide)) hi (show 12 ≤ k by omega))
            exact zs_zret dX4_readMen_105 rfl (Or.inl rfl) (hP _ _ (Or.inr ⟨by rw [e]; exact (show ¬ 3 = 0 by decide), rfl, by rw [e]; rfl⟩))
          · have c_5 : ¬ (12 ≤ k) := by have hc := c_5; rw [nI_le' (by omega) (by omega)] at hc; exact hc
            refine zs_aload_n dX4_readMen_87 rfl rfl ?_
            refine zs_iload dX4_readMen_88 rfl ?_
            refine zs_iload dX4_readMen_90 rfl ?_
            refine zs_iload dX4_readMen_92 rfl ?_
            refine zs_callV (M := mX4_stands) (As := [.int (nI (P.1 * 12)), .int (nI k), .int (nI i)]) (st := []) (Kc := [(p, .inr (3, fPlan ap P.1)), (ap 4, .inl (0, 240, .inl (nF P.2.2.2.2)))]) (Kr := [(x, .inr (8, fTx b n L τ 0 pl (nI tk))), (b, .inl (0, 740, .inl (nF bt))), (y, .inr (9, fYard ay (ysN D.1 D.2.1))), (ay 1, .inl (0, 12, .inl (nF D.2.2.1))), (ay 2, .inl (0, 12, .inl (nF D.2.2.2.1))), (ay 3, .inl (0, 12, .inl (nF D.2.2.2.2.1))), (ay 4, .inl (0, 12, .inl (nF D.2.2.2.2.2.1))), (ay 5, .inl (0, 64, .inl (nF D.2.2.2.2.2.2.1))), (ay 6, .inl (1, 64, .inl (nF D.2.2.2.2.2.2.2))), (ap 1, .inl (0, 20, .inl (nF P.2.1))), (ap 2, .inl (0, 20, .inl (nF P.2.2.1))), (ap 3, .inl (0, 20, .inl (nF P.2.2.2.1)))]) [9, 13] [0, 1, 2, 3, 4, 5, 6, 7, 8, 10, 11, 12] 0 dX4_readMen_94 zl_RX4_121 kX4_stands rfl rfl rfl rfl rfl (by decide) rfl rfl (show dd - 1 + 1 ≤ dd by omega) (Nat.zero_le _) (Nat.zero_le _) (Nat.le_of_ble_eq_true rfl) (s_stands l (dd - 1) p ap P (P.1 * 12) k i (by omega) (by omega) (fun j => by have := hpm j; omega)) (fun r K1 hr => ?_)
            obtain ⟨rfl, rfl⟩ := hr
            refine zs_K (K' := [(x, .inr (8, fTx b n L τ 0 pl (nI tk))), (b, .inl (0, 740, .inl (nF bt))), (y, .inr (9, fYard ay (ysN D.1 D.2.1))), (ay 1, .inl (0, 12, .inl (nF D.2.2.1))), (ay 2, .inl (0, 12, .inl (nF D.2.2.2.1))), (ay 3, .inl (0, 12, .inl (nF D.2.2.2.2.1))), (ay 4, .inl (0, 12, .inl (nF D.2.2.2.2.2.1))), (ay 5, .inl (0, 64, .inl (nF D.2.2.2.2.2.2.1))), (ay 6, .inl (1, 64, .inl (nF D.2.2.2.2.2.2.2))), (p, .inr (3, fPlan ap P.1)), (ap 1, .inl (0, 20, .inl (nF P.2.1))), (ap 2, .inl (0, 20, .inl (nF P.2.2.1))), (ap 3, .inl (0, 20, .inl (nF P.2.2.2.1))), (ap 4, .inl (0, 240, .inl (nF P.2.2.2.2)))]) [0, 1, 2, 3, 4, 5, 6, 7, 8, 12, 9, 10, 11, 13] rfl (by decide) ?_
            refine zs_if_eq (tgt := 106) dX4_readMen_97 (by decide) (fun c_6 => ?_) (fun c_6 => ?_)
            · refine zs_aload_n dX4_readMen_106 rfl rfl ?_
              refine zs_get 9 dX4_readMen_107 zf_RX4_21 rfl (v := .ref (ap 4)) rfl ?_
              refine zs_iload dX4_readMen_110 rfl ?_
              refine zs_iload dX4_readMen_112 rfl ?_
              refine zs_iadd dX4_readMen_114 ?_
              refine zs_as (y := nI ((P.1 * 12) + k)) (nI_add _ _) ?_
              refine zs_iload dX4_readMen_115 rfl ?_
              refine zs_iast 13 dX4_readMen_117 rfl (vp_in_nI (by omega) (by omega)) ?_
              rw [nI_c (n := (P.1 * 12) + k) (by omega), nF_u]
              show zS _ _ _ _ _ _ [(x, .inr (8, fTx b n L τ 0 pl (nI tk))), (b, .inl (0, 740, .inl (nF bt))), (y, .inr (9, fYard ay (ysN D.1 D.2.1))), (ay 1, .inl (0, 12, .inl (nF D.2.2.1))), (ay 2, .inl (0, 12, .inl (nF D.2.2.2.1))), (ay 3, .inl (0, 12, .inl (nF D.2.2.2.2.1))), (ay 4, .inl (0, 12, .inl (nF D.2.2.2.2.2.1))), (ay 5, .inl (0, 64, .inl (nF D.2.2.2.2.2.2.1))), (ay 6, .inl (1, 64, .inl (nF D.2.2.2.2.2.2.2))), (p, .inr (3, fPlan ap P.1)), (ap 1, .inl (0, 20, .inl (nF P.2.1))), (ap 2, .inl (0, 20, .inl (nF P.2.2.1))), (ap 3, .inl (0, 20, .inl (nF P.2.2.2.1))), (ap 4, .inl (0, 240, .inl (nF (un P.2.2.2.2 ((P.1 * 12) + k) i))))]
              refine zs_aload_n dX4_readMen_118 rfl rfl ?_
              refine zs_callV (M := mX9_next) (As := []) (st := []) (Kc := [(x, .inr (8, fTx b n L τ 0 pl (nI tk))), (b, .inl (0, 740, .inl (nF bt)))]) (Kr := [(y, .inr (9, fYard ay (ysN D.1 D.2.1))), (ay 1, .inl (0, 12, .inl (nF D.2.2.1))), (ay 2, .inl (0, 12, .inl (nF D.2.2.2.1))), (ay 3, .inl (0, 12, .inl (nF D.2.2.2.2.1))), (ay 4, .inl (0, 12, .inl (nF D.2.2.2.2.2.1))), (ay 5, .inl (0, 64, .inl (nF D.2.2.2.2.2.2.1))), (ay 6, .inl (1, 64, .inl (nF D.2.2.2.2.2.2.2))), (p, .inr (3, fPlan ap P.1)), (ap 1, .inl (0, 20, .inl (nF P.2.1))), (ap 2, .inl (0, 20, .inl (nF P.2.2.1))), (ap 3, .inl (0, 20, .inl (nF P.2.2.2.1))), (ap 4, .inl (0, 240, .inl (nF (un P.2.2.2.2 ((P.1 * 12) + k) i))))]) [0, 1] [2, 3, 4, 5, 6, 7, 8, 9, 10, 11, 12, 13] 0 dX4_readMen_119 zl_RX4_58 kX9_next rfl rfl rfl rfl rfl (by decide) rfl rfl (show dd - 1 + 1 ≤ dd by omega) (Nat.zero_le _) (Nat.zero_le _) (Nat.le_of_ble_eq_true rfl) (s_next l (dd - 1) x b n L bt τ 0 pl (nI tk) (by omega) hn hL hbt hτ.2.2.1) (fun r K1 hr => ?_)
              obtain ⟨rfl, rfl⟩ := hr
              refine zs_K (K' := [(x, .inr (8, fTx b n L (nxt bt n L τ) 0 pl (nI tk))), (b, .inl (0, 740, .inl (nF bt))), (y, .inr (9, fYard ay (ysN D.1 D.2.1))), (ay 1, .inl (0, 12, .inl (nF D.2.2.1))), (ay 2, .inl (0, 12, .inl (nF D.2.2.2.1))), (ay 3, .inl (0, 12, .inl (nF D.2.2.2.2.1))), (ay 4, .inl (0, 12, .inl (nF D.2.2.2.2.2.1))), (ay 5, .inl (0, 64, .inl (nF D.2.2.2.2.2.2.1))), (ay 6, .inl (1, 64, .inl (nF D.2.2.2.2.2.2.2))), (p, .inr (3, fPlan ap P.1)), (ap 1, .inl (0, 20, .inl (nF P.2.1))), (ap 2, .inl (0, 20, .inl (nF P.2.2.1))), (ap 3, .inl (0, 20, .inl (nF P.2.2.2.1))), (ap 4, .inl (0, 240, .inl (nF (un P.2.2.2.2 ((P.1 * 12) + k) i))))]) [12, 13, 0, 1, 2, 3, 4, 5, 6, 7, 8, 9, 10, 11] rfl (by decide) ?_
              refine zs_iinc (v := (nI (k + 1))) (lv' := [(5, .int (nI (k + 1))), (6, .int (nI i)), (0, .ref p), (1, .ref x), (2, .ref y), (3, .int (nI lst)), (4, .int (nI (P.1 * 12)))]) dX4_readMen_122 rfl (nI_add _ 1) (Nat.le_of_ble_eq_true rfl) rfl ?_
              refine zs_goto (tgt := 16) dX4_readMen_125 (by decide) ?_
              refine zs_lv [2, 3, 4, 5, 6, 0] rfl ?_
              refine ih (k + 1) (nxt bt n L τ) tk (pWm P k i) (by omega) (nxt_OK hbt hn) h20 (fun j => ?_) ?_
              · show un P.2.2.2.2 (P.1 * 12 + k) i j < 12
                unfold un
                split
                · omega
                · exact hpm j
              · rw [← hG]
                exact (pMs_s (show ¬ (lst ≤ k ∧ tAt τ 59 = true) from fun h => by have := h.1; omega) (show ¬ tNm τ = false from fun h => by rw [hname] at h; exact absurd h (by decide)) hi (show ¬ 12 ≤ k by omega) (show ¬ pSt P.2.2.2.2 (P.1 * 12) k i = true from fun h => by rw [bI_f c_6] at h; exact absurd h (by decide))).symm
            · refine zs_aload_n dX4_readMen_100 rfl rfl ?_
              refine zs_iconst (v := nI 3) dX4_readMen_101 (by decide) ?_
              refine zs_callV (M := mX9_refuse) (As := [.int (nI 3)]) (st := []) (Kc := [(x, .inr (8, fTx b n L τ 0 pl (nI tk)))]) (Kr := [(b, .inl (0, 740, .inl (nF bt))), (y, .inr (9, fYard ay (ysN D.1 D.2.1))), (ay 1, .inl (0, 12, .inl (nF D.2.2.1))), (ay 2, .inl (0, 12, .inl (nF D.2.2.2.1))), (ay 3, .inl (0, 12, .inl (nF D.2.2.2.2.1))), (ay 4, .inl (0, 12, .inl (nF D.2.2.2.2.2.1))), (ay 5, .inl (0, 64, .inl (nF D.2.2.2.2.2.2.1))), (ay 6, .inl (1, 64, .inl (nF D.2.2.2.2.2.2.2))), (p, .inr (3, fPlan ap P.1)), (ap 1, .inl (0, 20, .inl (nF P.2.1))), (ap 2, .inl (0, 20, .inl (nF P.2.2.1))), (ap 3, .inl (0, 20, .inl (nF P.2.2.2.1))), (ap 4, .inl (0, 240, .inl (nF P.2.2.2.2)))]) [0] [1, 2, 3, 4, 5, 6, 7, 8, 9, 10, 11, 12, 13] 0 dX4_readMen_102 zl_RX4_54 kX9_refuse rfl rfl rfl rfl rfl (by decide) rfl rfl (show dd - 1 + 1 ≤ dd by omega) (Nat.zero_le _) (Nat.zero_le _) (Nat.le_of_ble_eq_true rfl) (s_refuse l (dd - 1) x b n L τ pl 3 (nI tk)) (fun r K1 hr => ?_)
              obtain ⟨rfl, rfl⟩ := hr
              refine zs_K (K' := [(x, .inr (8, fTx b n L τ 3 τ.2.1 (nI tk))), (b, .inl (0, 740, .inl (nF bt))), (y, .inr (9, fYard ay (ysN D.1 D.2.1))), (ay 1, .inl (0, 12, .inl (nF D.2.2.1))), (ay 2, .inl (0, 12, .inl (nF D.2.2.2.1))), (ay 3, .inl (0, 12, .inl (nF D.2.2.2.2.1))), (ay 4, .inl (0, 12, .inl (nF D.2.2.2.2.2.1))), (ay 5, .inl (0, 64, .inl (nF D.2.2.2.2.2.2.1))), (ay 6, .inl (1, 64, .inl (nF D.2.2.2.2.2.2.2))), (p, .inr (3, fPlan ap P.1)), (ap 1, .inl (0, 20, .inl (nF P.2.1))), (ap 2, .inl (0, 20, .inl (nF P.2.2.1))), (ap 3, .inl (0, 20, .inl (nF P.2.2.2.1))), (ap 4, .inl (0, 240, .inl (nF P.2.2.2.2)))]) [13, 0, 1, 2, 3, 4, 5, 6, 7, 8, 9, 10, 11, 12] rfl (by decide) ?_
              have e : R = (3, τ, tk, (P.1, P.2.1, P.2.2.1, P.2.2.2.1, P.2.2.2.2)) := hG.symm.trans (pMs_5 (show ¬ (lst ≤ k ∧ tAt τ 59 = true) from fun h => by have := h.1; omega) (show ¬ tNm τ = false from fun h => by rw [hname] at h; exact absurd h (by decide)) hi (show ¬ 12 ≤ k by omega) (bI_t c_6))
              exact zs_zret dX4_readMen_105 rfl (Or.inl rfl) (hP _ _ (Or.inr ⟨by rw [e]; exact (show ¬ 3 = 0 by decide), rfl, by rw [e]; rfl⟩))
      · refine zs_aload_n dX4_readMen_58 rfl rfl ?_
        refine zs_iconst (v := nI 1) dX4_readMen_59 (by decide) ?_
        refine zs_callV (M := mX9_refuse) (As := [.int (nI 1)]) (st := []) (Kc := [(x, .inr (8, fTx b n L τ 0 pl (nI tk)))]) (Kr := [(b, .inl (0, 740, .inl (nF bt))), (y, .inr (9, fYard ay (ysN D.1 D.2.1))), (ay 1, .inl (0, 12, .inl (nF D.2.2.1))), (ay 2, .inl (0, 12, .inl (nF D.2.2.2.1))), (ay 3, .inl (0, 12, .inl (nF D.2.2.2.2.1))), (ay 4, .inl (0, 12, .inl (nF D.2.2.2.2.2.1))), (ay 5, .inl (0, 64, .inl (nF D.2.2.2.2.2.2.1))), (ay 6, .inl (1, 64, .inl (nF D.2.2.2.2.2.2.2))), (p, .inr (3, fPlan ap P.1)), (ap 1, .inl (0, 20, .inl (nF P.2.1))), (ap 2, .inl (0, 20, .inl (nF P.2.2.1))), (ap 3, .inl (0, 20, .inl (nF P.2.2.2.1))), (ap 4, .inl (0, 240, .inl (nF P.2.2.2.2)))]) [0] [1, 2, 3, 4, 5, 6, 7, 8, 9, 10, 11, 12, 13] 0 dX4_readMen_60 zl_RX4_54 kX9_refuse rfl rfl rfl rfl rfl (by decide) rfl rfl (show dd - 1 + 1 ≤ dd by omega) (Nat.zero_le _) (Nat.zero_le _) (Nat.le_of_ble_eq_true rfl) (s_refuse l (dd - 1) x b n L τ pl 1 (nI tk)) (fun r K1 hr => ?_)
        obtain ⟨rfl, rfl⟩ := hr
        refine zs_K (K' := [(x, .inr (8, fTx b n L τ 1 τ.2.1 (nI tk))), (b, .inl (0, 740, .inl (nF bt))), (y, .inr (9, fYard ay (ysN D.1 D.2.1))), (ay 1, .inl (0, 12, .inl (nF D.2.2.1))), (ay 2, .inl (0, 12, .inl (nF D.2.2.2.1))), (ay 3, .inl (0, 12, .inl (nF D.2.2.2.2.1))), (ay 4, .inl (0, 12, .inl (nF D.2.2.2.2.2.1))), (ay 5, .inl (0, 64, .inl (nF D.2.2.2.2.2.2.1))), (ay 6, .inl (1, 64, .inl (nF D.2.2.2.2.2.2.2))), (p, .inr (3, fPlan ap P.1)), (ap 1, .inl (0, 20, .inl (nF P.2.1))), (ap 2, .inl (0, 20, .inl (nF P.2.2.1))), (ap 3, .inl (0, 20, .inl (nF P.2.2.2.1))), (ap 4, .inl (0, 240, .inl (nF P.2.2.2.2)))]) [13, 0, 1, 2, 3, 4, 5, 6, 7, 8, 9, 10, 11, 12] rfl (by decide) ?_
        have e : R = (1, τ, tk, (P.1, P.2.1, P.2.2.1, P.2.2.2.1, P.2.2.2.2)) := hG.symm.trans (pMs_1 (show ¬ (lst ≤ k ∧ tAt τ 59 = true) from fun h => by have := h.1; omega) (bI_f c_3))
        exact zs_zret dX4_readMen_63 rfl (Or.inl rfl) (hP _ _ (Or.inr ⟨by rw [e]; exact (show ¬ 1 = 0 by decide), rfl, by rw [e]; rfl⟩))
    · have c_2 : ¬ (k < lst) := by have hc := c_2; rw [nI_lt' (by omega) (by omega)] at hc; exact hc
      refine zs_aload_n dX4_readMen_29 rfl rfl ?_
      refine zs_bipush (v := nI 59) dX4_readMen_30 (by decide) ?_
      refine zs_callV (M := mX9_isAt) (As := [.int (nI 59)]) (st := []) (Kc := [(x, .inr (8, fTx b n L τ 0 pl (nI tk)))]) (Kr := [(b, .inl (0, 740, .inl (nF bt))), (y, .inr (9, fYard ay (ysN D.1 D.2.1))), (ay 1, .inl (0, 12, .inl (nF D.2.2.1))), (ay 2, .inl (0, 12, .inl (nF D.2.2.2.1))), (ay 3, .inl (0, 12, .inl (nF D.2.2.2.2.1))), (ay 4, .inl (0, 12, .inl (nF D.2.2.2.2.2.1))), (ay 5, .inl (0, 64, .inl (nF D.2.2.2.2.2.2.1))), (ay 6, .inl (1, 64, .inl (nF D.2.2.2.2.2.2.2))), (p, .inr (3, fPlan ap P.1)), (ap 1, .inl (0, 20, .inl (nF P.2.1))), (ap 2, .inl (0, 20, .inl (nF P.2.2.1))), (ap 3, .inl (0, 20, .inl (nF P.2.2.2.1))), (ap 4, .inl (0, 240, .inl (nF P.2.2.2.2)))]) [0] [1, 2, 3, 4, 5, 6, 7, 8, 9, 10, 11, 12, 13] 0 dX4_readMen_32 zl_RX4_111 kX9_isAt rfl rfl rfl rfl rfl (by decide) rfl rfl (show dd - 1 + 1 ≤ dd by omega) (Nat.zero_le _) (Nat.zero_le _) (Nat.le_of_ble_eq_true rfl) (s_isAt l (dd - 1) x b n L τ 0 pl (nI tk) 59 hτ (by decide)) (fun r K1 hr => ?_)
      obtain ⟨rfl, rfl⟩ := hr
      refine zs_K (K' := [(x, .inr (8, fTx b n L τ 0 pl (nI tk))), (b, .inl (0, 740, .inl (nF bt))), (y, .inr (9, fYard ay (ysN D.1 D.2.1))), (ay 1, .inl (0, 12, .inl (nF D.2.2.1))), (ay 2, .inl (0, 12, .inl (nF D.2.2.2.1))), (ay 3, .inl (0, 12, .inl (nF D.2.2.2.2.1))), (ay 4, .inl (0, 12, .inl (nF D.2.2.2.2.2.1))), (ay 5, .inl (0, 64, .inl (nF D.2.2.2.2.2.2.1))), (ay 6, .inl (1, 64, .inl (nF D.2.2.2.2.2.2.2))), (p, .inr (3, fPlan ap P.1)), (ap 1, .inl (0, 20, .inl (nF P.2.1))), (ap 2, .inl (0, 20, .inl (nF P.2.2.1))), (ap 3, .inl (0, 20, .inl (nF P.2.2.2.1))), (ap 4, .inl (0, 240, .inl (nF P.2.2.2.2)))]) [13, 0, 1, 2, 3, 4, 5, 6, 7, 8, 9, 10, 11, 12] rfl (by decide) ?_
      refine zs_if_eq (tgt := 51) dX4_readMen_35 (by decide) (fun c_7 => ?_) (fun c_7 => ?_)
      · have hac_7 : ¬ (lst ≤ k ∧ tAt τ 59 = true) := fun h => absurd h.2 (by rw [bI_f c_7]; decide)
        refine zs_aload_n dX4_readMen_51 rfl rfl ?_
        refine zs_callV (M := mX9_isName) (As := []) (st := []) (Kc := [(x, .inr (8, fTx b n L τ 0 pl (nI tk)))]) (Kr := [(b, .inl (0, 740, .inl (nF bt))), (y, .inr (9, fYard ay (ysN D.1 D.2.1))), (ay 1, .inl (0, 12, .inl (nF D.2.2.1))), (ay 2, .inl (0, 12, .inl (nF D.2.2.2.1))), (ay 3, .inl (0, 12, .inl (nF D.2.2.2.2.1))), (ay 4, .inl (0, 12, .inl (nF D.2.2.2.2.2.1))), (ay 5, .inl (0, 64, .inl (nF D.2.2.2.2.2.2.1))), (ay 6, .inl (1, 64, .inl (nF D.2.2.2.2.2.2.2))), (p, .inr (3, fPlan ap P.1)), (ap 1, .inl (0, 20, .inl (nF P.2.1))), (ap 2, .inl (0, 20, .inl (nF P.2.2.1))), (ap 3, .inl (0, 20, .inl (nF P.2.2.2.1))), (ap 4, .inl (0, 240, .inl (nF P.2.2.2.2)))]) [0] [1, 2, 3, 4, 5, 6, 7, 8, 9, 10, 11, 12, 13] 0 dX4_readMen_52 zl_RX4_114 kX9_isName rfl rfl rfl rfl rfl (by decide) rfl rfl (show dd - 1 + 1 ≤ dd by omega) (Nat.zero_le _) (Nat.zero_le _) (Nat.le_of_ble_eq_true rfl) (s_isName l (dd - 1) x b n L τ 0 pl (nI tk) hτ) (fun r K1 hr => ?_)
        obtain ⟨rfl, rfl⟩ := hr
        refine zs_K (K' := [(x, .inr (8, fTx b n L τ 0 pl (nI tk))), (b, .inl (0, 740, .inl (nF bt))), (y, .inr (9, fYard ay (ysN D.1 D.2.1))), (ay 1, .inl (0, 12, .inl (nF D.2.2.1))), (ay 2, .inl (0, 12, .inl (nF D.2.2.2.1))), (ay 3, .inl (0, 12, .inl (nF D.2.2.2.2.1))), (ay 4, .inl (0, 12, .inl (nF D.2.2.2.2.2.1))), (ay 5, .inl (0, 64, .inl (nF D.2.2.2.2.2.2.1))), (ay 6, .inl (1, 64, .inl (nF D.2.2.2.2.2.2.2))), (p, .inr (3, fPlan ap P.1)), (ap 1, .inl (0, 20, .inl (nF P.2.1))), (ap 2, .inl (0, 20, .inl (nF P.2.2.1))), (ap 3, .inl (0, 20, .inl (nF P.2.2.2.1))), (ap 4, .inl (0, 240, .inl (nF P.2.2.2.2)))]) [13, 0, 1, 2, 3, 4, 5, 6, 7, 8, 9, 10, 11, 12] rfl (by decide) ?_
        refine zs_if_ne (tgt := 64) dX4_readMen_55 (by decide) (fun c_8 => ?_) (fun c_8 => ?_)
        · have hname := bI_t c_8
          have hv1 := hτ.2.2.2.2.2.2.1 (tNm_2 hname).1
          refine zs_aload_n dX4_readMen_64 rfl rfl ?_
          refine zs_aload_n dX4_readMen_65 rfl rfl ?_
          refine zs_get 0 dX4_readMen_66 zf_RX4_102 rfl (v := .int (nI τ.2.2.2.1)) rfl ?_
          refine zs_callV (M := mX11_manNamed) (As := [.int (nI τ.2.2.2.1)]) (st := []) (Kc := [(y, .inr (9, fYard ay (ysN D.1 D.2.1))), (ay 1, .inl (0, 12, .inl (nF D.2.2.1)))]) (Kr := [(x, .inr (8, fTx b n L τ 0 pl (nI tk))), (b, .inl (0, 740, .inl (nF bt))), (ay 2, .inl (0, 12, .inl (nF D.2.2.2.1))), (ay 3, .inl (0, 12, .inl (nF D.2.2.2.2.1))), (ay 4, .inl (0, 12, .inl (nF D.2.2.2.2.2.1))), (ay 5, .inl (0, 64, .inl (nF D.2.2.2.2.2.2.1))), (ay 6, .inl (1, 64, .inl (nF D.2.2.2.2.2.2.2))), (p, .inr (3, fPlan ap P.1)), (ap 1, .inl (0, 20, .inl (nF P.2.1))), (ap 2, .inl (0, 20, .inl (nF P.2.2.1))), (ap 3, .inl (0, 20, .inl (nF P.2.2.2.1))), (ap 4, .inl (0, 240, .inl (nF P.2.2.2.2)))]) [2, 3] [0, 1, 4, 5, 6, 7, 8, 9, 10, 11, 12, 13] 0 dX4_readMen_69 zl_RX4_117 kX11_manNamed rfl rfl rfl rfl rfl (by decide) rfl rfl (show dd - 1 + 1 ≤ dd by omega) (Nat.zero_le _) (Nat.zero_le _) (Nat.le_of_ble_eq_true rfl) (s_manNamed l (dd - 1) y ay D τ.2.2.2.1 hv1 hD.1 hD.2.2.2.1) (fun r K1 hr => ?_)
          obtain ⟨rfl, rfl⟩ := hr
          refine zs_K (K' := [(x, .inr (8, fTx b n L τ 0 pl (nI tk))), (b, .inl (0, 740, .inl (nF bt))), (y, .inr (9, fYard ay (ysN D.1 D.2.1))), (ay 1, .inl (0, 12, .inl (nF D.2.2.1))), (ay 2, .inl (0, 12, .inl (nF D.2.2.2.1))), (ay 3, .inl (0, 12, .inl (nF D.2.2.2.2.1))), (ay 4, .inl (0, 12, .inl (nF D.2.2.2.2.2.1))), (ay 5, .inl (0, 64, .inl (nF D.2.2.2.2.2.2.1))), (ay 6, .inl (1, 64, .inl (nF D.2.2.2.2.2.2.2))), (p, .inr (3, fPlan ap P.1)), (ap 1, .inl (0, 20, .inl (nF P.2.1))), (ap 2, .inl (0, 20, .inl (nF P.2.2.1))), (ap 3, .inl (0, 20, .inl (nF P.2.2.2.1))), (ap 4, .inl (0, 240, .inl (nF P.2.2.2.2)))]) [0, 1, 12, 13, 2, 3, 4, 5, 6, 7, 8, 9, 10, 11] rfl (by decide) ?_
          refine zs_istore (lv' := [(6, .int (oI (mFind D.2.2.1 τ.2.2.2.1 (D.1 0) 0))), (0, .ref p), (1, .ref x), (2, .ref y), (3, .int (nI lst)), (4, .int (nI (P.1 * 12))), (5, .int (nI k))]) dX4_readMen_72 (Nat.le_of_ble_eq_true rfl) rfl ?_
          refine zs_iload dX4_readMen_74 rfl ?_
          refine zs_iconst (v := (-1)) dX4_readMen_76 (by decide) ?_
          refine zs_icmp_eq (tgt := 100) dX4_readMen_77 (by decide) (fun c_9 => ?_) (fun c_9 => ?_)
          · refine zs_aload_n dX4_readMen_100 rfl rfl ?_
            refine zs_iconst (v := nI 3) dX4_readMen_101 (by decide) ?_
            refine zs_callV (M := mX9_refuse) (As := [.int (nI 3)]) (st := []) (Kc := [(x, .inr (8, fTx b n L τ 0 pl (nI tk)))]) (Kr := [(b, .inl (0, 740, .inl (nF bt))), (y, .inr (9, fYard ay (ysN D.1 D.2.1))), (ay 1, .inl (0, 12, .inl (nF D.2.2.1))), (ay 2, .inl (0, 12, .inl (nF D.2.2.2.1))), (ay 3, .inl (0, 12, .inl (nF D.2.2.2.2.1))), (ay 4, .inl (0, 12, .inl (nF D.2.2.2.2.2.1))), (ay 5, .inl (0, 64, .inl (nF D.2.2.2.2.2.2.1))), (ay 6, .inl (1, 64, .inl (nF D.2.2.2.2.2.2.2))), (p, .inr (3, fPlan ap P.1)), (ap 1, .inl (0, 20, .inl (nF P.2.1))), (ap 2, .inl (0, 20, .inl (nF P.2.2.1))), (ap 3, .inl (0, 20, .inl (nF P.2.2.2.1))), (ap 4, .inl (0, 240, .inl (nF P.2.2.2.2)))]) [0] [1, 2, 3, 4, 5, 6, 7, 8, 9, 10, 11, 12, 13] 0 dX4_readMen_102 zl_RX4_54 kX9_refuse rfl rfl rfl rfl rfl (by decide) rfl rfl (show dd - 1 + 1 ≤ dd by omega) (Nat.zero_le _) (Nat.zero_le _) (Nat.le_of_ble_eq_true rfl) (s_refuse l (dd - 1) x b n L τ pl 3 (nI tk)) (fun r K1 hr => ?_)
            obtain ⟨rfl, rfl⟩ := hr
            refine zs_K (K' := [(x, .inr (8, fTx b n L τ 3 τ.2.1 (nI tk))), (b, .inl (0, 740, .inl (nF bt))), (y, .inr (9, fYard ay (ysN D.1 D.2.1))), (ay 1, .inl (0, 12, .inl (nF D.2.2.1))), (ay 2, .inl (0, 12, .inl (nF D.2.2.2.1))), (ay 3, .inl (0, 12, .inl (nF D.2.2.2.2.1))), (ay 4, .inl (0, 12, .inl (nF D.2.2.2.2.2.1))), (ay 5, .inl (0, 64, .inl (nF D.2.2.2.2.2.2.1))), (ay 6, .inl (1, 64, .inl (nF D.2.2.2.2.2.2.2))), (p, .inr (3, fPlan ap P.1)), (ap 1, .inl (0, 20, .inl (nF P.2.1))), (ap 2, .inl (0, 20, .inl (nF P.2.2.1))), (ap 3, .inl (0, 20, .inl (nF P.2.2.2.1))), (ap 4, .inl (0, 240, .inl (nF P.2.2.2.2)))]) [13, 0, 1, 2, 3, 4, 5, 6, 7, 8, 9, 10, 11, 12] rfl (by decide) ?_
            have e : R = (3, τ, tk, (P.1, P.2.1, P.2.2.1, P.2.2.2.1, P.2.2.2.2)) := hG.symm.trans (pMs_3 hac_7 (show ¬ tNm τ = false from fun h => by rw [hname] at h; exact absurd h (by decide)) (oI_n (fun j hj => by have := (mFind_lt _ _ _ hj).1; have := hD.1; omega) c_9))
            exact zs_zret dX4_readMen_105 rfl (Or.inl rfl) (hP _ _ (Or.inr ⟨by rw [e]; exact (show ¬ 3 = 0 by decide), rfl, by rw [e]; rfl⟩))
          · obtain ⟨i, hi⟩ : ∃ i, mFind D.2.2.1 τ.2.2.2.1 (D.1 0) 0 = some i := by
              cases hq : mFind D.2.2.1 τ.2.2.2.1 (D.1 0) 0 with
              | none => exact absurd (by rw [hq]; rfl) c_9
              | some i => exact ⟨i, rfl⟩
            have hi12 := (mFind_lt _ _ _ hi).1
            have hd12 := hD.1
            rw [hi]
            show zS _ 0 0 80 [(6, .int (nI i)), (0, .ref p), (1, .ref x), (2, .ref y), (3, .int (nI lst)), (4, .int (nI (P.1 * 12))), (5, .int (nI k))] [] [(x, .inr (8, fTx b n L τ 0 pl (nI tk))), (b, .inl (0, 740, .inl (nF bt))), (y, .inr (9, fYard ay (ysN D.1 D.2.1))), (ay 1, .inl (0, 12, .inl (nF D.2.2.1))), (ay 2, .inl (0, 12, .inl (nF D.2.2.2.1))), (ay 3, .inl (0, 12, .inl (nF D.2.2.2.2.1))), (ay 4, .inl (0, 12, .inl (nF D.2.2.2.2.2.1))), (ay 5, .inl (0, 64, .inl (nF D.2.2.2.2.2.2.1))), (ay 6, .inl (1, 64, .inl (nF D.2.2.2.2.2.2.2))), (p, .inr (3, fPlan ap P.1)), (ap 1, .inl (0, 20, .inl (nF P.2.1))), (ap 2, .inl (0, 20, .inl (nF P.2.2.1))), (ap 3, .inl (0, 20, .inl (nF P.2.2.2.1))), (ap 4, .inl (0, 240, .inl (nF P.2.2.2.2)))]
            refine zs_iload dX4_readMen_80 rfl ?_
            refine zs_bipush (v := nI 12) dX4_readMen_82 (by decide) ?_
            refine zs_icmp_ge (tgt := 100) dX4_readMen_84 (by decide) (fun c_10 => ?_) (fun c_10 => ?_)
            · have c_10 : 12 ≤ k := by have hc := c_10; rw [nI_le' (by omega) (by omega)] at hc; exact hc
              refine zs_aload_n dX4_readMen_100 rfl rfl ?_
              refine zs_iconst (v := nI 3) dX4_readMen_101 (by decide) ?_
              refine zs_callV (M := mX9_refuse) (As := [.int (nI 3)]) (st := []) (Kc := [(x, .inr (8, fTx b n L τ 0 pl (nI tk)))]) (Kr := [(b, .inl (0, 740, .inl (nF bt))), (y, .inr (9, fYard ay (ysN D.1 D.2.1))), (ay 1, .inl (0, 12, .inl (nF D.2.2.1))), (ay 2, .inl (0, 12, .inl (nF D.2.2.2.1))), (ay 3, .inl (0, 12, .inl (nF D.2.2.2.2.1))), (ay 4, .inl (0, 12, .inl (nF D.2.2.2.2.2.1))), (ay 5, .inl (0, 64, .inl (nF D.2.2.2.2.2.2.1))), (ay 6, .inl (1, 64, .inl (nF D.2.2.2.2.2.2.2))), (p, .inr (3, fPlan ap P.1)), (ap 1, .inl (0, 20, .inl (nF P.2.1))), (ap 2, .inl (0, 20, .inl (nF P.2.2.1))), (ap 3, .inl (0, 20, .inl (nF P.2.2.2.1))), (ap 4, .inl (0, 240, .inl (nF P.2.2.2.2)))]) [0] [1, 2, 3, 4, 5, 6, 7, 8, 9, 10, 11, 12, 13] 0 dX4_readMen_102 zl_RX4_54 kX9_refuse rfl rfl rfl rfl rfl (by decide) rfl rfl (show dd - 1 + 1 ≤ dd by omega) (Nat.zero_le _) (Nat.zero_le _) (Nat.le_of_ble_eq_true rfl) (s_refuse l (dd - 1) x b n L τ pl 3 (nI tk)) (fun r K1 hr => ?_)
              obtain ⟨rfl, rfl⟩ := hr
              refine zs_K (K' := [(x, .inr (8, fTx b n L τ 3 τ.2.1 (nI tk))), (b, .inl (0, 740, .inl (nF bt))), (y, .inr (9, fYard ay (ysN D.1 D.2.1))), (ay 1, .inl (0, 12, .inl (nF D.2.2.1))), (ay 2, .inl (0, 12, .inl (nF D.2.2.2.1))), (ay 3, .inl (0, 12, .inl (nF D.2.2.2.2.1))), (ay 4, .inl (0, 12, .inl (nF D.2.2.2.2.2.1))), (ay 5, .inl (0, 64, .inl (nF D.2.2.2.2.2.2.1))), (ay 6, .inl (1, 64, .inl (nF D.2.2.2.2.2.2.2))), (p, .inr (3, fPlan ap P.1)), (ap 1, .inl (0, 20, .inl (nF P.2.1))), (ap 2, .inl (0, 20, .inl (nF P.2.2.1))), (ap 3, .inl (0, 20, .inl (nF P.2.2.2.1))), (ap 4, .inl (0, 240, .inl (nF P.2.2.2.2)))]) [13, 0, 1, 2, 3, 4, 5, 6, 7, 8, 9, 10, 11, 12] rfl (by decide) ?_
              have e : R = (3, τ, tk, (P.1, P.2.1, P.2.2.1, P.2.2.2.1, P.2.2.2.2)) := hG.symm.trans (pMs_4 hac_7 (show ¬ tNm τ = false from fun h => by rw [hname] at h; exact absurd h (by decide)) hi (show 12 ≤ k by omega))
              exact zs_zret dX4_readMen_105 rfl (Or.inl rfl) (hP _ _ (Or.inr ⟨by rw [e]; exact (show ¬ 3 = 0 by decide), rfl, by rw [e]; rfl⟩))
            · have c_10 : ¬ (12 ≤ k) := by have hc := c_10; rw [nI_le' (by omega) (by omega)] at hc; exact hc
              refine zs_aload_n dX4_readMen_87 rfl rfl ?_
              refine zs_iload dX4_readMen_88 rfl ?_
              refine zs_iload dX4_readMen_90 rfl ?_
              refine zs_iload dX4_readMen_92 rfl ?_
              refine zs_callV (M := mX4_stands) (As := [.int (nI (P.1 * 12)), .int (nI k), .int (nI i)]) (st := []) (Kc := [(p, .inr (3, fPlan ap P.1)), (ap 4, .inl (0, 240, .inl (nF P.2.2.2.2)))]) (Kr := [(x, .inr (8, fTx b n L τ 0 pl (nI tk))), (b, .inl (0, 740, .inl (nF bt))), (y, .inr (9, fYard ay (ysN D.1 D.2.1))), (ay 1, .inl (0, 12, .inl (nF D.2.2.1))), (ay 2, .inl (0, 12, .inl (nF D.2.2.2.1))), (ay 3, .inl (0, 12, .inl (nF D.2.2.2.2.1))), (ay 4, .inl (0, 12, .inl (nF D.2.2.2.2.2.1))), (ay 5, .inl (0, 64, .inl (nF D.2.2.2.2.2.2.1))), (ay 6, .inl (1, 64, .inl (nF D.2.2.2.2.2.2.2))), (ap 1, .inl (0, 20, .inl (nF P.2.1))), (ap 2, .inl (0, 20, .inl (nF P.2.2.1))), (ap 3, .inl (0, 20, .inl (nF P.2.2.2.1)))]) [9, 13] [0, 1, 2, 3, 4, 5, 6, 7, 8, 10, 11, 12] 0 dX4_readMen_94 zl_RX4_121 kX4_stands rfl rfl rfl rfl rfl (by decide) rfl rfl (show dd - 1 + 1 ≤ dd by omega) (Nat.zero_le _) (Nat.zero_le _) (Nat.le_of_ble_eq_true rfl) (s_stands l (dd - 1) p ap P (P.1 * 12) k i (by omega) (by omega) (fun j => by have := hpm j; omega)) (fun r K1 hr => ?_)
              obtain ⟨rfl, rfl⟩ := hr
              refine zs_K (K' := [(x, .inr (8, fTx b n L τ 0 pl (nI tk))), (b, .inl (0, 740, .inl (nF bt))), (y, .inr (9, fYard ay (ysN D.1 D.2.1))), (ay 1, .inl (0, 12, .inl (nF D.2.2.1))), (ay 2, .inl (0, 12, .inl (nF D.2.2.2.1))), (ay 3, .inl (0, 12, .inl (nF D.2.2.2.2.1))), (ay 4, .inl (0, 12, .inl (nF D.2.2.2.2.2.1))), (ay 5, .inl (0, 64, .inl (nF D.2.2.2.2.2.2.1))), (ay 6, .inl (1, 64, .inl (nF D.2.2.2.2.2.2.2))), (p, .inr (3, fPlan ap P.1)), (ap 1, .inl (0, 20, .inl (nF P.2.1))), (ap 2, .inl (0, 20, .inl (nF P.2.2.1))), (ap 3, .inl (0, 20, .inl (nF P.2.2.2.1))), (ap 4, .inl (0, 240, .inl (nF P.2.2.2.2)))]) [0, 1, 2, 3, 4, 5, 6, 7, 8, 12, 9, 10, 11, 13] rfl (by decide) ?_
              refine zs_if_eq (tgt := 106) dX4_readMen_97 (by decide) (fun c_11 => ?_) (fun c_11 => ?_)
              · refine zs_aload_n dX4_readMen_106 rfl rfl ?_
                refine zs_get 9 dX4_readMen_107 zf_RX4_21 rfl (v := .ref (ap 4)) rfl ?_
                refine zs_iload dX4_readMen_110 rfl ?_
                refine zs_iload dX4_readMen_112 rfl ?_
                refine zs_iadd dX4_readMen_114 ?_
                refine zs_as (y := nI ((P.1 * 12) + k)) (nI_add _ _) ?_
                refine zs_iload dX4_readMen_115 rfl ?_
                refine zs_iast 13 dX4_readMen_117 rfl (vp_in_nI (by omega) (by omega)) ?_
                rw [nI_c (n := (P.1 * 12) + k) (by omega), nF_u]
                show zS _ _ _ _ _ _ [(x, .inr (8, fTx b n L τ 0 pl (nI tk))), (b, .inl (0, 740, .inl (nF bt))), (y, .inr (9, fYard ay (ysN D.1 D.2.1))), (ay 1, .inl (0, 12, .inl (nF D.2.2.1))), (ay 2, .inl (0, 12, .inl (nF D.2.2.2.1))), (ay 3, .inl (0, 12, .inl (nF D.2.2.2.2.1))), (ay 4, .inl (0, 12, .inl (nF D.2.2.2.2.2.1))), (ay 5, .inl (0, 64, .inl (nF D.2.2.2.2.2.2.1))), (ay 6, .inl (1, 64, .inl (nF D.2.2.2.2.2.2.2))), (p, .inr (3, fPlan ap P.1)), (ap 1, .inl (0, 20, .inl (nF P.2.1))), (ap 2, .inl (0, 20, .inl (nF P.2.2.1))), (ap 3, .inl (0, 20, .inl (nF P.2.2.2.1))), (ap 4, .inl (0, 240, .inl (nF (un P.2.2.2.2 ((P.1 * 12) + k) i))))]
                refine zs_aload_n dX4_readMen_118 rfl rfl ?_
                refine zs_callV (M := mX9_next) (As := []) (st := []) (Kc := [(x, .inr (8, fTx b n L τ 0 pl (nI tk))), (b, .inl (0, 740, .inl (nF bt)))]) (Kr := [(y, .inr (9, fYard ay (ysN D.1 D.2.1))), (ay 1, .inl (0, 12, .inl (nF D.2.2.1))), (ay 2, .inl (0, 12, .inl (nF D.2.2.2.1))), (ay 3, .inl (0, 12, .inl (nF D.2.2.2.2.1))), (ay 4, .inl (0, 12, .inl (nF D.2.2.2.2.2.1))), (ay 5, .inl (0, 64, .inl (nF D.2.2.2.2.2.2.1))), (ay 6, .inl (1, 64, .inl (nF D.2.2.2.2.2.2.2))), (p, .inr (3, fPlan ap P.1)), (ap 1, .inl (0, 20, .inl (nF P.2.1))), (ap 2, .inl (0, 20, .inl (nF P.2.2.1))), (ap 3, .inl (0, 20, .inl (nF P.2.2.2.1))), (ap 4, .inl (0, 240, .inl (nF (un P.2.2.2.2 ((P.1 * 12) + k) i))))]) [0, 1] [2, 3, 4, 5, 6, 7, 8, 9, 10, 11, 12, 13] 0 dX4_readMen_119 zl_RX4_58 kX9_next rfl rfl rfl rfl rfl (by decide) rfl rfl (show dd - 1 + 1 ≤ dd by omega) (Nat.zero_le _) (Nat.zero_le _) (Nat.le_of_ble_eq_true rfl) (s_next l (dd - 1) x b n L bt τ 0 pl (nI tk) (by omega) hn hL hbt hτ.2.2.1) (fun r K1 hr => ?_)
                obtain ⟨rfl, rfl⟩ := hr
                refine zs_K (K' := [(x, .inr (8, fTx b n L (nxt bt n L τ) 0 pl (nI tk))), (b, .inl (0, 740, .inl (nF bt))), (y, .inr (9, fYard ay (ysN D.1 D.2.1))), (ay 1, .inl (0, 12, .inl (nF D.2.2.1))), (ay 2, .inl (0, 12, .inl (nF D.2.2.2.1))), (ay 3, .inl (0, 12, .inl (nF D.2.2.2.2.1))), (ay 4, .inl (0, 12, .inl (nF D.2.2.2.2.2.1))), (ay 5, .inl (0, 64, .inl (nF D.2.2.2.2.2.2.1))), (ay 6, .inl (1, 64, .inl (nF D.2.2.2.2.2.2.2))), (p, .inr (3, fPlan ap P.1)), (ap 1, .inl (0, 20, .inl (nF P.2.1))), (ap 2, .inl (0, 20, .inl (nF P.2.2.1))), (ap 3, .inl (0, 20, .inl (nF P.2.2.2.1))), (ap 4, .inl (0, 240, .inl (nF (un P.2.2.2.2 ((P.1 * 12) + k) i))))]) [12, 13, 0, 1, 2, 3, 4, 5, 6, 7, 8, 9, 10, 11] rfl (by decide) ?_
                refine zs_iinc (v := (nI (k + 1))) (lv' := [(5, .int (nI (k + 1))), (6, .int (nI i)), (0, .ref p), (1, .ref x), (2, .ref y), (3, .int (nI lst)), (4, .int (nI (P.1 * 12)))]) dX4_readMen_122 rfl (nI_add _ 1) (Nat.le_of_ble_eq_true rfl) rfl ?_
                refine zs_goto (tgt := 16) dX4_readMen_125 (by decide) ?_
                refine zs_lv [2, 3, 4, 5, 6, 0] rfl ?_
                refine ih (k + 1) (nxt bt n L τ) tk (pWm P k i) (by omega) (nxt_OK hbt hn) h20 (fun j => ?_) ?_
                · show un P.2.2.2.2 (P.1 * 12 + k) i j < 12
                  unfold un
                  split
                  · omega
                  · exact hpm j
                · rw [← hG]
                  exact (pMs_s hac_7 (show ¬ tNm τ = false from fun h => by rw [hname] at h; exact absurd h (by decide)) hi (show ¬ 12 ≤ k by omega) (show ¬ pSt P.2.2.2.2 (P.1 * 12) k i = true from fun h => by rw [bI_f c_11] at h; exact absurd h (by decide))).symm
              · refine zs_aload_n dX4_readMen_100 rfl rfl ?_
                refine zs_iconst (v := nI 3) dX4_readMen_101 (by decide) ?_
                refine zs_callV (M := mX9_refuse) (As := [.int (nI 3)]) (st := []) (Kc := [(x, .inr (8, fTx b n L τ 0 pl (nI tk)))]) (Kr := [(b, .inl (0, 740, .inl (nF bt))), (y, .inr (9, fYard ay (ysN D.1 D.2.1))), (ay 1, .inl (0, 12, .inl (nF D.2.2.1))), (ay 2, .inl (0, 12, .inl (nF D.2.2.2.1))), (ay 3, .inl (0, 12, .inl (nF D.2.2.2.2.1))), (ay 4, .inl (0, 12, .inl (nF D.2.2.2.2.2.1))), (ay 5, .inl (0, 64, .inl (nF D.2.2.2.2.2.2.1))), (ay 6, .inl (1, 64, .inl (nF D.2.2.2.2.2.2.2))), (p, .inr (3, fPlan ap P.1)), (ap 1, .inl (0, 20, .inl (nF P.2.1))), (ap 2, .inl (0, 20, .inl (nF P.2.2.1))), (ap 3, .inl (0, 20, .inl (nF P.2.2.2.1))), (ap 4, .inl (0, 240, .inl (nF P.2.2.2.2)))]) [0] [1, 2, 3, 4, 5, 6, 7, 8, 9, 10, 11, 12, 13] 0 dX4_readMen_102 zl_RX4_54 kX9_refuse rfl rfl rfl rfl rfl (by decide) rfl rfl (show dd - 1 + 1 ≤ dd by omega) (Nat.zero_le _) (Nat.zero_le _) (Nat.le_of_ble_eq_true rfl) (s_refuse l (dd - 1) x b n L τ pl 3 (nI tk)) (fun r K1 hr => ?_)
                obtain ⟨rfl, rfl⟩ := hr
                refine zs_K (K' := [(x, .inr (8, fTx b n L τ 3 τ.2.1 (nI tk))), (b, .inl (0, 740, .inl (nF bt))), (y, .inr (9, fYard ay (ysN D.1 D.2.1))), (ay 1, .inl (0, 12, .inl (nF D.2.2.1))), (ay 2, .inl (0, 12, .inl (nF D.2.2.2.1))), (ay 3, .inl (0, 12, .inl (nF D.2.2.2.2.1))), (ay 4, .inl (0, 12, .inl (nF D.2.2.2.2.2.1))), (ay 5, .inl (0, 64, .inl (nF D.2.2.2.2.2.2.1))), (ay 6, .inl (1, 64, .inl (nF D.2.2.2.2.2.2.2))), (p, .inr (3, fPlan ap P.1)), (ap 1, .inl (0, 20, .inl (nF P.2.1))), (ap 2, .inl (0, 20, .inl (nF P.2.2.1))), (ap 3, .inl (0, 20, .inl (nF P.2.2.2.1))), (ap 4, .inl (0, 240, .inl (nF P.2.2.2.2)))]) [13, 0, 1, 2, 3, 4, 5, 6, 7, 8, 9, 10, 11, 12] rfl (by decide) ?_
                have e : R = (3, τ, tk, (P.1, P.2.1, P.2.2.1, P.2.2.2.1, P.2.2.2.2)) := hG.symm.trans (pMs_5 hac_7 (show ¬ tNm τ = false from fun h => by rw [hname] at h; exact absurd h (by decide)) hi (show ¬ 12 ≤ k by omega) (bI_t c_11))
                exact zs_zret dX4_readMen_105 rfl (Or.inl rfl) (hP _ _ (Or.inr ⟨by rw [e]; exact (show ¬ 3 = 0 by decide), rfl, by rw [e]; rfl⟩))
        · refine zs_aload_n dX4_readMen_58 rfl rfl ?_
          refine zs_iconst (v := nI 1) dX4_readMen_59 (by decide) ?_
          refine zs_callV (M := mX9_refuse) (As := [.int (nI 1)]) (st := []) (Kc := [(x, .inr (8, fTx b n L τ 0 pl (nI tk)))]) (Kr := [(b, .inl (0, 740, .inl (nF bt))), (y, .inr (9, fYard ay (ysN D.1 D.2.1))), (ay 1, .inl (0, 12, .inl (nF D.2.2.1))), (ay 2, .inl (0, 12, .inl (nF D.2.2.2.1))), (ay 3, .inl (0, 12, .inl (nF D.2.2.2.2.1))), (ay 4, .inl (0, 12, .inl (nF D.2.2.2.2.2.1))), (ay 5, .inl (0, 64, .inl (nF D.2.2.2.2.2.2.1))), (ay 6, .inl (1, 64, .inl (nF D.2.2.2.2.2.2.2))), (p, .inr (3, fPlan ap P.1)), (ap 1, .inl (0, 20, .inl (nF P.2.1))), (ap 2, .inl (0, 20, .inl (nF P.2.2.1))), (ap 3, .inl (0, 20, .inl (nF P.2.2.2.1))), (ap 4, .inl (0, 240, .inl (nF P.2.2.2.2)))]) [0] [1, 2, 3, 4, 5, 6, 7, 8, 9, 10, 11, 12, 13] 0 dX4_readMen_60 zl_RX4_54 kX9_refuse rfl rfl rfl rfl rfl (by decide) rfl rfl (show dd - 1 + 1 ≤ dd by omega) (Nat.zero_le _) (Nat.zero_le _) (Nat.le_of_ble_eq_true rfl) (s_refuse l (dd - 1) x b n L τ pl 1 (nI tk)) (fun r K1 hr => ?_)
          obtain ⟨rfl, rfl⟩ := hr
          refine zs_K (K' := [(x, .inr (8, fTx b n L τ 1 τ.2.1 (nI tk))), (b, .inl (0, 740, .inl (nF bt))), (y, .inr (9, fYard ay (ysN D.1 D.2.1))), (ay 1, .inl (0, 12, .inl (nF D.2.2.1))), (ay 2, .inl (0, 12, .inl (nF D.2.2.2.1))), (ay 3, .inl (0, 12, .inl (nF D.2.2.2.2.1))), (ay 4, .inl (0, 12, .inl (nF D.2.2.2.2.2.1))), (ay 5, .inl (0, 64, .inl (nF D.2.2.2.2.2.2.1))), (ay 6, .inl (1, 64, .inl (nF D.2.2.2.2.2.2.2))), (p, .inr (3, fPlan ap P.1)), (ap 1, .inl (0, 20, .inl (nF P.2.1))), (ap 2, .inl (0, 20, .inl (nF P.2.2.1))), (ap 3, .inl (0, 20, .inl (nF P.2.2.2.1))), (ap 4, .inl (0, 240, .inl (nF P.2.2.2.2)))]) [13, 0, 1, 2, 3, 4, 5, 6, 7, 8, 9, 10, 11, 12] rfl (by decide) ?_
          have e : R = (1, τ, tk, (P.1, P.2.1, P.2.2.1, P.2.2.2.1, P.2.2.2.2)) := hG.symm.trans (pMs_1 hac_7 (bI_f c_8))
          exact zs_zret dX4_readMen_63 rfl (Or.inl rfl) (hP _ _ (Or.inr ⟨by rw [e]; exact (show ¬ 1 = 0 by decide), rfl, by rw [e]; rfl⟩))
      · refine zs_aload_n dX4_readMen_38 rfl rfl ?_
        refine zs_get 9 dX4_readMen_39 zf_RX4_18 rfl (v := .ref (ap 3)) rfl ?_
        refine zs_aload_n dX4_readMen_42 rfl rfl ?_
        refine zs_get 9 dX4_readMen_43 zf_RX4_24 rfl (v := .int (nI P.1)) rfl ?_
        refine zs_iload dX4_readMen_46 rfl ?_
        refine zs_iast 12 dX4_readMen_48 rfl (vp_in_nI (by omega) (by omega)) ?_
        rw [nI_c (n := P.1) (by omega), nF_u]
        show zS _ _ _ _ _ _ [(x, .inr (8, fTx b n L τ 0 pl (nI tk))), (b, .inl (0, 740, .inl (nF bt))), (y, .inr (9, fYard ay (ysN D.1 D.2.1))), (ay 1, .inl (0, 12, .inl (nF D.2.2.1))), (ay 2, .inl (0, 12, .inl (nF D.2.2.2.1))), (ay 3, .inl (0, 12, .inl (nF D.2.2.2.2.1))), (ay 4, .inl (0, 12, .inl (nF D.2.2.2.2.2.1))), (ay 5, .inl (0, 64, .inl (nF D.2.2.2.2.2.2.1))), (ay 6, .inl (1, 64, .inl (nF D.2.2.2.2.2.2.2))), (p, .inr (3, fPlan ap P.1)), (ap 1, .inl (0, 20, .inl (nF P.2.1))), (ap 2, .inl (0, 20, .inl (nF P.2.2.1))), (ap 3, .inl (0, 20, .inl (nF (un P.2.2.2.1 P.1 k)))), (ap 4, .inl (0, 240, .inl (nF P.2.2.2.2)))]
        refine zs_iconst (v := nI 1) dX4_readMen_49 (by decide) ?_
        have e : R = (0, τ, tk, (P.1, P.2.1, P.2.2.1, un P.2.2.2.1 P.1 k, P.2.2.2.2)) := hG.symm.trans (pMs_e (show lst ≤ k by omega) (bI_t c_7))
        exact zs_zret dX4_readMen_50 rfl (Or.inr rfl) (hP _ _ (Or.inl ⟨by rw [e], rfl, by rw [e]; rfl⟩))
set_option maxRecDepth 100000 in
theorem s_readMen (l : Launch) (dd : Nat) (x b n L y p : Nat) (ay ap : Nat → Nat) (bt : Nat → Nat) (pl : Nat) (D : zYd) (lst : Nat) (τ : zTk) (tk : Nat) (P : zPl) (hd : 5 ≤ dd) (hn : n ≤ 740) (hL : L ≤ 740) (hbt : ∀ j, bt j < 256) (hD : yI D) (hl : lst ≤ 12) (hτ : tOK τ) (h20 : P.1 < 20) (hpm : ∀ j, P.2.2.2.2 j < 12) : zSp l mX4_readMen dd 0 0 [.ref p, .ref x, .ref y, .int (nI lst)] [(x, .inr (8, fTx b n L τ 0 pl (nI tk))), (b, .inl (0, 740, .inl (nF bt))), (y, .inr (9, fYard ay (ysN D.1 D.2.1))), (ay 1, .inl (0, 12, .inl (nF D.2.2.1))), (ay 2, .inl (0, 12, .inl (nF D.2.2.2.1))), (ay 3, .inl (0, 12, .inl (nF D.2.2.2.2.1))), (ay 4, .inl (0, 12, .inl (nF D.2.2.2.2.2.1))), (ay 5, .inl (0, 64, .inl (nF D.2.2.2.2.2.2.1))), (ay 6, .inl (1, 64, .inl (nF D.2.2.2.2.2.2.2))), (p, .inr (3, fPlan ap P.1)), (ap 1, .inl (0, 20, .inl (nF P.2.1))), (ap 2, .inl (0, 20, .inl (nF P.2.2.1))), (ap 3, .inl (0, 20, .inl (nF P.2.2.2.1))), (ap 4, .inl (0, 240, .inl (nF P.2.2.2.2)))] (fun r K' => ((pMs bt n L D lst 13 0 (nxt bt n L τ) tk P).1 = 0 ∧ r = some (.int 1) ∧ K' = kTx x b n L bt (pMs bt n L D lst 13 0 (nxt bt n L τ) tk P).2.1 0 pl (pMs bt n L D lst 13 0 (nxt bt n L τ) tk P).2.2.1 ++ kYd y ay D ++ kPl p ap (pMs bt n L D lst 13 0 (nxt bt n L τ) tk P).2.2.2) ∨ (¬ (pMs bt n L D lst 13 0 (nxt bt n L τ) tk P).1 = 0 ∧ r = some (.int 0) ∧ K' = kTx x b n L bt (pMs bt n L D lst 13 0 (nxt bt n L τ) tk P).2.1 (pMs bt n L D lst 13 0 (nxt bt n L τ) tk P).1 (pMs bt n L D lst 13 0 (nxt bt n L τ) tk P).2.1.2.1 (pMs bt n L D lst 13 0 (nxt bt n L τ) tk P).2.2.1 ++ kYd y ay D ++ kPl p ap (pMs bt n L D lst 13 0 (nxt bt n L τ) tk P).2.2.2)) := by
  refine zSp.of (by decide) (Nat.le_of_ble_eq_true rfl) (fun h0 => ?_)
  show zS _ 0 0 0 [(0, .ref p), (1, .ref x), (2, .ref y), (3, .int (nI lst))] [] [(x, .inr (8, fTx b n L τ 0 pl (nI tk))), (b, .inl (0, 740, .inl (nF bt))), (y, .inr (9, fYard ay (ysN D.1 D.2.1))), (ay 1, .inl (0, 12, .inl (nF D.2.2.1))), (ay 2, .inl (0, 12, .inl (nF D.2.2.2.1))), (ay 3, .inl (0, 12, .inl (nF D.2.2.2.2.1))), (ay 4, .inl (0, 12, .inl (nF D.2.2.2.2.2.1))), (ay 5, .inl (0, 64, .inl (nF D.2.2.2.2.2.2.1))), (ay 6, .inl (1, 64, .inl (nF D.2.2.2.2.2.2.2))), (p, .inr (3, fPlan ap P.1)), (ap 1, .inl (0, 20, .inl (nF P.2.1))), (ap 2, .inl (0, 20, .inl (nF P.2.2.1))), (ap 3, .inl (0, 20, .inl (nF P.2.2.2.1))), (ap 4, .inl (0, 240, .inl (nF P.2.2.2.2)))]
  refine zs_aload_n dX4_readMen_0 rfl rfl ?_
  refine zs_callV (M := mX9_next) (As := []) (st := []) (Kc := [(x, .inr (8, fTx b n L τ 0 pl (nI tk))), (b, .inl (0, 740, .inl (nF bt)))]) (Kr := [(y, .inr (9, fYard ay (ysN D.1 D.2.1))), (ay 1, .inl (0, 12, .inl (nF D.2.2.1))), (ay 2, .inl (0, 12, .inl (nF D.2.2.2.1))), (ay 3, .inl (0, 12, .inl (nF D.2.2.2.2.1))), (ay 4, .inl (0, 12, .inl (nF D.2.2.2.2.2.1))), (ay 5, .inl (0, 64, .inl (nF D.2.2.2.2.2.2.1))), (ay 6, .inl (1, 64, .inl (nF D.2.2.2.2.2.2.2))), (p, .inr (3, fPlan ap P.1)), (ap 1, .inl (0, 20, .inl (nF P.2.1))), (ap 2, .inl (0, 20, .inl (nF P.2.2.1))), (ap 3, .inl (0, 20, .inl (nF P.2.2.2.1))), (ap 4, .inl (0, 240, .inl (nF P.2.2.2.2)))]) [0, 1] [2, 3, 4, 5, 6, 7, 8, 9, 10, 11, 12, 13] 0 dX4_readMen_1 zl_RX4_58 kX9_next rfl rfl rfl rfl rfl (by decide) rfl rfl (show dd - 1 + 1 ≤ dd by omega) (Nat.zero_le _) (Nat.zero_le _) (Nat.le_of_ble_eq_true rfl) (s_next l (dd - 1) x b n L bt τ 0 pl (nI tk) (by omega) hn hL hbt hτ.2.2.1) (fun r K1 hr => ?_)
  obtain ⟨rfl, rfl⟩ := hr
  refine zs_K (K' := [(x, .inr (8, fTx b n L (nxt bt n L τ) 0 pl (nI tk))), (b, .inl (0, 740, .inl (nF bt))), (y, .inr (9, fYard ay (ysN D.1 D.2.1))), (ay 1, .inl (0, 12, .inl (nF D.2.2.1))), (ay 2, .inl (0, 12, .inl (nF D.2.2.2.1))), (ay 3, .inl (0, 12, .inl (nF D.2.2.2.2.1))), (ay 4, .inl (0, 12, .inl (nF D.2.2.2.2.2.1))), (ay 5, .inl (0, 64, .inl (nF D.2.2.2.2.2.2.1))), (ay 6, .inl (1, 64, .inl (nF D.2.2.2.2.2.2.2))), (p, .inr (3, fPlan ap P.1)), (ap 1, .inl (0, 20, .inl (nF P.2.1))), (ap 2, .inl (0, 20, .inl (nF P.2.2.1))), (ap 3, .inl (0, 20, .inl (nF P.2.2.2.1))), (ap 4, .inl (0, 240, .inl (nF P.2.2.2.2)))]) [12, 13, 0, 1, 2, 3, 4, 5, 6, 7, 8, 9, 10, 11] rfl (by decide) ?_
  refine zs_aload_n dX4_readMen_4 rfl rfl ?_
  refine zs_get 9 dX4_readMen_5 zf_RX4_24 rfl (v := .int (nI P.1)) rfl ?_
  refine zs_bipush (v := nI 12) dX4_readMen_8 (by decide) ?_
  refine zs_imul dX4_readMen_10 ?_
  refine zs_as (y := nI (P.1 * 12)) (nI_mul _ _) ?_
  refine zs_istore (lv' := [(4, .int (nI (P.1 * 12))), (0, .ref p), (1, .ref x), (2, .ref y), (3, .int (nI lst))]) dX4_readMen_11 (Nat.le_of_ble_eq_true rfl) rfl ?_
  refine zs_iconst (v := nI 0) dX4_readMen_13 (by decide) ?_
  refine zs_istore (lv' := [(5, .int (nI 0)), (4, .int (nI (P.1 * 12))), (0, .ref p), (1, .ref x), (2, .ref y), (3, .int (nI lst))]) dX4_readMen_14 (Nat.le_of_ble_eq_true rfl) rfl ?_
  refine zs_lv [2, 3, 4, 5, 1, 0] rfl ?_
  exact lp_men x b n L y p ay ap bt pl D lst hd hn hL hbt hD hl _ (fun r K1 h => h) 13 0 _ tk P rfl (nxt_OK hbt hn) h20 hpm rfl
theorem dX4_readAim_0 : decode cX4_readAim 0 = .ok (.aload_n 1, 1) := by decide +kernel
theorem dX4_readAim_1 : decode cX4_readAim 1 = .ok (.invokevirtual 58, 3) := by decide +kernel
theorem dX4_readAim_4 : decode cX4_readAim 4 = .ok (.aload_n 1, 1) := by decide +kernel
theorem dX4_readAim_5 : decode cX4_readAim 5 = .ok (.getfield 37, 3) := by decide +kernel
theorem dX4_readAim_8 : decode cX4_readAim 8 = .ok (.iconst 3, 1) := by decide +kernel
theorem dX4_readAim_9 : decode cX4_readAim 9 = .ok (.if_icmp .ne 20, 3) := by decide +kernel
theorem dX4_readAim_12 : decode cX4_readAim 12 = .ok (.aload_n 2, 1) := by decide +kernel
theorem dX4_readAim_13 : decode cX4_readAim 13 = .ok (.aload_n 1, 1) := by decide +kernel
theorem dX4_readAim_14 : decode cX4_readAim 14 = .ok (.getfield 102, 3) := by decide +kernel
theorem dX4_readAim_17 : decode cX4_readAim 17 = .ok (.invokevirtual 105, 3) := by decide +kernel
theorem dX4_readAim_20 : decode cX4_readAim 20 = .ok (.ifCond .ne 9, 3) := by decide +kernel
theorem dX4_readAim_23 : decode cX4_readAim 23 = .ok (.aload_n 1, 1) := by decide +kernel
theorem dX4_readAim_24 : decode cX4_readAim 24 = .ok (.iconst 2, 1) := by decide +kernel
theorem dX4_readAim_25 : decode cX4_readAim 25 = .ok (.invokevirtual 54, 3) := by decide +kernel
theorem dX4_readAim_28 : decode cX4_readAim 28 = .ok (.ireturn, 1) := by decide +kernel
theorem dX4_readAim_29 : decode cX4_readAim 29 = .ok (.aload_n 1, 1) := by decide +kernel
theorem dX4_readAim_30 : decode cX4_readAim 30 = .ok (.iconst 0, 1) := by decide +kernel
theorem dX4_readAim_31 : decode cX4_readAim 31 = .ok (.ldc 110, 2) := by decide +kernel
theorem dX4_readAim_33 : decode cX4_readAim 33 = .ok (.invokevirtual 61, 3) := by decide +kernel
theorem dX4_readAim_36 : decode cX4_readAim 36 = .ok (.istore_n 3, 1) := by decide +kernel
theorem dX4_readAim_37 : decode cX4_readAim 37 = .ok (.aload_n 0, 1) := by decide +kernel
theorem dX4_readAim_38 : decode cX4_readAim 38 = .ok (.getfield 18, 3) := by decide +kernel
theorem dX4_readAim_41 : decode cX4_readAim 41 = .ok (.aload_n 0, 1) := by decide +kernel
theorem dX4_readAim_42 : decode cX4_readAim 42 = .ok (.getfield 24, 3) := by decide +kernel
theorem dX4_readAim_45 : decode cX4_readAim 45 = .ok (.aload_n 1, 1) := by decide +kernel
theorem dX4_readAim_46 : decode cX4_readAim 46 = .ok (.getfield 65, 3) := by decide +kernel
theorem dX4_readAim_49 : decode cX4_readAim 49 = .ok (.iastore, 1) := by decide +kernel
theorem dX4_readAim_50 : decode cX4_readAim 50 = .ok (.iload_n 3, 1) := by decide +kernel
theorem dX4_readAim_51 : decode cX4_readAim 51 = .ok (.ireturn, 1) := by decide +kernel
set_option maxRecDepth 100000 in
theorem s_readAim (l : Launch) (dd : Nat) (x b n L y p : Nat) (ay ap : Nat → Nat) (bt : Nat → Nat) (pl : Nat) (D : zYd) (τ : zTk) (tk : Nat) (P : zPl) (hd : 5 ≤ dd) (hn : n ≤ 740) (hL : L ≤ 740) (hbt : ∀ j, bt j < 256) (hD : yI D) (hτ : tOK τ) (h20 : P.1 < 20) (hpm : ∀ j, P.2.2.2.2 j < 12) : zSp l mX4_readAim dd 0 0 [.ref p, .ref x, .ref y] [(x, .inr (8, fTx b n L τ 0 pl (nI tk))), (b, .inl (0, 740, .inl (nF bt))), (y, .inr (9, fYard ay (ysN D.1 D.2.1))), (ay 1, .inl (0, 12, .inl (nF D.2.2.1))), (ay 2, .inl (0, 12, .inl (nF D.2.2.2.1))), (ay 3, .inl (0, 12, .inl (nF D.2.2.2.2.1))), (ay 4, .inl (0, 12, .inl (nF D.2.2.2.2.2.1))), (ay 5, .inl (0, 64, .inl (nF D.2.2.2.2.2.2.1))), (ay 6, .inl (1, 64, .inl (nF D.2.2.2.2.2.2.2))), (p, .inr (3, fPlan ap P.1)), (ap 1, .inl (0, 20, .inl (nF P.2.1))), (ap 2, .inl (0, 20, .inl (nF P.2.2.1))), (ap 3, .inl (0, 20, .inl (nF P.2.2.2.1))), (ap 4, .inl (0, 240, .inl (nF P.2.2.2.2)))] (fun r K' => ((pAmP bt n L D τ tk P).1 = 0 ∧ r = some (.int 1) ∧ K' = kTx x b n L bt (pAmP bt n L D τ tk P).2.1 0 pl (pAmP bt n L D τ tk P).2.2.1 ++ kYd y ay D ++ kPl p ap (pAmP bt n L D τ tk P).2.2.2) ∨ (¬ (pAmP bt n L D τ tk P).1 = 0 ∧ r = some (.int 0) ∧ K' = kTx x b n L bt (pAmP bt n L D τ tk P).2.1 (pAmP bt n L D τ tk P).1 (pAmP bt n L D τ tk P).2.1.2.1 (pAmP bt n L D τ tk P).2.2.1 ++ kYd y ay D ++ kPl p ap (pAmP bt n L D τ tk P).2.2.2)) := by
  refine zSp.of (by decide) (Nat.le_of_ble_eq_true rfl) (fun h0 => ?_)
  show zS _ 0 0 0 [(0, .ref p), (1, .ref x), (2, .ref y)] [] [(x, .inr (8, fTx b n L τ 0 pl (nI tk))), (b, .inl (0, 740, .inl (nF bt))), (y, .inr (9, fYard ay (ysN D.1 D.2.1))), (ay 1, .inl (0, 12, .inl (nF D.2.2.1))), (ay 2, .inl (0, 12, .inl (nF D.2.2.2.1))), (ay 3, .inl (0, 12, .inl (nF D.2.2.2.2.1))), (ay 4, .inl (0, 12, .inl (nF D.2.2.2.2.2.1))), (ay 5, .inl (0, 64, .inl (nF D.2.2.2.2.2.2.1))), (ay 6, .inl (1, 64, .inl (nF D.2.2.2.2.2.2.2))), (p, .inr (3, fPlan ap P.1)), (ap 1, .inl (0, 20, .inl (nF P.2.1))), (ap 2, .inl (0, 20, .inl (nF P.2.2.1))), (ap 3, .inl (0, 20, .inl (nF P.2.2.2.1))), (ap 4, .inl (0, 240, .inl (nF P.2.2.2.2)))]
  have hO := nxt_OK (L := L) (τ := τ) hbt hn
  have hO1 := hO.1
  refine zs_aload_n dX4_readAim_0 rfl rfl ?_
  refine zs_callV (M := mX9_next) (As := []) (st := []) (Kc := [(x, .inr (8, fTx b n L τ 0 pl (nI tk))), (b, .inl (0, 740, .inl (nF bt)))]) (Kr := [(y, .inr (9, fYard ay (ysN D.1 D.2.1))), (ay 1, .inl (0, 12, .inl (nF D.2.2.1))), (ay 2, .inl (0, 12, .inl (nF D.2.2.2.1))), (ay 3, .inl (0, 12, .inl (nF D.2.2.2.2.1))), (ay 4, .inl (0, 12, .inl (nF D.2.2.2.2.2.1))), (ay 5, .inl (0, 64, .inl (nF D.2.2.2.2.2.2.1))), (ay 6, .inl (1, 64, .inl (nF D.2.2.2.2.2.2.2))), (p, .inr (3, fPlan ap P.1)), (ap 1, .inl (0, 20, .inl (nF P.2.1))), (ap 2, .inl (0, 20, .inl (nF P.2.2.1))), (ap 3, .inl (0, 20, .inl (nF P.2.2.2.1))), (ap 4, .inl (0, 240, .inl (nF P.2.2.2.2)))]) [0, 1] [2, 3, 4, 5, 6, 7, 8, 9, 10, 11, 12, 13] 0 dX4_readAim_1 zl_RX4_58 kX9_next rfl rfl rfl rfl rfl (by decide) rfl rfl (show dd - 1 + 1 ≤ dd by omega) (Nat.zero_le _) (Nat.zero_le _) (Nat.le_of_ble_eq_true rfl) (s_next l (dd - 1) x b n L bt τ 0 pl (nI tk) (by omega) hn hL hbt hτ.2.2.1) (fun r K1 hr => ?_)
  obtain ⟨rfl, rfl⟩ := hr
  refine zs_K (K' := [(x, .inr (8, fTx b n L (nxt bt n L τ) 0 pl (nI tk))), (b, .inl (0, 740, .inl (nF bt))), (y, .inr (9, fYard ay (ysN D.1 D.2.1))), (ay 1, .inl (0, 12, .inl (nF D.2.2.1))), (ay 2, .inl (0, 12, .inl (nF D.2.2.2.1))), (ay 3, .inl (0, 12, .inl (nF D.2.2.2.2.1))), (ay 4, .inl (0, 12, .inl (nF D.2.2.2.2.2.1))), (ay 5, .inl (0, 64, .inl (nF D.2.2.2.2.2.2.1))), (ay 6, .inl (1, 64, .inl (nF D.2.2.2.2.2.2.2))), (p, .inr (3, fPlan ap P.1)), (ap 1, .inl (0, 20, .inl (nF P.2.1))), (ap 2, .inl (0, 20, .inl (nF P.2.2.1))), (ap 3, .inl (0, 20, .inl (nF P.2.2.2.1))), (ap 4, .inl (0, 240, .inl (nF P.2.2.2.2)))]) [12, 13, 0, 1, 2, 3, 4, 5, 6, 7, 8, 9, 10, 11] rfl (by decide) ?_
  refine zs_aload_n dX4_readAim_4 rfl rfl ?_
  refine zs_get 0 dX4_readAim_5 zf_RX4_37 rfl (v := .int (nI (nxt bt n L τ).1)) rfl ?_
  refine zs_iconst (v := nI 3) dX4_readAim_8 (by decide) ?_
  refine zs_icmp_ne (tgt := 29) dX4_readAim_9 (by decide) (fun c_1 => ?_) (fun c_1 => ?_)
  · have c_1 : ¬ (((nxt bt n L τ).1) = 3) := by have hc := c_1; rw [nI_eq' (by omega) (by omega)] at hc; exact hc
    refine zs_aload_n dX4_readAim_29 rfl rfl ?_
    refine zs_iconst (v := nI 0) dX4_readAim_30 (by decide) ?_
    refine zs_ldc (v := 2147483647) dX4_readAim_31 zk_RX4_110 ?_
    refine zs_callV (M := mX9_takeNumber) (As := [.int (nI 0), .int 2147483647]) (st := []) (Kc := [(x, .inr (8, fTx b n L (nxt bt n L τ) 0 pl (nI tk))), (b, .inl (0, 740, .inl (nF bt)))]) (Kr := [(y, .inr (9, fYard ay (ysN D.1 D.2.1))), (ay 1, .inl (0, 12, .inl (nF D.2.2.1))), (ay 2, .inl (0, 12, .inl (nF D.2.2.2.1))), (ay 3, .inl (0, 12, .inl (nF D.2.2.2.2.1))), (ay 4, .inl (0, 12, .inl (nF D.2.2.2.2.2.1))), (ay 5, .inl (0, 64, .inl (nF D.2.2.2.2.2.2.1))), (ay 6, .inl (1, 64, .inl (nF D.2.2.2.2.2.2.2))), (p, .inr (3, fPlan ap P.1)), (ap 1, .inl (0, 20, .inl (nF P.2.1))), (ap 2, .inl (0, 20, .inl (nF P.2.2.1))), (ap 3, .inl (0, 20, .inl (nF P.2.2.2.1))), (ap 4, .inl (0, 240, .inl (nF P.2.2.2.2)))]) [0, 1] [2, 3, 4, 5, 6, 7, 8, 9, 10, 11, 12, 13] 0 dX4_readAim_33 zl_RX4_61 kX9_takeNumber rfl rfl rfl rfl rfl (by decide) rfl rfl (show dd - 1 + 1 ≤ dd by omega) (Nat.zero_le _) (Nat.zero_le _) (Nat.le_of_ble_eq_true rfl) (s_takeNumber l (dd - 1) x b n L bt (nxt bt n L τ) pl (nI tk) 0 2147483647 (by omega) hn hL hbt (nxt_OK hbt hn) (by omega) (by omega)) (fun r K1 hr => ?_)
    rcases hr with ⟨hq33, rfl, rfl⟩ | ⟨hq33, rfl, rfl⟩
    · refine zs_K (K' := [(x, .inr (8, fTx b n L (nxt bt n L (nxt bt n L τ)) 0 pl (nI (nxt bt n L τ).2.2.2.1))), (b, .inl (0, 740, .inl (nF bt))), (y, .inr (9, fYard ay (ysN D.1 D.2.1))), (ay 1, .inl (0, 12, .inl (nF D.2.2.1))), (ay 2, .inl (0, 12, .inl (nF D.2.2.2.1))), (ay 3, .inl (0, 12, .inl (nF D.2.2.2.2.1))), (ay 4, .inl (0, 12, .inl (nF D.2.2.2.2.2.1))), (ay 5, .inl (0, 64, .inl (nF D.2.2.2.2.2.2.1))), (ay 6, .inl (1, 64, .inl (nF D.2.2.2.2.2.2.2))), (p, .inr (3, fPlan ap P.1)), (ap 1, .inl (0, 20, .inl (nF P.2.1))), (ap 2, .inl (0, 20, .inl (nF P.2.2.1))), (ap 3, .inl (0, 20, .inl (nF P.2.2.2.1))), (ap 4, .inl (0, 240, .inl (nF P.2.2.2.2)))]) [12, 13, 0, 1, 2, 3, 4, 5, 6, 7, 8, 9, 10, 11] rfl (by decide) ?_
      refine zs_istore_n (lv' := [(3, .int 1), (0, .ref p), (1, .ref x), (2, .ref y)]) dX4_readAim_36 (Nat.le_of_ble_eq_true rfl) rfl ?_
      refine zs_aload_n dX4_readAim_37 rfl rfl ?_
      refine zs_get 9 dX4_readAim_38 zf_RX4_18 rfl (v := .ref (ap 3)) rfl ?_
      refine zs_aload_n dX4_readAim_41 rfl rfl ?_
      refine zs_get 9 dX4_readAim_42 zf_RX4_24 rfl (v := .int (nI P.1)) rfl ?_
      refine zs_aload_n dX4_readAim_45 rfl rfl ?_
      refine zs_get 0 dX4_readAim_46 zf_RX4_65 rfl (v := .int (nI (nxt bt n L τ).2.2.2.1)) rfl ?_
      refine zs_iast 12 dX4_readAim_49 rfl (vp_in_nI (by omega) (by omega)) ?_
      rw [nI_c (n := P.1) (by omega), nF_u]
      show zS _ _ _ _ _ _ [(x, .inr (8, fTx b n L (nxt bt n L (nxt bt n L τ)) 0 pl (nI (nxt bt n L τ).2.2.2.1))), (b, .inl (0, 740, .inl (nF bt))), (y, .inr (9, fYard ay (ysN D.1 D.2.1))), (ay 1, .inl (0, 12, .inl (nF D.2.2.1))), (ay 2, .inl (0, 12, .inl (nF D.2.2.2.1))), (ay 3, .inl (0, 12, .inl (nF D.2.2.2.2.1))), (ay 4, .inl (0, 12, .inl (nF D.2.2.2.2.2.1))), (ay 5, .inl (0, 64, .inl (nF D.2.2.2.2.2.2.1))), (ay 6, .inl (1, 64, .inl (nF D.2.2.2.2.2.2.2))), (p, .inr (3, fPlan ap P.1)), (ap 1, .inl (0, 20, .inl (nF P.2.1))), (ap 2, .inl (0, 20, .inl (nF P.2.2.1))), (ap 3, .inl (0, 20, .inl (nF (un P.2.2.2.1 P.1 ((nxt bt n L τ).2.2.2.1))))), (ap 4, .inl (0, 240, .inl (nF P.2.2.2.2)))]
      refine zs_iload_n dX4_readAim_50 rfl ?_
      have e : pAmP bt n L D τ tk P = (0, (nxt bt n L (nxt bt n L τ)), ((nxt bt n L τ).2.2.2.1), (P.1, P.2.1, P.2.2.1, un P.2.2.2.1 P.1 ((nxt bt n L τ).2.2.2.1), P.2.2.2.2)) := by rw [pAmP, if_neg (show ¬ ((nxt bt n L τ).1 = 3 ∧ pTold (nI (D.1 14)) (nI (D.1 15)) (nI (nxt bt n L τ).2.2.2.1) = false) from fun h => c_1 h.1), if_pos hq33] <;> rfl
      exact zs_zret dX4_readAim_51 rfl (Or.inr rfl) (Or.inl ⟨by rw [e], rfl, by rw [e]; rfl⟩)
    · refine zs_K (K' := [(x, .inr (8, fTx b n L (nxt bt n L τ) (tNu (nxt bt n L τ) 0 2147483647) ((nxt bt n L τ).2.1) (nI tk))), (b, .inl (0, 740, .inl (nF bt))), (y, .inr (9, fYard ay (ysN D.1 D.2.1))), (ay 1, .inl (0, 12, .inl (nF D.2.2.1))), (ay 2, .inl (0, 12, .inl (nF D.2.2.2.1))), (ay 3, .inl (0, 12, .inl (nF D.2.2.2.2.1))), (ay 4, .inl (0, 12, .inl (nF D.2.2.2.2.2.1))), (ay 5, .inl (0, 64, .inl (nF D.2.2.2.2.2.2.1))), (ay 6, .inl (1, 64, .inl (nF D.2.2.2.2.2.2.2))), (p, .inr (3, fPlan ap P.1)), (ap 1, .inl (0, 20, .inl (nF P.2.1))), (ap 2, .inl (0, 20, .inl (nF P.2.2.1))), (ap 3, .inl (0, 20, .inl (nF P.2.2.2.1))), (ap 4, .inl (0, 240, .inl (nF P.2.2.2.2)))]) [12, 13, 0, 1, 2, 3, 4, 5, 6, 7, 8, 9, 10, 11] rfl (by decide) ?_
      refine zs_istore_n (lv' := [(3, .int 0), (0, .ref p), (1, .ref x), (2, .ref y)]) dX4_readAim_36 (Nat.le_of_ble_eq_true rfl) rfl ?_
      refine zs_aload_n dX4_readAim_37 rfl rfl ?_
      refine zs_get 9 dX4_readAim_38 zf_RX4_18 rfl (v := .ref (ap 3)) rfl ?_
      refine zs_aload_n dX4_readAim_41 rfl rfl ?_
      refine zs_get 9 dX4_readAim_42 zf_RX4_24 rfl (v := .int (nI P.1)) rfl ?_
      refine zs_aload_n dX4_readAim_45 rfl rfl ?_
      refine zs_get 0 dX4_readAim_46 zf_RX4_65 rfl (v := .int (nI tk)) rfl ?_
      refine zs_iast 12 dX4_readAim_49 rfl (vp_in_nI (by omega) (by omega)) ?_
      rw [nI_c (n := P.1) (by omega), nF_u]
      show zS _ _ _ _ _ _ [(x, .inr (8, fTx b n L (nxt bt n L τ) (tNu (nxt bt n L τ) 0 2147483647) ((nxt bt n L τ).2.1) (nI tk))), (b, .inl (0, 740, .inl (nF bt))), (y, .inr (9, fYard ay (ysN D.1 D.2.1))), (ay 1, .inl (0, 12, .inl (nF D.2.2.1))), (ay 2, .inl (0, 12, .inl (nF D.2.2.2.1))), (ay 3, .inl (0, 12, .inl (nF D.2.2.2.2.1))), (ay 4, .inl (0, 12, .inl (nF D.2.2.2.2.2.1))), (ay 5, .inl (0, 64, .inl (nF D.2.2.2.2.2.2.1))), (ay 6, .inl (1, 64, .inl (nF D.2.2.2.2.2.2.2))), (p, .inr (3, fPlan ap P.1)), (ap 1, .inl (0, 20, .inl (nF P.2.1))), (ap 2, .inl (0, 20, .inl (nF P.2.2.1))), (ap 3, .inl (0, 20, .inl (nF (un P.2.2.2.1 P.1 tk)))), (ap 4, .inl (0, 240, .inl (nF P.2.2.2.2)))]
      refine zs_iload_n dX4_readAim_50 rfl ?_
      have e : pAmP bt n L D τ tk P = ((tNu (nxt bt n L τ) 0 2147483647), (nxt bt n L τ), tk, (P.1, P.2.1, P.2.2.1, un P.2.2.2.1 P.1 tk, P.2.2.2.2)) := by rw [pAmP, if_neg (show ¬ ((nxt bt n L τ).1 = 3 ∧ pTold (nI (D.1 14)) (nI (D.1 15)) (nI (nxt bt n L τ).2.2.2.1) = false) from fun h => c_1 h.1), if_neg hq33] <;> rfl
      exact zs_zret dX4_readAim_51 rfl (Or.inl rfl) (Or.inr ⟨by rw [e]; exact hq33, rfl, by rw [e]; rfl⟩)
  · have c_1 : ((nxt bt n L τ).1) = 3 := by have hc := c_1; rw [nI_eq' (by omega) (by omega)] at hc; exact hc
    have hk3 := c_1
    refine zs_aload_n dX4_readAim_12 rfl rfl ?_
    refine zs_aload_n dX4_readAim_13 rfl rfl ?_
    refine zs_get 0 dX4_readAim_14 zf_RX4_102 rfl (v := .int (nI (nxt bt n L τ).2.2.2.1)) rfl ?_
    refine zs_callV (M := mX11_aimTold) (As := [.int (nI (nxt bt n L τ).2.2.2.1)]) (st := []) (Kc := [(y, .inr (9, fYard ay (ysN D.1 D.2.1)))]) (Kr := [(x, .inr (8, fTx b n L (nxt bt n L τ) 0 pl (nI tk))), (b, .inl (0, 740, .inl (nF bt))), (ay 1, .inl (0, 12, .inl (nF D.2.2.1))), (ay 2, .inl (0, 12, .inl (nF D.2.2.2.1))), (ay 3, .inl (0, 12, .inl (nF D.2.2.2.2.1))), (ay 4, .inl (0, 12, .inl (nF D.2.2.2.2.2.1))), (ay 5, .inl (0, 64, .inl (nF D.2.2.2.2.2.2.1))), (ay 6, .inl (1, 64, .inl (nF D.2.2.2.2.2.2.2))), (p, .inr (3, fPlan ap P.1)), (ap 1, .inl (0, 20, .inl (nF P.2.1))), (ap 2, .inl (0, 20, .inl (nF P.2.2.1))), (ap 3, .inl (0, 20, .inl (nF P.2.2.2.1))), (ap 4, .inl (0, 240, .inl (nF P.2.2.2.2)))]) [2] [0, 1, 3, 4, 5, 6, 7, 8, 9, 10, 11, 12, 13] 0 dX4_readAim_17 zl_RX4_105 kX11_aimTold rfl rfl rfl rfl rfl (by decide) rfl rfl (show dd - 1 + 1 ≤ dd by omega) (Nat.zero_le _) (Nat.zero_le _) (Nat.le_of_ble_eq_true rfl) (s_aimTold l (dd - 1) y ay (ysN D.1 D.2.1) (nI (nxt bt n L τ).2.2.2.1) (by omega)) (fun r K1 hr => ?_)
    obtain ⟨rfl, rfl⟩ := hr
    refine zs_K (K' := [(x, .inr (8, fTx b n L (nxt bt n L τ) 0 pl (nI tk))), (b, .inl (0, 740, .inl (nF bt))), (y, .inr (9, fYard ay (ysN D.1 D.2.1))), (ay 1, .inl (0, 12, .inl (nF D.2.2.1))), (ay 2, .inl (0, 12, .inl (nF D.2.2.2.1))), (ay 3, .inl (0, 12, .inl (nF D.2.2.2.2.1))), (ay 4, .inl (0, 12, .inl (nF D.2.2.2.2.2.1))), (ay 5, .inl (0, 64, .inl (nF D.2.2.2.2.2.2.1))), (ay 6, .inl (1, 64, .inl (nF D.2.2.2.2.2.2.2))), (p, .inr (3, fPlan ap P.1)), (ap 1, .inl (0, 20, .inl (nF P.2.1))), (ap 2, .inl (0, 20, .inl (nF P.2.2.1))), (ap 3, .inl (0, 20, .inl (nF P.2.2.2.1))), (ap 4, .inl (0, 240, .inl (nF P.2.2.2.2)))]) [0, 1, 13, 2, 3, 4, 5, 6, 7, 8, 9, 10, 11, 12] rfl (by decide) ?_
    refine zs_if_ne (tgt := 29) dX4_readAim_20 (by decide) (fun c_2 => ?_) (fun c_2 => ?_)
    · refine zs_aload_n dX4_readAim_29 rfl rfl ?_
      refine zs_iconst (v := nI 0) dX4_readAim_30 (by decide) ?_
      refine zs_ldc (v := 2147483647) dX4_readAim_31 zk_RX4_110 ?_
      refine zs_callV (M := mX9_takeNumber) (As := [.int (nI 0), .int 2147483647]) (st := []) (Kc := [(x, .inr (8, fTx b n L (nxt bt n L τ) 0 pl (nI tk))), (b, .inl (0, 740, .inl (nF bt)))]) (Kr := [(y, .inr (9, fYard ay (ysN D.1 D.2.1))), (ay 1, .inl (0, 12, .inl (nF D.2.2.1))), (ay 2, .inl (0, 12, .inl (nF D.2.2.2.1))), (ay 3, .inl (0, 12, .inl (nF D.2.2.2.2.1))), (ay 4, .inl (0, 12, .inl (nF D.2.2.2.2.2.1))), (ay 5, .inl (0, 64, .inl (nF D.2.2.2.2.2.2.1))), (ay 6, .inl (1, 64, .inl (nF D.2.2.2.2.2.2.2))), (p, .inr (3, fPlan ap P.1)), (ap 1, .inl (0, 20, .inl (nF P.2.1))), (ap 2, .inl (0, 20, .inl (nF P.2.2.1))), (ap 3, .inl (0, 20, .inl (nF P.2.2.2.1))), (ap 4, .inl (0, 240, .inl (nF P.2.2.2.2)))]) [0, 1] [2, 3, 4, 5, 6, 7, 8, 9, 10, 11, 12, 13] 0 dX4_readAim_33 zl_RX4_61 kX9_takeNumber rfl rfl rfl rfl rfl (by decide) rfl rfl (show dd - 1 + 1 ≤ dd by omega) (Nat.zero_le _) (Nat.zero_le _) (Nat.le_of_ble_eq_true rfl) (s_takeNumber l (dd - 1) x b n L bt (nxt bt n L τ) pl (nI tk) 0 2147483647 (by omega) hn hL hbt (nxt_OK hbt hn) (by omega) (by omega)) (fun r K1 hr => ?_)
      rcases hr with ⟨hq33, rfl, rfl⟩ | ⟨hq33, rfl, rfl⟩
      · refine zs_K (K' := [(x, .inr (8, fTx b n L (nxt bt n L (nxt bt n L τ)) 0 pl (nI (nxt bt n L τ).2.2.2.1))), (b, .inl (0, 740, .inl (nF bt))), (y, .inr (9, fYard ay (ysN D.1 D.2.1))), (ay 1, .inl (0, 12, .inl (nF D.2.2.1))), (ay 2, .inl (0, 12, .inl (nF D.2.2.2.1))), (ay 3, .inl (0, 12, .inl (nF D.2.2.2.2.1))), (ay 4, .inl (0, 12, .inl (nF D.2.2.2.2.2.1))), (ay 5, .inl (0, 64, .inl (nF D.2.2.2.2.2.2.1))), (ay 6, .inl (1, 64, .inl (nF D.2.2.2.2.2.2.2))), (p, .inr (3, fPlan ap P.1)), (ap 1, .inl (0, 20, .inl (nF P.2.1))), (ap 2, .inl (0, 20, .inl (nF P.2.2.1))), (ap 3, .inl (0, 20, .inl (nF P.2.2.2.1))), (ap 4, .inl (0, 240, .inl (nF P.2.2.2.2)))]) [12, 13, 0, 1, 2, 3, 4, 5, 6, 7, 8, 9, 10, 11] rfl (by decide) ?_
        refine zs_istore_n (lv' := [(3, .int 1), (0, .ref p), (1, .ref x), (2, .ref y)]) dX4_readAim_36 (Nat.le_of_ble_eq_true rfl) rfl ?_
        refine zs_aload_n dX4_readAim_37 rfl rfl ?_
        refine zs_get 9 dX4_readAim_38 zf_RX4_18 rfl (v := .ref (ap 3)) rfl ?_
        refine zs_aload_n dX4_readAim_41 rfl rfl ?_
        refine zs_get 9 dX4_readAim_42 zf_RX4_24 rfl (v := .int (nI P.1)) rfl ?_
        refine zs_aload_n dX4_readAim_45 rfl rfl ?_
        refine zs_get 0 dX4_readAim_46 zf_RX4_65 rfl (v := .int (nI (nxt bt n L τ).2.2.2.1)) rfl ?_
        refine zs_iast 12 dX4_readAim_49 rfl (vp_in_nI (by omega) (by omega)) ?_
        rw [nI_c (n := P.1) (by omega), nF_u]
        show zS _ _ _ _ _ _ [(x, .inr (8, fTx b n L (nxt bt n L (nxt bt n L τ)) 0 pl (nI (nxt bt n L τ).2.2.2.1))), (b, .inl (0, 740, .inl (nF bt))), (y, .inr (9, fYard ay (ysN D.1 D.2.1))), (ay 1, .inl (0, 12, .inl (nF D.2.2.1))), (ay 2, .inl (0, 12, .inl (nF D.2.2.2.1))), (ay 3, .inl (0, 12, .inl (nF D.2.2.2.2.1))), (ay 4, .inl (0, 12, .inl (nF D.2.2.2.2.2.1))), (ay 5, .inl (0, 64, .inl (nF D.2.2.2.2.2.2.1))), (ay 6, .inl (1, 64, .inl (nF D.2.2.2.2.2.2.2))), (p, .inr (3, fPlan ap P.1)), (ap 1, .inl (0, 20, .inl (nF P.2.1))), (ap 2, .inl (0, 20, .inl (nF P.2.2.1))), (ap 3, .inl (0, 20, .inl (nF (un P.2.2.2.1 P.1 ((nxt bt n L τ).2.2.2.1))))), (ap 4, .inl (0, 240, .inl (nF P.2.2.2.2)))]
        refine zs_iload_n dX4_readAim_50 rfl ?_
        have e : pAmP bt n L D τ tk P = (0, (nxt bt n L (nxt bt n L τ)), ((nxt bt n L τ).2.2.2.1), (P.1, P.2.1, P.2.2.1, un P.2.2.2.1 P.1 ((nxt bt n L τ).2.2.2.1), P.2.2.2.2)) := by rw [pAmP, if_neg (show ¬ ((nxt bt n L τ).1 = 3 ∧ pTold (nI (D.1 14)) (nI (D.1 15)) (nI (nxt bt n L τ).2.2.2.1) = false) from fun h => absurd ((bI_t c_2).symm.trans h.2) (by decide)), if_pos hq33] <;> rfl
        exact zs_zret dX4_readAim_51 rfl (Or.inr rfl) (Or.inl ⟨by rw [e], rfl, by rw [e]; rfl⟩)
      · refine zs_K (K' := [(x, .inr (8, fTx b n L (nxt bt n L τ) (tNu (nxt bt n L τ) 0 2147483647) ((nxt bt n L τ).2.1) (nI tk))), (b, .inl (0, 740, .inl (nF bt))), (y, .inr (9, fYard ay (ysN D.1 D.2.1))), (ay 1, .inl (0, 12, .inl (nF D.2.2.1))), (ay 2, .inl (0, 12, .inl (nF D.2.2.2.1))), (ay 3, .inl (0, 12, .inl (nF D.2.2.2.2.1))), (ay 4, .inl (0, 12, .inl (nF D.2.2.2.2.2.1))), (ay 5, .inl (0, 64, .inl (nF D.2.2.2.2.2.2.1))), (ay 6, .inl (1, 64, .inl (nF D.2.2.2.2.2.2.2))), (p, .inr (3, fPlan ap P.1)), (ap 1, .inl (0, 20, .inl (nF P.2.1))), (ap 2, .inl (0, 20, .inl (nF P.2.2.1))), (ap 3, .inl (0, 20, .inl (nF P.2.2.2.1))), (ap 4, .inl (0, 240, .inl (nF P.2.2.2.2)))]) [12, 13, 0, 1, 2, 3, 4, 5, 6, 7, 8, 9, 10, 11] rfl (by decide) ?_
        refine zs_istore_n (lv' := [(3, .int 0), (0, .ref p), (1, .ref x), (2, .ref y)]) dX4_readAim_36 (Nat.le_of_ble_eq_true rfl) rfl ?_
        refine zs_aload_n dX4_readAim_37 rfl rfl ?_
        refine zs_get 9 dX4_readAim_38 zf_RX4_18 rfl (v := .ref (ap 3)) rfl ?_
        refine zs_aload_n dX4_readAim_41 rfl rfl ?_
        refine zs_get 9 dX4_readAim_42 zf_RX4_24 rfl (v := .int (nI P.1)) rfl ?_
        refine zs_aload_n dX4_readAim_45 rfl rfl ?_
        refine zs_get 0 dX4_readAim_46 zf_RX4_65 rfl (v := .int (nI tk)) rfl ?_
        refine zs_iast 12 dX4_readAim_49 rfl (vp_in_nI (by omega) (by omega)) ?_
        rw [nI_c (n := P.1) (by omega), nF_u]
        show zS _ _ _ _ _ _ [(x, .inr (8, fTx b n L (nxt bt n L τ) (tNu (nxt bt n L τ) 0 2147483647) ((nxt bt n L τ).2.1) (nI tk))), (b, .inl (0, 740, .inl (nF bt))), (y, .inr (9, fYard ay (ysN D.1 D.2.1))), (ay 1, .inl (0, 12, .inl (nF D.2.2.1))), (ay 2, .inl (0, 12, .inl (nF D.2.2.2.1))), (ay 3, .inl (0, 12, .inl (nF D.2.2.2.2.1))), (ay 4, .inl (0, 12, .inl (nF D.2.2.2.2.2.1))), (ay 5, .inl (0, 64, .inl (nF D.2.2.2.2.2.2.1))), (ay 6, .inl (1, 64, .inl (nF D.2.2.2.2.2.2.2))), (p, .inr (3, fPlan ap P.1)), (ap 1, .inl (0, 20, .inl (nF P.2.1))), (ap 2, .inl (0, 20, .inl (nF P.2.2.1))), (ap 3, .inl (0, 20, .inl (nF (un P.2.2.2.1 P.1 tk)))), (ap 4, .inl (0, 240, .inl (nF P.2.2.2.2)))]
        refine zs_iload_n dX4_readAim_50 rfl ?_
        have e : pAmP bt n L D τ tk P = ((tNu (nxt bt n L τ) 0 2147483647), (nxt bt n L τ), tk, (P.1, P.2.1, P.2.2.1, un P.2.2.2.1 P.1 tk, P.2.2.2.2)) := by rw [pAmP, if_neg (show ¬ ((nxt bt n L τ).1 = 3 ∧ pTold (nI (D.1 14)) (nI (D.1 15)) (nI (nxt bt n L τ).2.2.2.1) = false) from fun h => absurd ((bI_t c_2).symm.trans h.2) (by decide)), if_neg hq33] <;> rfl
        exact zs_zret dX4_readAim_51 rfl (Or.inl rfl) (Or.inr ⟨by rw [e]; exact hq33, rfl, by rw [e]; rfl⟩)
    · refine zs_aload_n dX4_readAim_23 rfl rfl ?_
      refine zs_iconst (v := nI 2) dX4_readAim_24 (by decide) ?_
      refine zs_callV (M := mX9_refuse) (As := [.int (nI 2)]) (st := []) (Kc := [(x, .inr (8, fTx b n L (nxt bt n L τ) 0 pl (nI tk)))]) (Kr := [(b, .inl (0, 740, .inl (nF bt))), (y, .inr (9, fYard ay (ysN D.1 D.2.1))), (ay 1, .inl (0, 12, .inl (nF D.2.2.1))), (ay 2, .inl (0, 12, .inl (nF D.2.2.2.1))), (ay 3, .inl (0, 12, .inl (nF D.2.2.2.2.1))), (ay 4, .inl (0, 12, .inl (nF D.2.2.2.2.2.1))), (ay 5, .inl (0, 64, .inl (nF D.2.2.2.2.2.2.1))), (ay 6, .inl (1, 64, .inl (nF D.2.2.2.2.2.2.2))), (p, .inr (3, fPlan ap P.1)), (ap 1, .inl (0, 20, .inl (nF P.2.1))), (ap 2, .inl (0, 20, .inl (nF P.2.2.1))), (ap 3, .inl (0, 20, .inl (nF P.2.2.2.1))), (ap 4, .inl (0, 240, .inl (nF P.2.2.2.2)))]) [0] [1, 2, 3, 4, 5, 6, 7, 8, 9, 10, 11, 12, 13] 0 dX4_readAim_25 zl_RX4_54 kX9_refuse rfl rfl rfl rfl rfl (by decide) rfl rfl (show dd - 1 + 1 ≤ dd by omega) (Nat.zero_le _) (Nat.zero_le _) (Nat.le_of_ble_eq_true rfl) (s_refuse l (dd - 1) x b n L (nxt bt n L τ) pl 2 (nI tk)) (fun r K1 hr => ?_)
      obtain ⟨rfl, rfl⟩ := hr
      refine zs_K (K' := [(x, .inr (8, fTx b n L (nxt bt n L τ) 2 ((nxt bt n L τ).2.1) (nI tk))), (b, .inl (0, 740, .inl (nF bt))), (y, .inr (9, fYard ay (ysN D.1 D.2.1))), (ay 1, .inl (0, 12, .inl (nF D.2.2.1))), (ay 2, .inl (0, 12, .inl (nF D.2.2.2.1))), (ay 3, .inl (0, 12, .inl (nF D.2.2.2.2.1))), (ay 4, .inl (0, 12, .inl (nF D.2.2.2.2.2.1))), (ay 5, .inl (0, 64, .inl (nF D.2.2.2.2.2.2.1))), (ay 6, .inl (1, 64, .inl (nF D.2.2.2.2.2.2.2))), (p, .inr (3, fPlan ap P.1)), (ap 1, .inl (0, 20, .inl (nF P.2.1))), (ap 2, .inl (0, 20, .inl (nF P.2.2.1))), (ap 3, .inl (0, 20, .inl (nF P.2.2.2.1))), (ap 4, .inl (0, 240, .inl (nF P.2.2.2.2)))]) [13, 0, 1, 2, 3, 4, 5, 6, 7, 8, 9, 10, 11, 12] rfl (by decide) ?_
      have e : pAmP bt n L D τ tk P = (2, (nxt bt n L τ), tk, (P.1, P.2.1, P.2.2.1, P.2.2.2.1, P.2.2.2.2)) := by rw [pAmP, if_pos (show (nxt bt n L τ).1 = 3 ∧ pTold (nI (D.1 14)) (nI (D.1 15)) (nI (nxt bt n L τ).2.2.2.1) = false from ⟨hk3, bI_f c_2⟩)] <;> rfl
      exact zs_zret dX4_readAim_28 rfl (Or.inl rfl) (Or.inr ⟨by rw [e]; exact (show ¬ 2 = 0 by decide), rfl, by rw [e]; rfl⟩)
theorem dX4_readThing_0 : decode cX4_readThing 0 = .ok (.aload_n 1, 1) := by decide +kernel
theorem dX4_readThing_1 : decode cX4_readThing 1 = .ok (.getfield 45, 3) := by decide +kernel
theorem dX4_readThing_4 : decode cX4_readThing 4 = .ok (.astore_n 3, 1) := by decide +kernel
theorem dX4_readThing_5 : decode cX4_readThing 5 = .ok (.aload_n 3, 1) := by decide +kernel
theorem dX4_readThing_6 : decode cX4_readThing 6 = .ok (.getstatic 75, 3) := by decide +kernel
theorem dX4_readThing_9 : decode cX4_readThing 9 = .ok (.if_acmp .ne 21, 3) := by decide +kernel
theorem dX4_readThing_12 : decode cX4_readThing 12 = .ok (.aload_n 0, 1) := by decide +kernel
theorem dX4_readThing_13 : decode cX4_readThing 13 = .ok (.getfield 15, 3) := by decide +kernel
theorem dX4_readThing_16 : decode cX4_readThing 16 = .ok (.aload_n 0, 1) := by decide +kernel
theorem dX4_readThing_17 : decode cX4_readThing 17 = .ok (.getfield 24, 3) := by decide +kernel
theorem dX4_readThing_20 : decode cX4_readThing 20 = .ok (.iconst 0, 1) := by decide +kernel
theorem dX4_readThing_21 : decode cX4_readThing 21 = .ok (.iastore, 1) := by decide +kernel
theorem dX4_readThing_22 : decode cX4_readThing 22 = .ok (.aload_n 0, 1) := by decide +kernel
theorem dX4_readThing_23 : decode cX4_readThing 23 = .ok (.aload_n 1, 1) := by decide +kernel
theorem dX4_readThing_24 : decode cX4_readThing 24 = .ok (.aload_n 2, 1) := by decide +kernel
theorem dX4_readThing_25 : decode cX4_readThing 25 = .ok (.iconst 2, 1) := by decide +kernel
theorem dX4_readThing_26 : decode cX4_readThing 26 = .ok (.invokevirtual 78, 3) := by decide +kernel
theorem dX4_readThing_29 : decode cX4_readThing 29 = .ok (.ireturn, 1) := by decide +kernel
theorem dX4_readThing_30 : decode cX4_readThing 30 = .ok (.aload_n 3, 1) := by decide +kernel
theorem dX4_readThing_31 : decode cX4_readThing 31 = .ok (.getstatic 82, 3) := by decide +kernel
theorem dX4_readThing_34 : decode cX4_readThing 34 = .ok (.if_acmp .ne 21, 3) := by decide +kernel
theorem dX4_readThing_37 : decode cX4_readThing 37 = .ok (.aload_n 0, 1) := by decide +kernel
theorem dX4_readThing_38 : decode cX4_readThing 38 = .ok (.getfield 15, 3) := by decide +kernel
theorem dX4_readThing_41 : decode cX4_readThing 41 = .ok (.aload_n 0, 1) := by decide +kernel
theorem dX4_readThing_42 : decode cX4_readThing 42 = .ok (.getfield 24, 3) := by decide +kernel
theorem dX4_readThing_45 : decode cX4_readThing 45 = .ok (.iconst 1, 1) := by decide +kernel
theorem dX4_readThing_46 : decode cX4_readThing 46 = .ok (.iastore, 1) := by decide +kernel
theorem dX4_readThing_47 : decode cX4_readThing 47 = .ok (.aload_n 0, 1) := by decide +kernel
theorem dX4_readThing_48 : decode cX4_readThing 48 = .ok (.aload_n 1, 1) := by decide +kernel
theorem dX4_readThing_49 : decode cX4_readThing 49 = .ok (.aload_n 2, 1) := by decide +kernel
theorem dX4_readThing_50 : decode cX4_readThing 50 = .ok (.iconst 1, 1) := by decide +kernel
theorem dX4_readThing_51 : decode cX4_readThing 51 = .ok (.invokevirtual 78, 3) := by decide +kernel
theorem dX4_readThing_54 : decode cX4_readThing 54 = .ok (.ireturn, 1) := by decide +kernel
theorem dX4_readThing_55 : decode cX4_readThing 55 = .ok (.aload_n 3, 1) := by decide +kernel
theorem dX4_readThing_56 : decode cX4_readThing 56 = .ok (.getstatic 85, 3) := by decide +kernel
theorem dX4_readThing_59 : decode cX4_readThing 59 = .ok (.if_acmp .ne 20, 3) := by decide +kernel
theorem dX4_readThing_62 : decode cX4_readThing 62 = .ok (.aload_n 0, 1) := by decide +kernel
theorem dX4_readThing_63 : decode cX4_readThing 63 = .ok (.getfield 15, 3) := by decide +kernel
theorem dX4_readThing_66 : decode cX4_readThing 66 = .ok (.aload_n 0, 1) := by decide +kernel
theorem dX4_readThing_67 : decode cX4_readThing 67 = .ok (.getfield 24, 3) := by decide +kernel
theorem dX4_readThing_70 : decode cX4_readThing 70 = .ok (.iconst 3, 1) := by decide +kernel
theorem dX4_readThing_71 : decode cX4_readThing 71 = .ok (.iastore, 1) := by decide +kernel
theorem dX4_readThing_72 : decode cX4_readThing 72 = .ok (.aload_n 0, 1) := by decide +kernel
theorem dX4_readThing_73 : decode cX4_readThing 73 = .ok (.aload_n 1, 1) := by decide +kernel
theorem dX4_readThing_74 : decode cX4_readThing 74 = .ok (.aload_n 2, 1) := by decide +kernel
theorem dX4_readThing_75 : decode cX4_readThing 75 = .ok (.invokevirtual 88, 3) := by decide +kernel
theorem dX4_readThing_78 : decode cX4_readThing 78 = .ok (.ireturn, 1) := by decide +kernel
theorem dX4_readThing_79 : decode cX4_readThing 79 = .ok (.aload_n 3, 1) := by decide +kernel
theorem dX4_readThing_80 : decode cX4_readThing 80 = .ok (.getstatic 91, 3) := by decide +kernel
theorem dX4_readThing_83 : decode cX4_readThing 83 = .ok (.if_acmp .ne 46, 3) := by decide +kernel
theorem dX4_readThing_86 : decode cX4_readThing 86 = .ok (.aload_n 0, 1) := by decide +kernel
theorem dX4_readThing_87 : decode cX4_readThing 87 = .ok (.getfield 15, 3) := by decide +kernel
theorem dX4_readThing_90 : decode cX4_readThing 90 = .ok (.aload_n 0, 1) := by decide +kernel
theorem dX4_readThing_91 : decode cX4_readThing 91 = .ok (.getfield 24, 3) := by decide +kernel
theorem dX4_readThing_94 : decode cX4_readThing 94 = .ok (.iconst 4, 1) := by decide +kernel
theorem dX4_readThing_95 : decode cX4_readThing 95 = .ok (.iastore, 1) := by decide +kernel
theorem dX4_readThing_96 : decode cX4_readThing 96 = .ok (.aload_n 1, 1) := by decide +kernel
theorem dX4_readThing_97 : decode cX4_readThing 97 = .ok (.invokevirtual 58, 3) := by decide +kernel
theorem dX4_readThing_100 : decode cX4_readThing 100 = .ok (.aload_n 1, 1) := by decide +kernel
theorem dX4_readThing_101 : decode cX4_readThing 101 = .ok (.iconst 0, 1) := by decide +kernel
theorem dX4_readThing_102 : decode cX4_readThing 102 = .ok (.aload_n 2, 1) := by decide +kernel
theorem dX4_readThing_103 : decode cX4_readThing 103 = .ok (.getfield 94, 3) := by decide +kernel
theorem dX4_readThing_106 : decode cX4_readThing 106 = .ok (.iconst 1, 1) := by decide +kernel
theorem dX4_readThing_107 : decode cX4_readThing 107 = .ok (.isub, 1) := by decide +kernel
theorem dX4_readThing_108 : decode cX4_readThing 108 = .ok (.invokevirtual 61, 3) := by decide +kernel
theorem dX4_readThing_111 : decode cX4_readThing 111 = .ok (.istore 4, 2) := by decide +kernel
theorem dX4_readThing_113 : decode cX4_readThing 113 = .ok (.aload_n 0, 1) := by decide +kernel
theorem dX4_readThing_114 : decode cX4_readThing 114 = .ok (.getfield 18, 3) := by decide +kernel
theorem dX4_readThing_117 : decode cX4_readThing 117 = .ok (.aload_n 0, 1) := by decide +kernel
theorem dX4_readThing_118 : decode cX4_readThing 118 = .ok (.getfield 24, 3) := by decide +kernel
theorem dX4_readThing_121 : decode cX4_readThing 121 = .ok (.aload_n 1, 1) := by decide +kernel
theorem dX4_readThing_122 : decode cX4_readThing 122 = .ok (.getfield 65, 3) := by decide +kernel
theorem dX4_readThing_125 : decode cX4_readThing 125 = .ok (.iastore, 1) := by decide +kernel
theorem dX4_readThing_126 : decode cX4_readThing 126 = .ok (.iload 4, 2) := by decide +kernel
theorem dX4_readThing_128 : decode cX4_readThing 128 = .ok (.ireturn, 1) := by decide +kernel
theorem dX4_readThing_129 : decode cX4_readThing 129 = .ok (.aload_n 3, 1) := by decide +kernel
theorem dX4_readThing_130 : decode cX4_readThing 130 = .ok (.getstatic 99, 3) := by decide +kernel
theorem dX4_readThing_133 : decode cX4_readThing 133 = .ok (.if_acmp .ne 19, 3) := by decide +kernel
theorem dX4_readThing_136 : decode cX4_readThing 136 = .ok (.aload_n 0, 1) := by decide +kernel
theorem dX4_readThing_137 : decode cX4_readThing 137 = .ok (.getfield 15, 3) := by decide +kernel
theorem dX4_readThing_140 : decode cX4_readThing 140 = .ok (.aload_n 0, 1) := by decide +kernel
theorem dX4_readThing_141 : decode cX4_readThing 141 = .ok (.getfield 24, 3) := by decide +kernel
theorem dX4_readThing_144 : decode cX4_readThing 144 = .ok (.iconst 2, 1) := by decide +kernel
theorem dX4_readThing_145 : decode cX4_readThing 145 = .ok (.iastore, 1) := by decide +kernel
theorem dX4_readThing_146 : decode cX4_readThing 146 = .ok (.aload_n 1, 1) := by decide +kernel
theorem dX4_readThing_147 : decode cX4_readThing 147 = .ok (.invokevirtual 58, 3) := by decide +kernel
theorem dX4_readThing_150 : decode cX4_readThing 150 = .ok (.iconst 1, 1) := by decide +kernel
theorem dX4_readThing_151 : decode cX4_readThing 151 = .ok (.ireturn, 1) := by decide +kernel
theorem dX4_readThing_152 : decode cX4_readThing 152 = .ok (.aload_n 1, 1) := by decide +kernel
theorem dX4_readThing_153 : decode cX4_readThing 153 = .ok (.iconst 1, 1) := by decide +kernel
theorem dX4_readThing_154 : decode cX4_readThing 154 = .ok (.invokevirtual 54, 3) := by decide +kernel
theorem dX4_readThing_157 : decode cX4_readThing 157 = .ok (.ireturn, 1) := by decide +kernel
set_option maxRecDepth 100000 in
theorem s_readThing (l : Launch) (dd : Nat) (x b n L y p : Nat) (ay ap : Nat → Nat) (bt : Nat → Nat) (pl : Nat) (D : zYd) (τ : zTk) (tk : Nat) (P : zPl) (hd : 6 ≤ dd) (hn : n ≤ 740) (hL : L ≤ 740) (hbt : ∀ j, bt j < 256) (hD : yI D) (hτ : tOK τ) (h20 : P.1 < 20) (hpm : ∀ j, P.2.2.2.2 j < 12) : zSp l mX4_readThing dd 0 0 [.ref p, .ref x, .ref y] [(x, .inr (8, fTx b n L τ 0 pl (nI tk))), (b, .inl (0, 740, .inl (nF bt))), (y, .inr (9, fYard ay (ysN D.1 D.2.1))), (ay 1, .inl (0, 12, .inl (nF D.2.2.1))), (ay 2, .inl (0, 12, .inl (nF D.2.2.2.1))), (ay 3, .inl (0, 12, .inl (nF D.2.2.2.2.1))), (ay 4, .inl (0, 12, .inl (nF D.2.2.2.2.2.1))), (ay 5, .inl (0, 64, .inl (nF D.2.2.2.2.2.2.1))), (ay 6, .inl (1, 64, .inl (nF D.2.2.2.2.2.2.2))), (p, .inr (3, fPlan ap P.1)), (ap 1, .inl (0, 20, .inl (nF P.2.1))), (ap 2, .inl (0, 20, .inl (nF P.2.2.1))), (ap 3, .inl (0, 20, .inl (nF P.2.2.2.1))), (ap 4, .inl (0, 240, .inl (nF P.2.2.2.2)))] (fun r K' => ((pThing bt n L D τ tk P).1 = 0 ∧ r = some (.int 1) ∧ K' = kTx x b n L bt (pThing bt n L D τ tk P).2.1 0 pl (pThing bt n L D τ tk P).2.2.1 ++ kYd y ay D ++ kPl p ap (pThing bt n L D τ tk P).2.2.2) ∨ (¬ (pThing bt n L D τ tk P).1 = 0 ∧ r = some (.int 0) ∧ K' = kTx x b n L bt (pThing bt n L D τ tk P).2.1 (pThing bt n L D τ tk P).1 (pThing bt n L D τ tk P).2.1.2.1 (pThing bt n L D τ tk P).2.2.1 ++ kYd y ay D ++ kPl p ap (pThing bt n L D τ tk P).2.2.2)) := by
  refine zSp.of (by decide) (Nat.le_of_ble_eq_true rfl) (fun h0 => ?_)
  show zS _ 0 0 0 [(0, .ref p), (1, .ref x), (2, .ref y)] [] [(x, .inr (8, fTx b n L τ 0 pl (nI tk))), (b, .inl (0, 740, .inl (nF bt))), (y, .inr (9, fYard ay (ysN D.1 D.2.1))), (ay 1, .inl (0, 12, .inl (nF D.2.2.1))), (ay 2, .inl (0, 12, .inl (nF D.2.2.2.1))), (ay 3, .inl (0, 12, .inl (nF D.2.2.2.2.1))), (ay 4, .inl (0, 12, .inl (nF D.2.2.2.2.2.1))), (ay 5, .inl (0, 64, .inl (nF D.2.2.2.2.2.2.1))), (ay 6, .inl (1, 64, .inl (nF D.2.2.2.2.2.2.2))), (p, .inr (3, fPlan ap P.1)), (ap 1, .inl (0, 20, .inl (nF P.2.1))), (ap 2, .inl (0, 20, .inl (nF P.2.2.1))), (ap 3, .inl (0, 20, .inl (nF P.2.2.2.1))), (ap 4, .inl (0, 240, .inl (nF P.2.2.2.2)))]
  have hwd := hτ.2.2.2.2.2.2.2.1
  have h14 := hD.2.1
  refine zs_aload_n dX4_readThing_0 rfl rfl ?_
  refine zs_get 0 dX4_readThing_1 zf_RX4_45 rfl (v := (wV τ.2.2.2.2)) rfl ?_
  refine zs_astore_n (lv' := [(3, (wV τ.2.2.2.2)), (0, .ref p), (1, .ref x), (2, .ref y)]) dX4_readThing_4 (Nat.le_of_ble_eq_true rfl) (wV_r _) rfl ?_
  refine zs_aload_n dX4_readThing_5 rfl (wV_r _) ?_
  refine zs_getsW (u := 15) dX4_readThing_6 (by decide) zg_RX4_75 ?_
  refine zs_acmp_ne (tgt := 30) dX4_readThing_9 (by decide) (wV_w hwd) rfl (fun c_1 => ?_) (fun c_1 => ?_)
  · refine zs_aload_n dX4_readThing_30 rfl (wV_r _) ?_
    refine zs_getsW (u := 16) dX4_readThing_31 (by decide) zg_RX4_82 ?_
    refine zs_acmp_ne (tgt := 55) dX4_readThing_34 (by decide) (wV_w hwd) rfl (fun c_2 => ?_) (fun c_2 => ?_)
    · refine zs_aload_n dX4_readThing_55 rfl (wV_r _) ?_
      refine zs_getsW (u := 18) dX4_readThing_56 (by decide) zg_RX4_85 ?_
      refine zs_acmp_ne (tgt := 79) dX4_readThing_59 (by decide) (wV_w hwd) rfl (fun c_3 => ?_) (fun c_3 => ?_)
      · refine zs_aload_n dX4_readThing_79 rfl (wV_r _) ?_
        refine zs_getsW (u := 19) dX4_readThing_80 (by decide) zg_RX4_91 ?_
        refine zs_acmp_ne (tgt := 129) dX4_readThing_83 (by decide) (wV_w hwd) rfl (fun c_4 => ?_) (fun c_4 => ?_)
        · refine zs_aload_n dX4_readThing_129 rfl (wV_r _) ?_
          refine zs_getsW (u := 17) dX4_readThing_130 (by decide) zg_RX4_99 ?_
          refine zs_acmp_ne (tgt := 152) dX4_readThing_133 (by decide) (wV_w hwd) rfl (fun c_5 => ?_) (fun c_5 => ?_)
          · refine zs_aload_n dX4_readThing_152 rfl rfl ?_
            refine zs_iconst (v := nI 1) dX4_readThing_153 (by decide) ?_
            refine zs_callV (M := mX9_refuse) (As := [.int (nI 1)]) (st := []) (Kc := [(x, .inr (8, fTx b n L τ 0 pl (nI tk)))]) (Kr := [(b, .inl (0, 740, .inl (nF bt))), (y, .inr (9, fYard ay (ysN D.1 D.2.1))), (ay 1, .inl (0, 12, .inl (nF D.2.2.1))), (ay 2, .inl (0, 12, .inl (nF D.2.2.2.1))), (ay 3, .inl (0, 12, .inl (nF D.2.2.2.2.1))), (ay 4, .inl (0, 12, .inl (nF D.2.2.2.2.2.1))), (ay 5, .inl (0, 64, .inl (nF D.2.2.2.2.2.2.1))), (ay 6, .inl (1, 64, .inl (nF D.2.2.2.2.2.2.2))), (p, .inr (3, fPlan ap P.1)), (ap 1, .inl (0, 20, .inl (nF P.2.1))), (ap 2, .inl (0, 20, .inl (nF P.2.2.1))), (ap 3, .inl (0, 20, .inl (nF P.2.2.2.1))), (ap 4, .inl (0, 240, .inl (nF P.2.2.2.2)))]) [0] [1, 2, 3, 4, 5, 6, 7, 8, 9, 10, 11, 12, 13] 0 dX4_readThing_154 zl_RX4_54 kX9_refuse rfl rfl rfl rfl rfl (by decide) rfl rfl (show dd - 1 + 1 ≤ dd by omega) (Nat.zero_le _) (Nat.zero_le _) (Nat.le_of_ble_eq_true rfl) (s_refuse l (dd - 1) x b n L τ pl 1 (nI tk)) (fun r K1 hr => ?_)
            obtain ⟨rfl, rfl⟩ := hr
            refine zs_K (K' := [(x, .inr (8, fTx b n L τ 1 τ.2.1 (nI tk))), (b, .inl (0, 740, .inl (nF bt))), (y, .inr (9, fYard ay (ysN D.1 D.2.1))), (ay 1, .inl (0, 12, .inl (nF D.2.2.1))), (ay 2, .inl (0, 12, .inl (nF D.2.2.2.1))), (ay 3, .inl (0, 12, .inl (nF D.2.2.2.2.1))), (ay 4, .inl (0, 12, .inl (nF D.2.2.2.2.2.1))), (ay 5, .inl (0, 64, .inl (nF D.2.2.2.2.2.2.1))), (ay 6, .inl (1, 64, .inl (nF D.2.2.2.2.2.2.2))), (p, .inr (3, fPlan ap P.1)), (ap 1, .inl (0, 20, .inl (nF P.2.1))), (ap 2, .inl (0, 20, .inl (nF P.2.2.1))), (ap 3, .inl (0, 20, .inl (nF P.2.2.2.1))), (ap 4, .inl (0, 240, .inl (nF P.2.2.2.2)))]) [13, 0, 1, 2, 3, 4, 5, 6, 7, 8, 9, 10, 11, 12] rfl (by decide) ?_
            have e : pThing bt n L D τ tk P = (1, τ, tk, (P.1, P.2.1, P.2.2.1, P.2.2.2.1, P.2.2.2.2)) := by rw [pThing, if_neg (fun h => c_1 ((wV_e hwd (by decide : 15 < 29)).mpr h)), if_neg (fun h => c_2 ((wV_e hwd (by decide : 16 < 29)).mpr h)), if_neg (fun h => c_3 ((wV_e hwd (by decide : 18 < 29)).mpr h)), if_neg (fun h => c_4 ((wV_e hwd (by decide : 19 < 29)).mpr h)), if_neg (fun h => c_5 ((wV_e hwd (by decide : 17 < 29)).mpr h))] <;> rfl
            exact zs_zret dX4_readThing_157 rfl (Or.inl rfl) (Or.inr ⟨by rw [e]; exact (show ¬ 1 = 0 by decide), rfl, by rw [e]; rfl⟩)
          · refine zs_aload_n dX4_readThing_136 rfl rfl ?_
            refine zs_get 9 dX4_readThing_137 zf_RX4_15 rfl (v := .ref (ap 2)) rfl ?_
            refine zs_aload_n dX4_readThing_140 rfl rfl ?_
            refine zs_get 9 dX4_readThing_141 zf_RX4_24 rfl (v := .int (nI P.1)) rfl ?_
            refine zs_iconst (v := nI 2) dX4_readThing_144 (by decide) ?_
            refine zs_iast 11 dX4_readThing_145 rfl (vp_in_nI (by omega) (by omega)) ?_
            rw [nI_c (n := P.1) (by omega), nF_u]
            show zS _ _ _ _ _ _ [(x, .inr (8, fTx b n L τ 0 pl (nI tk))), (b, .inl (0, 740, .inl (nF bt))), (y, .inr (9, fYard ay (ysN D.1 D.2.1))), (ay 1, .inl (0, 12, .inl (nF D.2.2.1))), (ay 2, .inl (0, 12, .inl (nF D.2.2.2.1))), (ay 3, .inl (0, 12, .inl (nF D.2.2.2.2.1))), (ay 4, .inl (0, 12, .inl (nF D.2.2.2.2.2.1))), (ay 5, .inl (0, 64, .inl (nF D.2.2.2.2.2.2.1))), (ay 6, .inl (1, 64, .inl (nF D.2.2.2.2.2.2.2))), (p, .inr (3, fPlan ap P.1)), (ap 1, .inl (0, 20, .inl (nF P.2.1))), (ap 2, .inl (0, 20, .inl (nF (un P.2.2.1 P.1 2)))), (ap 3, .inl (0, 20, .inl (nF P.2.2.2.1))), (ap 4, .inl (0, 240, .inl (nF P.2.2.2.2)))]
            refine zs_aload_n dX4_readThing_146 rfl rfl ?_
            refine zs_callV (M := mX9_next) (As := []) (st := []) (Kc := [(x, .inr (8, fTx b n L τ 0 pl (nI tk))), (b, .inl (0, 740, .inl (nF bt)))]) (Kr := [(y, .inr (9, fYard ay (ysN D.1 D.2.1))), (ay 1, .inl (0, 12, .inl (nF D.2.2.1))), (ay 2, .inl (0, 12, .inl (nF D.2.2.2.1))), (ay 3, .inl (0, 12, .inl (nF D.2.2.2.2.1))), (ay 4, .inl (0, 12, .inl (nF D.2.2.2.2.2.1))), (ay 5, .inl (0, 64, .inl (nF D.2.2.2.2.2.2.1))), (ay 6, .inl (1, 64, .inl (nF D.2.2.2.2.2.2.2))), (p, .inr (3, fPlan ap P.1)), (ap 1, .inl (0, 20, .inl (nF P.2.1))), (ap 2, .inl (0, 20, .inl (nF (un P.2.2.1 P.1 2)))), (ap 3, .inl (0, 20, .inl (nF P.2.2.2.1))), (ap 4, .inl (0, 240, .inl (nF P.2.2.2.2)))]) [0, 1] [2, 3, 4, 5, 6, 7, 8, 9, 10, 11, 12, 13] 0 dX4_readThing_147 zl_RX4_58 kX9_next rfl rfl rfl rfl rfl (by decide) rfl rfl (show dd - 1 + 1 ≤ dd by omega) (Nat.zero_le _) (Nat.zero_le _) (Nat.le_of_ble_eq_true rfl) (s_next l (dd - 1) x b n L bt τ 0 pl (nI tk) (by omega) hn hL hbt hτ.2.2.1) (fun r K1 hr => ?_)
            obtain ⟨rfl, rfl⟩ := hr
            refine zs_K (K' := [(x, .inr (8, fTx b n L (nxt bt n L τ) 0 pl (nI tk))), (b, .inl (0, 740, .inl (nF bt))), (y, .inr (9, fYard ay (ysN D.1 D.2.1))), (ay 1, .inl (0, 12, .inl (nF D.2.2.1))), (ay 2, .inl (0, 12, .inl (nF D.2.2.2.1))), (ay 3, .inl (0, 12, .inl (nF D.2.2.2.2.1))), (ay 4, .inl (0, 12, .inl (nF D.2.2.2.2.2.1))), (ay 5, .inl (0, 64, .inl (nF D.2.2.2.2.2.2.1))), (ay 6, .inl (1, 64, .inl (nF D.2.2.2.2.2.2.2))), (p, .inr (3, fPlan ap P.1)), (ap 1, .inl (0, 20, .inl (nF P.2.1))), (ap 2, .inl (0, 20, .inl (nF (un P.2.2.1 P.1 2)))), (ap 3, .inl (0, 20, .inl (nF P.2.2.2.1))), (ap 4, .inl (0, 240, .inl (nF P.2.2.2.2)))]) [12, 13, 0, 1, 2, 3, 4, 5, 6, 7, 8, 9, 10, 11] rfl (by decide) ?_
            refine zs_iconst (v := nI 1) dX4_readThing_150 (by decide) ?_
            have e : pThing bt n L D τ tk P = (0, (nxt bt n L τ), tk, (P.1, P.2.1, un P.2.2.1 P.1 2, P.2.2.2.1, P.2.2.2.2)) := by rw [pThing, if_neg (fun h => c_1 ((wV_e hwd (by decide : 15 < 29)).mpr h)), if_neg (fun h => c_2 ((wV_e hwd (by decide : 16 < 29)).mpr h)), if_neg (fun h => c_3 ((wV_e hwd (by decide : 18 < 29)).mpr h)), if_neg (fun h => c_4 ((wV_e hwd (by decide : 19 < 29)).mpr h)), if_pos ((wV_e hwd (by decide : 17 < 29)).mp c_5)] <;> rfl
            exact zs_zret dX4_readThing_151 rfl (Or.inr rfl) (Or.inl ⟨by rw [e], rfl, by rw [e]; rfl⟩)
        · refine zs_lv [1, 2, 3] rfl ?_
          refine zs_aload_n dX4_readThing_86 rfl rfl ?_
          refine zs_get 9 dX4_readThing_87 zf_RX4_15 rfl (v := .ref (ap 2)) rfl ?_
          refine zs_aload_n dX4_readThing_90 rfl rfl ?_
          refine zs_get 9 dX4_readThing_91 zf_RX4_24 rfl (v := .int (nI P.1)) rfl ?_
          refine zs_iconst (v := nI 4) dX4_readThing_94 (by decide) ?_
          refine zs_iast 11 dX4_readThing_95 rfl (vp_in_nI (by omega) (by omega)) ?_
          rw [nI_c (n := P.1) (by omega), nF_u]
          show zS _ _ _ _ _ _ [(x, .inr (8, fTx b n L τ 0 pl (nI tk))), (b, .inl (0, 740, .inl (nF bt))), (y, .inr (9, fYard ay (ysN D.1 D.2.1))), (ay 1, .inl (0, 12, .inl (nF D.2.2.1))), (ay 2, .inl (0, 12, .inl (nF D.2.2.2.1))), (ay 3, .inl (0, 12, .inl (nF D.2.2.2.2.1))), (ay 4, .inl (0, 12, .inl (nF D.2.2.2.2.2.1))), (ay 5, .inl (0, 64, .inl (nF D.2.2.2.2.2.2.1))), (ay 6, .inl (1, 64, .inl (nF D.2.2.2.2.2.2.2))), (p, .inr (3, fPlan ap P.1)), (ap 1, .inl (0, 20, .inl (nF P.2.1))), (ap 2, .inl (0, 20, .inl (nF (un P.2.2.1 P.1 4)))), (ap 3, .inl (0, 20, .inl (nF P.2.2.2.1))), (ap 4, .inl (0, 240, .inl (nF P.2.2.2.2)))]
          refine zs_aload_n dX4_readThing_96 rfl rfl ?_
          refine zs_callV (M := mX9_next) (As := []) (st := []) (Kc := [(x, .inr (8, fTx b n L τ 0 pl (nI tk))), (b, .inl (0, 740, .inl (nF bt)))]) (Kr := [(y, .inr (9, fYard ay (ysN D.1 D.2.1))), (ay 1, .inl (0, 12, .inl (nF D.2.2.1))), (ay 2, .inl (0, 12, .inl (nF D.2.2.2.1))), (ay 3, .inl (0, 12, .inl (nF D.2.2.2.2.1))), (ay 4, .inl (0, 12, .inl (nF D.2.2.2.2.2.1))), (ay 5, .inl (0, 64, .inl (nF D.2.2.2.2.2.2.1))), (ay 6, .inl (1, 64, .inl (nF D.2.2.2.2.2.2.2))), (p, .inr (3, fPlan ap P.1)), (ap 1, .inl (0, 20, .inl (nF P.2.1))), (ap 2, .inl (0, 20, .inl (nF (un P.2.2.1 P.1 4)))), (ap 3, .inl (0, 20, .inl (nF P.2.2.2.1))), (ap 4, .inl (0, 240, .inl (nF P.2.2.2.2)))]) [0, 1] [2, 3, 4, 5, 6, 7, 8, 9, 10, 11, 12, 13] 0 dX4_readThing_97 zl_RX4_58 kX9_next rfl rfl rfl rfl rfl (by decide) rfl rfl (show dd - 1 + 1 ≤ dd by omega) (Nat.zero_le _) (Nat.zero_le _) (Nat.le_of_ble_eq_true rfl) (s_next l (dd - 1) x b n L bt τ 0 pl (nI tk) (by omega) hn hL hbt hτ.2.2.1) (fun r K1 hr => ?_)
          obtain ⟨rfl, rfl⟩ := hr
          refine zs_K (K' := [(x, .inr (8, fTx b n L (nxt bt n L τ) 0 pl (nI tk))), (b, .inl (0, 740, .inl (nF bt))), (y, .inr (9, fYard ay (ysN D.1 D.2.1))), (ay 1, .inl (0, 12, .inl (nF D.2.2.1))), (ay 2, .inl (0, 12, .inl (nF D.2.2.2.1))), (ay 3, .inl (0, 12, .inl (nF D.2.2.2.2.1))), (ay 4, .inl (0, 12, .inl (nF D.2.2.2.2.2.1))), (ay 5, .inl (0, 64, .inl (nF D.2.2.2.2.2.2.1))), (ay 6, .inl (1, 64, .inl (nF D.2.2.2.2.2.2.2))), (p, .inr (3, fPlan ap P.1)), (ap 1, .inl (0, 20, .inl (nF P.2.1))), (ap 2, .inl (0, 20, .inl (nF (un P.2.2.1 P.1 4)))), (ap 3, .inl (0, 20, .inl (nF P.2.2.2.1))), (ap 4, .inl (0, 240, .inl (nF P.2.2.2.2)))]) [12, 13, 0, 1, 2, 3, 4, 5, 6, 7, 8, 9, 10, 11] rfl (by decide) ?_
          refine zs_aload_n dX4_readThing_100 rfl rfl ?_
          refine zs_iconst (v := nI 0) dX4_readThing_101 (by decide) ?_
          refine zs_aload_n dX4_readThing_102 rfl rfl ?_
          refine zs_get 2 dX4_readThing_103 zf_RX4_94 rfl (v := .int (nI (D.1 14))) rfl ?_
          refine zs_iconst (v := nI 1) dX4_readThing_106 (by decide) ?_
          refine zs_isub dX4_readThing_107 ?_
          refine zs_as (y := pC1 (D.1 14)) rfl ?_
          refine zs_callV (M := mX9_takeNumber) (As := [.int (nI 0), .int (pC1 (D.1 14))]) (st := []) (Kc := [(x, .inr (8, fTx b n L (nxt bt n L τ) 0 pl (nI tk))), (b, .inl (0, 740, .inl (nF bt)))]) (Kr := [(y, .inr (9, fYard ay (ysN D.1 D.2.1))), (ay 1, .inl (0, 12, .inl (nF D.2.2.1))), (ay 2, .inl (0, 12, .inl (nF D.2.2.2.1))), (ay 3, .inl (0, 12, .inl (nF D.2.2.2.2.1))), (ay 4, .inl (0, 12, .inl (nF D.2.2.2.2.2.1))), (ay 5, .inl (0, 64, .inl (nF D.2.2.2.2.2.2.1))), (ay 6, .inl (1, 64, .inl (nF D.2.2.2.2.2.2.2))), (p, .inr (3, fPlan ap P.1)), (ap 1, .inl (0, 20, .inl (nF P.2.1))), (ap 2, .inl (0, 20, .inl (nF (un P.2.2.1 P.1 4)))), (ap 3, .inl (0, 20, .inl (nF P.2.2.2.1))), (ap 4, .inl (0, 240, .inl (nF P.2.2.2.2)))]) [0, 1] [2, 3, 4, 5, 6, 7, 8, 9, 10, 11, 12, 13] 0 dX4_readThing_108 zl_RX4_61 kX9_takeNumber rfl rfl rfl rfl rfl (by decide) rfl rfl (show dd - 1 + 1 ≤ dd by omega) (Nat.zero_le _) (Nat.zero_le _) (Nat.le_of_ble_eq_true rfl) (s_takeNumC l (dd - 1) x b n L bt (nxt bt n L τ) pl (nI tk) (D.1 14) (by omega) hn hL hbt (nxt_OK hbt hn) (by omega)) (fun r K1 hr => ?_)
          rcases hr with ⟨hq108, rfl, rfl⟩ | ⟨hq108, rfl, rfl⟩
          · refine zs_K (K' := [(x, .inr (8, fTx b n L (nxt bt n L (nxt bt n L τ)) 0 pl (nI (nxt bt n L τ).2.2.2.1))), (b, .inl (0, 740, .inl (nF bt))), (y, .inr (9, fYard ay (ysN D.1 D.2.1))), (ay 1, .inl (0, 12, .inl (nF D.2.2.1))), (ay 2, .inl (0, 12, .inl (nF D.2.2.2.1))), (ay 3, .inl (0, 12, .inl (nF D.2.2.2.2.1))), (ay 4, .inl (0, 12, .inl (nF D.2.2.2.2.2.1))), (ay 5, .inl (0, 64, .inl (nF D.2.2.2.2.2.2.1))), (ay 6, .inl (1, 64, .inl (nF D.2.2.2.2.2.2.2))), (p, .inr (3, fPlan ap P.1)), (ap 1, .inl (0, 20, .inl (nF P.2.1))), (ap 2, .inl (0, 20, .inl (nF (un P.2.2.1 P.1 4)))), (ap 3, .inl (0, 20, .inl (nF P.2.2.2.1))), (ap 4, .inl (0, 240, .inl (nF P.2.2.2.2)))]) [12, 13, 0, 1, 2, 3, 4, 5, 6, 7, 8, 9, 10, 11] rfl (by decide) ?_
            refine zs_istore (lv' := [(4, .int 1), (0, .ref p), (1, .ref x), (2, .ref y)]) dX4_readThing_111 (Nat.le_of_ble_eq_true rfl) rfl ?_
            refine zs_aload_n dX4_readThing_113 rfl rfl ?_
            refine zs_get 9 dX4_readThing_114 zf_RX4_18 rfl (v := .ref (ap 3)) rfl ?_
            refine zs_aload_n dX4_readThing_117 rfl rfl ?_
            refine zs_get 9 dX4_readThing_118 zf_RX4_24 rfl (v := .int (nI P.1)) rfl ?_
            refine zs_aload_n dX4_readThing_121 rfl rfl ?_
            refine zs_get 0 dX4_readThing_122 zf_RX4_65 rfl (v := .int (nI (nxt bt n L τ).2.2.2.1)) rfl ?_
            refine zs_iast 12 dX4_readThing_125 rfl (vp_in_nI (by omega) (by omega)) ?_
            rw [nI_c (n := P.1) (by omega), nF_u]
            show zS _ _ _ _ _ _ [(x, .inr (8, fTx b n L (nxt bt n L (nxt bt n L τ)) 0 pl (nI (nxt bt n L τ).2.2.2.1))), (b, .inl (0, 740, .inl (nF bt))), (y, .inr (9, fYard ay (ysN D.1 D.2.1))), (ay 1, .inl (0, 12, .inl (nF D.2.2.1))), (ay 2, .inl (0, 12, .inl (nF D.2.2.2.1))), (ay 3, .inl (0, 12, .inl (nF D.2.2.2.2.1))), (ay 4, .inl (0, 12, .inl (nF D.2.2.2.2.2.1))), (ay 5, .inl (0, 64, .inl (nF D.2.2.2.2.2.2.1))), (ay 6, .inl (1, 64, .inl (nF D.2.2.2.2.2.2.2))), (p, .inr (3, fPlan ap P.1)), (ap 1, .inl (0, 20, .inl (nF P.2.1))), (ap 2, .inl (0, 20, .inl (nF (un P.2.2.1 P.1 4)))), (ap 3, .inl (0, 20, .inl (nF (un P.2.2.2.1 P.1 ((nxt bt n L τ).2.2.2.1))))), (ap 4, .inl (0, 240, .inl (nF P.2.2.2.2)))]
            refine zs_iload dX4_readThing_126 rfl ?_
            have e : pThing bt n L D τ tk P = (0, (nxt bt n L (nxt bt n L τ)), ((nxt bt n L τ).2.2.2.1), (P.1, P.2.1, un P.2.2.1 P.1 4, un P.2.2.2.1 P.1 ((nxt bt n L τ).2.2.2.1), P.2.2.2.2)) := by rw [pThing, if_neg (fun h => c_1 ((wV_e hwd (by decide : 15 < 29)).mpr h)), if_neg (fun h => c_2 ((wV_e hwd (by decide : 16 < 29)).mpr h)), if_neg (fun h => c_3 ((wV_e hwd (by decide : 18 < 29)).mpr h)), if_pos ((wV_e hwd (by decide : 19 < 29)).mp c_4), pGive, if_pos hq108] <;> rfl
            exact zs_zret dX4_readThing_128 rfl (Or.inr rfl) (Or.inl ⟨by rw [e], rfl, by rw [e]; rfl⟩)
          · refine zs_K (K' := [(x, .inr (8, fTx b n L (nxt bt n L τ) (tNuC (nxt bt n L τ) (D.1 14)) ((nxt bt n L τ).2.1) (nI tk))), (b, .inl (0, 740, .inl (nF bt))), (y, .inr (9, fYard ay (ysN D.1 D.2.1))), (ay 1, .inl (0, 12, .inl (nF D.2.2.1))), (ay 2, .inl (0, 12, .inl (nF D.2.2.2.1))), (ay 3, .inl (0, 12, .inl (nF D.2.2.2.2.1))), (ay 4, .inl (0, 12, .inl (nF D.2.2.2.2.2.1))), (ay 5, .inl (0, 64, .inl (nF D.2.2.2.2.2.2.1))), (ay 6, .inl (1, 64, .inl (nF D.2.2.2.2.2.2.2))), (p, .inr (3, fPlan ap P.1)), (ap 1, .inl (0, 20, .inl (nF P.2.1))), (ap 2, .inl (0, 20, .inl (nF (un P.2.2.1 P.1 4)))), (ap 3, .inl (0, 20, .inl (nF P.2.2.2.1))), (ap 4, .inl (0, 240, .inl (nF P.2.2.2.2)))]) [12, 13, 0, 1, 2, 3, 4, 5, 6, 7, 8, 9, 10, 11] rfl (by decide) ?_
            refine zs_istore (lv' := [(4, .int 0), (0, .ref p), (1, .ref x), (2, .ref y)]) dX4_readThing_111 (Nat.le_of_ble_eq_true rfl) rfl ?_
            refine zs_aload_n dX4_readThing_113 rfl rfl ?_
            refine zs_get 9 dX4_readThing_114 zf_RX4_18 rfl (v := .ref (ap 3)) rfl ?_
            refine zs_aload_n dX4_readThing_117 rfl rfl ?_
            refine zs_get 9 dX4_readThing_118 zf_RX4_24 rfl (v := .int (nI P.1)) rfl ?_
            refine zs_aload_n dX4_readThing_121 rfl rfl ?_
            refine zs_get 0 dX4_readThing_122 zf_RX4_65 rfl (v := .int (nI tk)) rfl ?_
            refine zs_iast 12 dX4_readThing_125 rfl (vp_in_nI (by omega) (by omega)) ?_
            rw [nI_c (n := P.1) (by omega), nF_u]
            show zS _ _ _ _ _ _ [(x, .inr (8, fTx b n L (nxt bt n L τ) (tNuC (nxt bt n L τ) (D.1 14)) ((nxt bt n L τ).2.1) (nI tk))), (b, .inl (0, 740, .inl (nF bt))), (y, .inr (9, fYard ay (ysN D.1 D.2.1))), (ay 1, .inl (0, 12, .inl (nF D.2.2.1))), (ay 2, .inl (0, 12, .inl (nF D.2.2.2.1))), (ay 3, .inl (0, 12, .inl (nF D.2.2.2.2.1))), (ay 4, .inl (0, 12, .inl (nF D.2.2.2.2.2.1))), (ay 5, .inl (0, 64, .inl (nF D.2.2.2.2.2.2.1))), (ay 6, .inl (1, 64, .inl (nF D.2.2.2.2.2.2.2))), (p, .inr (3, fPlan ap P.1)), (ap 1, .inl (0, 20, .inl (nF P.2.1))), (ap 2, .inl (0, 20, .inl (nF (un P.2.2.1 P.1 4)))), (ap 3, .inl (0, 20, .inl (nF (un P.2.2.2.1 P.1 tk)))), (ap 4, .inl (0, 240, .inl (nF P.2.2.2.2)))]
            refine zs_iload dX4_readThing_126 rfl ?_
            have e : pThing bt n L D τ tk P = ((tNuC (nxt bt n L τ) (D.1 14)), (nxt bt n L τ), tk, (P.1, P.2.1, un P.2.2.1 P.1 4, un P.2.2.2.1 P.1 tk, P.2.2.2.2)) := by rw [pThing, if_neg (fun h => c_1 ((wV_e hwd (by decide : 15 < 29)).mpr h)), if_neg (fun h => c_2 ((wV_e hwd (by decide : 16 < 29)).mpr h)), if_neg (fun h => c_3 ((wV_e hwd (by decide : 18 < 29)).mpr h)), if_pos ((wV_e hwd (by decide : 19 < 29)).mp c_4), pGive, if_neg hq108] <;> rfl
            exact zs_zret dX4_readThing_128 rfl (Or.inl rfl) (Or.inr ⟨by rw [e]; exact hq108, rfl, by rw [e]; rfl⟩)
      · refine zs_aload_n dX4_readThing_62 rfl rfl ?_
        refine zs_get 9 dX4_readThing_63 zf_RX4_15 rfl (v := .ref (ap 2)) rfl ?_
        refine zs_aload_n dX4_readThing_66 rfl rfl ?_
        refine zs_get 9 dX4_readThing_67 zf_RX4_24 rfl (v := .int (nI P.1)) rfl ?_
        refine zs_iconst (v := nI 3) dX4_readThing_70 (by decide) ?_
        refine zs_iast 11 dX4_readThing_71 rfl (vp_in_nI (by omega) (by omega)) ?_
        rw [nI_c (n := P.1) (by omega), nF_u]
        show zS _ _ _ _ _ _ [(x, .inr (8, fTx b n L τ 0 pl (nI tk))), (b, .inl (0, 740, .inl (nF bt))), (y, .inr (9, fYard ay (ysN D.1 D.2.1))), (ay 1, .inl (0, 12, .inl (nF D.2.2.1))), (ay 2, .inl (0, 12, .inl (nF D.2.2.2.1))), (ay 3, .inl (0, 12, .inl (nF D.2.2.2.2.1))), (ay 4, .inl (0, 12, .inl (nF D.2.2.2.2.2.1))), (ay 5, .inl (0, 64, .inl (nF D.2.2.2.2.2.2.1))), (ay 6, .inl (1, 64, .inl (nF D.2.2.2.2.2.2.2))), (p, .inr (3, fPlan ap P.1)), (ap 1, .inl (0, 20, .inl (nF P.2.1))), (ap 2, .inl (0, 20, .inl (nF (un P.2.2.1 P.1 3)))), (ap 3, .inl (0, 20, .inl (nF P.2.2.2.1))), (ap 4, .inl (0, 240, .inl (nF P.2.2.2.2)))]
        refine zs_aload_n dX4_readThing_72 rfl rfl ?_
        refine zs_aload_n dX4_readThing_73 rfl rfl ?_
        refine zs_aload_n dX4_readThing_74 rfl rfl ?_
        refine zs_callV (M := mX4_readAim) (As := [.ref x, .ref y]) (st := []) (Kc := [(x, .inr (8, fTx b n L τ 0 pl (nI tk))), (b, .inl (0, 740, .inl (nF bt))), (y, .inr (9, fYard ay (ysN D.1 D.2.1))), (ay 1, .inl (0, 12, .inl (nF D.2.2.1))), (ay 2, .inl (0, 12, .inl (nF D.2.2.2.1))), (ay 3, .inl (0, 12, .inl (nF D.2.2.2.2.1))), (ay 4, .inl (0, 12, .inl (nF D.2.2.2.2.2.1))), (ay 5, .inl (0, 64, .inl (nF D.2.2.2.2.2.2.1))), (ay 6, .inl (1, 64, .inl (nF D.2.2.2.2.2.2.2))), (p, .inr (3, fPlan ap P.1)), (ap 1, .inl (0, 20, .inl (nF P.2.1))), (ap 2, .inl (0, 20, .inl (nF (un P.2.2.1 P.1 3)))), (ap 3, .inl (0, 20, .inl (nF P.2.2.2.1))), (ap 4, .inl (0, 240, .inl (nF P.2.2.2.2)))]) (Kr := []) [0, 1, 2, 3, 4, 5, 6, 7, 8, 9, 10, 11, 12, 13] [] 9 dX4_readThing_75 zl_RX4_88 kX4_readAim rfl rfl rfl rfl rfl (by decide) rfl rfl (show dd - 1 + 1 ≤ dd by omega) (Nat.zero_le _) (Nat.zero_le _) (Nat.le_of_ble_eq_true rfl) (s_readAim l (dd - 1) x b n L y p ay ap bt pl D τ tk (P.1, P.2.1, un P.2.2.1 P.1 3, P.2.2.2.1, P.2.2.2.2) (by omega) hn hL hbt hD hτ h20 hpm) (fun r K1 hr => ?_)
        rcases hr with ⟨hq75, rfl, rfl⟩ | ⟨hq75, rfl, rfl⟩
        · refine zs_K (K' := [(x, .inr (8, fTx b n L ((pAmP bt n L D τ tk (P.1, P.2.1, un P.2.2.1 P.1 3, P.2.2.2.1, P.2.2.2.2)).2.1) 0 pl (nI (pAmP bt n L D τ tk (P.1, P.2.1, un P.2.2.1 P.1 3, P.2.2.2.1, P.2.2.2.2)).2.2.1))), (b, .inl (0, 740, .inl (nF bt))), (y, .inr (9, fYard ay (ysN D.1 D.2.1))), (ay 1, .inl (0, 12, .inl (nF D.2.2.1))), (ay 2, .inl (0, 12, .inl (nF D.2.2.2.1))), (ay 3, .inl (0, 12, .inl (nF D.2.2.2.2.1))), (ay 4, .inl (0, 12, .inl (nF D.2.2.2.2.2.1))), (ay 5, .inl (0, 64, .inl (nF D.2.2.2.2.2.2.1))), (ay 6, .inl (1, 64, .inl (nF D.2.2.2.2.2.2.2))), (p, .inr (3, fPlan ap ((pAmP bt n L D τ tk (P.1, P.2.1, un P.2.2.1 P.1 3, P.2.2.2.1, P.2.2.2.2)).2.2.2.1))), (ap 1, .inl (0, 20, .inl (nF ((pAmP bt n L D τ tk (P.1, P.2.1, un P.2.2.1 P.1 3, P.2.2.2.1, P.2.2.2.2)).2.2.2.2.1)))), (ap 2, .inl (0, 20, .inl (nF ((pAmP bt n L D τ tk (P.1, P.2.1, un P.2.2.1 P.1 3, P.2.2.2.1, P.2.2.2.2)).2.2.2.2.2.1)))), (ap 3, .inl (0, 20, .inl (nF ((pAmP bt n L D τ tk (P.1, P.2.1, un P.2.2.1 P.1 3, P.2.2.2.1, P.2.2.2.2)).2.2.2.2.2.2.1)))), (ap 4, .inl (0, 240, .inl (nF ((pAmP bt n L D τ tk (P.1, P.2.1, un P.2.2.1 P.1 3, P.2.2.2.1, P.2.2.2.2)).2.2.2.2.2.2.2))))]) [0, 1, 2, 3, 4, 5, 6, 7, 8, 9, 10, 11, 12, 13] rfl (by decide) ?_
          have e : pThing bt n L D τ tk P = (pAmP bt n L D τ tk (P.1, P.2.1, un P.2.2.1 P.1 3, P.2.2.2.1, P.2.2.2.2)) := by rw [pThing, if_neg (fun h => c_1 ((wV_e hwd (by decide : 15 < 29)).mpr h)), if_neg (fun h => c_2 ((wV_e hwd (by decide : 16 < 29)).mpr h)), if_pos ((wV_e hwd (by decide : 18 < 29)).mp c_3)]
          exact zs_zret dX4_readThing_78 rfl (Or.inr rfl) (Or.inl ⟨by rw [e]; exact hq75, rfl, by rw [e]; rfl⟩)
        · refine zs_K (K' := [(x, .inr (8, fTx b n L ((pAmP bt n L D τ tk (P.1, P.2.1, un P.2.2.1 P.1 3, P.2.2.2.1, P.2.2.2.2)).2.1) ((pAmP bt n L D τ tk (P.1, P.2.1, un P.2.2.1 P.1 3, P.2.2.2.1, P.2.2.2.2)).1) ((pAmP bt n L D τ tk (P.1, P.2.1, un P.2.2.1 P.1 3, P.2.2.2.1, P.2.2.2.2)).2.1.2.1) (nI (pAmP bt n L D τ tk (P.1, P.2.1, un P.2.2.1 P.1 3, P.2.2.2.1, P.2.2.2.2)).2.2.1))), (b, .inl (0, 740, .inl (nF bt))), (y, .inr (9, fYard ay (ysN D.1 D.2.1))), (ay 1, .inl (0, 12, .inl (nF D.2.2.1))), (ay 2, .inl (0, 12, .inl (nF D.2.2.2.1))), (ay 3, .inl (0, 12, .inl (nF D.2.2.2.2.1))), (ay 4, .inl (0, 12, .inl (nF D.2.2.2.2.2.1))), (ay 5, .inl (0, 64, .inl (nF D.2.2.2.2.2.2.1))), (ay 6, .inl (1, 64, .inl (nF D.2.2.2.2.2.2.2))), (p, .inr (3, fPlan ap ((pAmP bt n L D τ tk (P.1, P.2.1, un P.2.2.1 P.1 3, P.2.2.2.1, P.2.2.2.2)).2.2.2.1))), (ap 1, .inl (0, 20, .inl (nF ((pAmP bt n L D τ tk (P.1, P.2.1, un P.2.2.1 P.1 3, P.2.2.2.1, P.2.2.2.2)).2.2.2.2.1)))), (ap 2, .inl (0, 20, .inl (nF ((pAmP bt n L D τ tk (P.1, P.2.1, un P.2.2.1 P.1 3, P.2.2.2.1, P.2.2.2.2)).2.2.2.2.2.1)))), (ap 3, .inl (0, 20, .inl (nF ((pAmP bt n L D τ tk (P.1, P.2.1, un P.2.2.1 P.1 3, P.2.2.2.1, P.2.2.2.2)).2.2.2.2.2.2.1)))), (ap 4, .inl (0, 240, .inl (nF ((pAmP bt n L D τ tk (P.1, P.2.1, un P.2.2.1 P.1 3, P.2.2.2.1, P.2.2.2.2)).2.2.2.2.2.2.2))))]) [0, 1, 2, 3, 4, 5, 6, 7, 8, 9, 10, 11, 12, 13] rfl (by decide) ?_
          have e : pThing bt n L D τ tk P = (pAmP bt n L D τ tk (P.1, P.2.1, un P.2.2.1 P.1 3, P.2.2.2.1, P.2.2.2.2)) := by rw [pThing, if_neg (fun h => c_1 ((wV_e hwd (by decide : 15 < 29)).mpr h)), if_neg (fun h => c_2 ((wV_e hwd (by decide : 16 < 29)).mpr h)), if_pos ((wV_e hwd (by decide : 18 < 29)).mp c_3)]
          exact zs_zret dX4_readThing_78 rfl (Or.inl rfl) (Or.inr ⟨by rw [e]; exact hq75, rfl, by rw [e]; rfl⟩)
    · refine zs_aload_n dX4_readThing_37 rfl rfl ?_
      refine zs_get 9 dX4_readThing_38 zf_RX4_15 rfl (v := .ref (ap 2)) rfl ?_
      refine zs_aload_n dX4_readThing_41 rfl rfl ?_
      refine zs_get 9 dX4_readThing_42 zf_RX4_24 rfl (v := .int (nI P.1)) rfl ?_
      refine zs_iconst (v := nI 1) dX4_readThing_45 (by decide) ?_
      refine zs_iast 11 dX4_readThing_46 rfl (vp_in_nI (by omega) (by omega)) ?_
      rw [nI_c (n := P.1) (by omega), nF_u]
      show zS _ _ _ _ _ _ [(x, .inr (8, fTx b n L τ 0 pl (nI tk))), (b, .inl (0, 740, .inl (nF bt))), (y, .inr (9, fYard ay (ysN D.1 D.2.1))), (ay 1, .inl (0, 12, .inl (nF D.2.2.1))), (ay 2, .inl (0, 12, .inl (nF D.2.2.2.1))), (ay 3, .inl (0, 12, .inl (nF D.2.2.2.2.1))), (ay 4, .inl (0, 12, .inl (nF D.2.2.2.2.2.1))), (ay 5, .inl (0, 64, .inl (nF D.2.2.2.2.2.2.1))), (ay 6, .inl (1, 64, .inl (nF D.2.2.2.2.2.2.2))), (p, .inr (3, fPlan ap P.1)), (ap 1, .inl (0, 20, .inl (nF P.2.1))), (ap 2, .inl (0, 20, .inl (nF (un P.2.2.1 P.1 1)))), (ap 3, .inl (0, 20, .inl (nF P.2.2.2.1))), (ap 4, .inl (0, 240, .inl (nF P.2.2.2.2)))]
      refine zs_aload_n dX4_readThing_47 rfl rfl ?_
      refine zs_aload_n dX4_readThing_48 rfl rfl ?_
      refine zs_aload_n dX4_readThing_49 rfl rfl ?_
      refine zs_iconst (v := nI 1) dX4_readThing_50 (by decide) ?_
      refine zs_callV (M := mX4_readMen) (As := [.ref x, .ref y, .int (nI 1)]) (st := []) (Kc := [(x, .inr (8, fTx b n L τ 0 pl (nI tk))), (b, .inl (0, 740, .inl (nF bt))), (y, .inr (9, fYard ay (ysN D.1 D.2.1))), (ay 1, .inl (0, 12, .inl (nF D.2.2.1))), (ay 2, .inl (0, 12, .inl (nF D.2.2.2.1))), (ay 3, .inl (0, 12, .inl (nF D.2.2.2.2.1))), (ay 4, .inl (0, 12, .inl (nF D.2.2.2.2.2.1))), (ay 5, .inl (0, 64, .inl (nF D.2.2.2.2.2.2.1))), (ay 6, .inl (1, 64, .inl (nF D.2.2.2.2.2.2.2))), (p, .inr (3, fPlan ap P.1)), (ap 1, .inl (0, 20, .inl (nF P.2.1))), (ap 2, .inl (0, 20, .inl (nF (un P.2.2.1 P.1 1)))), (ap 3, .inl (0, 20, .inl (nF P.2.2.2.1))), (ap 4, .inl (0, 240, .inl (nF P.2.2.2.2)))]) (Kr := []) [0, 1, 2, 3, 4, 5, 6, 7, 8, 9, 10, 11, 12, 13] [] 9 dX4_readThing_51 zl_RX4_78 kX4_readMen rfl rfl rfl rfl rfl (by decide) rfl rfl (show dd - 1 + 1 ≤ dd by omega) (Nat.zero_le _) (Nat.zero_le _) (Nat.le_of_ble_eq_true rfl) (s_readMen l (dd - 1) x b n L y p ay ap bt pl D 1 τ tk (P.1, P.2.1, un P.2.2.1 P.1 1, P.2.2.2.1, P.2.2.2.2) (by omega) hn hL hbt hD (by decide) hτ h20 hpm) (fun r K1 hr => ?_)
      rcases hr with ⟨hq51, rfl, rfl⟩ | ⟨hq51, rfl, rfl⟩
      · refine zs_K (K' := [(x, .inr (8, fTx b n L ((pMs bt n L D 1 13 0 (nxt bt n L τ) tk (P.1, P.2.1, un P.2.2.1 P.1 1, P.2.2.2.1, P.2.2.2.2)).2.1) 0 pl (nI (pMs bt n L D 1 13 0 (nxt bt n L τ) tk (P.1, P.2.1, un P.2.2.1 P.1 1, P.2.2.2.1, P.2.2.2.2)).2.2.1))), (b, .inl (0, 740, .inl (nF bt))), (y, .inr (9, fYard ay (ysN D.1 D.2.1))), (ay 1, .inl (0, 12, .inl (nF D.2.2.1))), (ay 2, .inl (0, 12, .inl (nF D.2.2.2.1))), (ay 3, .inl (0, 12, .inl (nF D.2.2.2.2.1))), (ay 4, .inl (0, 12, .inl (nF D.2.2.2.2.2.1))), (ay 5, .inl (0, 64, .inl (nF D.2.2.2.2.2.2.1))), (ay 6, .inl (1, 64, .inl (nF D.2.2.2.2.2.2.2))), (p, .inr (3, fPlan ap ((pMs bt n L D 1 13 0 (nxt bt n L τ) tk (P.1, P.2.1, un P.2.2.1 P.1 1, P.2.2.2.1, P.2.2.2.2)).2.2.2.1))), (ap 1, .inl (0, 20, .inl (nF ((pMs bt n L D 1 13 0 (nxt bt n L τ) tk (P.1, P.2.1, un P.2.2.1 P.1 1, P.2.2.2.1, P.2.2.2.2)).2.2.2.2.1)))), (ap 2, .inl (0, 20, .inl (nF ((pMs bt n L D 1 13 0 (nxt bt n L τ) tk (P.1, P.2.1, un P.2.2.1 P.1 1, P.2.2.2.1, P.2.2.2.2)).2.2.2.2.2.1)))), (ap 3, .inl (0, 20, .inl (nF ((pMs bt n L D 1 13 0 (nxt bt n L τ) tk (P.1, P.2.1, un P.2.2.1 P.1 1, P.2.2.2.1, P.2.2.2.2)).2.2.2.2.2.2.1)))), (ap 4, .inl (0, 240, .inl (nF ((pMs bt n L D 1 13 0 (nxt bt n L τ) tk (P.1, P.2.1, un P.2.2.1 P.1 1, P.2.2.2.1, P.2.2.2.2)).2.2.2.2.2.2.2))))]) [0, 1, 2, 3, 4, 5, 6, 7, 8, 9, 10, 11, 12, 13] rfl (by decide) ?_
        have e : pThing bt n L D τ tk P = (pMs bt n L D 1 13 0 (nxt bt n L τ) tk (P.1, P.2.1, un P.2.2.1 P.1 1, P.2.2.2.1, P.2.2.2.2)) := by rw [pThing, if_neg (fun h => c_1 ((wV_e hwd (by decide : 15 < 29)).mpr h)), if_pos ((wV_e hwd (by decide : 16 < 29)).mp c_2)]
        exact zs_zret dX4_readThing_54 rfl (Or.inr rfl) (Or.inl ⟨by rw [e]; exact hq51, rfl, by rw [e]; rfl⟩)
      · refine zs_K (K' := [(x, .inr (8, fTx b n L ((pMs bt n L D 1 13 0 (nxt bt n L τ) tk (P.1, P.2.1, un P.2.2.1 P.1 1, P.2.2.2.1, P.2.2.2.2)).2.1) ((pMs bt n L D 1 13 0 (nxt bt n L τ) tk (P.1, P.2.1, un P.2.2.1 P.1 1, P.2.2.2.1, P.2.2.2.2)).1) ((pMs bt n L D 1 13 0 (nxt bt n L τ) tk (P.1, P.2.1, un P.2.2.1 P.1 1, P.2.2.2.1, P.2.2.2.2)).2.1.2.1) (nI (pMs bt n L D 1 13 0 (nxt bt n L τ) tk (P.1, P.2.1, un P.2.2.1 P.1 1, P.2.2.2.1, P.2.2.2.2)).2.2.1))), (b, .inl (0, 740, .inl (nF bt))), (y, .inr (9, fYard ay (ysN D.1 D.2.1))), (ay 1, .inl (0, 12, .inl (nF D.2.2.1))), (ay 2, .inl (0, 12, .inl (nF D.2.2.2.1))), (ay 3, .inl (0, 12, .inl (nF D.2.2.2.2.1))), (ay 4, .inl (0, 12, .inl (nF D.2.2.2.2.2.1))), (ay 5, .inl (0, 64, .inl (nF D.2.2.2.2.2.2.1))), (ay 6, .inl (1, 64, .inl (nF D.2.2.2.2.2.2.2))), (p, .inr (3, fPlan ap ((pMs bt n L D 1 13 0 (nxt bt n L τ) tk (P.1, P.2.1, un P.2.2.1 P.1 1, P.2.2.2.1, P.2.2.2.2)).2.2.2.1))), (ap 1, .inl (0, 20, .inl (nF ((pMs bt n L D 1 13 0 (nxt bt n L τ) tk (P.1, P.2.1, un P.2.2.1 P.1 1, P.2.2.2.1, P.2.2.2.2)).2.2.2.2.1)))), (ap 2, .inl (0, 20, .inl (nF ((pMs bt n L D 1 13 0 (nxt bt n L τ) tk (P.1, P.2.1, un P.2.2.1 P.1 1, P.2.2.2.1, P.2.2.2.2)).2.2.2.2.2.1)))), (ap 3, .inl (0, 20, .inl (nF ((pMs bt n L D 1 13 0 (nxt bt n L τ) tk (P.1, P.2.1, un P.2.2.1 P.1 1, P.2.2.2.1, P.2.2.2.2)).2.2.2.2.2.2.1)))), (ap 4, .inl (0, 240, .inl (nF ((pMs bt n L D 1 13 0 (nxt bt n L τ) tk (P.1, P.2.1, un P.2.2.1 P.1 1, P.2.2.2.1, P.2.2.2.2)).2.2.2.2.2.2.2))))]) [0, 1, 2, 3, 4, 5, 6, 7, 8, 9, 10, 11, 12, 13] rfl (by decide) ?_
        have e : pThing bt n L D τ tk P = (pMs bt n L D 1 13 0 (nxt bt n L τ) tk (P.1, P.2.1, un P.2.2.1 P.1 1, P.2.2.2.1, P.2.2.2.2)) := by rw [pThing, if_neg (fun h => c_1 ((wV_e hwd (by decide : 15 < 29)).mpr h)), if_pos ((wV_e hwd (by decide : 16 < 29)).mp c_2)]
        exact zs_zret dX4_readThing_54 rfl (Or.inl rfl) (Or.inr ⟨by rw [e]; exact hq51, rfl, by rw [e]; rfl⟩)
  · refine zs_aload_n dX4_readThing_12 rfl rfl ?_
    refine zs_get 9 dX4_readThing_13 zf_RX4_15 rfl (v := .ref (ap 2)) rfl ?_
    refine zs_aload_n dX4_readThing_16 rfl rfl ?_
    refine zs_get 9 dX4_readThing_17 zf_RX4_24 rfl (v := .int (nI P.1)) rfl ?_
    refine zs_iconst (v := nI 0) dX4_readThing_20 (by decide) ?_
    refine zs_iast 11 dX4_readThing_21 rfl (vp_in_nI (by omega) (by omega)) ?_
    rw [nI_c (n := P.1) (by omega), nF_u]
    show zS _ _ _ _ _ _ [(x, .inr (8, fTx b n L τ 0 pl (nI tk))), (b, .inl (0, 740, .inl (nF bt))), (y, .inr (9, fYard ay (ysN D.1 D.2.1))), (ay 1, .inl (0, 12, .inl (nF D.2.2.1))), (ay 2, .inl (0, 12, .inl (nF D.2.2.2.1))), (ay 3, .inl (0, 12, .inl (nF D.2.2.2.2.1))), (ay 4, .inl (0, 12, .inl (nF D.2.2.2.2.2.1))), (ay 5, .inl (0, 64, .inl (nF D.2.2.2.2.2.2.1))), (ay 6, .inl (1, 64, .inl (nF D.2.2.2.2.2.2.2))), (p, .inr (3, fPlan ap P.1)), (ap 1, .inl (0, 20, .inl (nF P.2.1))), (ap 2, .inl (0, 20, .inl (nF (un P.2.2.1 P.1 0)))), (ap 3, .inl (0, 20, .inl (nF P.2.2.2.1))), (ap 4, .inl (0, 240, .inl (nF P.2.2.2.2)))]
    refine zs_aload_n dX4_readThing_22 rfl rfl ?_
    refine zs_aload_n dX4_readThing_23 rfl rfl ?_
    refine zs_aload_n dX4_readThing_24 rfl rfl ?_
    refine zs_iconst (v := nI 2) dX4_readThing_25 (by decide) ?_
    refine zs_callV (M := mX4_readMen) (As := [.ref x, .ref y, .int (nI 2)]) (st := []) (Kc := [(x, .inr (8, fTx b n L τ 0 pl (nI tk))), (b, .inl (0, 740, .inl (nF bt))), (y, .inr (9, fYard ay (ysN D.1 D.2.1))), (ay 1, .inl (0, 12, .inl (nF D.2.2.1))), (ay 2, .inl (0, 12, .inl (nF D.2.2.2.1))), (ay 3, .inl (0, 12, .inl (nF D.2.2.2.2.1))), (ay 4, .inl (0, 12, .inl (nF D.2.2.2.2.2.1))), (ay 5, .inl (0, 64, .inl (nF D.2.2.2.2.2.2.1))), (ay 6, .inl (1, 64, .inl (nF D.2.2.2.2.2.2.2))), (p, .inr (3, fPlan ap P.1)), (ap 1, .inl (0, 20, .inl (nF P.2.1))), (ap 2, .inl (0, 20, .inl (nF (un P.2.2.1 P.1 0)))), (ap 3, .inl (0, 20, .inl (nF P.2.2.2.1))), (ap 4, .inl (0, 240, .inl (nF P.2.2.2.2)))]) (Kr := []) [0, 1, 2, 3, 4, 5, 6, 7, 8, 9, 10, 11, 12, 13] [] 9 dX4_readThing_26 zl_RX4_78 kX4_readMen rfl rfl rfl rfl rfl (by decide) rfl rfl (show dd - 1 + 1 ≤ dd by omega) (Nat.zero_le _) (Nat.zero_le _) (Nat.le_of_ble_eq_true rfl) (s_readMen l (dd - 1) x b n L y p ay ap bt pl D 2 τ tk (P.1, P.2.1, un P.2.2.1 P.1 0, P.2.2.2.1, P.2.2.2.2) (by omega) hn hL hbt hD (by decide) hτ h20 hpm) (fun r K1 hr => ?_)
    rcases hr with ⟨hq26, rfl, rfl⟩ | ⟨hq26, rfl, rfl⟩
    · refine zs_K (K' := [(x, .inr (8, fTx b n L ((pMs bt n L D 2 13 0 (nxt bt n L τ) tk (P.1, P.2.1, un P.2.2.1 P.1 0, P.2.2.2.1, P.2.2.2.2)).2.1) 0 pl (nI (pMs bt n L D 2 13 0 (nxt bt n L τ) tk (P.1, P.2.1, un P.2.2.1 P.1 0, P.2.2.2.1, P.2.2.2.2)).2.2.1))), (b, .inl (0, 740, .inl (nF bt))), (y, .inr (9, fYard ay (ysN D.1 D.2.1))), (ay 1, .inl (0, 12, .inl (nF D.2.2.1))), (ay 2, .inl (0, 12, .inl (nF D.2.2.2.1))), (ay 3, .inl (0, 12, .inl (nF D.2.2.2.2.1))), (ay 4, .inl (0, 12, .inl (nF D.2.2.2.2.2.1))), (ay 5, .inl (0, 64, .inl (nF D.2.2.2.2.2.2.1))), (ay 6, .inl (1, 64, .inl (nF D.2.2.2.2.2.2.2))), (p, .inr (3, fPlan ap ((pMs bt n L D 2 13 0 (nxt bt n L τ) tk (P.1, P.2.1, un P.2.2.1 P.1 0, P.2.2.2.1, P.2.2.2.2)).2.2.2.1))), (ap 1, .inl (0, 20, .inl (nF ((pMs bt n L D 2 13 0 (nxt bt n L τ) tk (P.1, P.2.1, un P.2.2.1 P.1 0, P.2.2.2.1, P.2.2.2.2)).2.2.2.2.1)))), (ap 2, .inl (0, 20, .inl (nF ((pMs bt n L D 2 13 0 (nxt bt n L τ) tk (P.1, P.2.1, un P.2.2.1 P.1 0, P.2.2.2.1, P.2.2.2.2)).2.2.2.2.2.1)))), (ap 3, .inl (0, 20, .inl (nF ((pMs bt n L D 2 13 0 (nxt bt n L τ) tk (P.1, P.2.1, un P.2.2.1 P.1 0, P.2.2.2.1, P.2.2.2.2)).2.2.2.2.2.2.1)))), (ap 4, .inl (0, 240, .inl (nF ((pMs bt n L D 2 13 0 (nxt bt n L τ) tk (P.1, P.2.1, un P.2.2.1 P.1 0, P.2.2.2.1, P.2.2.2.2)).2.2.2.2.2.2.2))))]) [0, 1, 2, 3, 4, 5, 6, 7, 8, 9, 10, 11, 12, 13] rfl (by decide) ?_
      have e : pThing bt n L D τ tk P = (pMs bt n L D 2 13 0 (nxt bt n L τ) tk (P.1, P.2.1, un P.2.2.1 P.1 0, P.2.2.2.1, P.2.2.2.2)) := by rw [pThing, if_pos ((wV_e hwd (by decide : 15 < 29)).mp c_1)]
      exact zs_zret dX4_readThing_29 rfl (Or.inr rfl) (Or.inl ⟨by rw [e]; exact hq26, rfl, by rw [e]; rfl⟩)
    · refine zs_K (K' := [(x, .inr (8, fTx b n L ((pMs bt n L D 2 13 0 (nxt bt n L τ) tk (P.1, P.2.1, un P.2.2.1 P.1 0, P.2.2.2.1, P.2.2.2.2)).2.1) ((pMs bt n L D 2 13 0 (nxt bt n L τ) tk (P.1, P.2.1, un P.2.2.1 P.1 0, P.2.2.2.1, P.2.2.2.2)).1) ((pMs bt n L D 2 13 0 (nxt bt n L τ) tk (P.1, P.2.1, un P.2.2.1 P.1 0, P.2.2.2.1, P.2.2.2.2)).2.1.2.1) (nI (pMs bt n L D 2 13 0 (nxt bt n L τ) tk (P.1, P.2.1, un P.2.2.1 P.1 0, P.2.2.2.1, P.2.2.2.2)).2.2.1))), (b, .inl (0, 740, .inl (nF bt))), (y, .inr (9, fYard ay (ysN D.1 D.2.1))), (ay 1, .inl (0, 12, .inl (nF D.2.2.1))), (ay 2, .inl (0, 12, .inl (nF D.2.2.2.1))), (ay 3, .inl (0, 12, .inl (nF D.2.2.2.2.1))), (ay 4, .inl (0, 12, .inl (nF D.2.2.2.2.2.1))), (ay 5, .inl (0, 64, .inl (nF D.2.2.2.2.2.2.1))), (ay 6, .inl (1, 64, .inl (nF D.2.2.2.2.2.2.2))), (p, .inr (3, fPlan ap ((pMs bt n L D 2 13 0 (nxt bt n L τ) tk (P.1, P.2.1, un P.2.2.1 P.1 0, P.2.2.2.1, P.2.2.2.2)).2.2.2.1))), (ap 1, .inl (0, 20, .inl (nF ((pMs bt n L D 2 13 0 (nxt bt n L τ) tk (P.1, P.2.1, un P.2.2.1 P.1 0, P.2.2.2.1, P.2.2.2.2)).2.2.2.2.1)))), (ap 2, .inl (0, 20, .inl (nF ((pMs bt n L D 2 13 0 (nxt bt n L τ) tk (P.1, P.2.1, un P.2.2.1 P.1 0, P.2.2.2.1, P.2.2.2.2)).2.2.2.2.2.1)))), (ap 3, .inl (0, 20, .inl (nF ((pMs bt n L D 2 13 0 (nxt bt n L τ) tk (P.1, P.2.1, un P.2.2.1 P.1 0, P.2.2.2.1, P.2.2.2.2)).2.2.2.2.2.2.1)))), (ap 4, .inl (0, 240, .inl (nF ((pMs bt n L D 2 13 0 (nxt bt n L τ) tk (P.1, P.2.1, un P.2.2.1 P.1 0, P.2.2.2.1, P.2.2.2.2)).2.2.2.2.2.2.2))))]) [0, 1, 2, 3, 4, 5, 6, 7, 8, 9, 10, 11, 12, 13] rfl (by decide) ?_
      have e : pThing bt n L D τ tk P = (pMs bt n L D 2 13 0 (nxt bt n L τ) tk (P.1, P.2.1, un P.2.2.1 P.1 0, P.2.2.2.1, P.2.2.2.2)) := by rw [pThing, if_pos ((wV_e hwd (by decide : 15 < 29)).mp c_1)]
      exact zs_zret dX4_readThing_29 rfl (Or.inl rfl) (Or.inr ⟨by rw [e]; exact hq26, rfl, by rw [e]; rfl⟩)
