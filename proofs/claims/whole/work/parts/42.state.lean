/-! ===== what a reader tells: faults from 1 to 4, numbers of eight digits ===== -/
def qJ (R : zPy) : Prop := R.1 ≤ 4 ∧ tOK R.2.1 ∧ R.2.2.1 ≤ 99999999
section
variable {b : Nat → Nat} {n L : Nat} {τ : zTk} {tk : Nat} {D : zYd}
theorem tNu_4 {lo hi : Nat} : tNu τ lo hi ≤ 4 := by
  unfold tNu
  split
  · split
    · decide
    · split <;> decide
  · decide
theorem tNuC_4 {C : Nat} : tNuC τ C ≤ 4 := by
  unfold tNuC
  split
  · split <;> decide
  · decide
theorem qJ_l {k : Nat} (hk : k ≤ 4) (hτ : tOK τ) (htk : tk ≤ 99999999) : qJ (k, τ, tk, D) := ⟨hk, hτ, htk⟩
theorem qJ_nu {lo hi : Nat} (hb : ∀ j, b j < 256) (hn : n ≤ 740) (hτ : tOK τ) (htk : tk ≤ 99999999) : qJ (pNu b n L lo hi τ tk D) := by
  unfold pNu
  split
  · rename_i h
    exact qJ_l (by decide) (nxt_OK hb hn) (tNu_8 hτ h)
  · exact qJ_l tNu_4 hτ htk
theorem qJ_bd {R : zPy} {f : zTk → Nat → zYd → zPy} (hR : qJ R) (hf : ∀ τ tk D, tOK τ → tk ≤ 99999999 → qJ (f τ tk D)) : qJ (pBd R f) := by
  unfold pBd
  split
  · exact hf _ _ _ hR.2.1 hR.2.2
  · exact hR
theorem qJ_on {bit : Nat} (hb : ∀ j, b j < 256) (hn : n ≤ 740) (hτ : tOK τ) (htk : tk ≤ 99999999) : qJ (pOnce b n L bit τ tk D) := by
  unfold pOnce
  split
  · exact qJ_l (by decide) (nxt_OK hb hn) htk
  · exact qJ_l (by decide) hτ htk
theorem qJ_line (hb : ∀ j, b j < 256) (hn : n ≤ 740) (hτ : tOK τ) (htk : tk ≤ 99999999) : qJ (pLine b n L τ tk D) := by
  have h1 : ∀ (bit lo hi fld : Nat), qJ (pOne b n L bit lo hi fld τ tk D) := fun bit lo hi fld => qJ_bd (qJ_on hb hn hτ htk) (fun τ tk D hτ htk => qJ_bd (qJ_nu hb hn hτ htk) (fun τ tk D hτ htk => qJ_l (by decide) hτ htk))
  unfold pLine
  split
  · exact qJ_l (by decide) hτ htk
  · split
    · unfold pMan
      split
      · exact qJ_l (by decide) hτ htk
      · split
        · exact qJ_l (by decide) (nxt_OK hb hn) htk
        · split
          · exact qJ_l (by decide) (nxt_OK hb hn) htk
          · exact qJ_bd (qJ_nu hb hn (nxt_OK hb hn) htk) (fun τ tk D hτ htk => qJ_bd (qJ_nu hb hn hτ htk) (fun τ tk D hτ htk => qJ_bd (qJ_nu hb hn hτ htk) (fun τ tk D hτ htk => qJ_l (by decide) hτ htk)))
    · split
      · unfold pCells
        split
        · exact qJ_l (by decide) hτ htk
        · split
          · exact qJ_l (by decide) (nxt_OK hb hn) htk
          · split
            · exact qJ_l (by decide) (nxt_OK hb hn) htk
            · split
              · exact qJ_l (by decide) (nxt_OK hb hn) htk
              · split
                · exact qJ_l (by decide) (nxt_OK hb hn) htk
                · exact qJ_l (by decide) (nxt_OK hb hn) htk
      · split
        · unfold pBurn
          split
          · exact qJ_l tNuC_4 (nxt_OK hb hn) htk
          · rename_i h
            have h8 := (nxt_OK (L := L) (τ := τ) hb hn).2.2.2.2.1 (tNuC_r (Decidable.byContradiction h)).1
            split
            · exact qJ_l (by decide) (nxt_OK hb hn) h8
            · split
              · exact qJ_l (by decide) (nxt_OK hb hn) h8
              · split
                · exact qJ_l (by decide) (nxt_OK hb hn) h8
                · split
                  · exact qJ_l (by decide) (nxt_OK hb hn) h8
                  · exact qJ_l (by decide) (nxt_OK hb hn) h8
        · split
          · refine qJ_bd (qJ_on hb hn hτ htk) (fun τ tk D hτ htk => ?_)
            unfold pWi
            split
            · exact qJ_l (by decide) (nxt_OK hb hn) htk
            · split
              · exact qJ_l (by decide) (nxt_OK hb hn) htk
              · split
                · exact qJ_l (by decide) (nxt_OK hb hn) htk
                · split
                  · exact qJ_l (by decide) (nxt_OK hb hn) htk
                  · exact qJ_l (by decide) hτ htk
          · split
            · exact qJ_bd (qJ_on hb hn hτ htk) (fun τ tk D hτ htk => qJ_bd (qJ_nu hb hn hτ htk) (fun τ tk D hτ htk => qJ_bd (qJ_nu hb hn hτ htk) (fun τ tk D hτ htk => qJ_l (by decide) hτ htk)))
            · split
              · exact qJ_bd (qJ_on hb hn hτ htk) (fun τ tk D hτ htk => qJ_bd (qJ_nu hb hn hτ htk) (fun τ tk D hτ htk => qJ_bd (qJ_nu hb hn hτ htk) (fun τ tk D hτ htk => qJ_l (by decide) hτ htk)))
              · split
                · exact h1 _ _ _ _
                · split
                  · exact h1 _ _ _ _
                  · split
                    · exact h1 _ _ _ _
                    · split
                      · exact h1 _ _ _ _
                      · exact qJ_l (by decide) hτ htk
theorem pLines_J (hb : ∀ j, b j < 256) (hn : n ≤ 740) : ∀ (q : Nat) (τ : zTk) (tk : Nat) (D : zYd) (i : Nat), tOK τ → tk ≤ 99999999 → yI D → qJ (pLines b n L q τ tk D i).1 ∧ yI (pLines b n L q τ tk D i).1.2.2.2 ∧ (pLines b n L q τ tk D i).2 ≤ i + q
  | 0, τ, tk, D, i, hτ, htk, hD => by
    rw [pLines]
    split
    · exact ⟨qJ_l (by decide) hτ htk, hD, Nat.le_refl _⟩
    · exact ⟨qJ_l (by decide) hτ htk, hD, Nat.le_refl _⟩
  | q + 1, τ, tk, D, i, hτ, htk, hD => by
    rw [pLines]
    have hJ := qJ_line (L := L) (D := D) hb hn hτ htk
    have hI := pLine_I (L := L) (tk := tk) hb hn hτ hD
    split
    · split
      · exact ⟨qJ_l (by decide) hτ htk, hD, Nat.le_add_right _ _⟩
      · exact ⟨qJ_l (by decide) hτ htk, hD, Nat.le_add_right _ _⟩
    · split
      · split
        · have ih := pLines_J hb hn q (nxt b n L (pLine b n L τ tk D).2.1) (pLine b n L τ tk D).2.2.1 (pLine b n L τ tk D).2.2.2 (i + 1) (nxt_OK hb hn) hJ.2.2 hI.2
          exact ⟨ih.1, ih.2.1, by have := ih.2.2; omega⟩
        · exact ⟨⟨by show 1 ≤ 4; decide, hJ.2.1, hJ.2.2⟩, hI.2, Nat.le_add_right _ _⟩
      · exact ⟨hJ, hI.2, Nat.le_add_right _ _⟩
theorem pMs_4f {lst : Nat} {D : zYd} : ∀ (q k : Nat) (τ : zTk) (P : zPl), (pMs b n L D lst q k τ tk P).1 ≤ 4
  | 0, k, τ, P => by rw [pMs]; show 3 ≤ 4; decide
  | q + 1, k, τ, P => by
    rw [pMs]
    split
    · show 0 ≤ 4; decide
    · split
      · show 1 ≤ 4; decide
      · split
        · show 3 ≤ 4; decide
        · split
          · show 3 ≤ 4; decide
          · split
            · show 3 ≤ 4; decide
            · exact pMs_4f q _ _ _
theorem pThing_4f {D : zYd} {P : zPl} : (pThing b n L D τ tk P).1 ≤ 4 := by
  unfold pThing
  split
  · exact pMs_4f _ _ _ _
  · split
    · exact pMs_4f _ _ _ _
    · split
      · unfold pAmP
        split
        · show 2 ≤ 4; decide
        · split
          · show 0 ≤ 4; decide
          · exact tNu_4
      · split
        · unfold pGive
          split
          · show 0 ≤ 4; decide
          · exact tNuC_4
        · split
          · show 0 ≤ 4; decide
          · show 1 ≤ 4; decide
theorem pThs_4f {D : zYd} : ∀ (q e : Nat) (τ : zTk) (tk : Nat) (P : zPl), (pThs b n L D q e τ tk P).1 ≤ 4
  | 0, e, τ, tk, P => by rw [pThs]; show 4 ≤ 4; decide
  | q + 1, e, τ, tk, P => by
    rw [pThs]
    split
    · split
      · show 0 ≤ 4; decide
      · show 1 ≤ 4; decide
    · split
      · show 1 ≤ 4; decide
      · split
        · show 4 ≤ 4; decide
        · split
          · exact tNu_4
          · split
            · exact pThing_4f
            · split
              · exact pThs_4f q _ _ _ _
              · show 1 ≤ 4; decide
def s4 (f : zTk → Nat → zSe → zPs) : Prop := ∀ τ tk S, (f τ tk S).1 ≤ 4
theorem sJn_4 {w j : Nat} {f : zTk → Nat → zSe → zPs} (hf : s4 f) : ∀ (q : Nat) (τ : zTk) (tk : Nat) (S : zSe), (sJn b n L w j f q τ tk S).1 ≤ 4
  | 0, τ, tk, S => by rw [sJn]; show 4 ≤ 4; decide
  | q + 1, τ, tk, S => by
    rw [sJn]
    split
    · show 0 ≤ 4; decide
    · split
      · exact sJn_4 hf q _ _ _
      · exact hf _ _ _
theorem sJo_4 {w j : Nat} {f : zTk → Nat → zSe → zPs} (hf : s4 f) : s4 (sJo b n L w j f) := fun τ tk S => by
  unfold sJo
  split
  · exact sJn_4 hf _ _ _ _
  · exact hf _ _ _
theorem sOne_4f : ∀ d, s4 (sOne b n L d)
  | 0 => fun τ tk S => by
    rw [sOne]
    split
    · show 1 ≤ 4; decide
    · show 4 ≤ 4; decide
  | d + 1 => fun τ tk S => by
    rw [sOne]
    split
    · show 1 ≤ 4; decide
    · split
      · show 4 ≤ 4; decide
      · split
        · unfold sBk
          split
          · split
            · show 0 ≤ 4; decide
            · show 1 ≤ 4; decide
          · exact sJo_4 (sJo_4 (sOne_4f d)) _ _ _
        · split
          · unfold sNt
            split
            · show 0 ≤ 4; decide
            · exact sOne_4f d _ _ _
          · split
            · show 0 ≤ 4; decide
            · unfold sCmp
              split
              · show 1 ≤ 4; decide
              · split
                · show 0 ≤ 4; decide
                · exact tNu_4
theorem sRd_4 {S : zSe} : (sRd b n L τ tk S).1 ≤ 4 := by
  unfold sRd
  split
  · split
    · show 0 ≤ 4; decide
    · show 1 ≤ 4; decide
  · exact sJo_4 (sJo_4 (sOne_4f 8)) _ _ _
end
def fSta (y p s : Nat) : List Value := [.ref y, .ref p, .ref s]
abbrev zpl0 : zPl := (0, fun _ => 0, fun _ => 0, fun _ => 0, fun _ => 0)
abbrev zse0 : zSe := (0, 0, fun _ => 0, fun _ => 0, fun _ => 0)
/-- a state: its object; its yard, plan, sentence, pile -/
abbrev kSta (q y p s : Nat) (ay ap as : Nat → Nat) (D : zYd) (P : zPl) (S : zSe) (pl : Nat → Nat) : zK := [(q, .inr (7, fSta y p s))] ++ (kYd y ay D ++ (kPl p ap P ++ (kSn s as S ++ [(as 4, .inl (1, 20, .inl (nF pl)))])))
theorem dX8_init_0 : decode cX8_init 0 = .ok (.aload_n 0, 1) := by decide +kernel
theorem dX8_init_1 : decode cX8_init 1 = .ok (.invokespecial 1, 3) := by decide +kernel
theorem dX8_init_4 : decode cX8_init 4 = .ok (.aload_n 0, 1) := by decide +kernel
theorem dX8_init_5 : decode cX8_init 5 = .ok (.new 7, 3) := by decide +kernel
theorem dX8_init_8 : decode cX8_init 8 = .ok (.dup, 1) := by decide +kernel
theorem dX8_init_9 : decode cX8_init 9 = .ok (.invokespecial 9, 3) := by decide +kernel
theorem dX8_init_12 : decode cX8_init 12 = .ok (.putfield 10, 3) := by decide +kernel
theorem dX8_init_15 : decode cX8_init 15 = .ok (.aload_n 0, 1) := by decide +kernel
theorem dX8_init_16 : decode cX8_init 16 = .ok (.new 16, 3) := by decide +kernel
theorem dX8_init_19 : decode cX8_init 19 = .ok (.dup, 1) := by decide +kernel
theorem dX8_init_20 : decode cX8_init 20 = .ok (.invokespecial 18, 3) := by decide +kernel
theorem dX8_init_23 : decode cX8_init 23 = .ok (.putfield 19, 3) := by decide +kernel
theorem dX8_init_26 : decode cX8_init 26 = .ok (.aload_n 0, 1) := by decide +kernel
theorem dX8_init_27 : decode cX8_init 27 = .ok (.new 23, 3) := by decide +kernel
theorem dX8_init_30 : decode cX8_init 30 = .ok (.dup, 1) := by decide +kernel
theorem dX8_init_31 : decode cX8_init 31 = .ok (.invokespecial 25, 3) := by decide +kernel
theorem dX8_init_34 : decode cX8_init 34 = .ok (.putfield 26, 3) := by decide +kernel
theorem dX8_init_37 : decode cX8_init 37 = .ok (.return_, 1) := by decide +kernel
set_option maxRecDepth 100000 in
theorem s_StaInit (l : Launch) (dd : Nat) (t : Nat) (hd : 3 ≤ dd) : zSp l mX8_init dd 17 646 [.ref t] [(t, .inr (7, [.null, .null, .null]))] (fun r K' => r = none ∧ ∃ (y p s : Nat) (ay ap as : Nat → Nat), K' = kSta t y p s ay ap as (yClr zYd0) zpl0 zse0 (fun _ => 0)) := by
  refine zSp.of (by decide) (Nat.le_of_ble_eq_true rfl) (fun h0 => ?_)
  show zS _ 17 646 0 [(0, .ref t)] [] [(t, .inr (7, [.null, .null, .null]))]
  refine zs_aload_n dX8_init_0 rfl rfl ?_
  refine zs_objInit dX8_init_1 zo_RX8 (show 1 ≤ dd by omega) (Nat.le_of_ble_eq_true rfl) ?_
  refine zs_aload_n dX8_init_4 rfl rfl ?_
  refine zs_new dX8_init_5 zn_RX8_7 (by first | omega | (simp only [List.length_cons, List.length_nil]; omega)) (by simp only [List.length_cons, List.length_nil]; omega) (fun q_1 => ?_)
  show zS _ _ _ _ _ _ [(t, .inr (7, [.null, .null, .null])), (q_1, .inr (9, [.int 0, .null, .null, .null, .null, .int 0, .int 0, .int 0, .int 0, .int 0, .int 0, .int 0, .int 0, .int 0, .int 0, .int 0, .null, .null, .int 0]))]
  refine zs_dup dX8_init_8 rfl ?_
  refine zs_callI (M := mX11_init) (As := []) (st := [.ref q_1, .ref t]) (Kc := [(q_1, .inr (9, [.int 0, .null, .null, .null, .null, .int 0, .int 0, .int 0, .int 0, .int 0, .int 0, .int 0, .int 0, .int 0, .int 0, .int 0, .null, .null, .int 0]))]) (Kr := [(t, .inr (7, [.null, .null, .null]))]) [1] [0] dX8_init_9 zl_RX8_9 kX11_init rfl rfl rfl rfl rfl rfl (by decide) (show dd - 1 + 1 ≤ dd by omega) (by first | omega | (simp only [List.length_cons, List.length_nil]; omega)) (by first | omega | (simp only [List.length_cons, List.length_nil]; omega)) (Nat.le_of_ble_eq_true rfl) (s_YardInit l (dd - 1) q_1 (by omega)) (fun r K1 hr => ?_)
  obtain ⟨rfl, ay, rfl⟩ := hr
  refine zs_K (K' := [(t, .inr (7, [.null, .null, .null])), (q_1, .inr (9, fYard ay (ysN ((yClr zYd0).1) ((yClr zYd0).2.1)))), (ay 1, .inl (0, 12, .inl (nF ((yClr zYd0).2.2.1)))), (ay 2, .inl (0, 12, .inl (nF ((yClr zYd0).2.2.2.1)))), (ay 3, .inl (0, 12, .inl (nF ((yClr zYd0).2.2.2.2.1)))), (ay 4, .inl (0, 12, .inl (nF ((yClr zYd0).2.2.2.2.2.1)))), (ay 5, .inl (0, 64, .inl (nF ((yClr zYd0).2.2.2.2.2.2.1)))), (ay 6, .inl (1, 64, .inl (nF ((yClr zYd0).2.2.2.2.2.2.2))))]) [0, 1, 2, 3, 4, 5, 6, 7] rfl (by decide) ?_
  refine zs_put 0 dX8_init_12 zf_RX8_10 rfl (Nat.le_of_ble_eq_true rfl) (zPv_o rfl) ?_
  show zS _ _ _ _ _ _ [(t, .inr (7, [.ref q_1, .null, .null])), (q_1, .inr (9, fYard ay (ysN ((yClr zYd0).1) ((yClr zYd0).2.1)))), (ay 1, .inl (0, 12, .inl (nF ((yClr zYd0).2.2.1)))), (ay 2, .inl (0, 12, .inl (nF ((yClr zYd0).2.2.2.1)))), (ay 3, .inl (0, 12, .inl (nF ((yClr zYd0).2.2.2.2.1)))), (ay 4, .inl (0, 12, .inl (nF ((yClr zYd0).2.2.2.2.2.1)))), (ay 5, .inl (0, 64, .inl (nF ((yClr zYd0).2.2.2.2.2.2.1)))), (ay 6, .inl (1, 64, .inl (nF ((yClr zYd0).2.2.2.2.2.2.2))))]
  refine zs_aload_n dX8_init_15 rfl rfl ?_
  refine zs_new dX8_init_16 zn_RX8_16 (by first | omega | (simp only [List.length_cons, List.length_nil]; omega)) (by simp only [List.length_cons, List.length_nil]; omega) (fun q_2 => ?_)
  show zS _ _ _ _ _ _ [(t, .inr (7, [.ref q_1, .null, .null])), (q_1, .inr (9, fYard ay (ysN ((yClr zYd0).1) ((yClr zYd0).2.1)))), (ay 1, .inl (0, 12, .inl (nF ((yClr zYd0).2.2.1)))), (ay 2, .inl (0, 12, .inl (nF ((yClr zYd0).2.2.2.1)))), (ay 3, .inl (0, 12, .inl (nF ((yClr zYd0).2.2.2.2.1)))), (ay 4, .inl (0, 12, .inl (nF ((yClr zYd0).2.2.2.2.2.1)))), (ay 5, .inl (0, 64, .inl (nF ((yClr zYd0).2.2.2.2.2.2.1)))), (ay 6, .inl (1, 64, .inl (nF ((yClr zYd0).2.2.2.2.2.2.2)))), (q_2, .inr (3, [.int 0, .null, .null, .null, .null]))]
  refine zs_dup dX8_init_19 rfl ?_
  refine zs_callI (M := mX4_init) (As := []) (st := [.ref q_2, .ref t]) (Kc := [(q_2, .inr (3, [.int 0, .null, .null, .null, .null]))]) (Kr := [(t, .inr (7, [.ref q_1, .null, .null])), (q_1, .inr (9, fYard ay (ysN ((yClr zYd0).1) ((yClr zYd0).2.1)))), (ay 1, .inl (0, 12, .inl (nF ((yClr zYd0).2.2.1)))), (ay 2, .inl (0, 12, .inl (nF ((yClr zYd0).2.2.2.1)))), (ay 3, .inl (0, 12, .inl (nF ((yClr zYd0).2.2.2.2.1)))), (ay 4, .inl (0, 12, .inl (nF ((yClr zYd0).2.2.2.2.2.1)))), (ay 5, .inl (0, 64, .inl (nF ((yClr zYd0).2.2.2.2.2.2.1)))), (ay 6, .inl (1, 64, .inl (nF ((yClr zYd0).2.2.2.2.2.2.2))))]) [8] [0, 1, 2, 3, 4, 5, 6, 7] dX8_init_20 zl_RX8_18 kX4_init rfl rfl rfl rfl rfl rfl (by decide) (show dd - 1 + 1 ≤ dd by omega) (by first | omega | (simp only [List.length_cons, List.length_nil]; omega)) (by first | omega | (simp only [List.length_cons, List.length_nil]; omega)) (Nat.le_of_ble_eq_true rfl) (s_PlanInit l (dd - 1) q_2 (by omega)) (fun r K1 hr => ?_)
  obtain ⟨rfl, ap, rfl⟩ := hr
  refine zs_K (K' := [(t, .inr (7, [.ref q_1, .null, .null])), (q_1, .inr (9, fYard ay (ysN ((yClr zYd0).1) ((yClr zYd0).2.1)))), (ay 1, .inl (0, 12, .inl (nF ((yClr zYd0).2.2.1)))), (ay 2, .inl (0, 12, .inl (nF ((yClr zYd0).2.2.2.1)))), (ay 3, .inl (0, 12, .inl (nF ((yClr zYd0).2.2.2.2.1)))), (ay 4, .inl (0, 12, .inl (nF ((yClr zYd0).2.2.2.2.2.1)))), (ay 5, .inl (0, 64, .inl (nF ((yClr zYd0).2.2.2.2.2.2.1)))), (ay 6, .inl (1, 64, .inl (nF ((yClr zYd0).2.2.2.2.2.2.2)))), (q_2, .inr (3, fPlan ap zpl0.1)), (ap 1, .inl (0, 20, .inl (nF zpl0.2.1))), (ap 2, .inl (0, 20, .inl (nF zpl0.2.2.1))), (ap 3, .inl (0, 20, .inl (nF zpl0.2.2.2.1))), (ap 4, .inl (0, 240, .inl (nF zpl0.2.2.2.2)))]) [0, 1, 2, 3, 4, 5, 6, 7, 8, 9, 10, 11, 12] rfl (by decide) ?_
  refine zs_put 0 dX8_init_23 zf_RX8_19 rfl (Nat.le_of_ble_eq_true rfl) (zPv_o rfl) ?_
  show zS _ _ _ _ _ _ [(t, .inr (7, [.ref q_1, .ref q_2, .null])), (q_1, .inr (9, fYard ay (ysN ((yClr zYd0).1) ((yClr zYd0).2.1)))), (ay 1, .inl (0, 12, .inl (nF ((yClr zYd0).2.2.1)))), (ay 2, .inl (0, 12, .inl (nF ((yClr zYd0).2.2.2.1)))), (ay 3, .inl (0, 12, .inl (nF ((yClr zYd0).2.2.2.2.1)))), (ay 4, .inl (0, 12, .inl (nF ((yClr zYd0).2.2.2.2.2.1)))), (ay 5, .inl (0, 64, .inl (nF ((yClr zYd0).2.2.2.2.2.2.1)))), (ay 6, .inl (1, 64, .inl (nF ((yClr zYd0).2.2.2.2.2.2.2)))), (q_2, .inr (3, fPlan ap zpl0.1)), (ap 1, .inl (0, 20, .inl (nF zpl0.2.1))), (ap 2, .inl (0, 20, .inl (nF zpl0.2.2.1))), (ap 3, .inl (0, 20, .inl (nF zpl0.2.2.2.1))), (ap 4, .inl (0, 240, .inl (nF zpl0.2.2.2.2)))]
  refine zs_aload_n dX8_init_26 rfl rfl ?_
  refine zs_new dX8_init_27 zn_RX8_23 (by first | omega | (simp only [List.length_cons, List.length_nil]; omega)) (by simp only [List.length_cons, List.length_nil]; omega) (fun q_3 => ?_)
  show zS _ _ _ _ _ _ [(t, .inr (7, [.ref q_1, .ref q_2, .null])), (q_1, .inr (9, fYard ay (ysN ((yClr zYd0).1) ((yClr zYd0).2.1)))), (ay 1, .inl (0, 12, .inl (nF ((yClr zYd0).2.2.1)))), (ay 2, .inl (0, 12, .inl (nF ((yClr zYd0).2.2.2.1)))), (ay 3, .inl (0, 12, .inl (nF ((yClr zYd0).2.2.2.2.1)))), (ay 4, .inl (0, 12, .inl (nF ((yClr zYd0).2.2.2.2.2.1)))), (ay 5, .inl (0, 64, .inl (nF ((yClr zYd0).2.2.2.2.2.2.1)))), (ay 6, .inl (1, 64, .inl (nF ((yClr zYd0).2.2.2.2.2.2.2)))), (q_2, .inr (3, fPlan ap zpl0.1)), (ap 1, .inl (0, 20, .inl (nF zpl0.2.1))), (ap 2, .inl (0, 20, .inl (nF zpl0.2.2.1))), (ap 3, .inl (0, 20, .inl (nF zpl0.2.2.2.1))), (ap 4, .inl (0, 240, .inl (nF zpl0.2.2.2.2))), (q_3, .inr (6, [.int 0, .int 0, .null, .null, .null, .null]))]
  refine zs_dup dX8_init_30 rfl ?_
  refine zs_callI (M := mX7_init) (As := []) (st := [.ref q_3, .ref t]) (Kc := [(q_3, .inr (6, [.int 0, .int 0, .null, .null, .null, .null]))]) (Kr := [(t, .inr (7, [.ref q_1, .ref q_2, .null])), (q_1, .inr (9, fYard ay (ysN ((yClr zYd0).1) ((yClr zYd0).2.1)))), (ay 1, .inl (0, 12, .inl (nF ((yClr zYd0).2.2.1)))), (ay 2, .inl (0, 12, .inl (nF ((yClr zYd0).2.2.2.1)))), (ay 3, .inl (0, 12, .inl (nF ((yClr zYd0).2.2.2.2.1)))), (ay 4, .inl (0, 12, .inl (nF ((yClr zYd0).2.2.2.2.2.1)))), (ay 5, .inl (0, 64, .inl (nF ((yClr zYd0).2.2.2.2.2.2.1)))), (ay 6, .inl (1, 64, .inl (nF ((yClr zYd0).2.2.2.2.2.2.2)))), (q_2, .inr (3, fPlan ap zpl0.1)), (ap 1, .inl (0, 20, .inl (nF zpl0.2.1))), (ap 2, .inl (0, 20, .inl (nF zpl0.2.2.1))), (ap 3, .inl (0, 20, .inl (nF zpl0.2.2.2.1))), (ap 4, .inl (0, 240, .inl (nF zpl0.2.2.2.2)))]) [13] [0, 1, 2, 3, 4, 5, 6, 7, 8, 9, 10, 11, 12] dX8_init_31 zl_RX8_25 kX7_init rfl rfl rfl rfl rfl rfl (by decide) (show dd - 1 + 1 ≤ dd by omega) (by first | omega | (simp only [List.length_cons, List.length_nil]; omega)) (by first | omega | (simp only [List.length_cons, List.length_nil]; omega)) (Nat.le_of_ble_eq_true rfl) (s_SenInit l (dd - 1) q_3 (by omega)) (fun r K1 hr => ?_)
  obtain ⟨rfl, as, rfl⟩ := hr
  refine zs_K (K' := [(t, .inr (7, [.ref q_1, .ref q_2, .null])), (q_1, .inr (9, fYard ay (ysN ((yClr zYd0).1) ((yClr zYd0).2.1)))), (ay 1, .inl (0, 12, .inl (nF ((yClr zYd0).2.2.1)))), (ay 2, .inl (0, 12, .inl (nF ((yClr zYd0).2.2.2.1)))), (ay 3, .inl (0, 12, .inl (nF ((yClr zYd0).2.2.2.2.1)))), (ay 4, .inl (0, 12, .inl (nF ((yClr zYd0).2.2.2.2.2.1)))), (ay 5, .inl (0, 64, .inl (nF ((yClr zYd0).2.2.2.2.2.2.1)))), (ay 6, .inl (1, 64, .inl (nF ((yClr zYd0).2.2.2.2.2.2.2)))), (q_2, .inr (3, fPlan ap zpl0.1)), (ap 1, .inl (0, 20, .inl (nF zpl0.2.1))), (ap 2, .inl (0, 20, .inl (nF zpl0.2.2.1))), (ap 3, .inl (0, 20, .inl (nF zpl0.2.2.2.1))), (ap 4, .inl (0, 240, .inl (nF zpl0.2.2.2.2))), (q_3, .inr (6, fSen as zse0.1 zse0.2.1)), (as 1, .inl (0, 40, .inl (nF zse0.2.2.1))), (as 2, .inl (0, 40, .inl (nF zse0.2.2.2.1))), (as 3, .inl (0, 40, .inl (nF zse0.2.2.2.2))), (as 4, .inl (1, 20, .inl (nF (fun _ => 0))))]) [0, 1, 2, 3, 4, 5, 6, 7, 8, 9, 10, 11, 12, 13, 14, 15, 16, 17] rfl (by decide) ?_
  refine zs_put 0 dX8_init_34 zf_RX8_26 rfl (Nat.le_of_ble_eq_true rfl) (zPv_o rfl) ?_
  show zS _ _ _ _ _ _ [(t, .inr (7, [.ref q_1, .ref q_2, .ref q_3])), (q_1, .inr (9, fYard ay (ysN ((yClr zYd0).1) ((yClr zYd0).2.1)))), (ay 1, .inl (0, 12, .inl (nF ((yClr zYd0).2.2.1)))), (ay 2, .inl (0, 12, .inl (nF ((yClr zYd0).2.2.2.1)))), (ay 3, .inl (0, 12, .inl (nF ((yClr zYd0).2.2.2.2.1)))), (ay 4, .inl (0, 12, .inl (nF ((yClr zYd0).2.2.2.2.2.1)))), (ay 5, .inl (0, 64, .inl (nF ((yClr zYd0).2.2.2.2.2.2.1)))), (ay 6, .inl (1, 64, .inl (nF ((yClr zYd0).2.2.2.2.2.2.2)))), (q_2, .inr (3, fPlan ap zpl0.1)), (ap 1, .inl (0, 20, .inl (nF zpl0.2.1))), (ap 2, .inl (0, 20, .inl (nF zpl0.2.2.1))), (ap 3, .inl (0, 20, .inl (nF zpl0.2.2.2.1))), (ap 4, .inl (0, 240, .inl (nF zpl0.2.2.2.2))), (q_3, .inr (6, fSen as zse0.1 zse0.2.1)), (as 1, .inl (0, 40, .inl (nF zse0.2.2.1))), (as 2, .inl (0, 40, .inl (nF zse0.2.2.2.1))), (as 3, .inl (0, 40, .inl (nF zse0.2.2.2.2))), (as 4, .inl (1, 20, .inl (nF (fun _ => 0))))]
  exact zs_vret dX8_init_37 rfl ⟨rfl, q_1, q_2, q_3, ay, ap, as, rfl⟩
theorem dX8_copy_0 : decode cX8_copy 0 = .ok (.aload_n 0, 1) := by decide +kernel
theorem dX8_copy_1 : decode cX8_copy 1 = .ok (.getfield 10, 3) := by decide +kernel
theorem dX8_copy_4 : decode cX8_copy 4 = .ok (.aload_n 1, 1) := by decide +kernel
theorem dX8_copy_5 : decode cX8_copy 5 = .ok (.getfield 10, 3) := by decide +kernel
theorem dX8_copy_8 : decode cX8_copy 8 = .ok (.invokevirtual 30, 3) := by decide +kernel
theorem dX8_copy_11 : decode cX8_copy 11 = .ok (.aload_n 0, 1) := by decide +kernel
theorem dX8_copy_12 : decode cX8_copy 12 = .ok (.getfield 19, 3) := by decide +kernel
theorem dX8_copy_15 : decode cX8_copy 15 = .ok (.aload_n 1, 1) := by decide +kernel
theorem dX8_copy_16 : decode cX8_copy 16 = .ok (.getfield 19, 3) := by decide +kernel
theorem dX8_copy_19 : decode cX8_copy 19 = .ok (.invokevirtual 34, 3) := by decide +kernel
theorem dX8_copy_22 : decode cX8_copy 22 = .ok (.aload_n 0, 1) := by decide +kernel
theorem dX8_copy_23 : decode cX8_copy 23 = .ok (.getfield 26, 3) := by decide +kernel
theorem dX8_copy_26 : decode cX8_copy 26 = .ok (.aload_n 1, 1) := by decide +kernel
theorem dX8_copy_27 : decode cX8_copy 27 = .ok (.getfield 26, 3) := by decide +kernel
theorem dX8_copy_30 : decode cX8_copy 30 = .ok (.invokevirtual 37, 3) := by decide +kernel
theorem dX8_copy_33 : decode cX8_copy 33 = .ok (.return_, 1) := by decide +kernel
set_option maxRecDepth 100000 in
theorem s_StaCopy (l : Launch) (dd : Nat) (q y p s q2 y2 p2 s2 : Nat) (ay ap as ay2 ap2 as2 : Nat → Nat) (D E : zYd) (P Q : zPl) (S T : zSe) (hd : 2 ≤ dd) (hE : yI E) : zSp l mX8_copy dd 0 0 [.ref q, .ref q2] ((q, .inr (7, fSta y p s)) :: (y, .inr (9, fYard ay (ysN D.1 D.2.1))) :: (ay 1, .inl (0, 12, .inl (nF D.2.2.1))) :: (ay 2, .inl (0, 12, .inl (nF D.2.2.2.1))) :: (ay 3, .inl (0, 12, .inl (nF D.2.2.2.2.1))) :: (ay 4, .inl (0, 12, .inl (nF D.2.2.2.2.2.1))) :: (ay 5, .inl (0, 64, .inl (nF D.2.2.2.2.2.2.1))) :: (ay 6, .inl (1, 64, .inl (nF D.2.2.2.2.2.2.2))) :: (p, .inr (3, fPlan ap P.1)) :: (ap 1, .inl (0, 20, .inl (nF P.2.1))) :: (ap 2, .inl (0, 20, .inl (nF P.2.2.1))) :: (ap 3, .inl (0, 20, .inl (nF P.2.2.2.1))) :: (ap 4, .inl (0, 240, .inl (nF P.2.2.2.2))) :: (s, .inr (6, fSen as S.1 S.2.1)) :: (as 1, .inl (0, 40, .inl (nF S.2.2.1))) :: (as 2, .inl (0, 40, .inl (nF S.2.2.2.1))) :: (as 3, .inl (0, 40, .inl (nF S.2.2.2.2))) :: (q2, .inr (7, fSta y2 p2 s2)) :: (y2, .inr (9, fYard ay2 (ysN E.1 E.2.1))) :: (ay2 1, .inl (0, 12, .inl (nF E.2.2.1))) :: (ay2 2, .inl (0, 12, .inl (nF E.2.2.2.1))) :: (ay2 3, .inl (0, 12, .inl (nF E.2.2.2.2.1))) :: (ay2 4, .inl (0, 12, .inl (nF E.2.2.2.2.2.1))) :: (ay2 5, .inl (0, 64, .inl (nF E.2.2.2.2.2.2.1))) :: (ay2 6, .inl (1, 64, .inl (nF E.2.2.2.2.2.2.2))) :: (p2, .inr (3, fPlan ap2 Q.1)) :: (ap2 1, .inl (0, 20, .inl (nF Q.2.1))) :: (ap2 2, .inl (0, 20, .inl (nF Q.2.2.1))) :: (ap2 3, .inl (0, 20, .inl (nF Q.2.2.2.1))) :: (ap2 4, .inl (0, 240, .inl (nF Q.2.2.2.2))) :: (s2, .inr (6, fSen as2 T.1 T.2.1)) :: (as2 1, .inl (0, 40, .inl (nF T.2.2.1))) :: (as2 2, .inl (0, 40, .inl (nF T.2.2.2.1))) :: (as2 3, .inl (0, 40, .inl (nF T.2.2.2.2))) :: []) (fun r K' => r = none ∧ K' = [(q, .inr (7, fSta y p s))] ++ (kYd y ay (yCp D E) ++ (kPl p ap (pCp P Q) ++ (kSn s as (sCp S T) ++ ([(q2, .inr (7, fSta y2 p2 s2))] ++ (kYd y2 ay2 E ++ (kPl p2 ap2 Q ++ kSn s2 as2 T))))))) := by
  refine zSp.of (by decide) (Nat.le_of_ble_eq_true rfl) (fun h0 => ?_)
  show zS _ 0 0 0 [(0, .ref q), (1, .ref q2)] [] ((q, .inr (7, fSta y p s)) :: (y, .inr (9, fYard ay (ysN D.1 D.2.1))) :: (ay 1, .inl (0, 12, .inl (nF D.2.2.1))) :: (ay 2, .inl (0, 12, .inl (nF D.2.2.2.1))) :: (ay 3, .inl (0, 12, .inl (nF D.2.2.2.2.1))) :: (ay 4, .inl (0, 12, .inl (nF D.2.2.2.2.2.1))) :: (ay 5, .inl (0, 64, .inl (nF D.2.2.2.2.2.2.1))) :: (ay 6, .inl (1, 64, .inl (nF D.2.2.2.2.2.2.2))) :: (p, .inr (3, fPlan ap P.1)) :: (ap 1, .inl (0, 20, .inl (nF P.2.1))) :: (ap 2, .inl (0, 20, .inl (nF P.2.2.1))) :: (ap 3, .inl (0, 20, .inl (nF P.2.2.2.1))) :: (ap 4, .inl (0, 240, .inl (nF P.2.2.2.2))) :: (s, .inr (6, fSen as S.1 S.2.1)) :: (as 1, .inl (0, 40, .inl (nF S.2.2.1))) :: (as 2, .inl (0, 40, .inl (nF S.2.2.2.1))) :: (as 3, .inl (0, 40, .inl (nF S.2.2.2.2))) :: (q2, .inr (7, fSta y2 p2 s2)) :: (y2, .inr (9, fYard ay2 (ysN E.1 E.2.1))) :: (ay2 1, .inl (0, 12, .inl (nF E.2.2.1))) :: (ay2 2, .inl (0, 12, .inl (nF E.2.2.2.1))) :: (ay2 3, .inl (0, 12, .inl (nF E.2.2.2.2.1))) :: (ay2 4, .inl (0, 12, .inl (nF E.2.2.2.2.2.1))) :: (ay2 5, .inl (0, 64, .inl (nF E.2.2.2.2.2.2.1))) :: (ay2 6, .inl (1, 64, .inl (nF E.2.2.2.2.2.2.2))) :: (p2, .inr (3, fPlan ap2 Q.1)) :: (ap2 1, .inl (0, 20, .inl (nF Q.2.1))) :: (ap2 2, .inl (0, 20, .inl (nF Q.2.2.1))) :: (ap2 3, .inl (0, 20, .inl (nF Q.2.2.2.1))) :: (ap2 4, .inl (0, 240, .inl (nF Q.2.2.2.2))) :: (s2, .inr (6, fSen as2 T.1 T.2.1)) :: (as2 1, .inl (0, 40, .inl (nF T.2.2.1))) :: (as2 2, .inl (0, 40, .inl (nF T.2.2.2.1))) :: (as2 3, .inl (0, 40, .inl (nF T.2.2.2.2))) :: [])
  refine zs_aload_n dX8_copy_0 rfl rfl ?_
  refine zs_get 0 dX8_copy_1 zf_RX8_10 rfl (v := .ref y) rfl ?_
  refine zs_aload_n dX8_copy_4 rfl rfl ?_
  refine zs_get 17 dX8_copy_5 zf_RX8_10 rfl (v := .ref y2) rfl ?_
  refine zs_callV (M := mX11_copy) (As := [.ref y2]) (st := []) (Kc := [(y, .inr (9, fYard ay (ysN D.1 D.2.1))), (ay 1, .inl (0, 12, .inl (nF D.2.2.1))), (ay 2, .inl (0, 12, .inl (nF D.2.2.2.1))), (ay 3, .inl (0, 12, .inl (nF D.2.2.2.2.1))), (ay 4, .inl (0, 12, .inl (nF D.2.2.2.2.2.1))), (ay 5, .inl (0, 64, .inl (nF D.2.2.2.2.2.2.1))), (ay 6, .inl (1, 64, .inl (nF D.2.2.2.2.2.2.2))), (y2, .inr (9, fYard ay2 (ysN E.1 E.2.1))), (ay2 1, .inl (0, 12, .inl (nF E.2.2.1))), (ay2 2, .inl (0, 12, .inl (nF E.2.2.2.1))), (ay2 3, .inl (0, 12, .inl (nF E.2.2.2.2.1))), (ay2 4, .inl (0, 12, .inl (nF E.2.2.2.2.2.1))), (ay2 5, .inl (0, 64, .inl (nF E.2.2.2.2.2.2.1))), (ay2 6, .inl (1, 64, .inl (nF E.2.2.2.2.2.2.2)))]) (Kr := [(q, .inr (7, fSta y p s)), (p, .inr (3, fPlan ap P.1)), (ap 1, .inl (0, 20, .inl (nF P.2.1))), (ap 2, .inl (0, 20, .inl (nF P.2.2.1))), (ap 3, .inl (0, 20, .inl (nF P.2.2.2.1))), (ap 4, .inl (0, 240, .inl (nF P.2.2.2.2))), (s, .inr (6, fSen as S.1 S.2.1)), (as 1, .inl (0, 40, .inl (nF S.2.2.1))), (as 2, .inl (0, 40, .inl (nF S.2.2.2.1))), (as 3, .inl (0, 40, .inl (nF S.2.2.2.2))), (q2, .inr (7, fSta y2 p2 s2)), (p2, .inr (3, fPlan ap2 Q.1)), (ap2 1, .inl (0, 20, .inl (nF Q.2.1))), (ap2 2, .inl (0, 20, .inl (nF Q.2.2.1))), (ap2 3, .inl (0, 20, .inl (nF Q.2.2.2.1))), (ap2 4, .inl (0, 240, .inl (nF Q.2.2.2.2))), (s2, .inr (6, fSen as2 T.1 T.2.1)), (as2 1, .inl (0, 40, .inl (nF T.2.2.1))), (as2 2, .inl (0, 40, .inl (nF T.2.2.2.1))), (as2 3, .inl (0, 40, .inl (nF T.2.2.2.2)))]) [1, 2, 3, 4, 5, 6, 7, 18, 19, 20, 21, 22, 23, 24] [0, 8, 9, 10, 11, 12, 13, 14, 15, 16, 17, 25, 26, 27, 28, 29, 30, 31, 32, 33] 0 dX8_copy_8 zl_RX8_30 kX11_copy rfl rfl rfl rfl rfl (by decide) rfl rfl (show dd - 1 + 1 ≤ dd by omega) (Nat.zero_le _) (Nat.zero_le _) (Nat.le_of_ble_eq_true rfl) (s_yCopy l (dd - 1) y y2 ay ay2 D E (by omega) hE.2.2.2.2.2.1) (fun r K1 hr => ?_)
  obtain ⟨rfl, rfl⟩ := hr
  refine zs_K (K' := ((q, .inr (7, fSta y p s)) :: (y, .inr (9, fYard ay (ysN ((yCp D E).1) ((yCp D E).2.1)))) :: (ay 1, .inl (0, 12, .inl (nF ((yCp D E).2.2.1)))) :: (ay 2, .inl (0, 12, .inl (nF ((yCp D E).2.2.2.1)))) :: (ay 3, .inl (0, 12, .inl (nF ((yCp D E).2.2.2.2.1)))) :: (ay 4, .inl (0, 12, .inl (nF ((yCp D E).2.2.2.2.2.1)))) :: (ay 5, .inl (0, 64, .inl (nF ((yCp D E).2.2.2.2.2.2.1)))) :: (ay 6, .inl (1, 64, .inl (nF ((yCp D E).2.2.2.2.2.2.2)))) :: (p, .inr (3, fPlan ap P.1)) :: (ap 1, .inl (0, 20, .inl (nF P.2.1))) :: (ap 2, .inl (0, 20, .inl (nF P.2.2.1))) :: (ap 3, .inl (0, 20, .inl (nF P.2.2.2.1))) :: (ap 4, .inl (0, 240, .inl (nF P.2.2.2.2))) :: (s, .inr (6, fSen as S.1 S.2.1)) :: (as 1, .inl (0, 40, .inl (nF S.2.2.1))) :: (as 2, .inl (0, 40, .inl (nF S.2.2.2.1))) :: (as 3, .inl (0, 40, .inl (nF S.2.2.2.2))) :: (q2, .inr (7, fSta y2 p2 s2)) :: (y2, .inr (9, fYard ay2 (ysN E.1 E.2.1))) :: (ay2 1, .inl (0, 12, .inl (nF E.2.2.1))) :: (ay2 2, .inl (0, 12, .inl (nF E.2.2.2.1))) :: (ay2 3, .inl (0, 12, .inl (nF E.2.2.2.2.1))) :: (ay2 4, .inl (0, 12, .inl (nF E.2.2.2.2.2.1))) :: (ay2 5, .inl (0, 64, .inl (nF E.2.2.2.2.2.2.1))) :: (ay2 6, .inl (1, 64, .inl (nF E.2.2.2.2.2.2.2))) :: (p2, .inr (3, fPlan ap2 Q.1)) :: (ap2 1, .inl (0, 20, .inl (nF Q.2.1))) :: (ap2 2, .inl (0, 20, .inl (nF Q.2.2.1))) :: (ap2 3, .inl (0, 20, .inl (nF Q.2.2.2.1))) :: (ap2 4, .inl (0, 240, .inl (nF Q.2.2.2.2))) :: (s2, .inr (6, fSen as2 T.1 T.2.1)) :: (as2 1, .inl (0, 40, .inl (nF T.2.2.1))) :: (as2 2, .inl (0, 40, .inl (nF T.2.2.2.1))) :: (as2 3, .inl (0, 40, .inl (nF T.2.2.2.2))) :: [])) (0 :: 20 :: 21 :: 22 :: 23 :: 24 :: 25 :: 26 :: 1 :: 2 :: 3 :: 4 :: 5 :: 6 :: 7 :: 8 :: 9 :: 10 :: 27 :: 28 :: 29 :: 30 :: 31 :: 32 :: 33 :: 11 :: 12 :: 13 :: 14 :: 15 :: 16 :: 17 :: 18 :: 19 :: []) rfl (by decide) ?_
  refine zs_aload_n dX8_copy_11 rfl rfl ?_
  refine zs_get 0 dX8_copy_12 zf_RX8_19 rfl (v := .ref p) rfl ?_
  refine zs_aload_n dX8_copy_15 rfl rfl ?_
  refine zs_get 17 dX8_copy_16 zf_RX8_19 rfl (v := .ref p2) rfl ?_
  refine zs_callV (M := mX4_copy) (As := [.ref p2]) (st := []) (Kc := [(p, .inr (3, fPlan ap P.1)), (ap 1, .inl (0, 20, .inl (nF P.2.1))), (ap 2, .inl (0, 20, .inl (nF P.2.2.1))), (ap 3, .inl (0, 20, .inl (nF P.2.2.2.1))), (ap 4, .inl (0, 240, .inl (nF P.2.2.2.2))), (p2, .inr (3, fPlan ap2 Q.1)), (ap2 1, .inl (0, 20, .inl (nF Q.2.1))), (ap2 2, .inl (0, 20, .inl (nF Q.2.2.1))), (ap2 3, .inl (0, 20, .inl (nF Q.2.2.2.1))), (ap2 4, .inl (0, 240, .inl (nF Q.2.2.2.2)))]) (Kr := [(q, .inr (7, fSta y p s)), (y, .inr (9, fYard ay (ysN ((yCp D E).1) ((yCp D E).2.1)))), (ay 1, .inl (0, 12, .inl (nF ((yCp D E).2.2.1)))), (ay 2, .inl (0, 12, .inl (nF ((yCp D E).2.2.2.1)))), (ay 3, .inl (0, 12, .inl (nF ((yCp D E).2.2.2.2.1)))), (ay 4, .inl (0, 12, .inl (nF ((yCp D E).2.2.2.2.2.1)))), (ay 5, .inl (0, 64, .inl (nF ((yCp D E).2.2.2.2.2.2.1)))), (ay 6, .inl (1, 64, .inl (nF ((yCp D E).2.2.2.2.2.2.2)))), (s, .inr (6, fSen as S.1 S.2.1)), (as 1, .inl (0, 40, .inl (nF S.2.2.1))), (as 2, .inl (0, 40, .inl (nF S.2.2.2.1))), (as 3, .inl (0, 40, .inl (nF S.2.2.2.2))), (q2, .inr (7, fSta y2 p2 s2)), (y2, .inr (9, fYard ay2 (ysN E.1 E.2.1))), (ay2 1, .inl (0, 12, .inl (nF E.2.2.1))), (ay2 2, .inl (0, 12, .inl (nF E.2.2.2.1))), (ay2 3, .inl (0, 12, .inl (nF E.2.2.2.2.1))), (ay2 4, .inl (0, 12, .inl (nF E.2.2.2.2.2.1))), (ay2 5, .inl (0, 64, .inl (nF E.2.2.2.2.2.2.1))), (ay2 6, .inl (1, 64, .inl (nF E.2.2.2.2.2.2.2))), (s2, .inr (6, fSen as2 T.1 T.2.1)), (as2 1, .inl (0, 40, .inl (nF T.2.2.1))), (as2 2, .inl (0, 40, .inl (nF T.2.2.2.1))), (as2 3, .inl (0, 40, .inl (nF T.2.2.2.2)))]) [8, 9, 10, 11, 12, 25, 26, 27, 28, 29] [0, 1, 2, 3, 4, 5, 6, 7, 13, 14, 15, 16, 17, 18, 19, 20, 21, 22, 23, 24, 30, 31, 32, 33] 0 dX8_copy_19 zl_RX8_34 kX4_copy rfl rfl rfl rfl rfl (by decide) rfl rfl (show dd - 1 + 1 ≤ dd by omega) (Nat.zero_le _) (Nat.zero_le _) (Nat.le_of_ble_eq_true rfl) (s_pCopy l (dd - 1) p p2 ap ap2 P Q (by omega)) (fun r K1 hr => ?_)
  obtain ⟨rfl, rfl⟩ := hr
  refine zs_K (K' := ((q, .inr (7, fSta y p s)) :: (y, .inr (9, fYard ay (ysN ((yCp D E).1) ((yCp D E).2.1)))) :: (ay 1, .inl (0, 12, .inl (nF ((yCp D E).2.2.1)))) :: (ay 2, .inl (0, 12, .inl (nF ((yCp D E).2.2.2.1)))) :: (ay 3, .inl (0, 12, .inl (nF ((yCp D E).2.2.2.2.1)))) :: (ay 4, .inl (0, 12, .inl (nF ((yCp D E).2.2.2.2.2.1)))) :: (ay 5, .inl (0, 64, .inl (nF ((yCp D E).2.2.2.2.2.2.1)))) :: (ay 6, .inl (1, 64, .inl (nF ((yCp D E).2.2.2.2.2.2.2)))) :: (p, .inr (3, fPlan ap ((pCp P Q).1))) :: (ap 1, .inl (0, 20, .inl (nF ((pCp P Q).2.1)))) :: (ap 2, .inl (0, 20, .inl (nF ((pCp P Q).2.2.1)))) :: (ap 3, .inl (0, 20, .inl (nF ((pCp P Q).2.2.2.1)))) :: (ap 4, .inl (0, 240, .inl (nF ((pCp P Q).2.2.2.2)))) :: (s, .inr (6, fSen as S.1 S.2.1)) :: (as 1, .inl (0, 40, .inl (nF S.2.2.1))) :: (as 2, .inl (0, 40, .inl (nF S.2.2.2.1))) :: (as 3, .inl (0, 40, .inl (nF S.2.2.2.2))) :: (q2, .inr (7, fSta y2 p2 s2)) :: (y2, .inr (9, fYard ay2 (ysN E.1 E.2.1))) :: (ay2 1, .inl (0, 12, .inl (nF E.2.2.1))) :: (ay2 2, .inl (0, 12, .inl (nF E.2.2.2.1))) :: (ay2 3, .inl (0, 12, .inl (nF E.2.2.2.2.1))) :: (ay2 4, .inl (0, 12, .inl (nF E.2.2.2.2.2.1))) :: (ay2 5, .inl (0, 64, .inl (nF E.2.2.2.2.2.2.1))) :: (ay2 6, .inl (1, 64, .inl (nF E.2.2.2.2.2.2.2))) :: (p2, .inr (3, fPlan ap2 Q.1)) :: (ap2 1, .inl (0, 20, .inl (nF Q.2.1))) :: (ap2 2, .inl (0, 20, .inl (nF Q.2.2.1))) :: (ap2 3, .inl (0, 20, .inl (nF Q.2.2.2.1))) :: (ap2 4, .inl (0, 240, .inl (nF Q.2.2.2.2))) :: (s2, .inr (6, fSen as2 T.1 T.2.1)) :: (as2 1, .inl (0, 40, .inl (nF T.2.2.1))) :: (as2 2, .inl (0, 40, .inl (nF T.2.2.2.1))) :: (as2 3, .inl (0, 40, .inl (nF T.2.2.2.2))) :: [])) (0 :: 1 :: 2 :: 3 :: 4 :: 5 :: 6 :: 7 :: 24 :: 25 :: 26 :: 27 :: 28 :: 8 :: 9 :: 10 :: 11 :: 12 :: 13 :: 14 :: 15 :: 16 :: 17 :: 18 :: 19 :: 29 :: 30 :: 31 :: 32 :: 33 :: 20 :: 21 :: 22 :: 23 :: []) rfl (by decide) ?_
  refine zs_aload_n dX8_copy_22 rfl rfl ?_
  refine zs_get 0 dX8_copy_23 zf_RX8_26 rfl (v := .ref s) rfl ?_
  refine zs_aload_n dX8_copy_26 rfl rfl ?_
  refine zs_get 17 dX8_copy_27 zf_RX8_26 rfl (v := .ref s2) rfl ?_
  refine zs_callV (M := mX7_copy) (As := [.ref s2]) (st := []) (Kc := [(s, .inr (6, fSen as S.1 S.2.1)), (as 1, .inl (0, 40, .inl (nF S.2.2.1))), (as 2, .inl (0, 40, .inl (nF S.2.2.2.1))), (as 3, .inl (0, 40, .inl (nF S.2.2.2.2))), (s2, .inr (6, fSen as2 T.1 T.2.1)), (as2 1, .inl (0, 40, .inl (nF T.2.2.1))), (as2 2, .inl (0, 40, .inl (nF T.2.2.2.1))), (as2 3, .inl (0, 40, .inl (nF T.2.2.2.2)))]) (Kr := [(q, .inr (7, fSta y p s)), (y, .inr (9, fYard ay (ysN ((yCp D E).1) ((yCp D E).2.1)))), (ay 1, .inl (0, 12, .inl (nF ((yCp D E).2.2.1)))), (ay 2, .inl (0, 12, .inl (nF ((yCp D E).2.2.2.1)))), (ay 3, .inl (0, 12, .inl (nF ((yCp D E).2.2.2.2.1)))), (ay 4, .inl (0, 12, .inl (nF ((yCp D E).2.2.2.2.2.1)))), (ay 5, .inl (0, 64, .inl (nF ((yCp D E).2.2.2.2.2.2.1)))), (ay 6, .inl (1, 64, .inl (nF ((yCp D E).2.2.2.2.2.2.2)))), (p, .inr (3, fPlan ap ((pCp P Q).1))), (ap 1, .inl (0, 20, .inl (nF ((pCp P Q).2.1)))), (ap 2, .inl (0, 20, .inl (nF ((pCp P Q).2.2.1)))), (ap 3, .inl (0, 20, .inl (nF ((pCp P Q).2.2.2.1)))), (ap 4, .inl (0, 240, .inl (nF ((pCp P Q).2.2.2.2)))), (q2, .inr (7, fSta y2 p2 s2)), (y2, .inr (9, fYard ay2 (ysN E.1 E.2.1))), (ay2 1, .inl (0, 12, .inl (nF E.2.2.1))), (ay2 2, .inl (0, 12, .inl (nF E.2.2.2.1))), (ay2 3, .inl (0, 12, .inl (nF E.2.2.2.2.1))), (ay2 4, .inl (0, 12, .inl (nF E.2.2.2.2.2.1))), (ay2 5, .inl (0, 64, .inl (nF E.2.2.2.2.2.2.1))), (ay2 6, .inl (1, 64, .inl (nF E.2.2.2.2.2.2.2))), (p2, .inr (3, fPlan ap2 Q.1)), (ap2 1, .inl (0, 20, .inl (nF Q.2.1))), (ap2 2, .inl (0, 20, .inl (nF Q.2.2.1))), (ap2 3, .inl (0, 20, .inl (nF Q.2.2.2.1))), (ap2 4, .inl (0, 240, .inl (nF Q.2.2.2.2)))]) [13, 14, 15, 16, 30, 31, 32, 33] [0, 1, 2, 3, 4, 5, 6, 7, 8, 9, 10, 11, 12, 17, 18, 19, 20, 21, 22, 23, 24, 25, 26, 27, 28, 29] 0 dX8_copy_30 zl_RX8_37 kX7_copy rfl rfl rfl rfl rfl (by decide) rfl rfl (show dd - 1 + 1 ≤ dd by omega) (Nat.zero_le _) (Nat.zero_le _) (Nat.le_of_ble_eq_true rfl) (s_sCopy l (dd - 1) s s2 as as2 S T (by omega)) (fun r K1 hr => ?_)
  obtain ⟨rfl, rfl⟩ := hr
  refine zs_K (K' := ((q, .inr (7, fSta y p s)) :: (y, .inr (9, fYard ay (ysN ((yCp D E).1) ((yCp D E).2.1)))) :: (ay 1, .inl (0, 12, .inl (nF ((yCp D E).2.2.1)))) :: (ay 2, .inl (0, 12, .inl (nF ((yCp D E).2.2.2.1)))) :: (ay 3, .inl (0, 12, .inl (nF ((yCp D E).2.2.2.2.1)))) :: (ay 4, .inl (0, 12, .inl (nF ((yCp D E).2.2.2.2.2.1)))) :: (ay 5, .inl (0, 64, .inl (nF ((yCp D E).2.2.2.2.2.2.1)))) :: (ay 6, .inl (1, 64, .inl (nF ((yCp D E).2.2.2.2.2.2.2)))) :: (p, .inr (3, fPlan ap ((pCp P Q).1))) :: (ap 1, .inl (0, 20, .inl (nF ((pCp P Q).2.1)))) :: (ap 2, .inl (0, 20, .inl (nF ((pCp P Q).2.2.1)))) :: (ap 3, .inl (0, 20, .inl (nF ((pCp P Q).2.2.2.1)))) :: (ap 4, .inl (0, 240, .inl (nF ((pCp P Q).2.2.2.2)))) :: (s, .inr (6, fSen as ((sCp S T).1) ((sCp S T).2.1))) :: (as 1, .inl (0, 40, .inl (nF ((sCp S T).2.2.1)))) :: (as 2, .inl (0, 40, .inl (nF ((sCp S T).2.2.2.1)))) :: (as 3, .inl (0, 40, .inl (nF ((sCp S T).2.2.2.2)))) :: (q2, .inr (7, fSta y2 p2 s2)) :: (y2, .inr (9, fYard ay2 (ysN E.1 E.2.1))) :: (ay2 1, .inl (0, 12, .inl (nF E.2.2.1))) :: (ay2 2, .inl (0, 12, .inl (nF E.2.2.2.1))) :: (ay2 3, .inl (0, 12, .inl (nF E.2.2.2.2.1))) :: (ay2 4, .inl (0, 12, .inl (nF E.2.2.2.2.2.1))) :: (ay2 5, .inl (0, 64, .inl (nF E.2.2.2.2.2.2.1))) :: (ay2 6, .inl (1, 64, .inl (nF E.2.2.2.2.2.2.2))) :: (p2, .inr (3, fPlan ap2 Q.1)) :: (ap2 1, .inl (0, 20, .inl (nF Q.2.1))) :: (ap2 2, .inl (0, 20, .inl (nF Q.2.2.1))) :: (ap2 3, .inl (0, 20, .inl (nF Q.2.2.2.1))) :: (ap2 4, .inl (0, 240, .inl (nF Q.2.2.2.2))) :: (s2, .inr (6, fSen as2 T.1 T.2.1)) :: (as2 1, .inl (0, 40, .inl (nF T.2.2.1))) :: (as2 2, .inl (0, 40, .inl (nF T.2.2.2.1))) :: (as2 3, .inl (0, 40, .inl (nF T.2.2.2.2))) :: [])) (0 :: 1 :: 2 :: 3 :: 4 :: 5 :: 6 :: 7 :: 8 :: 9 :: 10 :: 11 :: 12 :: 26 :: 27 :: 28 :: 29 :: 13 :: 14 :: 15 :: 16 :: 17 :: 18 :: 19 :: 20 :: 21 :: 22 :: 23 :: 24 :: 25 :: 30 :: 31 :: 32 :: 33 :: []) rfl (by decide) ?_
  exact zs_vret dX8_copy_33 rfl ⟨rfl, rfl⟩
