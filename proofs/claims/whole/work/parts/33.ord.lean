/-! ===== ordinal() of a word ===== -/
section ZORD
variable {E : zEv} {kc ks pc : Nat} {lv : List (Nat × Value)} {st : List Value} {h : List va_E}
theorem zr_ordGet {idx : Nat} {u : UInt32} (d : decode E.2.1.2.1 pc = .ok (.getfield idx, 3)) (hu : u.toNat < 29) (w : Cond.fieldLink E.2.1.1.cls idx "java/lang/Enum" "ordinal" "I" ∈ zTs) (K : zR E kc ks (pc + 3) lv (.int (zOrd.getD u.toNat 0) :: st) h) : zR E kc ks pc lv (.float u :: st) h := by
  intro G p e s m args below meth c A ad0 n0 mc ms Z F H locs cells slots ad ls D
  exact va_getE (q := ("java/lang/Enum", "ordinal", "I", zOrd)) F.ex F.cd F.kn.2.1.1 hu D.2.2.2.1 F.own (List.mem_cons_of_mem _ List.mem_cons_self) (F.ws _ w) (fun _ q => q) d (K G p e s m args below meth c A ad0 n0 mc ms Z F H locs cells slots ad ls (D.stk (zok_c D.d1 trivial)))
abbrev mOrd : zM := (yJx29ce0_ordinal_8abf5, cJx29ce0_ordinal_8abf5, 1, some .int)
theorem kOrd : zCd mOrd := ⟨(zIt3 145 rfl rfl), by decide⟩
theorem zOrd_n : ∀ i, i < 29 → zOrd.getD i 0 = nI i := by decide
theorem dOrd_0 : decode cJx29ce0_ordinal_8abf5 0 = .ok (.aload_n 0, 1) := by decide +kernel
theorem dOrd_1 : decode cJx29ce0_ordinal_8abf5 1 = .ok (.getfield 7, 3) := by decide +kernel
theorem dOrd_4 : decode cJx29ce0_ordinal_8abf5 4 = .ok (.ireturn, 1) := by decide +kernel
theorem zOrdWords : GoodIn zTs (va_wsU "PailRow$Yard" 109 "PailRow$Word" "java/lang/Enum" ⟨"PailRow$Word", "ordinal", "()I"⟩ yJx29ce0_ordinal_8abf5 (Cond.code mOrd.1 mOrd.2.1 mOrd.2.2.1 mOrd.2.2.2 :: zTs)) := by
  refine zGoodIn (fun w hw => ?_)
  unfold va_wsU at hw
  rcases List.mem_append.mp hw with hw | hw
  · simp only [List.mem_cons, List.not_mem_nil, or_false] at hw
    rcases hw with rfl | rfl | rfl | rfl | rfl
    · exact zIt3 140 rfl rfl
    · exact zIt3 141 rfl rfl
    · exact zIt3 143 rfl rfl
    · exact zIt3 144 rfl rfl
    · exact zIt1 14 rfl rfl
  · exact kOrd.ws w hw
theorem s_ordC (l : Launch) (dd : Nat) (u : UInt32) (hu : u.toNat < 29) (h : List va_E) : zCall l mOrd dd 0 0 [.float u] h (fun r h' => r = some (.int (nI u.toNat)) ∧ h' = h) := by
  refine zCall.of (by decide) (Nat.le_of_ble_eq_true rfl) ?_
  refine zr_aload_n dOrd_0 rfl rfl ?_
  refine zr_ordGet dOrd_1 hu (zIt9 66 rfl rfl) ?_
  rw [zOrd_n _ hu]
  exact zr_iret dOrd_4 rfl ⟨rfl, rfl⟩
theorem zr_callO {u : UInt32} (hu : u.toNat < 29) (hown : E.2.1.1.cls = "PailRow$Yard") (d : decode E.2.1.2.1 pc = .ok (.invokevirtual 109, 3)) (hdd : 1 ≤ E.2.2.1) (hst : (st.map fun v => v.category).sum ≤ 8)
    (K : zR E kc ks (pc + 3) lv (.int (nI u.toNat) :: st) h) : zR E kc ks pc lv (.float u :: st) h := by
  intro G p e s m args below meth c A ad0 n0 mc ms Z F H locs cells slots ad ls D
  refine zr_back (a := (zV G.2.2.1 ad (.float u) :: [].map (zV G.2.2.1 ad)).toArray) (st := st) (kc' := 0) (ks' := 0) (Qm' := fun r h' => r = some (.int (nI u.toNat)) ∧ h' = h) F D (fun v hv => List.mem_cons_of_mem _ hv) (Nat.zero_le _) (Nat.zero_le _) ?_ (fun r h' hq _ => by
    obtain ⟨rfl, rfl⟩ := hq
    exact K)
  have hC := s_ordC E.1 (E.2.2.1 - 1) u hu h G ad H.size D.2.2.1 (fun v hv => by
    rcases List.mem_cons.mp hv with rfl | hv
    · exact D.sto _ List.mem_cons_self
    · cases hv)
  have hx := va_recvE F.kn.2.1.1 hu D.2.2.2.1
  have hpre : PreV s H "PailRow$Word" (G.2.2.1 u.toNat) (va_Pc (List.map (zV G.2.2.1 ad) [.float u]) (zPre G ad h H.size)) [] := ⟨zPre.blind, hx, fun U hU hW => ⟨rfl, by rw [hU], by rw [hU]; exact D.1, F.kn.warm D.2.2.2.1 (D.A1 F) hU hW, D.2.1.weaken (fun _ _ _ _ => trivial)⟩⟩
  have hcu : va_CU (zRm E.2.2.1 mc ms) s args E.2.1.1.cls "PailRow$Word" "java/lang/Enum" 109 ⟨"PailRow$Word", "ordinal", "()I"⟩ yJx29ce0_ordinal_8abf5 mOrd.2.1 mOrd.2.2.1 mOrd.2.2.2 (Cond.code mOrd.1 mOrd.2.1 mOrd.2.2.1 mOrd.2.2.2 :: zTs) (zRm (E.2.2.1 - 1) 0 0) 0 0 0 := by
    rw [hown]
    exact va_cwA 0 F.ws zOrdWords rfl rfl rfl F.kn.2.2.2.2.1.1 (by decide) ⟨by show E.2.2.1 - 1 + 1 ≤ E.2.2.1; omega, by show 8 + (1 + 11) + (60 * (E.2.2.1 - 1) + 60) ≤ 60 * E.2.2.1 + 60; omega⟩
  exact va_runU (C := "PailRow$Word") (As := []) (b := G.2.2.1 u.toNat) (Ts := zTs) ⟨F.ex, F.cd, F.ml, F.own, F.ws⟩ hC hcu hpre rfl rfl D.lvh.1 rfl (lv_room (zcat8 hst)) d ⟨by have := D.2.2.2.2.2.2.2.2.2.1; show cells + 0 ≤ mc; omega, by have := D.2.2.2.2.2.2.2.2.2.2; show slots + 0 ≤ ms; omega⟩
end ZORD
theorem zs_ordinal {B : zB} {kc ks pc : Nat} {lv : List (Nat × Value)} {st : List Value} {K : zK} {u : UInt32} (hu : u.toNat < 29) (hown : B.2.1.1.cls = "PailRow$Yard") (d : decode B.2.1.2.1 pc = .ok (.invokevirtual 109, 3)) (hdd : 1 ≤ B.2.2.1) (hst : (st.map fun v => v.category).sum ≤ 8) (k : zS B kc ks (pc + 3) lv (.int (nI u.toNat) :: st) K) : zS B kc ks pc lv (.float u :: st) K := fun h H D F L => zr_callO hu hown d hdd hst (k h H D F L)
