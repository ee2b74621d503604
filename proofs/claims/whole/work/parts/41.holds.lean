/-! ===== whether a sentence holds ===== -/
/-- what each step does, its sign and its number are small -/
def sV (S : zSe) : Prop := ∀ j, S.2.2.1 j ≤ 8 ∧ S.2.2.2.1 j < 256 ∧ S.2.2.2.2 j ≤ 99999999
theorem sV_ad {S : zSe} (h : sV S) {j c v : Nat} (hj : j ≤ 8) (hc : c < 256) (hv : v ≤ 99999999) : sV (sAd S j c v) := fun k => ⟨un_le (h k).1 hj, un_lt (h k).2.1 hc, un_le (h k).2.2 hv⟩
def sW (f : zTk → Nat → zSe → zPs) : Prop := ∀ τ tk S, tOK τ → sV S → tOK (f τ tk S).2.1 ∧ sV (f τ tk S).2.2.2
section
variable {b : Nat → Nat} {n L : Nat}
theorem sJn_W (hb : ∀ j, b j < 256) (hn : n ≤ 740) {w j : Nat} (hj : j ≤ 8) {f : zTk → Nat → zSe → zPs} (hf : sW f) : ∀ (q : Nat) (τ : zTk) (tk : Nat) (S : zSe), tOK τ → sV S → tOK (sJn b n L w j f q τ tk S).2.1 ∧ sV (sJn b n L w j f q τ tk S).2.2.2
  | 0, τ, tk, S, hτ, hS => ⟨hτ, hS⟩
  | q + 1, τ, tk, S, hτ, hS => by
    rw [sJn]
    split
    · exact ⟨hτ, hS⟩
    · have hr := hf (nxt b n L τ) tk S (nxt_OK hb hn) hS
      split
      · exact sJn_W hb hn hj hf q _ _ _ hr.1 (sV_ad hr.2 hj (by omega) (by omega))
      · exact hr
theorem sJo_W (hb : ∀ j, b j < 256) (hn : n ≤ 740) {w j : Nat} (hj : j ≤ 8) {f : zTk → Nat → zSe → zPs} (hf : sW f) : sW (sJo b n L w j f) := fun τ tk S hτ hS => by
  unfold sJo
  have hr := hf τ tk S hτ hS
  split
  · exact sJn_W hb hn hj hf 20 _ _ _ hr.1 hr.2
  · exact hr
theorem mOf_8 (w : Option Nat) : mOf w ≤ 8 := by
  unfold mOf
  split
  · decide
  · split
    · decide
    · split
      · decide
      · split
        · decide
        · split <;> decide
theorem tAt_4 {τ : zTk} {c : Nat} (h : ¬ tAt τ c = false) : τ.1 = 4 := by
  unfold tAt at h
  by_cases h4 : τ.1 = 4
  · exact h4
  · exact absurd (by rw [decide_eq_false h4]; rfl) h
theorem sCmp_W (hb : ∀ j, b j < 256) (hn : n ≤ 740) {m tk : Nat} {τ : zTk} {S : zSe} (hm : m ≤ 8) (hτ : tOK τ) (hS : sV S) : tOK (sCmp b n L m τ tk S).2.1 ∧ sV (sCmp b n L m τ tk S).2.2.2 := by
  unfold sCmp
  split
  · exact ⟨hτ, hS⟩
  · rename_i hc
    split
    · rename_i h
      refine ⟨nxt_OK hb hn, sV_ad hS hm ?_ (tNu_8 (nxt_OK hb hn) h)⟩
      apply hτ.2.2.2.2.2.1
      by_cases h1 : tAt τ 60 = false
      · by_cases h2 : tAt τ 61 = false
        · exact tAt_4 (fun h3 => hc ⟨h1, h2, h3⟩)
        · exact tAt_4 h2
      · exact tAt_4 h1
    · exact ⟨nxt_OK hb hn, hS⟩
theorem sOne_W (hb : ∀ j, b j < 256) (hn : n ≤ 740) : ∀ d, sW (sOne b n L d)
  | 0 => fun τ tk S hτ hS => by
    rw [sOne]
    split <;> exact ⟨hτ, hS⟩
  | d + 1 => fun τ tk S hτ hS => by
    rw [sOne]
    split
    · exact ⟨hτ, hS⟩
    · split
      · exact ⟨hτ, hS⟩
      · split
        · have hr := sJo_W hb hn (L := L) (w := 20) (j := 8) (by decide) (sJo_W hb hn (L := L) (w := 21) (j := 7) (by decide) (sOne_W hb hn d)) (nxt b n L τ) tk (sOn S) (nxt_OK hb hn) hS
          unfold sBk
          split
          · split
            · exact ⟨nxt_OK hb hn, hr.2⟩
            · exact hr
          · exact hr
        · split
          · have hr := sOne_W hb hn d (nxt b n L τ) tk (sOn S) (nxt_OK hb hn) hS
            unfold sNt
            split
            · exact ⟨hr.1, sV_ad hr.2 (by decide) (by decide) (by decide)⟩
            · exact hr
          · split
            · exact ⟨nxt_OK hb hn, sV_ad (S := sOn S) hS (by decide) (by decide) (by decide)⟩
            · exact sCmp_W hb hn (mOf_8 _) (nxt_OK hb hn) hS
theorem sRd_V {τ : zTk} {tk : Nat} {S : zSe} (hb : ∀ j, b j < 256) (hn : n ≤ 740) (hτ : tOK τ) (hS : sV S) : tOK (sRd b n L τ tk S).2.1 ∧ sV (sRd b n L τ tk S).2.2.2 := by
  have hI := sJo_W hb hn (L := L) (w := 20) (j := 8) (by decide) (sJo_W hb hn (L := L) (w := 21) (j := 7) (by decide) (sOne_W (L := L) hb hn 8)) τ tk (0, 0, S.2.2) hτ hS
  unfold sRd
  split
  · split <;> exact hI
  · exact hI
end
def bN (c : Bool) : Nat := if c = true then 1 else 0
theorem bN_z (c : Bool) : nI (bN c) = 0 ∨ nI (bN c) = 1 := by
  cases c
  · exact Or.inl rfl
  · exact Or.inr rfl
theorem bN_t {p : Prop} {_ : Decidable p} (h : p) : bN (decide p) = 1 := by rw [decide_eq_true h]; rfl
theorem bN_f {p : Prop} {_ : Decidable p} (h : ¬ p) : bN (decide p) = 0 := by rw [decide_eq_false h]; rfl
theorem bN_1 (c : Bool) : bN c ≤ 1 := by cases c <;> decide
def sMe (o1 o2 o3 o4 : Nat → Int32) (m what : Nat) : Int32 := if what = 2 then o1 m else if what = 3 then o2 m else if what = 4 then o3 m else if what = 5 then o4 m else nI m
def sSo (o1 o2 o3 o4 : Nat → Int32) (m : Nat) (S : zSe) (i : Nat) : Bool :=
  if S.2.2.1 i = 0 then decide (o3 m = 0) else
  if S.2.2.2.1 i = 60 then decide (sMe o1 o2 o3 o4 m (S.2.2.1 i) < nI (S.2.2.2.2 i)) else
  if S.2.2.2.1 i = 62 then decide (nI (S.2.2.2.2 i) < sMe o1 o2 o3 o4 m (S.2.2.1 i)) else decide (sMe o1 o2 o3 o4 m (S.2.2.1 i) = nI (S.2.2.2.2 i))
/-- a step: the pile's height, the pile -/
def vSt (so : Nat → Bool) (st : Nat → Nat) (i : Nat) (v : Nat × (Nat → Nat)) : Nat × (Nat → Nat) :=
  if st i = 6 then (if 0 < v.1 then (v.1, un v.2 (v.1 - 1) (if v.2 (v.1 - 1) = 0 then 1 else 0)) else v)
  else if st i = 7 then (if 1 < v.1 then (v.1 - 1, un v.2 (v.1 - 1 - 1) (if v.2 (v.1 - 1 - 1) = 0 then 0 else if v.2 (v.1 - 1) = 0 then 0 else 1)) else v)
  else if st i = 8 then (if 1 < v.1 then (v.1 - 1, un v.2 (v.1 - 1 - 1) (if v.2 (v.1 - 1 - 1) = 0 then (if v.2 (v.1 - 1) = 0 then 0 else 1) else 1)) else v)
  else if v.1 < 20 then (v.1 + 1, un v.2 v.1 (bN (so i))) else v
def vRn (so : Nat → Bool) (st : Nat → Nat) (v : Nat × (Nat → Nat)) : Nat → Nat × (Nat → Nat)
  | 0 => v
  | k + 1 => vSt so st k (vRn so st v k)
def vHo (v : Nat × (Nat → Nat)) : Bool := decide (0 < v.1 ∧ ¬ v.2 0 = 0)
theorem nI_dec {h : Nat} (h1 : 1 ≤ h) : nI h + Int32.ofInt (-1) = nI (h - 1) := by
  rw [show Int32.ofInt (-1) = -(nI 1) from by decide, ← Int32.sub_eq_add_neg]
  exact nI_sub h1
theorem dX7_measure_0 : decode cX7_measure 0 = .ok (.iload_n 2, 1) := by decide +kernel
theorem dX7_measure_1 : decode cX7_measure 1 = .ok (.tableswitch 59 2 5 #[31, 38, 45, 52], 31) := by decide +kernel
theorem dX7_measure_32 : decode cX7_measure 32 = .ok (.aload_n 0, 1) := by decide +kernel
theorem dX7_measure_33 : decode cX7_measure 33 = .ok (.getfield 140, 3) := by decide +kernel
theorem dX7_measure_36 : decode cX7_measure 36 = .ok (.iload_n 1, 1) := by decide +kernel
theorem dX7_measure_37 : decode cX7_measure 37 = .ok (.iaload, 1) := by decide +kernel
theorem dX7_measure_38 : decode cX7_measure 38 = .ok (.ireturn, 1) := by decide +kernel
theorem dX7_measure_39 : decode cX7_measure 39 = .ok (.aload_n 0, 1) := by decide +kernel
theorem dX7_measure_40 : decode cX7_measure 40 = .ok (.getfield 143, 3) := by decide +kernel
theorem dX7_measure_43 : decode cX7_measure 43 = .ok (.iload_n 1, 1) := by decide +kernel
theorem dX7_measure_44 : decode cX7_measure 44 = .ok (.iaload, 1) := by decide +kernel
theorem dX7_measure_45 : decode cX7_measure 45 = .ok (.ireturn, 1) := by decide +kernel
theorem dX7_measure_46 : decode cX7_measure 46 = .ok (.aload_n 0, 1) := by decide +kernel
theorem dX7_measure_47 : decode cX7_measure 47 = .ok (.getfield 131, 3) := by decide +kernel
theorem dX7_measure_50 : decode cX7_measure 50 = .ok (.iload_n 1, 1) := by decide +kernel
theorem dX7_measure_51 : decode cX7_measure 51 = .ok (.iaload, 1) := by decide +kernel
theorem dX7_measure_52 : decode cX7_measure 52 = .ok (.ireturn, 1) := by decide +kernel
theorem dX7_measure_53 : decode cX7_measure 53 = .ok (.aload_n 0, 1) := by decide +kernel
theorem dX7_measure_54 : decode cX7_measure 54 = .ok (.getfield 146, 3) := by decide +kernel
theorem dX7_measure_57 : decode cX7_measure 57 = .ok (.iload_n 1, 1) := by decide +kernel
theorem dX7_measure_58 : decode cX7_measure 58 = .ok (.iaload, 1) := by decide +kernel
theorem dX7_measure_59 : decode cX7_measure 59 = .ok (.ireturn, 1) := by decide +kernel
theorem dX7_measure_60 : decode cX7_measure 60 = .ok (.iload_n 1, 1) := by decide +kernel
theorem dX7_measure_61 : decode cX7_measure 61 = .ok (.ireturn, 1) := by decide +kernel
set_option maxRecDepth 100000 in
theorem s_measure (l : Launch) (dd : Nat) (nn : Nat) (an : Nat → Nat) (wk aim w : Nat) (o1 o2 o3 o4 : Nat → Int32) (m what : Nat) (hm : m < 60) (hw : what ≤ 8) : zSp l mX7_measure dd 0 0 [.ref nn, .int (nI m), .int (nI what)] [(nn, .inr (2, fNi an wk aim w)), (an 1, .inl (0, 60, .inl o1)), (an 2, .inl (0, 60, .inl o2)), (an 3, .inl (0, 60, .inl o3)), (an 4, .inl (0, 60, .inl o4))] (fun r K' => r = some (.int (sMe o1 o2 o3 o4 m what)) ∧ K' = kNi nn an wk aim w o1 o2 o3 o4) := by
  refine zSp.of (by decide) (Nat.le_of_ble_eq_true rfl) (fun h0 => ?_)
  show zS _ 0 0 0 [(0, .ref nn), (1, .int (nI m)), (2, .int (nI what))] [] [(nn, .inr (2, fNi an wk aim w)), (an 1, .inl (0, 60, .inl o1)), (an 2, .inl (0, 60, .inl o2)), (an 3, .inl (0, 60, .inl o3)), (an 4, .inl (0, 60, .inl o4))]
  refine zs_iload_n dX7_measure_0 rfl ?_
  by_cases h1_2 : what = 2
  · refine zs_as (y := nI 2) (congrArg nI h1_2) ?_
    refine zs_tableIn (off := 31) (tgt := 32) dX7_measure_1 (by decide) (by decide) rfl (by decide) ?_
    refine zs_aload_n dX7_measure_32 rfl rfl ?_
    refine zs_get 0 dX7_measure_33 zf_RX7_140 rfl (v := .ref (an 1)) rfl ?_
    refine zs_iload_n dX7_measure_36 rfl ?_
    refine zs_iald 1 dX7_measure_37 rfl (vp_in_nI (by omega) (by omega)) ?_
    refine zs_as (y := o1 m) (by rw [nI_c (n := m) (by omega)]) ?_
    exact zs_iret dX7_measure_38 rfl ⟨by rw [sMe, if_pos h1_2] <;> rfl, rfl⟩
  by_cases h1_3 : what = 3
  · refine zs_as (y := nI 3) (congrArg nI h1_3) ?_
    refine zs_tableIn (off := 38) (tgt := 39) dX7_measure_1 (by decide) (by decide) rfl (by decide) ?_
    refine zs_aload_n dX7_measure_39 rfl rfl ?_
    refine zs_get 0 dX7_measure_40 zf_RX7_143 rfl (v := .ref (an 2)) rfl ?_
    refine zs_iload_n dX7_measure_43 rfl ?_
    refine zs_iald 2 dX7_measure_44 rfl (vp_in_nI (by omega) (by omega)) ?_
    refine zs_as (y := o2 m) (by rw [nI_c (n := m) (by omega)]) ?_
    exact zs_iret dX7_measure_45 rfl ⟨by rw [sMe, if_neg h1_2, if_pos h1_3] <;> rfl, rfl⟩
  by_cases h1_4 : what = 4
  · refine zs_as (y := nI 4) (congrArg nI h1_4) ?_
    refine zs_tableIn (off := 45) (tgt := 46) dX7_measure_1 (by decide) (by decide) rfl (by decide) ?_
    refine zs_aload_n dX7_measure_46 rfl rfl ?_
    refine zs_get 0 dX7_measure_47 zf_RX7_131 rfl (v := .ref (an 3)) rfl ?_
    refine zs_iload_n dX7_measure_50 rfl ?_
    refine zs_iald 3 dX7_measure_51 rfl (vp_in_nI (by omega) (by omega)) ?_
    refine zs_as (y := o3 m) (by rw [nI_c (n := m) (by omega)]) ?_
    exact zs_iret dX7_measure_52 rfl ⟨by rw [sMe, if_neg h1_2, if_neg h1_3, if_pos h1_4] <;> rfl, rfl⟩
  by_cases h1_5 : what = 5
  · refine zs_as (y := nI 5) (congrArg nI h1_5) ?_
    refine zs_tableIn (off := 52) (tgt := 53) dX7_measure_1 (by decide) (by decide) rfl (by decide) ?_
    refine zs_aload_n dX7_measure_53 rfl rfl ?_
    refine zs_get 0 dX7_measure_54 zf_RX7_146 rfl (v := .ref (an 4)) rfl ?_
    refine zs_iload_n dX7_measure_57 rfl ?_
    refine zs_iald 4 dX7_measure_58 rfl (vp_in_nI (by omega) (by omega)) ?_
    refine zs_as (y := o4 m) (by rw [nI_c (n := m) (by omega)]) ?_
    exact zs_iret dX7_measure_59 rfl ⟨by rw [sMe, if_neg h1_2, if_neg h1_3, if_neg h1_4, if_pos h1_5] <;> rfl, rfl⟩
  refine zs_tableOut (tgt := 60) dX7_measure_1 (by rw [nI_t (by omega)]; omega) (by decide) ?_
  refine zs_iload_n dX7_measure_60 rfl ?_
  exact zs_iret dX7_measure_61 rfl ⟨by rw [sMe, if_neg h1_2, if_neg h1_3, if_neg h1_4, if_neg h1_5] <;> rfl, rfl⟩
theorem dX7_isSo_0 : decode cX7_isSo 0 = .ok (.aload_n 0, 1) := by decide +kernel
theorem dX7_isSo_1 : decode cX7_isSo 1 = .ok (.getfield 11, 3) := by decide +kernel
theorem dX7_isSo_4 : decode cX7_isSo 4 = .ok (.iload_n 3, 1) := by decide +kernel
theorem dX7_isSo_5 : decode cX7_isSo 5 = .ok (.iaload, 1) := by decide +kernel
theorem dX7_isSo_6 : decode cX7_isSo 6 = .ok (.ifCond .ne 18, 3) := by decide +kernel
theorem dX7_isSo_9 : decode cX7_isSo 9 = .ok (.aload_n 1, 1) := by decide +kernel
theorem dX7_isSo_10 : decode cX7_isSo 10 = .ok (.getfield 131, 3) := by decide +kernel
theorem dX7_isSo_13 : decode cX7_isSo 13 = .ok (.iload_n 2, 1) := by decide +kernel
theorem dX7_isSo_14 : decode cX7_isSo 14 = .ok (.iaload, 1) := by decide +kernel
theorem dX7_isSo_15 : decode cX7_isSo 15 = .ok (.ifCond .ne 7, 3) := by decide +kernel
theorem dX7_isSo_18 : decode cX7_isSo 18 = .ok (.iconst 1, 1) := by decide +kernel
theorem dX7_isSo_19 : decode cX7_isSo 19 = .ok (.goto 4, 3) := by decide +kernel
theorem dX7_isSo_22 : decode cX7_isSo 22 = .ok (.iconst 0, 1) := by decide +kernel
theorem dX7_isSo_23 : decode cX7_isSo 23 = .ok (.ireturn, 1) := by decide +kernel
theorem dX7_isSo_24 : decode cX7_isSo 24 = .ok (.aload_n 1, 1) := by decide +kernel
theorem dX7_isSo_25 : decode cX7_isSo 25 = .ok (.iload_n 2, 1) := by decide +kernel
theorem dX7_isSo_26 : decode cX7_isSo 26 = .ok (.aload_n 0, 1) := by decide +kernel
theorem dX7_isSo_27 : decode cX7_isSo 27 = .ok (.getfield 11, 3) := by decide +kernel
theorem dX7_isSo_30 : decode cX7_isSo 30 = .ok (.iload_n 3, 1) := by decide +kernel
theorem dX7_isSo_31 : decode cX7_isSo 31 = .ok (.iaload, 1) := by decide +kernel
theorem dX7_isSo_32 : decode cX7_isSo 32 = .ok (.invokestatic 136, 3) := by decide +kernel
theorem dX7_isSo_35 : decode cX7_isSo 35 = .ok (.istore 4, 2) := by decide +kernel
theorem dX7_isSo_37 : decode cX7_isSo 37 = .ok (.aload_n 0, 1) := by decide +kernel
theorem dX7_isSo_38 : decode cX7_isSo 38 = .ok (.getfield 15, 3) := by decide +kernel
theorem dX7_isSo_41 : decode cX7_isSo 41 = .ok (.iload_n 3, 1) := by decide +kernel
theorem dX7_isSo_42 : decode cX7_isSo 42 = .ok (.iaload, 1) := by decide +kernel
theorem dX7_isSo_43 : decode cX7_isSo 43 = .ok (.bipush 60, 2) := by decide +kernel
theorem dX7_isSo_45 : decode cX7_isSo 45 = .ok (.if_icmp .ne 20, 3) := by decide +kernel
theorem dX7_isSo_48 : decode cX7_isSo 48 = .ok (.iload 4, 2) := by decide +kernel
theorem dX7_isSo_50 : decode cX7_isSo 50 = .ok (.aload_n 0, 1) := by decide +kernel
theorem dX7_isSo_51 : decode cX7_isSo 51 = .ok (.getfield 18, 3) := by decide +kernel
theorem dX7_isSo_54 : decode cX7_isSo 54 = .ok (.iload_n 3, 1) := by decide +kernel
theorem dX7_isSo_55 : decode cX7_isSo 55 = .ok (.iaload, 1) := by decide +kernel
theorem dX7_isSo_56 : decode cX7_isSo 56 = .ok (.if_icmp .ge 7, 3) := by decide +kernel
theorem dX7_isSo_59 : decode cX7_isSo 59 = .ok (.iconst 1, 1) := by decide +kernel
theorem dX7_isSo_60 : decode cX7_isSo 60 = .ok (.goto 4, 3) := by decide +kernel
theorem dX7_isSo_63 : decode cX7_isSo 63 = .ok (.iconst 0, 1) := by decide +kernel
theorem dX7_isSo_64 : decode cX7_isSo 64 = .ok (.ireturn, 1) := by decide +kernel
theorem dX7_isSo_65 : decode cX7_isSo 65 = .ok (.aload_n 0, 1) := by decide +kernel
theorem dX7_isSo_66 : decode cX7_isSo 66 = .ok (.getfield 15, 3) := by decide +kernel
theorem dX7_isSo_69 : decode cX7_isSo 69 = .ok (.iload_n 3, 1) := by decide +kernel
theorem dX7_isSo_70 : decode cX7_isSo 70 = .ok (.iaload, 1) := by decide +kernel
theorem dX7_isSo_71 : decode cX7_isSo 71 = .ok (.bipush 62, 2) := by decide +kernel
theorem dX7_isSo_73 : decode cX7_isSo 73 = .ok (.if_icmp .ne 22, 3) := by decide +kernel
theorem dX7_isSo_76 : decode cX7_isSo 76 = .ok (.iload 4, 2) := by decide +kernel
theorem dX7_isSo_78 : decode cX7_isSo 78 = .ok (.aload_n 0, 1) := by decide +kernel
theorem dX7_isSo_79 : decode cX7_isSo 79 = .ok (.getfield 18, 3) := by decide +kernel
theorem dX7_isSo_82 : decode cX7_isSo 82 = .ok (.iload_n 3, 1) := by decide +kernel
theorem dX7_isSo_83 : decode cX7_isSo 83 = .ok (.iaload, 1) := by decide +kernel
theorem dX7_isSo_84 : decode cX7_isSo 84 = .ok (.if_icmp .le 7, 3) := by decide +kernel
theorem dX7_isSo_87 : decode cX7_isSo 87 = .ok (.iconst 1, 1) := by decide +kernel
theorem dX7_isSo_88 : decode cX7_isSo 88 = .ok (.goto 23, 3) := by decide +kernel
theorem dX7_isSo_91 : decode cX7_isSo 91 = .ok (.iconst 0, 1) := by decide +kernel
theorem dX7_isSo_92 : decode cX7_isSo 92 = .ok (.goto 19, 3) := by decide +kernel
theorem dX7_isSo_95 : decode cX7_isSo 95 = .ok (.iload 4, 2) := by decide +kernel
theorem dX7_isSo_97 : decode cX7_isSo 97 = .ok (.aload_n 0, 1) := by decide +kernel
theorem dX7_isSo_98 : decode cX7_isSo 98 = .ok (.getfield 18, 3) := by decide +kernel
theorem dX7_isSo_101 : decode cX7_isSo 101 = .ok (.iload_n 3, 1) := by decide +kernel
theorem dX7_isSo_102 : decode cX7_isSo 102 = .ok (.iaload, 1) := by decide +kernel
theorem dX7_isSo_103 : decode cX7_isSo 103 = .ok (.if_icmp .ne 7, 3) := by decide +kernel
theorem dX7_isSo_106 : decode cX7_isSo 106 = .ok (.iconst 1, 1) := by decide +kernel
theorem dX7_isSo_107 : decode cX7_isSo 107 = .ok (.goto 4, 3) := by decide +kernel
theorem dX7_isSo_110 : decode cX7_isSo 110 = .ok (.iconst 0, 1) := by decide +kernel
theorem dX7_isSo_111 : decode cX7_isSo 111 = .ok (.ireturn, 1) := by decide +kernel
set_option maxRecDepth 100000 in
theorem s_isSo (l : Launch) (dd : Nat) (s : Nat) (as : Nat → Nat) (S : zSe) (nn : Nat) (an : Nat → Nat) (wk aim w : Nat) (o1 o2 o3 o4 : Nat → Int32) (m i : Nat) (hd : 1 ≤ dd) (hV : sV S) (hm : m < 60) (hi : i < 40) : zSp l mX7_isSo dd 0 0 [.ref s, .ref nn, .int (nI m), .int (nI i)] [(s, .inr (6, fSen as S.1 S.2.1)), (as 1, .inl (0, 40, .inl (nF S.2.2.1))), (as 2, .inl (0, 40, .inl (nF S.2.2.2.1))), (as 3, .inl (0, 40, .inl (nF S.2.2.2.2))), (nn, .inr (2, fNi an wk aim w)), (an 1, .inl (0, 60, .inl o1)), (an 2, .inl (0, 60, .inl o2)), (an 3, .inl (0, 60, .inl o3)), (an 4, .inl (0, 60, .inl o4))] (fun r K' => r = some (.int (nI (bN (sSo o1 o2 o3 o4 m S i)))) ∧ K' = kSn s as S ++ kNi nn an wk aim w o1 o2 o3 o4) := by
  refine zSp.of (by decide) (Nat.le_of_ble_eq_true rfl) (fun h0 => ?_)
  show zS _ 0 0 0 [(0, .ref s), (1, .ref nn), (2, .int (nI m)), (3, .int (nI i))] [] [(s, .inr (6, fSen as S.1 S.2.1)), (as 1, .inl (0, 40, .inl (nF S.2.2.1))), (as 2, .inl (0, 40, .inl (nF S.2.2.2.1))), (as 3, .inl (0, 40, .inl (nF S.2.2.2.2))), (nn, .inr (2, fNi an wk aim w)), (an 1, .inl (0, 60, .inl o1)), (an 2, .inl (0, 60, .inl o2)), (an 3, .inl (0, 60, .inl o3)), (an 4, .inl (0, 60, .inl o4))]
  have hv := hV i
  refine zs_aload_n dX7_isSo_0 rfl rfl ?_
  refine zs_get 0 dX7_isSo_1 zf_RX7_11 rfl (v := .ref (as 1)) rfl ?_
  refine zs_iload_n dX7_isSo_4 rfl ?_
  refine zs_iald 1 dX7_isSo_5 rfl (vp_in_nI (by omega) (by omega)) ?_
  refine zs_as (y := nI (S.2.2.1 i)) (by rw [nI_c (n := i) (by omega)]; rfl) ?_
  refine zs_if_ne (tgt := 24) dX7_isSo_6 (by decide) (fun c_1 => ?_) (fun c_1 => ?_)
  · have c_1 : ¬ ((S.2.2.1 i) = 0) := by have hc := c_1; rw [show (0 : Int32) = nI 0 from rfl] at hc; rw [nI_eq' (by omega) (by omega)] at hc; exact hc
    refine zs_aload_n dX7_isSo_24 rfl rfl ?_
    refine zs_iload_n dX7_isSo_25 rfl ?_
    refine zs_aload_n dX7_isSo_26 rfl rfl ?_
    refine zs_get 0 dX7_isSo_27 zf_RX7_11 rfl (v := .ref (as 1)) rfl ?_
    refine zs_iload_n dX7_isSo_30 rfl ?_
    refine zs_iald 1 dX7_isSo_31 rfl (vp_in_nI (by omega) (by omega)) ?_
    refine zs_as (y := nI (S.2.2.1 i)) (by rw [nI_c (n := i) (by omega)]; rfl) ?_
    refine zs_callS (M := mX7_measure) (As := [.ref nn, .int (nI m), .int (nI (S.2.2.1 i))]) (st := []) (Kc := [(nn, .inr (2, fNi an wk aim w)), (an 1, .inl (0, 60, .inl o1)), (an 2, .inl (0, 60, .inl o2)), (an 3, .inl (0, 60, .inl o3)), (an 4, .inl (0, 60, .inl o4))]) (Kr := [(s, .inr (6, fSen as S.1 S.2.1)), (as 1, .inl (0, 40, .inl (nF S.2.2.1))), (as 2, .inl (0, 40, .inl (nF S.2.2.2.1))), (as 3, .inl (0, 40, .inl (nF S.2.2.2.2)))]) [4, 5, 6, 7, 8] [0, 1, 2, 3] dX7_isSo_32 zl_RX7_136 kX7_measure rfl rfl rfl rfl rfl (by decide) (show dd - 1 + 1 ≤ dd by omega) (Nat.zero_le _) (Nat.zero_le _) (Nat.le_of_ble_eq_true rfl) (s_measure l (dd - 1) nn an wk aim w o1 o2 o3 o4 m (S.2.2.1 i) hm (by omega)) (fun r K1 hr => ?_)
    obtain ⟨rfl, rfl⟩ := hr
    refine zs_K (K' := [(s, .inr (6, fSen as S.1 S.2.1)), (as 1, .inl (0, 40, .inl (nF S.2.2.1))), (as 2, .inl (0, 40, .inl (nF S.2.2.2.1))), (as 3, .inl (0, 40, .inl (nF S.2.2.2.2))), (nn, .inr (2, fNi an wk aim w)), (an 1, .inl (0, 60, .inl o1)), (an 2, .inl (0, 60, .inl o2)), (an 3, .inl (0, 60, .inl o3)), (an 4, .inl (0, 60, .inl o4))]) [0, 1, 2, 3, 4, 5, 6, 7, 8] rfl (by decide) ?_
    refine zs_istore (lv' := [(4, .int (sMe o1 o2 o3 o4 m (S.2.2.1 i))), (0, .ref s), (1, .ref nn), (2, .int (nI m)), (3, .int (nI i))]) dX7_isSo_35 (Nat.le_of_ble_eq_true rfl) rfl ?_
    refine zs_aload_n dX7_isSo_37 rfl rfl ?_
    refine zs_get 0 dX7_isSo_38 zf_RX7_15 rfl (v := .ref (as 2)) rfl ?_
    refine zs_iload_n dX7_isSo_41 rfl ?_
    refine zs_iald 2 dX7_isSo_42 rfl (vp_in_nI (by omega) (by omega)) ?_
    refine zs_as (y := nI (S.2.2.2.1 i)) (by rw [nI_c (n := i) (by omega)]; rfl) ?_
    refine zs_bipush (v := nI 60) dX7_isSo_43 (by decide) ?_
    refine zs_icmp_ne (tgt := 65) dX7_isSo_45 (by decide) (fun c_2 => ?_) (fun c_2 => ?_)
    · have c_2 : ¬ ((S.2.2.2.1 i) = 60) := by have hc := c_2; rw [nI_eq' (by omega) (by omega)] at hc; exact hc
      refine zs_aload_n dX7_isSo_65 rfl rfl ?_
      refine zs_get 0 dX7_isSo_66 zf_RX7_15 rfl (v := .ref (as 2)) rfl ?_
      refine zs_iload_n dX7_isSo_69 rfl ?_
      refine zs_iald 2 dX7_isSo_70 rfl (vp_in_nI (by omega) (by omega)) ?_
      refine zs_as (y := nI (S.2.2.2.1 i)) (by rw [nI_c (n := i) (by omega)]; rfl) ?_
      refine zs_bipush (v := nI 62) dX7_isSo_71 (by decide) ?_
      refine zs_icmp_ne (tgt := 95) dX7_isSo_73 (by decide) (fun c_3 => ?_) (fun c_3 => ?_)
      · have c_3 : ¬ ((S.2.2.2.1 i) = 62) := by have hc := c_3; rw [nI_eq' (by omega) (by omega)] at hc; exact hc
        refine zs_iload dX7_isSo_95 rfl ?_
        refine zs_aload_n dX7_isSo_97 rfl rfl ?_
        refine zs_get 0 dX7_isSo_98 zf_RX7_18 rfl (v := .ref (as 3)) rfl ?_
        refine zs_iload_n dX7_isSo_101 rfl ?_
        refine zs_iald 3 dX7_isSo_102 rfl (vp_in_nI (by omega) (by omega)) ?_
        refine zs_as (y := nI (S.2.2.2.2 i)) (by rw [nI_c (n := i) (by omega)]; rfl) ?_
        refine zs_icmp_ne (tgt := 110) dX7_isSo_103 (by decide) (fun c_4 => ?_) (fun c_4 => ?_)
        · refine zs_iconst (v := nI 0) dX7_isSo_110 (by decide) ?_
          exact zs_zret dX7_isSo_111 rfl (by first | exact Or.inl rfl | exact Or.inr rfl) ⟨by rw [sSo, if_neg c_1, if_neg c_2, if_neg c_3, bN_f c_4] <;> rfl, rfl⟩
        · refine zs_iconst (v := nI 1) dX7_isSo_106 (by decide) ?_
          refine zs_goto (tgt := 111) dX7_isSo_107 (by decide) ?_
          exact zs_zret dX7_isSo_111 rfl (by first | exact Or.inl rfl | exact Or.inr rfl) ⟨by rw [sSo, if_neg c_1, if_neg c_2, if_neg c_3, bN_t c_4] <;> rfl, rfl⟩
      · have c_3 : (S.2.2.2.1 i) = 62 := by have hc := c_3; rw [nI_eq' (by omega) (by omega)] at hc; exact hc
        refine zs_iload dX7_isSo_76 rfl ?_
        refine zs_aload_n dX7_isSo_78 rfl rfl ?_
        refine zs_get 0 dX7_isSo_79 zf_RX7_18 rfl (v := .ref (as 3)) rfl ?_
        refine zs_iload_n dX7_isSo_82 rfl ?_
        refine zs_iald 3 dX7_isSo_83 rfl (vp_in_nI (by omega) (by omega)) ?_
        refine zs_as (y := nI (S.2.2.2.2 i)) (by rw [nI_c (n := i) (by omega)]; rfl) ?_
        refine zs_icmp_le (tgt := 91) dX7_isSo_84 (by decide) (fun c_5 => ?_) (fun c_5 => ?_)
        · refine zs_iconst (v := nI 0) dX7_isSo_91 (by decide) ?_
          refine zs_goto (tgt := 111) dX7_isSo_92 (by decide) ?_
          exact zs_zret dX7_isSo_111 rfl (by first | exact Or.inl rfl | exact Or.inr rfl) ⟨by rw [sSo, if_neg c_1, if_neg c_2, if_pos c_3, bN_f (Int32.not_lt.mpr c_5)] <;> rfl, rfl⟩
        · refine zs_iconst (v := nI 1) dX7_isSo_87 (by decide) ?_
          refine zs_goto (tgt := 111) dX7_isSo_88 (by decide) ?_
          exact zs_zret dX7_isSo_111 rfl (by first | exact Or.inl rfl | exact Or.inr rfl) ⟨by rw [sSo, if_neg c_1, if_neg c_2, if_pos c_3, bN_t (Int32.not_le.mp c_5)] <;> rfl, rfl⟩
    · have c_2 : (S.2.2.2.1 i) = 60 := by have hc := c_2; rw [nI_eq' (by omega) (by omega)] at hc; exact hc
      refine zs_iload dX7_isSo_48 rfl ?_
      refine zs_aload_n dX7_isSo_50 rfl rfl ?_
      refine zs_get 0 dX7_isSo_51 zf_RX7_18 rfl (v := .ref (as 3)) rfl ?_
      refine zs_iload_n dX7_isSo_54 rfl ?_
      refine zs_iald 3 dX7_isSo_55 rfl (vp_in_nI (by omega) (by omega)) ?_
      refine zs_as (y := nI (S.2.2.2.2 i)) (by rw [nI_c (n := i) (by omega)]; rfl) ?_
      refine zs_icmp_ge (tgt := 63) dX7_isSo_56 (by decide) (fun c_6 => ?_) (fun c_6 => ?_)
      · refine zs_iconst (v := nI 0) dX7_isSo_63 (by decide) ?_
        exact zs_zret dX7_isSo_64 rfl (by first | exact Or.inl rfl | exact Or.inr rfl) ⟨by rw [sSo, if_neg c_1, if_pos c_2, bN_f (Int32.not_lt.mpr c_6)] <;> rfl, rfl⟩
      · refine zs_iconst (v := nI 1) dX7_isSo_59 (by decide) ?_
        refine zs_goto (tgt := 64) dX7_isSo_60 (by decide) ?_
        exact zs_zret dX7_isSo_64 rfl (by first | exact Or.inl rfl | exact Or.inr rfl) ⟨by rw [sSo, if_neg c_1, if_pos c_2, bN_t (Int32.not_le.mp c_6)] <;> rfl, rfl⟩
  · have c_1 : (S.2.2.1 i) = 0 := by have hc := c_1; rw [show (0 : Int32) = nI 0 from rfl] at hc; rw [nI_eq' (by omega) (by omega)] at hc; exact hc
    refine zs_aload_n dX7_isSo_9 rfl rfl ?_
    refine zs_get 4 dX7_isSo_10 zf_RX7_131 rfl (v := .ref (an 3)) rfl ?_
    refine zs_iload_n dX7_isSo_13 rfl ?_
    refine zs_iald 7 dX7_isSo_14 rfl (vp_in_nI (by omega) (by omega)) ?_
    refine zs_as (y := o3 m) (by rw [nI_c (n := m) (by omega)]) ?_
    refine zs_if_ne (tgt := 22) dX7_isSo_15 (by decide) (fun c_7 => ?_) (fun c_7 => ?_)
    · refine zs_iconst (v := nI 0) dX7_isSo_22 (by decide) ?_
      exact zs_zret dX7_isSo_23 rfl (by first | exact Or.inl rfl | exact Or.inr rfl) ⟨by rw [sSo, if_pos c_1, bN_f c_7] <;> rfl, rfl⟩
    · refine zs_iconst (v := nI 1) dX7_isSo_18 (by decide) ?_
      refine zs_goto (tgt := 23) dX7_isSo_19 (by decide) ?_
      exact zs_zret dX7_isSo_23 rfl (by first | exact Or.inl rfl | exact Or.inr rfl) ⟨by rw [sSo, if_pos c_1, bN_t c_7] <;> rfl, rfl⟩
theorem dX7_holds_0 : decode cX7_holds 0 = .ok (.iconst 0, 1) := by decide +kernel
theorem dX7_holds_1 : decode cX7_holds 1 = .ok (.istore_n 3, 1) := by decide +kernel
theorem dX7_holds_2 : decode cX7_holds 2 = .ok (.iconst 0, 1) := by decide +kernel
theorem dX7_holds_3 : decode cX7_holds 3 = .ok (.istore 4, 2) := by decide +kernel
theorem dX7_holds_5 : decode cX7_holds 5 = .ok (.iload 4, 2) := by decide +kernel
theorem dX7_holds_7 : decode cX7_holds 7 = .ok (.aload_n 0, 1) := by decide +kernel
theorem dX7_holds_8 : decode cX7_holds 8 = .ok (.getfield 29, 3) := by decide +kernel
theorem dX7_holds_11 : decode cX7_holds 11 = .ok (.if_icmp .ge 195, 3) := by decide +kernel
theorem dX7_holds_14 : decode cX7_holds 14 = .ok (.aload_n 0, 1) := by decide +kernel
theorem dX7_holds_15 : decode cX7_holds 15 = .ok (.getfield 11, 3) := by decide +kernel
theorem dX7_holds_18 : decode cX7_holds 18 = .ok (.iload 4, 2) := by decide +kernel
theorem dX7_holds_20 : decode cX7_holds 20 = .ok (.iaload, 1) := by decide +kernel
theorem dX7_holds_21 : decode cX7_holds 21 = .ok (.bipush 6, 2) := by decide +kernel
theorem dX7_holds_23 : decode cX7_holds 23 = .ok (.if_icmp .ne 34, 3) := by decide +kernel
theorem dX7_holds_26 : decode cX7_holds 26 = .ok (.iload_n 3, 1) := by decide +kernel
theorem dX7_holds_27 : decode cX7_holds 27 = .ok (.ifCond .le 173, 3) := by decide +kernel
theorem dX7_holds_30 : decode cX7_holds 30 = .ok (.aload_n 0, 1) := by decide +kernel
theorem dX7_holds_31 : decode cX7_holds 31 = .ok (.getfield 21, 3) := by decide +kernel
theorem dX7_holds_34 : decode cX7_holds 34 = .ok (.iload_n 3, 1) := by decide +kernel
theorem dX7_holds_35 : decode cX7_holds 35 = .ok (.iconst 1, 1) := by decide +kernel
theorem dX7_holds_36 : decode cX7_holds 36 = .ok (.isub, 1) := by decide +kernel
theorem dX7_holds_37 : decode cX7_holds 37 = .ok (.aload_n 0, 1) := by decide +kernel
theorem dX7_holds_38 : decode cX7_holds 38 = .ok (.getfield 21, 3) := by decide +kernel
theorem dX7_holds_41 : decode cX7_holds 41 = .ok (.iload_n 3, 1) := by decide +kernel
theorem dX7_holds_42 : decode cX7_holds 42 = .ok (.iconst 1, 1) := by decide +kernel
theorem dX7_holds_43 : decode cX7_holds 43 = .ok (.isub, 1) := by decide +kernel
theorem dX7_holds_44 : decode cX7_holds 44 = .ok (.baload, 1) := by decide +kernel
theorem dX7_holds_45 : decode cX7_holds 45 = .ok (.ifCond .ne 7, 3) := by decide +kernel
theorem dX7_holds_48 : decode cX7_holds 48 = .ok (.iconst 1, 1) := by decide +kernel
theorem dX7_holds_49 : decode cX7_holds 49 = .ok (.goto 4, 3) := by decide +kernel
theorem dX7_holds_52 : decode cX7_holds 52 = .ok (.iconst 0, 1) := by decide +kernel
theorem dX7_holds_53 : decode cX7_holds 53 = .ok (.bastore, 1) := by decide +kernel
theorem dX7_holds_54 : decode cX7_holds 54 = .ok (.goto 146, 3) := by decide +kernel
theorem dX7_holds_57 : decode cX7_holds 57 = .ok (.aload_n 0, 1) := by decide +kernel
theorem dX7_holds_58 : decode cX7_holds 58 = .ok (.getfield 11, 3) := by decide +kernel
theorem dX7_holds_61 : decode cX7_holds 61 = .ok (.iload 4, 2) := by decide +kernel
theorem dX7_holds_63 : decode cX7_holds 63 = .ok (.iaload, 1) := by decide +kernel
theorem dX7_holds_64 : decode cX7_holds 64 = .ok (.bipush 7, 2) := by decide +kernel
theorem dX7_holds_66 : decode cX7_holds 66 = .ok (.if_icmp .eq 15, 3) := by decide +kernel
theorem dX7_holds_69 : decode cX7_holds 69 = .ok (.aload_n 0, 1) := by decide +kernel
theorem dX7_holds_70 : decode cX7_holds 70 = .ok (.getfield 11, 3) := by decide +kernel
theorem dX7_holds_73 : decode cX7_holds 73 = .ok (.iload 4, 2) := by decide +kernel
theorem dX7_holds_75 : decode cX7_holds 75 = .ok (.iaload, 1) := by decide +kernel
theorem dX7_holds_76 : decode cX7_holds 76 = .ok (.bipush 8, 2) := by decide +kernel
theorem dX7_holds_78 : decode cX7_holds 78 = .ok (.if_icmp .ne 99, 3) := by decide +kernel
theorem dX7_holds_81 : decode cX7_holds 81 = .ok (.iload_n 3, 1) := by decide +kernel
theorem dX7_holds_82 : decode cX7_holds 82 = .ok (.iconst 1, 1) := by decide +kernel
theorem dX7_holds_83 : decode cX7_holds 83 = .ok (.if_icmp .le 117, 3) := by decide +kernel
theorem dX7_holds_86 : decode cX7_holds 86 = .ok (.iinc 3 (-1), 3) := by decide +kernel
theorem dX7_holds_89 : decode cX7_holds 89 = .ok (.aload_n 0, 1) := by decide +kernel
theorem dX7_holds_90 : decode cX7_holds 90 = .ok (.getfield 11, 3) := by decide +kernel
theorem dX7_holds_93 : decode cX7_holds 93 = .ok (.iload 4, 2) := by decide +kernel
theorem dX7_holds_95 : decode cX7_holds 95 = .ok (.iaload, 1) := by decide +kernel
theorem dX7_holds_96 : decode cX7_holds 96 = .ok (.bipush 7, 2) := by decide +kernel
theorem dX7_holds_98 : decode cX7_holds 98 = .ok (.if_icmp .ne 7, 3) := by decide +kernel
theorem dX7_holds_101 : decode cX7_holds 101 = .ok (.iconst 1, 1) := by decide +kernel
theorem dX7_holds_102 : decode cX7_holds 102 = .ok (.goto 4, 3) := by decide +kernel
theorem dX7_holds_105 : decode cX7_holds 105 = .ok (.iconst 0, 1) := by decide +kernel
theorem dX7_holds_106 : decode cX7_holds 106 = .ok (.istore 5, 2) := by decide +kernel
theorem dX7_holds_108 : decode cX7_holds 108 = .ok (.aload_n 0, 1) := by decide +kernel
theorem dX7_holds_109 : decode cX7_holds 109 = .ok (.getfield 21, 3) := by decide +kernel
theorem dX7_holds_112 : decode cX7_holds 112 = .ok (.iload_n 3, 1) := by decide +kernel
theorem dX7_holds_113 : decode cX7_holds 113 = .ok (.iconst 1, 1) := by decide +kernel
theorem dX7_holds_114 : decode cX7_holds 114 = .ok (.isub, 1) := by decide +kernel
theorem dX7_holds_115 : decode cX7_holds 115 = .ok (.iload 5, 2) := by decide +kernel
theorem dX7_holds_117 : decode cX7_holds 117 = .ok (.ifCond .eq 31, 3) := by decide +kernel
theorem dX7_holds_120 : decode cX7_holds 120 = .ok (.aload_n 0, 1) := by decide +kernel
theorem dX7_holds_121 : decode cX7_holds 121 = .ok (.getfield 21, 3) := by decide +kernel
theorem dX7_holds_124 : decode cX7_holds 124 = .ok (.iload_n 3, 1) := by decide +kernel
theorem dX7_holds_125 : decode cX7_holds 125 = .ok (.iconst 1, 1) := by decide +kernel
theorem dX7_holds_126 : decode cX7_holds 126 = .ok (.isub, 1) := by decide +kernel
theorem dX7_holds_127 : decode cX7_holds 127 = .ok (.baload, 1) := by decide +kernel
theorem dX7_holds_128 : decode cX7_holds 128 = .ok (.ifCond .eq 16, 3) := by decide +kernel
theorem dX7_holds_131 : decode cX7_holds 131 = .ok (.aload_n 0, 1) := by decide +kernel
theorem dX7_holds_132 : decode cX7_holds 132 = .ok (.getfield 21, 3) := by decide +kernel
theorem dX7_holds_135 : decode cX7_holds 135 = .ok (.iload_n 3, 1) := by decide +kernel
theorem dX7_holds_136 : decode cX7_holds 136 = .ok (.baload, 1) := by decide +kernel
theorem dX7_holds_137 : decode cX7_holds 137 = .ok (.ifCond .eq 7, 3) := by decide +kernel
theorem dX7_holds_140 : decode cX7_holds 140 = .ok (.iconst 1, 1) := by decide +kernel
theorem dX7_holds_141 : decode cX7_holds 141 = .ok (.goto 32, 3) := by decide +kernel
theorem dX7_holds_144 : decode cX7_holds 144 = .ok (.iconst 0, 1) := by decide +kernel
theorem dX7_holds_145 : decode cX7_holds 145 = .ok (.goto 28, 3) := by decide +kernel
theorem dX7_holds_148 : decode cX7_holds 148 = .ok (.aload_n 0, 1) := by decide +kernel
theorem dX7_holds_149 : decode cX7_holds 149 = .ok (.getfield 21, 3) := by decide +kernel
theorem dX7_holds_152 : decode cX7_holds 152 = .ok (.iload_n 3, 1) := by decide +kernel
theorem dX7_holds_153 : decode cX7_holds 153 = .ok (.iconst 1, 1) := by decide +kernel
theorem dX7_holds_154 : decode cX7_holds 154 = .ok (.isub, 1) := by decide +kernel
theorem dX7_holds_155 : decode cX7_holds 155 = .ok (.baload, 1) := by decide +kernel
theorem dX7_holds_156 : decode cX7_holds 156 = .ok (.ifCond .ne 12, 3) := by decide +kernel
theorem dX7_holds_159 : decode cX7_holds 159 = .ok (.aload_n 0, 1) := by decide +kernel
theorem dX7_holds_160 : decode cX7_holds 160 = .ok (.getfield 21, 3) := by decide +kernel
theorem dX7_holds_163 : decode cX7_holds 163 = .ok (.iload_n 3, 1) := by decide +kernel
theorem dX7_holds_164 : decode cX7_holds 164 = .ok (.baload, 1) := by decide +kernel
theorem dX7_holds_165 : decode cX7_holds 165 = .ok (.ifCond .eq 7, 3) := by decide +kernel
theorem dX7_holds_168 : decode cX7_holds 168 = .ok (.iconst 1, 1) := by decide +kernel
theorem dX7_holds_169 : decode cX7_holds 169 = .ok (.goto 4, 3) := by decide +kernel
theorem dX7_holds_172 : decode cX7_holds 172 = .ok (.iconst 0, 1) := by decide +kernel
theorem dX7_holds_173 : decode cX7_holds 173 = .ok (.bastore, 1) := by decide +kernel
theorem dX7_holds_174 : decode cX7_holds 174 = .ok (.goto 26, 3) := by decide +kernel
theorem dX7_holds_177 : decode cX7_holds 177 = .ok (.iload_n 3, 1) := by decide +kernel
theorem dX7_holds_178 : decode cX7_holds 178 = .ok (.bipush 20, 2) := by decide +kernel
theorem dX7_holds_180 : decode cX7_holds 180 = .ok (.if_icmp .ge 20, 3) := by decide +kernel
theorem dX7_holds_183 : decode cX7_holds 183 = .ok (.aload_n 0, 1) := by decide +kernel
theorem dX7_holds_184 : decode cX7_holds 184 = .ok (.getfield 21, 3) := by decide +kernel
theorem dX7_holds_187 : decode cX7_holds 187 = .ok (.iload_n 3, 1) := by decide +kernel
theorem dX7_holds_188 : decode cX7_holds 188 = .ok (.aload_n 0, 1) := by decide +kernel
theorem dX7_holds_189 : decode cX7_holds 189 = .ok (.aload_n 1, 1) := by decide +kernel
theorem dX7_holds_190 : decode cX7_holds 190 = .ok (.iload_n 2, 1) := by decide +kernel
theorem dX7_holds_191 : decode cX7_holds 191 = .ok (.iload 4, 2) := by decide +kernel
theorem dX7_holds_193 : decode cX7_holds 193 = .ok (.invokevirtual 127, 3) := by decide +kernel
theorem dX7_holds_196 : decode cX7_holds 196 = .ok (.bastore, 1) := by decide +kernel
theorem dX7_holds_197 : decode cX7_holds 197 = .ok (.iinc 3 1, 3) := by decide +kernel
theorem dX7_holds_200 : decode cX7_holds 200 = .ok (.iinc 4 1, 3) := by decide +kernel
theorem dX7_holds_203 : decode cX7_holds 203 = .ok (.goto (-198), 3) := by decide +kernel
theorem dX7_holds_206 : decode cX7_holds 206 = .ok (.iload_n 3, 1) := by decide +kernel
theorem dX7_holds_207 : decode cX7_holds 207 = .ok (.ifCond .le 16, 3) := by decide +kernel
theorem dX7_holds_210 : decode cX7_holds 210 = .ok (.aload_n 0, 1) := by decide +kernel
theorem dX7_holds_211 : decode cX7_holds 211 = .ok (.getfield 21, 3) := by decide +kernel
theorem dX7_holds_214 : decode cX7_holds 214 = .ok (.iconst 0, 1) := by decide +kernel
theorem dX7_holds_215 : decode cX7_holds 215 = .ok (.baload, 1) := by decide +kernel
theorem dX7_holds_216 : decode cX7_holds 216 = .ok (.ifCond .eq 7, 3) := by decide +kernel
theorem dX7_holds_219 : decode cX7_holds 219 = .ok (.iconst 1, 1) := by decide +kernel
theorem dX7_holds_220 : decode cX7_holds 220 = .ok (.goto 4, 3) := by decide +kernel
theorem dX7_holds_223 : decode cX7_holds 223 = .ok (.iconst 0, 1) := by decide +kernel
theorem dX7_holds_224 : decode cX7_holds 224 = .ok (.ireturn, 1) := by decide +kernel
set_option maxRecDepth 100000 in
theorem lp_holds {l : Launch} {dd : Nat} {Po : zPo} {K0 : zK} {h0 : List va_E} {Xo : zK → Prop} {Gc : zG → Prop} (s : Nat) (as : Nat → Nat) (S : zSe) (nn : Nat) (an : Nat → Nat) (wk aim w : Nat) (o1 o2 o3 o4 : Nat → Int32) (m : Nat) (v0 : Nat × (Nat → Nat)) (hd : 2 ≤ dd) (hV : sV S) (hm : m < 60) (h40 : S.2.1 ≤ 40) (hk : ∀ (h : Nat) (pl : Nat → Nat) (i : Nat), h ≤ 20 → (∀ j, pl j ≤ 1) → (h, pl) = vRn (sSo o1 o2 o3 o4 m S) S.2.2.1 v0 S.2.1 → zS (l, mX7_holds, dd, Po, K0, h0, Xo, Gc) 0 0 206 [(0, .ref s), (1, .ref nn), (2, .int (nI m)), (3, .int (nI h)), (4, .int (nI i))] [] [(s, .inr (6, fSen as S.1 S.2.1)), (as 1, .inl (0, 40, .inl (nF S.2.2.1))), (as 2, .inl (0, 40, .inl (nF S.2.2.2.1))), (as 3, .inl (0, 40, .inl (nF S.2.2.2.2))), (as 4, .inl (1, 20, .inl (nF pl))), (nn, .inr (2, fNi an wk aim w)), (an 1, .inl (0, 60, .inl o1)), (an 2, .inl (0, 60, .inl o2)), (an 3, .inl (0, 60, .inl o3)), (an 4, .inl (0, 60, .inl o4))]) : ∀ (q i h : Nat) (pl : Nat → Nat), i + q = S.2.1 → h ≤ 20 → (∀ j, pl j ≤ 1) → (h, pl) = vRn (sSo o1 o2 o3 o4 m S) S.2.2.1 v0 i → zS (l, mX7_holds, dd, Po, K0, h0, Xo, Gc) 0 0 5 [(0, .ref s), (1, .ref nn), (2, .int (nI m)), (3, .int (nI h)), (4, .int (nI i))] [] [(s, .inr (6, fSen as S.1 S.2.1)), (as 1, .inl (0, 40, .inl (nF S.2.2.1))), (as 2, .inl (0, 40, .inl (nF S.2.2.2.1))), (as 3, .inl (0, 40, .inl (nF S.2.2.2.2))), (as 4, .inl (1, 20, .inl (nF pl))), (nn, .inr (2, fNi an wk aim w)), (an 1, .inl (0, 60, .inl o1)), (an 2, .inl (0, 60, .inl o2)), (an 3, .inl (0, 60, .inl o3)), (an 4, .inl (0, 60, .inl o4))] := by
  intro q
  induction q with
  | zero =>
    intro i h pl hi hh hpl hv
    refine zs_iload dX7_holds_5 rfl ?_
    refine zs_aload_n dX7_holds_7 rfl rfl ?_
    refine zs_get 0 dX7_holds_8 zf_RX7_29 rfl (v := .int (nI S.2.1)) rfl ?_
    refine zs_icmp_ge (tgt := 206) dX7_holds_11 (by decide) (fun c_1 => ?_) (fun c_1 => (c_1 (by rw [show i = S.2.1 by omega]; exact Int32.le_refl _) : False).elim)
    rw [show i = S.2.1 by omega] at hv
    refine zs_lv [0, 1, 2, 3, 4] rfl ?_
    exact hk h pl i (by omega) hpl hv
  | succ q ih =>
    intro i h pl hi hh hpl hv
    refine zs_iload dX7_holds_5 rfl ?_
    refine zs_aload_n dX7_holds_7 rfl rfl ?_
    refine zs_get 0 dX7_holds_8 zf_RX7_29 rfl (v := .int (nI S.2.1)) rfl ?_
    refine zs_icmp_ge (tgt := 206) dX7_holds_11 (by decide) (fun c_1 => (nI_ge (show i < S.2.1 by omega) (by omega) c_1 : False).elim) (fun c_1 => ?_)
    have hs8 := (hV i).1
    have hp1 := hpl (h - 1)
    have hp2 := hpl (h - 1 - 1)
    refine zs_aload_n dX7_holds_14 rfl rfl ?_
    refine zs_get 0 dX7_holds_15 zf_RX7_11 rfl (v := .ref (as 1)) rfl ?_
    refine zs_iload dX7_holds_18 rfl ?_
    refine zs_iald 1 dX7_holds_20 rfl (vp_in_nI (by omega) (by omega)) ?_
    refine zs_as (y := nI (S.2.2.1 i)) (by rw [nI_c (n := i) (by omega)]; rfl) ?_
    refine zs_bipush (v := nI 6) dX7_holds_21 (by decide) ?_
    refine zs_icmp_ne (tgt := 57) dX7_holds_23 (by decide) (fun c_2 => ?_) (fun c_2 => ?_)
    · have c_2 : ¬ ((S.2.2.1 i) = 6) := by have hc := c_2; rw [nI_eq' (by omega) (by omega)] at hc; exact hc
      refine zs_aload_n dX7_holds_57 rfl rfl ?_
      refine zs_get 0 dX7_holds_58 zf_RX7_11 rfl (v := .ref (as 1)) rfl ?_
      refine zs_iload dX7_holds_61 rfl ?_
      refine zs_iald 1 dX7_holds_63 rfl (vp_in_nI (by omega) (by omega)) ?_
      refine zs_as (y := nI (S.2.2.1 i)) (by rw [nI_c (n := i) (by omega)]; rfl) ?_
      refine zs_bipush (v := nI 7) dX7_holds_64 (by decide) ?_
      refine zs_icmp_eq (tgt := 81) dX7_holds_66 (by decide) (fun c_3 => ?_) (fun c_3 => ?_)
      · have c_3 : (S.2.2.1 i) = 7 := by have hc := c_3; rw [nI_eq' (by omega) (by omega)] at hc; exact hc
        refine zs_iload_n dX7_holds_81 rfl ?_
        refine zs_iconst (v := nI 1) dX7_holds_82 (by decide) ?_
        refine zs_icmp_le (tgt := 200) dX7_holds_83 (by decide) (fun c_4 => ?_) (fun c_4 => ?_)
        · have c_4 : h ≤ 1 := by have hc := c_4; rw [nI_le' (by omega) (by omega)] at hc; exact hc
          refine zs_iinc (v := (nI (i + 1))) (lv' := [(4, .int (nI (i + 1))), (0, .ref s), (1, .ref nn), (2, .int (nI m)), (3, .int (nI h))]) dX7_holds_200 rfl (nI_add _ 1) (Nat.le_of_ble_eq_true rfl) rfl ?_
          refine zs_goto (tgt := 5) dX7_holds_203 (by decide) ?_
          refine zs_lv [1, 2, 3, 4, 0] rfl ?_
          refine ih (i + 1) h pl (by omega) (by omega) hpl ?_
          · show _ = vSt (sSo o1 o2 o3 o4 m S) S.2.2.1 i (vRn (sSo o1 o2 o3 o4 m S) S.2.2.1 v0 i)
            rw [← hv]
            unfold vSt
            dsimp only
            rw [if_neg c_2, if_pos c_3, if_neg (show ¬ 1 < h by omega)]
        · have c_4 : ¬ (h ≤ 1) := by have hc := c_4; rw [nI_le' (by omega) (by omega)] at hc; exact hc
          refine zs_iinc (v := (nI (h - 1))) (lv' := [(3, .int (nI (h - 1))), (0, .ref s), (1, .ref nn), (2, .int (nI m)), (4, .int (nI i))]) dX7_holds_86 rfl (nI_dec (by omega)) (Nat.le_of_ble_eq_true rfl) rfl ?_
          refine zs_aload_n dX7_holds_89 rfl rfl ?_
          refine zs_get 0 dX7_holds_90 zf_RX7_11 rfl (v := .ref (as 1)) rfl ?_
          refine zs_iload dX7_holds_93 rfl ?_
          refine zs_iald 1 dX7_holds_95 rfl (vp_in_nI (by omega) (by omega)) ?_
          refine zs_as (y := nI (S.2.2.1 i)) (by rw [nI_c (n := i) (by omega)]; rfl) ?_
          refine zs_bipush (v := nI 7) dX7_holds_96 (by decide) ?_
          refine zs_icmp_ne (tgt := 105) dX7_holds_98 (by decide) (fun c_5 => (c_5 (congrArg nI c_3) : False).elim) (fun c_5 => ?_)
          refine zs_iconst (v := nI 1) dX7_holds_101 (by decide) ?_
          refine zs_goto (tgt := 106) dX7_holds_102 (by decide) ?_
          refine zs_istore (lv' := [(5, .int (nI 1)), (3, .int (nI (h - 1))), (0, .ref s), (1, .ref nn), (2, .int (nI m)), (4, .int (nI i))]) dX7_holds_106 (Nat.le_of_ble_eq_true rfl) rfl ?_
          refine zs_aload_n dX7_holds_108 rfl rfl ?_
          refine zs_get 0 dX7_holds_109 zf_RX7_21 rfl (v := .ref (as 4)) rfl ?_
          refine zs_iload_n dX7_holds_112 rfl ?_
          refine zs_iconst (v := nI 1) dX7_holds_113 (by decide) ?_
          refine zs_isub dX7_holds_114 ?_
          refine zs_as (y := nI ((h - 1) - 1)) (nI_sub (by omega)) ?_
          refine zs_iload dX7_holds_115 rfl ?_
          refine zs_if_eq (tgt := 148) dX7_holds_117 (by decide) (fun c_6 => (by first | exact absurd c_6 (by decide) | exact absurd (by decide) c_6 : False).elim) (fun c_6 => ?_)
          refine zs_aload_n dX7_holds_120 rfl rfl ?_
          refine zs_get 0 dX7_holds_121 zf_RX7_21 rfl (v := .ref (as 4)) rfl ?_
          refine zs_iload_n dX7_holds_124 rfl ?_
          refine zs_iconst (v := nI 1) dX7_holds_125 (by decide) ?_
          refine zs_isub dX7_holds_126 ?_
          refine zs_as (y := nI ((h - 1) - 1)) (nI_sub (by omega)) ?_
          refine zs_zald 4 dX7_holds_127 rfl (vp_in_nI (by omega) (by omega)) ?_
          refine zs_as (y := nI (pl ((h - 1) - 1))) (by rw [nI_c (n := (h - 1) - 1) (by omega)]; rfl) ?_
          refine zs_if_eq (tgt := 144) dX7_holds_128 (by decide) (fun c_7 => ?_) (fun c_7 => ?_)
          · have c_7 : (pl ((h - 1) - 1)) = 0 := by have hc := c_7; rw [show (0 : Int32) = nI 0 from rfl] at hc; rw [nI_eq' (by omega) (by omega)] at hc; exact hc
            refine zs_iconst (v := nI 0) dX7_holds_144 (by decide) ?_
            refine zs_goto (tgt := 173) dX7_holds_145 (by decide) ?_
            refine zs_zast 4 dX7_holds_173 rfl (vp_in_nI (by omega) (by omega)) (by first | exact Or.inl rfl | exact Or.inr rfl | assumption) ?_
            rw [nI_c (n := (h - 1) - 1) (by omega), nF_u]
            show zS _ _ _ _ _ _ [(s, .inr (6, fSen as S.1 S.2.1)), (as 1, .inl (0, 40, .inl (nF S.2.2.1))), (as 2, .inl (0, 40, .inl (nF S.2.2.2.1))), (as 3, .inl (0, 40, .inl (nF S.2.2.2.2))), (as 4, .inl (1, 20, .inl (nF (un pl ((h - 1) - 1) 0)))), (nn, .inr (2, fNi an wk aim w)), (an 1, .inl (0, 60, .inl o1)), (an 2, .inl (0, 60, .inl o2)), (an 3, .inl (0, 60, .inl o3)), (an 4, .inl (0, 60, .inl o4))]
            refine zs_goto (tgt := 200) dX7_holds_174 (by decide) ?_
            refine zs_iinc (v := (nI (i + 1))) (lv' := [(4, .int (nI (i + 1))), (5, .int (nI 1)), (3, .int (nI (h - 1))), (0, .ref s), (1, .ref nn), (2, .int (nI m))]) dX7_holds_200 rfl (nI_add _ 1) (Nat.le_of_ble_eq_true rfl) rfl ?_
            refine zs_goto (tgt := 5) dX7_holds_203 (by decide) ?_
            refine zs_lv [3, 4, 5, 2, 0] rfl ?_
            refine ih (i + 1) (h - 1) (un pl ((h - 1) - 1) 0) (by omega) (by omega) (fun j => un_le (hpl j) (by first | decide | exact bN_1 _)) ?_
            · show _ = vSt (sSo o1 o2 o3 o4 m S) S.2.2.1 i (vRn (sSo o1 o2 o3 o4 m S) S.2.2.1 v0 i)
              rw [← hv]
              unfold vSt
              dsimp only
              rw [if_neg c_2, if_pos c_3, if_pos (show 1 < h by omega), if_pos c_7]
          · have c_7 : ¬ ((pl ((h - 1) - 1)) = 0) := by have hc := c_7; rw [show (0 : Int32) = nI 0 from rfl] at hc; rw [nI_eq' (by omega) (by omega)] at hc; exact hc
            refine zs_aload_n dX7_holds_131 rfl rfl ?_
            refine zs_get 0 dX7_holds_132 zf_RX7_21 rfl (v := .ref (as 4)) rfl ?_
            refine zs_iload_n dX7_holds_135 rfl ?_
            refine zs_zald 4 dX7_holds_136 rfl (vp_in_nI (by omega) (by omega)) ?_
            refine zs_as (y := nI (pl (h - 1))) (by rw [nI_c (n := h - 1) (by omega)]; rfl) ?_
            refine zs_if_eq (tgt := 144) dX7_holds_137 (by decide) (fun c_8 => ?_) (fun c_8 => ?_)
            · have c_8 : (pl (h - 1)) = 0 := by have hc := c_8; rw [show (0 : Int32) = nI 0 from rfl] at hc; rw [nI_eq' (by omega) (by omega)] at hc; exact hc
              refine zs_iconst (v := nI 0) dX7_holds_144 (by decide) ?_
              refine zs_goto (tgt := 173) dX7_holds_145 (by decide) ?_
              refine zs_zast 4 dX7_holds_173 rfl (vp_in_nI (by omega) (by omega)) (by first | exact Or.inl rfl | exact Or.inr rfl | assumption) ?_
              rw [nI_c (n := (h - 1) - 1) (by omega), nF_u]
              show zS _ _ _ _ _ _ [(s, .inr (6, fSen as S.1 S.2.1)), (as 1, .inl (0, 40, .inl (nF S.2.2.1))), (as 2, .inl (0, 40, .inl (nF S.2.2.2.1))), (as 3, .inl (0, 40, .inl (nF S.2.2.2.2))), (as 4, .inl (1, 20, .inl (nF (un pl ((h - 1) - 1) 0)))), (nn, .inr (2, fNi an wk aim w)), (an 1, .inl (0, 60, .inl o1)), (an 2, .inl (0, 60, .inl o2)), (an 3, .inl (0, 60, .inl o3)), (an 4, .inl (0, 60, .inl o4))]
              refine zs_goto (tgt := 200) dX7_holds_174 (by decide) ?_
              refine zs_iinc (v := (nI (i + 1))) (lv' := [(4, .int (nI (i + 1))), (5, .int (nI 1)), (3, .int (nI (h - 1))), (0, .ref s), (1, .ref nn), (2, .int (nI m))]) dX7_holds_200 rfl (nI_add _ 1) (Nat.le_of_ble_eq_true rfl) rfl ?_
              refine zs_goto (tgt := 5) dX7_holds_203 (by decide) ?_
              refine zs_lv [3, 4, 5, 2, 0] rfl ?_
              refine ih (i + 1) (h - 1) (un pl ((h - 1) - 1) 0) (by omega) (by omega) (fun j => un_le (hpl j) (by first | decide | exact bN_1 _)) ?_
              · show _ = vSt (sSo o1 o2 o3 o4 m S) S.2.2.1 i (vRn (sSo o1 o2 o3 o4 m S) S.2.2.1 v0 i)
                rw [← hv]
                unfold vSt
                dsimp only
                rw [if_neg c_2, if_pos c_3, if_pos (show 1 < h by omega), if_neg c_7, if_pos c_8]
            · have c_8 : ¬ ((pl (h - 1)) = 0) := by have hc := c_8; rw [show (0 : Int32) = nI 0 from rfl] at hc; rw [nI_eq' (by omega) (by omega)] at hc; exact hc
              refine zs_iconst (v := nI 1) dX7_holds_140 (by decide) ?_
              refine zs_goto (tgt := 173) dX7_holds_141 (by decide) ?_
              refine zs_zast 4 dX7_holds_173 rfl (vp_in_nI (by omega) (by omega)) (by first | exact Or.inl rfl | exact Or.inr rfl | assumption) ?_
              rw [nI_c (n := (h - 1) - 1) (by omega), nF_u]
              show zS _ _ _ _ _ _ [(s, .inr (6, fSen as S.1 S.2.1)), (as 1, .inl (0, 40, .inl (nF S.2.2.1))), (as 2, .inl (0, 40, .inl (nF S.2.2.2.1))), (as 3, .inl (0, 40, .inl (nF S.2.2.2.2))), (as 4, .inl (1, 20, .inl (nF (un pl ((h - 1) - 1) 1)))), (nn, .inr (2, fNi an wk aim w)), (an 1, .inl (0, 60, .inl o1)), (an 2, .inl (0, 60, .inl o2)), (an 3, .inl (0, 60, .inl o3)), (an 4, .inl (0, 60, .inl o4))]
              refine zs_goto (tgt := 200) dX7_holds_174 (by decide) ?_
              refine zs_iinc (v := (nI (i + 1))) (lv' := [(4, .int (nI (i + 1))), (5, .int (nI 1)), (3, .int (nI (h - 1))), (0, .ref s), (1, .ref nn), (2, .int (nI m))]) dX7_holds_200 rfl (nI_add _ 1) (Nat.le_of_ble_eq_true rfl) rfl ?_
              refine zs_goto (tgt := 5) dX7_holds_203 (by decide) ?_
              refine zs_lv [3, 4, 5, 2, 0] rfl ?_
              refine ih (i + 1) (h - 1) (un pl ((h - 1) - 1) 1) (by omega) (by omega) (fun j => un_le (hpl j) (by first | decide | exact bN_1 _)) ?_
              · show _ = vSt (sSo o1 o2 o3 o4 m S) S.2.2.1 i (vRn (sSo o1 o2 o3 o4 m S) S.2.2.1 v0 i)
                rw [← hv]
                unfold vSt
                dsimp only
                rw [if_neg c_2, if_pos c_3, if_pos (show 1 < h by omega), if_neg c_7, if_neg c_8]
      · have c_3 : ¬ ((S.2.2.1 i) = 7) := by have hc := c_3; rw [nI_eq' (by omega) (by omega)] at hc; exact hc
        refine zs_aload_n dX7_holds_69 rfl rfl ?_
        refine zs_get 0 dX7_holds_70 zf_RX7_11 rfl (v := .ref (as 1)) rfl ?_
        refine zs_iload dX7_holds_73 rfl ?_
        refine zs_iald 1 dX7_holds_75 rfl (vp_in_nI (by omega) (by omega)) ?_
        refine zs_as (y := nI (S.2.2.1 i)) (by rw [nI_c (n := i) (by omega)]; rfl) ?_
        refine zs_bipush (v := nI 8) dX7_holds_76 (by decide) ?_
        refine zs_icmp_ne (tgt := 177) dX7_holds_78 (by decide) (fun c_9 => ?_) (fun c_9 => ?_)
        · have c_9 : ¬ ((S.2.2.1 i) = 8) := by have hc := c_9; rw [nI_eq' (by omega) (by omega)] at hc; exact hc
          refine zs_iload_n dX7_holds_177 rfl ?_
          refine zs_bipush (v := nI 20) dX7_holds_178 (by decide) ?_
          refine zs_icmp_ge (tgt := 200) dX7_holds_180 (by decide) (fun c_10 => ?_) (fun c_10 => ?_)
          · have c_10 : 20 ≤ h := by have hc := c_10; rw [nI_le' (by omega) (by omega)] at hc; exact hc
            refine zs_iinc (v := (nI (i + 1))) (lv' := [(4, .int (nI (i + 1))), (0, .ref s), (1, .ref nn), (2, .int (nI m)), (3, .int (nI h))]) dX7_holds_200 rfl (nI_add _ 1) (Nat.le_of_ble_eq_true rfl) rfl ?_
            refine zs_goto (tgt := 5) dX7_holds_203 (by decide) ?_
            refine zs_lv [1, 2, 3, 4, 0] rfl ?_
            refine ih (i + 1) h pl (by omega) (by omega) hpl ?_
            · show _ = vSt (sSo o1 o2 o3 o4 m S) S.2.2.1 i (vRn (sSo o1 o2 o3 o4 m S) S.2.2.1 v0 i)
              rw [← hv]
              unfold vSt
              dsimp only
              rw [if_neg c_2, if_neg c_3, if_neg c_9, if_neg (show ¬ h < 20 by omega)]
          · have c_10 : ¬ (20 ≤ h) := by have hc := c_10; rw [nI_le' (by omega) (by omega)] at hc; exact hc
            refine zs_aload_n dX7_holds_183 rfl rfl ?_
            refine zs_get 0 dX7_holds_184 zf_RX7_21 rfl (v := .ref (as 4)) rfl ?_
            refine zs_iload_n dX7_holds_187 rfl ?_
            refine zs_aload_n dX7_holds_188 rfl rfl ?_
            refine zs_aload_n dX7_holds_189 rfl rfl ?_
            refine zs_iload_n dX7_holds_190 rfl ?_
            refine zs_iload dX7_holds_191 rfl ?_
            refine zs_callV (M := mX7_isSo) (As := [.ref nn, .int (nI m), .int (nI i)]) (st := [.int (nI h), .ref (as 4)]) (Kc := [(s, .inr (6, fSen as S.1 S.2.1)), (as 1, .inl (0, 40, .inl (nF S.2.2.1))), (as 2, .inl (0, 40, .inl (nF S.2.2.2.1))), (as 3, .inl (0, 40, .inl (nF S.2.2.2.2))), (nn, .inr (2, fNi an wk aim w)), (an 1, .inl (0, 60, .inl o1)), (an 2, .inl (0, 60, .inl o2)), (an 3, .inl (0, 60, .inl o3)), (an 4, .inl (0, 60, .inl o4))]) (Kr := [(as 4, .inl (1, 20, .inl (nF pl)))]) [0, 1, 2, 3, 5, 6, 7, 8, 9] [4] 0 dX7_holds_193 zl_RX7_127 kX7_isSo rfl rfl rfl rfl rfl (by decide) rfl rfl (show dd - 1 + 1 ≤ dd by omega) (Nat.zero_le _) (Nat.zero_le _) (Nat.le_of_ble_eq_true rfl) (s_isSo l (dd - 1) s as S nn an wk aim w o1 o2 o3 o4 m i (by omega) hV hm (by omega)) (fun r K1 hr => ?_)
            obtain ⟨rfl, rfl⟩ := hr
            refine zs_K (K' := [(s, .inr (6, fSen as S.1 S.2.1)), (as 1, .inl (0, 40, .inl (nF S.2.2.1))), (as 2, .inl (0, 40, .inl (nF S.2.2.2.1))), (as 3, .inl (0, 40, .inl (nF S.2.2.2.2))), (as 4, .inl (1, 20, .inl (nF pl))), (nn, .inr (2, fNi an wk aim w)), (an 1, .inl (0, 60, .inl o1)), (an 2, .inl (0, 60, .inl o2)), (an 3, .inl (0, 60, .inl o3)), (an 4, .inl (0, 60, .inl o4))]) [1, 2, 3, 4, 0, 5, 6, 7, 8, 9] rfl (by decide) ?_
            refine zs_zast 4 dX7_holds_196 rfl (vp_in_nI (by omega) (by omega)) (bN_z _) ?_
            rw [nI_c (n := h) (by omega), nF_u]
            show zS _ _ _ _ _ _ [(s, .inr (6, fSen as S.1 S.2.1)), (as 1, .inl (0, 40, .inl (nF S.2.2.1))), (as 2, .inl (0, 40, .inl (nF S.2.2.2.1))), (as 3, .inl (0, 40, .inl (nF S.2.2.2.2))), (as 4, .inl (1, 20, .inl (nF (un pl h (bN ((sSo o1 o2 o3 o4 m S) i)))))), (nn, .inr (2, fNi an wk aim w)), (an 1, .inl (0, 60, .inl o1)), (an 2, .inl (0, 60, .inl o2)), (an 3, .inl (0, 60, .inl o3)), (an 4, .inl (0, 60, .inl o4))]
            refine zs_iinc (v := (nI (h + 1))) (lv' := [(3, .int (nI (h + 1))), (0, .ref s), (1, .ref nn), (2, .int (nI m)), (4, .int (nI i))]) dX7_holds_197 rfl (nI_add _ 1) (Nat.le_of_ble_eq_true rfl) rfl ?_
            refine zs_iinc (v := (nI (i + 1))) (lv' := [(4, .int (nI (i + 1))), (3, .int (nI (h + 1))), (0, .ref s), (1, .ref nn), (2, .int (nI m))]) dX7_holds_200 rfl (nI_add _ 1) (Nat.le_of_ble_eq_true rfl) rfl ?_
            refine zs_goto (tgt := 5) dX7_holds_203 (by decide) ?_
            refine zs_lv [2, 3, 4, 1, 0] rfl ?_
            refine ih (i + 1) (h + 1) (un pl h (bN ((sSo o1 o2 o3 o4 m S) i))) (by omega) (by omega) (fun j => un_le (hpl j) (by first | decide | exact bN_1 _)) ?_
            · show _ = vSt (sSo o1 o2 o3 o4 m S) S.2.2.1 i (vRn (sSo o1 o2 o3 o4 m S) S.2.2.1 v0 i)
              rw [← hv]
              unfold vSt
              dsimp only
              rw [if_neg c_2, if_neg c_3, if_neg c_9, if_pos (show h < 20 by omega)]
        · have c_9 : (S.2.2.1 i) = 8 := by have hc := c_9; rw [nI_eq' (by omega) (by omega)] at hc; exact hc
          refine zs_iload_n dX7_holds_81 rfl ?_
          refine zs_iconst (v := nI 1) dX7_holds_82 (by decide) ?_
          refine zs_icmp_le (tgt := 200) dX7_holds_83 (by decide) (fun c_11 => ?_) (fun c_11 => ?_)
          · have c_11 : h ≤ 1 := by have hc := c_11; rw [nI_le' (by omega) (by omega)] at hc; exact hc
            refine zs_iinc (v := (nI (i + 1))) (lv' := [(4, .int (nI (i + 1))), (0, .ref s), (1, .ref nn), (2, .int (nI m)), (3, .int (nI h))]) dX7_holds_200 rfl (nI_add _ 1) (Nat.le_of_ble_eq_true rfl) rfl ?_
            refine zs_goto (tgt := 5) dX7_holds_203 (by decide) ?_
            refine zs_lv [1, 2, 3, 4, 0] rfl ?_
            refine ih (i + 1) h pl (by omega) (by omega) hpl ?_
            · show _ = vSt (sSo o1 o2 o3 o4 m S) S.2.2.1 i (vRn (sSo o1 o2 o3 o4 m S) S.2.2.1 v0 i)
              rw [← hv]
              unfold vSt
              dsimp only
              rw [if_neg c_2, if_neg c_3, if_pos c_9, if_neg (show ¬ 1 < h by omega)]
          · have c_11 : ¬ (h ≤ 1) := by have hc := c_11; rw [nI_le' (by omega) (by omega)] at hc; exact hc
            refine zs_iinc (v := (nI (h - 1))) (lv' := [(3, .int (nI (h - 1))), (0, .ref s), (1, .ref nn), (2, .int (nI m)), (4, .int (nI i))]) dX7_holds_86 rfl (nI_dec (by omega)) (Nat.le_of_ble_eq_true rfl) rfl ?_
            refine zs_aload_n dX7_holds_89 rfl rfl ?_
            refine zs_get 0 dX7_holds_90 zf_RX7_11 rfl (v := .ref (as 1)) rfl ?_
            refine zs_iload dX7_holds_93 rfl ?_
            refine zs_iald 1 dX7_holds_95 rfl (vp_in_nI (by omega) (by omega)) ?_
            refine zs_as (y := nI (S.2.2.1 i)) (by rw [nI_c (n := i) (by omega)]; rfl) ?_
            refine zs_bipush (v := nI 7) dX7_holds_96 (by decide) ?_
            refine zs_icmp_ne (tgt := 105) dX7_holds_98 (by decide) (fun c_12 => ?_) (fun c_12 => (c_3 ((nI_eq' (by omega) (by omega)).mp c_12) : False).elim)
            refine zs_iconst (v := nI 0) dX7_holds_105 (by decide) ?_
            refine zs_istore (lv' := [(5, .int (nI 0)), (3, .int (nI (h - 1))), (0, .ref s), (1, .ref nn), (2, .int (nI m)), (4, .int (nI i))]) dX7_holds_106 (Nat.le_of_ble_eq_true rfl) rfl ?_
            refine zs_aload_n dX7_holds_108 rfl rfl ?_
            refine zs_get 0 dX7_holds_109 zf_RX7_21 rfl (v := .ref (as 4)) rfl ?_
            refine zs_iload_n dX7_holds_112 rfl ?_
            refine zs_iconst (v := nI 1) dX7_holds_113 (by decide) ?_
            refine zs_isub dX7_holds_114 ?_
            refine zs_as (y := nI ((h - 1) - 1)) (nI_sub (by omega)) ?_
            refine zs_iload dX7_holds_115 rfl ?_
            refine zs_if_eq (tgt := 148) dX7_holds_117 (by decide) (fun c_13 => ?_) (fun c_13 => (by first | exact absurd c_13 (by decide) | exact absurd (by decide) c_13 : False).elim)
            refine zs_aload_n dX7_holds_148 rfl rfl ?_
            refine zs_get 0 dX7_holds_149 zf_RX7_21 rfl (v := .ref (as 4)) rfl ?_
            refine zs_iload_n dX7_holds_152 rfl ?_
            refine zs_iconst (v := nI 1) dX7_holds_153 (by decide) ?_
            refine zs_isub dX7_holds_154 ?_
            refine zs_as (y := nI ((h - 1) - 1)) (nI_sub (by omega)) ?_
            refine zs_zald 4 dX7_holds_155 rfl (vp_in_nI (by omega) (by omega)) ?_
            refine zs_as (y := nI (pl ((h - 1) - 1))) (by rw [nI_c (n := (h - 1) - 1) (by omega)]; rfl) ?_
            refine zs_if_ne (tgt := 168) dX7_holds_156 (by decide) (fun c_14 => ?_) (fun c_14 => ?_)
            · have c_14 : ¬ ((pl ((h - 1) - 1)) = 0) := by have hc := c_14; rw [show (0 : Int32) = nI 0 from rfl] at hc; rw [nI_eq' (by omega) (by omega)] at hc; exact hc
              refine zs_iconst (v := nI 1) dX7_holds_168 (by decide) ?_
              refine zs_goto (tgt := 173) dX7_holds_169 (by decide) ?_
              refine zs_zast 4 dX7_holds_173 rfl (vp_in_nI (by omega) (by omega)) (by first | exact Or.inl rfl | exact Or.inr rfl | assumption) ?_
              rw [nI_c (n := (h - 1) - 1) (by omega), nF_u]
              show zS _ _ _ _ _ _ [(s, .inr (6, fSen as S.1 S.2.1)), (as 1, .inl (0, 40, .inl (nF S.2.2.1))), (as 2, .inl (0, 40, .inl (nF S.2.2.2.1))), (as 3, .inl (0, 40, .inl (nF S.2.2.2.2))), (as 4, .inl (1, 20, .inl (nF (un pl ((h - 1) - 1) 1)))), (nn, .inr (2, fNi an wk aim w)), (an 1, .inl (0, 60, .inl o1)), (an 2, .inl (0, 60, .inl o2)), (an 3, .inl (0, 60, .inl o3)), (an 4, .inl (0, 60, .inl o4))]
              refine zs_goto (tgt := 200) dX7_holds_174 (by decide) ?_
              refine zs_iinc (v := (nI (i + 1))) (lv' := [(4, .int (nI (i + 1))), (5, .int (nI 0)), (3, .int (nI (h - 1))), (0, .ref s), (1, .ref nn), (2, .int (nI m))]) dX7_holds_200 rfl (nI_add _ 1) (Nat.le_of_ble_eq_true rfl) rfl ?_
              refine zs_goto (tgt := 5) dX7_holds_203 (by decide) ?_
              refine zs_lv [3, 4, 5, 2, 0] rfl ?_
              refine ih (i + 1) (h - 1) (un pl ((h - 1) - 1) 1) (by omega) (by omega) (fun j => un_le (hpl j) (by first | decide | exact bN_1 _)) ?_
              · show _ = vSt (sSo o1 o2 o3 o4 m S) S.2.2.1 i (vRn (sSo o1 o2 o3 o4 m S) S.2.2.1 v0 i)
                rw [← hv]
                unfold vSt
                dsimp only
                rw [if_neg c_2, if_neg c_3, if_pos c_9, if_pos (show 1 < h by omega), if_neg c_14]
            · have c_14 : (pl ((h - 1) - 1)) = 0 := by have hc := c_14; rw [show (0 : Int32) = nI 0 from rfl] at hc; rw [nI_eq' (by omega) (by omega)] at hc; exact hc
              refine zs_aload_n dX7_holds_159 rfl rfl ?_
              refine zs_get 0 dX7_holds_160 zf_RX7_21 rfl (v := .ref (as 4)) rfl ?_
              refine zs_iload_n dX7_holds_163 rfl ?_
              refine zs_zald 4 dX7_holds_164 rfl (vp_in_nI (by omega) (by omega)) ?_
              refine zs_as (y := nI (pl (h - 1))) (by rw [nI_c (n := h - 1) (by omega)]; rfl) ?_
              refine zs_if_eq (tgt := 172) dX7_holds_165 (by decide) (fun c_15 => ?_) (fun c_15 => ?_)
              · have c_15 : (pl (h - 1)) = 0 := by have hc := c_15; rw [show (0 : Int32) = nI 0 from rfl] at hc; rw [nI_eq' (by omega) (by omega)] at hc; exact hc
                refine zs_iconst (v := nI 0) dX7_holds_172 (by decide) ?_
                refine zs_zast 4 dX7_holds_173 rfl (vp_in_nI (by omega) (by omega)) (by first | exact Or.inl rfl | exact Or.inr rfl | assumption) ?_
                rw [nI_c (n := (h - 1) - 1) (by omega), nF_u]
                show zS _ _ _ _ _ _ [(s, .inr (6, fSen as S.1 S.2.1)), (as 1, .inl (0, 40, .inl (nF S.2.2.1))), (as 2, .inl (0, 40, .inl (nF S.2.2.2.1))), (as 3, .inl (0, 40, .inl (nF S.2.2.2.2))), (as 4, .inl (1, 20, .inl (nF (un pl ((h - 1) - 1) 0)))), (nn, .inr (2, fNi an wk aim w)), (an 1, .inl (0, 60, .inl o1)), (an 2, .inl (0, 60, .inl o2)), (an 3, .inl (0, 60, .inl o3)), (an 4, .inl (0, 60, .inl o4))]
                refine zs_goto (tgt := 200) dX7_holds_174 (by decide) ?_
                refine zs_iinc (v := (nI (i + 1))) (lv' := [(4, .int (nI (i + 1))), (5, .int (nI 0)), (3, .int (nI (h - 1))), (0, .ref s), (1, .ref nn), (2, .int (nI m))]) dX7_holds_200 rfl (nI_add _ 1) (Nat.le_of_ble_eq_true rfl) rfl ?_
                refine zs_goto (tgt := 5) dX7_holds_203 (by decide) ?_
                refine zs_lv [3, 4, 5, 2, 0] rfl ?_
                refine ih (i + 1) (h - 1) (un pl ((h - 1) - 1) 0) (by omega) (by omega) (fun j => un_le (hpl j) (by first | decide | exact bN_1 _)) ?_
                · show _ = vSt (sSo o1 o2 o3 o4 m S) S.2.2.1 i (vRn (sSo o1 o2 o3 o4 m S) S.2.2.1 v0 i)
                  rw [← hv]
                  unfold vSt
                  dsimp only
                  rw [if_neg c_2, if_neg c_3, if_pos c_9, if_pos (show 1 < h by omega), if_pos c_14, if_pos c_15]
              · have c_15 : ¬ ((pl (h - 1)) = 0) := by have hc := c_15; rw [show (0 : Int32) = nI 0 from rfl] at hc; rw [nI_eq' (by omega) (by omega)] at hc; exact hc
                refine zs_iconst (v := nI 1) dX7_holds_168 (by decide) ?_
                refine zs_goto (tgt := 173) dX7_holds_169 (by decide) ?_
                refine zs_zast 4 dX7_holds_173 rfl (vp_in_nI (by omega) (by omega)) (by first | exact Or.inl rfl | exact Or.inr rfl | assumption) ?_
                rw [nI_c (n := (h - 1) - 1) (by omega), nF_u]
                show zS _ _ _ _ _ _ [(s, .inr (6, fSen as S.1 S.2.1)), (as 1, .inl (0, 40, .inl (nF S.2.2.1))), (as 2, .inl (0, 40, .inl (nF S.2.2.2.1))), (as 3, .inl (0, 40, .inl (nF S.2.2.2.2))), (as 4, .inl (1, 20, .inl (nF (un pl ((h - 1) - 1) 1)))), (nn, .inr (2, fNi an wk aim w)), (an 1, .inl (0, 60, .inl o1)), (an 2, .inl (0, 60, .inl o2)), (an 3, .inl (0, 60, .inl o3)), (an 4, .inl (0, 60, .inl o4))]
                refine zs_goto (tgt := 200) dX7_holds_174 (by decide) ?_
                refine zs_iinc (v := (nI (i + 1))) (lv' := [(4, .int (nI (i + 1))), (5, .int (nI 0)), (3, .int (nI (h - 1))), (0, .ref s), (1, .ref nn), (2, .int (nI m))]) dX7_holds_200 rfl (nI_add _ 1) (Nat.le_of_ble_eq_true rfl) rfl ?_
                refine zs_goto (tgt := 5) dX7_holds_203 (by decide) ?_
                refine zs_lv [3, 4, 5, 2, 0] rfl ?_
                refine ih (i + 1) (h - 1) (un pl ((h - 1) - 1) 1) (by omega) (by omega) (fun j => un_le (hpl j) (by first | decide | exact bN_1 _)) ?_
                · show _ = vSt (sSo o1 o2 o3 o4 m S) S.2.2.1 i (vRn (sSo o1 o2 o3 o4 m S) S.2.2.1 v0 i)
                  rw [← hv]
                  unfold vSt
                  dsimp only
                  rw [if_neg c_2, if_neg c_3, if_pos c_9, if_pos (show 1 < h by omega), if_pos c_14, if_neg c_15]
    · have c_2 : (S.2.2.1 i) = 6 := by have hc := c_2; rw [nI_eq' (by omega) (by omega)] at hc; exact hc
      refine zs_iload_n dX7_holds_26 rfl ?_
      refine zs_if_le (tgt := 200) dX7_holds_27 (by decide) (fun c_16 => ?_) (fun c_16 => ?_)
      · have c_16 : h ≤ 0 := by have hc := c_16; rw [show (0 : Int32) = nI 0 from rfl] at hc; rw [nI_le' (by omega) (by omega)] at hc; exact hc
        refine zs_iinc (v := (nI (i + 1))) (lv' := [(4, .int (nI (i + 1))), (0, .ref s), (1, .ref nn), (2, .int (nI m)), (3, .int (nI h))]) dX7_holds_200 rfl (nI_add _ 1) (Nat.le_of_ble_eq_true rfl) rfl ?_
        refine zs_goto (tgt := 5) dX7_holds_203 (by decide) ?_
        refine zs_lv [1, 2, 3, 4, 0] rfl ?_
        refine ih (i + 1) h pl (by omega) (by omega) hpl ?_
        · show _ = vSt (sSo o1 o2 o3 o4 m S) S.2.2.1 i (vRn (sSo o1 o2 o3 o4 m S) S.2.2.1 v0 i)
          rw [← hv]
          unfold vSt
          dsimp only
          rw [if_pos c_2, if_neg (show ¬ 0 < h by omega)]
      · have c_16 : ¬ (h ≤ 0) := by have hc := c_16; rw [show (0 : Int32) = nI 0 from rfl] at hc; rw [nI_le' (by omega) (by omega)] at hc; exact hc
        refine zs_aload_n dX7_holds_30 rfl rfl ?_
        refine zs_get 0 dX7_holds_31 zf_RX7_21 rfl (v := .ref (as 4)) rfl ?_
        refine zs_iload_n dX7_holds_34 rfl ?_
        refine zs_iconst (v := nI 1) dX7_holds_35 (by decide) ?_
        refine zs_isub dX7_holds_36 ?_
        refine zs_as (y := nI (h - 1)) (nI_sub (by omega)) ?_
        refine zs_aload_n dX7_holds_37 rfl rfl ?_
        refine zs_get 0 dX7_holds_38 zf_RX7_21 rfl (v := .ref (as 4)) rfl ?_
        refine zs_iload_n dX7_holds_41 rfl ?_
        refine zs_iconst (v := nI 1) dX7_holds_42 (by decide) ?_
        refine zs_isub dX7_holds_43 ?_
        refine zs_as (y := nI (h - 1)) (nI_sub (by omega)) ?_
        refine zs_zald 4 dX7_holds_44 rfl (vp_in_nI (by omega) (by omega)) ?_
        refine zs_as (y := nI (pl (h - 1))) (by rw [nI_c (n := h - 1) (by omega)]; rfl) ?_
        refine zs_if_ne (tgt := 52) dX7_holds_45 (by decide) (fun c_17 => ?_) (fun c_17 => ?_)
        · have c_17 : ¬ ((pl (h - 1)) = 0) := by have hc := c_17; rw [show (0 : Int32) = nI 0 from rfl] at hc; rw [nI_eq' (by omega) (by omega)] at hc; exact hc
          refine zs_iconst (v := nI 0) dX7_holds_52 (by decide) ?_
          refine zs_zast 4 dX7_holds_53 rfl (vp_in_nI (by omega) (by omega)) (by first | exact Or.inl rfl | exact Or.inr rfl | assumption) ?_
          rw [nI_c (n := h - 1) (by omega), nF_u]
          show zS _ _ _ _ _ _ [(s, .inr (6, fSen as S.1 S.2.1)), (as 1, .inl (0, 40, .inl (nF S.2.2.1))), (as 2, .inl (0, 40, .inl (nF S.2.2.2.1))), (as 3, .inl (0, 40, .inl (nF S.2.2.2.2))), (as 4, .inl (1, 20, .inl (nF (un pl (h - 1) 0)))), (nn, .inr (2, fNi an wk aim w)), (an 1, .inl (0, 60, .inl o1)), (an 2, .inl (0, 60, .inl o2)), (an 3, .inl (0, 60, .inl o3)), (an 4, .inl (0, 60, .inl o4))]
          refine zs_goto (tgt := 200) dX7_holds_54 (by decide) ?_
          refine zs_iinc (v := (nI (i + 1))) (lv' := [(4, .int (nI (i + 1))), (0, .ref s), (1, .ref nn), (2, .int (nI m)), (3, .int (nI h))]) dX7_holds_200 rfl (nI_add _ 1) (Nat.le_of_ble_eq_true rfl) rfl ?_
          refine zs_goto (tgt := 5) dX7_holds_203 (by decide) ?_
          refine zs_lv [1, 2, 3, 4, 0] rfl ?_
          refine ih (i + 1) h (un pl (h - 1) 0) (by omega) (by omega) (fun j => un_le (hpl j) (by first | decide | exact bN_1 _)) ?_
          · show _ = vSt (sSo o1 o2 o3 o4 m S) S.2.2.1 i (vRn (sSo o1 o2 o3 o4 m S) S.2.2.1 v0 i)
            rw [← hv]
            unfold vSt
            dsimp only
            rw [if_pos c_2, if_pos (show 0 < h by omega), if_neg c_17]
        · have c_17 : (pl (h - 1)) = 0 := by have hc := c_17; rw [show (0 : Int32) = nI 0 from rfl] at hc; rw [nI_eq' (by omega) (by omega)] at hc; exact hc
          refine zs_iconst (v := nI 1) dX7_holds_48 (by decide) ?_
          refine zs_goto (tgt := 53) dX7_holds_49 (by decide) ?_
          refine zs_zast 4 dX7_holds_53 rfl (vp_in_nI (by omega) (by omega)) (by first | exact Or.inl rfl | exact Or.inr rfl | assumption) ?_
          rw [nI_c (n := h - 1) (by omega), nF_u]
          show zS _ _ _ _ _ _ [(s, .inr (6, fSen as S.1 S.2.1)), (as 1, .inl (0, 40, .inl (nF S.2.2.1))), (as 2, .inl (0, 40, .inl (nF S.2.2.2.1))), (as 3, .inl (0, 40, .inl (nF S.2.2.2.2))), (as 4, .inl (1, 20, .inl (nF (un pl (h - 1) 1)))), (nn, .inr (2, fNi an wk aim w)), (an 1, .inl (0, 60, .inl o1)), (an 2, .inl (0, 60, .inl o2)), (an 3, .inl (0, 60, .inl o3)), (an 4, .inl (0, 60, .inl o4))]
          refine zs_goto (tgt := 200) dX7_holds_54 (by decide) ?_
          refine zs_iinc (v := (nI (i + 1))) (lv' := [(4, .int (nI (i + 1))), (0, .ref s), (1, .ref nn), (2, .int (nI m)), (3, .int (nI h))]) dX7_holds_200 rfl (nI_add _ 1) (Nat.le_of_ble_eq_true rfl) rfl ?_
          refine zs_goto (tgt := 5) dX7_holds_203 (by decide) ?_
          refine zs_lv [1, 2, 3, 4, 0] rfl ?_
          refine ih (i + 1) h (un pl (h - 1) 1) (by omega) (by omega) (fun j => un_le (hpl j) (by first | decide | exact bN_1 _)) ?_
          · show _ = vSt (sSo o1 o2 o3 o4 m S) S.2.2.1 i (vRn (sSo o1 o2 o3 o4 m S) S.2.2.1 v0 i)
            rw [← hv]
            unfold vSt
            dsimp only
            rw [if_pos c_2, if_pos (show 0 < h by omega), if_pos c_17]
set_option maxRecDepth 100000 in
theorem s_holds (l : Launch) (dd : Nat) (s : Nat) (as : Nat → Nat) (S : zSe) (nn : Nat) (an : Nat → Nat) (wk aim w : Nat) (o1 o2 o3 o4 : Nat → Int32) (m : Nat) (pl : Nat → Nat) (hd : 2 ≤ dd) (hV : sV S) (hm : m < 60) (h40 : S.2.1 ≤ 40) (hpl : ∀ j, pl j ≤ 1) : zSp l mX7_holds dd 0 0 [.ref s, .ref nn, .int (nI m)] [(s, .inr (6, fSen as S.1 S.2.1)), (as 1, .inl (0, 40, .inl (nF S.2.2.1))), (as 2, .inl (0, 40, .inl (nF S.2.2.2.1))), (as 3, .inl (0, 40, .inl (nF S.2.2.2.2))), (as 4, .inl (1, 20, .inl (nF pl))), (nn, .inr (2, fNi an wk aim w)), (an 1, .inl (0, 60, .inl o1)), (an 2, .inl (0, 60, .inl o2)), (an 3, .inl (0, 60, .inl o3)), (an 4, .inl (0, 60, .inl o4))] (fun r K' => r = some (.int (nI (bN (vHo (vRn (sSo o1 o2 o3 o4 m S) S.2.2.1 (0, pl) S.2.1))))) ∧ ∃ pl2, (∀ j, pl2 j ≤ 1) ∧ K' = kSn s as S ++ ([(as 4, .inl (1, 20, .inl (nF pl2)))] ++ kNi nn an wk aim w o1 o2 o3 o4)) := by
  refine zSp.of (by decide) (Nat.le_of_ble_eq_true rfl) (fun h0 => ?_)
  show zS _ 0 0 0 [(0, .ref s), (1, .ref nn), (2, .int (nI m))] [] [(s, .inr (6, fSen as S.1 S.2.1)), (as 1, .inl (0, 40, .inl (nF S.2.2.1))), (as 2, .inl (0, 40, .inl (nF S.2.2.2.1))), (as 3, .inl (0, 40, .inl (nF S.2.2.2.2))), (as 4, .inl (1, 20, .inl (nF pl))), (nn, .inr (2, fNi an wk aim w)), (an 1, .inl (0, 60, .inl o1)), (an 2, .inl (0, 60, .inl o2)), (an 3, .inl (0, 60, .inl o3)), (an 4, .inl (0, 60, .inl o4))]
  refine zs_iconst (v := nI 0) dX7_holds_0 (by decide) ?_
  refine zs_istore_n (lv' := [(3, .int (nI 0)), (0, .ref s), (1, .ref nn), (2, .int (nI m))]) dX7_holds_1 (Nat.le_of_ble_eq_true rfl) rfl ?_
  refine zs_iconst (v := nI 0) dX7_holds_2 (by decide) ?_
  refine zs_istore (lv' := [(4, .int (nI 0)), (3, .int (nI 0)), (0, .ref s), (1, .ref nn), (2, .int (nI m))]) dX7_holds_3 (Nat.le_of_ble_eq_true rfl) rfl ?_
  refine zs_lv [2, 3, 4, 1, 0] rfl ?_
  refine lp_holds s as S nn an wk aim w o1 o2 o3 o4 m (0, pl) hd hV hm h40 (fun h pl2 i hh hpl2 hv => ?_) S.2.1 0 0 pl (Nat.zero_add _) (by omega) hpl rfl
  have hp0 := hpl2 0
  refine zs_iload_n dX7_holds_206 rfl ?_
  refine zs_if_le (tgt := 223) dX7_holds_207 (by decide) (fun c_1 => ?_) (fun c_1 => ?_)
  · have c_1 : h ≤ 0 := by have hc := c_1; rw [show (0 : Int32) = nI 0 from rfl] at hc; rw [nI_le' (by omega) (by omega)] at hc; exact hc
    refine zs_iconst (v := nI 0) dX7_holds_223 (by decide) ?_
    exact zs_zret dX7_holds_224 rfl (by first | exact Or.inl rfl | exact Or.inr rfl) ⟨by rw [← hv, vHo, bN_f (show ¬ (0 < h ∧ ¬ pl2 0 = 0) from fun z => by have := z.1; omega)] <;> rfl, pl2, hpl2, rfl⟩
  · have c_1 : ¬ (h ≤ 0) := by have hc := c_1; rw [show (0 : Int32) = nI 0 from rfl] at hc; rw [nI_le' (by omega) (by omega)] at hc; exact hc
    refine zs_aload_n dX7_holds_210 rfl rfl ?_
    refine zs_get 0 dX7_holds_211 zf_RX7_21 rfl (v := .ref (as 4)) rfl ?_
    refine zs_iconst (v := nI 0) dX7_holds_214 (by decide) ?_
    refine zs_zald 4 dX7_holds_215 rfl (vp_in_nI (by omega) (by omega)) ?_
    refine zs_as (y := nI (pl2 0)) (by rw [nI_c (n := 0) (by omega)]; rfl) ?_
    refine zs_if_eq (tgt := 223) dX7_holds_216 (by decide) (fun c_2 => ?_) (fun c_2 => ?_)
    · have c_2 : (pl2 0) = 0 := by have hc := c_2; rw [show (0 : Int32) = nI 0 from rfl] at hc; rw [nI_eq' (by omega) (by omega)] at hc; exact hc
      refine zs_iconst (v := nI 0) dX7_holds_223 (by decide) ?_
      exact zs_zret dX7_holds_224 rfl (by first | exact Or.inl rfl | exact Or.inr rfl) ⟨by rw [← hv, vHo, bN_f (show ¬ (0 < h ∧ ¬ pl2 0 = 0) from fun z => z.2 c_2)] <;> rfl, pl2, hpl2, rfl⟩
    · have c_2 : ¬ ((pl2 0) = 0) := by have hc := c_2; rw [show (0 : Int32) = nI 0 from rfl] at hc; rw [nI_eq' (by omega) (by omega)] at hc; exact hc
      refine zs_iconst (v := nI 1) dX7_holds_219 (by decide) ?_
      refine zs_goto (tgt := 224) dX7_holds_220 (by decide) ?_
      exact zs_zret dX7_holds_224 rfl (by first | exact Or.inl rfl | exact Or.inr rfl) ⟨by rw [← hv, vHo, bN_t (show 0 < h ∧ ¬ pl2 0 = 0 from ⟨by omega, c_2⟩)] <;> rfl, pl2, hpl2, rfl⟩
