/-! ===== a sentence's text ===== -/
/-- a sentence's data: how many ones, how many steps, what each does, its sign, its number -/
abbrev zSe : Type := Nat × Nat × (Nat → Nat) × (Nat → Nat) × (Nat → Nat)
def fSen (as : Nat → Nat) (on st : Nat) : List Value := [.int (nI on), .int (nI st), .ref (as 1), .ref (as 2), .ref (as 3), .ref (as 4)]
abbrev kSn (s : Nat) (as : Nat → Nat) (S : zSe) : zK := [(s, .inr (6, fSen as S.1 S.2.1)), (as 1, .inl (0, 40, .inl (nF S.2.2.1))), (as 2, .inl (0, 40, .inl (nF S.2.2.2.1))), (as 3, .inl (0, 40, .inl (nF S.2.2.2.2)))]
abbrev zPs : Type := Nat × zTk × Nat × zSe
def sAd (S : zSe) (j c v : Nat) : zSe := (S.1, S.2.1 + 1, un S.2.2.1 S.2.1 j, un S.2.2.2.1 S.2.1 c, un S.2.2.2.2 S.2.1 v)
abbrev sOn (S : zSe) : zSe := (S.1 + 1, S.2)
def mOf (w : Option Nat) : Nat := if w = some 24 then 1 else if w = some 25 then 2 else if w = some 26 then 3 else if w = some 27 then 4 else if w = some 28 then 5 else 0
def oM (w : Option Nat) : Int32 := if w = some 24 then nI 1 else if w = some 25 then nI 2 else if w = some 26 then nI 3 else if w = some 27 then nI 4 else if w = some 28 then nI 5 else -1
theorem oM_0 {w : Option Nat} (h : oM w = -1) : mOf w = 0 := by
  unfold oM at h
  unfold mOf
  split at h
  · exact absurd h (by decide)
  · split at h
    · exact absurd h (by decide)
    · split at h
      · exact absurd h (by decide)
      · split at h
        · exact absurd h (by decide)
        · split at h
          · exact absurd h (by decide)
          · simp only [*, if_false]
theorem oM_1 {w : Option Nat} (h : ¬ oM w = -1) : ¬ mOf w = 0 ∧ oM w = nI (mOf w) ∧ mOf w ≤ 5 := by
  unfold oM at h ⊢
  unfold mOf
  by_cases h1 : w = some 24
  · simp only [if_pos h1]; decide
  · simp only [if_neg h1] at h ⊢
    by_cases h2 : w = some 25
    · simp only [if_pos h2]; decide
    · simp only [if_neg h2] at h ⊢
      by_cases h3 : w = some 26
      · simp only [if_pos h3]; decide
      · simp only [if_neg h3] at h ⊢
        by_cases h4 : w = some 27
        · simp only [if_pos h4]; decide
        · simp only [if_neg h4] at h ⊢
          by_cases h5 : w = some 28
          · simp only [if_pos h5]; decide
          · simp only [if_neg h5] at h
            exact absurd trivial h
def sCmp (b : Nat → Nat) (n L m : Nat) (τ : zTk) (tk : Nat) (S : zSe) : zPs :=
  if tAt τ 60 = false ∧ tAt τ 61 = false ∧ tAt τ 62 = false then (1, τ, tk, S) else
  if tNu (nxt b n L τ) 0 2147483647 = 0 then (0, nxt b n L (nxt b n L τ), (nxt b n L τ).2.2.2.1, sAd S m τ.2.2.2.1 (nxt b n L τ).2.2.2.1) else (tNu (nxt b n L τ) 0 2147483647, nxt b n L τ, tk, S)
/-- q joints at most, by the word w, as the step j -/
def sJn (b : Nat → Nat) (n L w j : Nat) (f : zTk → Nat → zSe → zPs) : Nat → zTk → Nat → zSe → zPs
  | 0, τ, tk, S => (4, τ, tk, S)
  | q + 1, τ, tk, S => if ¬ τ.2.2.2.2 = some w then (0, τ, tk, S) else if (f (nxt b n L τ) tk S).1 = 0 then sJn b n L w j f q (f (nxt b n L τ) tk S).2.1 (f (nxt b n L τ) tk S).2.2.1 (sAd (f (nxt b n L τ) tk S).2.2.2 j 0 0) else f (nxt b n L τ) tk S
def sJo (b : Nat → Nat) (n L w j : Nat) (f : zTk → Nat → zSe → zPs) (τ : zTk) (tk : Nat) (S : zSe) : zPs :=
  if (f τ tk S).1 = 0 then sJn b n L w j f 20 (f τ tk S).2.1 (f τ tk S).2.2.1 (f τ tk S).2.2.2 else f τ tk S
def sBk (b : Nat → Nat) (n L : Nat) (f : zTk → Nat → zSe → zPs) (τ : zTk) (tk : Nat) (S : zSe) : zPs :=
  if (f τ tk S).1 = 0 then (if tAt (f τ tk S).2.1 41 = true then (0, nxt b n L (f τ tk S).2.1, (f τ tk S).2.2) else (1, (f τ tk S).2)) else f τ tk S
def sNt (f : zTk → Nat → zSe → zPs) (τ : zTk) (tk : Nat) (S : zSe) : zPs :=
  if (f τ tk S).1 = 0 then (0, (f τ tk S).2.1, (f τ tk S).2.2.1, sAd (f τ tk S).2.2.2 6 0 0) else f τ tk S
abbrev sBad (τ : zTk) : Prop := tAt τ 40 = false ∧ ¬ τ.2.2.2.2 = some 22 ∧ ¬ τ.2.2.2.2 = some 23 ∧ mOf τ.2.2.2.2 = 0
/-- one, d brackets and nots deep at most -/
def sOne (b : Nat → Nat) (n L : Nat) : Nat → zTk → Nat → zSe → zPs
  | 0, τ, tk, S => if sBad τ then (1, τ, tk, S) else (4, τ, tk, S)
  | d + 1, τ, tk, S => if sBad τ then (1, τ, tk, S) else if 20 ≤ S.1 then (4, τ, tk, S) else
    if tAt τ 40 = true then sBk b n L (sJo b n L 20 8 (sJo b n L 21 7 (sOne b n L d))) (nxt b n L τ) tk (sOn S) else
    if τ.2.2.2.2 = some 22 then sNt (sOne b n L d) (nxt b n L τ) tk (sOn S) else
    if τ.2.2.2.2 = some 23 then (0, nxt b n L τ, tk, sAd (sOn S) 0 0 0) else sCmp b n L (mOf τ.2.2.2.2) (nxt b n L τ) tk (sOn S)
/-- what bounds a sentence's data -/
def sB (S : zSe) : Prop := S.1 ≤ 20 ∧ S.2.1 ≤ 2 * S.1
/-- what a reader makes of it -/
def sR (S : zSe) (R : zPs) : Prop := tOK R.2.1 ∧ R.2.2.1 ≤ 99999999 ∧ S.1 ≤ R.2.2.2.1 ∧ R.2.2.2.1 ≤ 20 ∧ (R.1 = 0 → R.2.2.2.2.1 + 2 * S.1 + 1 ≤ S.2.1 + 2 * R.2.2.2.1)
/-- a reader that keeps the bounds -/
def sG (f : zTk → Nat → zSe → zPs) : Prop := ∀ τ tk S, tOK τ → tk ≤ 99999999 → sB S → sR S (f τ tk S)
section
variable {b : Nat → Nat} {n L : Nat}
theorem sJn_G (hb : ∀ j, b j < 256) (hn : n ≤ 740) {w j : Nat} {f : zTk → Nat → zSe → zPs} (hf : sG f) (S0 : zSe) : ∀ (q : Nat) (τ : zTk) (tk : Nat) (S : zSe), tOK τ → tk ≤ 99999999 → sB S → S0.1 ≤ S.1 → S.2.1 + 2 * S0.1 + 1 ≤ S0.2.1 + 2 * S.1 → sR S0 (sJn b n L w j f q τ tk S)
  | 0, τ, tk, S, hτ, htk, hS, h1, h2 => ⟨hτ, htk, h1, hS.1, fun h => absurd (show (4 : Nat) = 0 from h) (by decide)⟩
  | q + 1, τ, tk, S, hτ, htk, hS, h1, h2 => by
    rw [sJn]
    split
    · exact ⟨hτ, htk, h1, hS.1, fun _ => h2⟩
    · have hr := hf (nxt b n L τ) tk S (nxt_OK hb hn) htk hS
      generalize f (nxt b n L τ) tk S = R at hr ⊢
      obtain ⟨g1, g2, g3, g4, g5⟩ := hr
      split
      · rename_i h0
        have g5 := g5 h0
        have hS2 := hS.2
        refine sJn_G hb hn hf S0 q _ _ _ g1 g2 ⟨g4, ?_⟩ ?_ ?_
        · show R.2.2.2.2.1 + 1 ≤ 2 * R.2.2.2.1
          omega
        · show S0.1 ≤ R.2.2.2.1
          omega
        · show R.2.2.2.2.1 + 1 + 2 * S0.1 + 1 ≤ S0.2.1 + 2 * R.2.2.2.1
          omega
      · rename_i h0
        exact ⟨g1, g2, Nat.le_trans h1 g3, g4, fun h => absurd h h0⟩
theorem sJo_G (hb : ∀ j, b j < 256) (hn : n ≤ 740) {w j : Nat} {f : zTk → Nat → zSe → zPs} (hf : sG f) : sG (sJo b n L w j f) := fun τ tk S hτ htk hS => by
  unfold sJo
  have hr := hf τ tk S hτ htk hS
  generalize f τ tk S = R at hr ⊢
  split
  · rename_i h0
    have h5 := hr.2.2.2.2 h0
    have hS2 := hS.2
    exact sJn_G hb hn hf S 20 _ _ _ hr.1 hr.2.1 ⟨hr.2.2.2.1, by have := hr.2.2.2.1; omega⟩ hr.2.2.1 h5
  · exact hr
theorem sCmp_G (hb : ∀ j, b j < 256) (hn : n ≤ 740) {m : Nat} {τ : zTk} {tk : Nat} {S S0 : zSe} (hτ : tOK τ) (htk : tk ≤ 99999999) (hS : S0.1 + 1 ≤ S.1 ∧ S.1 ≤ 20 ∧ S.2.1 + 2 * S0.1 + 2 ≤ S0.2.1 + 2 * S.1) : sR S0 (sCmp b n L m τ tk S) := by
  unfold sCmp
  split
  · exact ⟨hτ, htk, by show S0.1 ≤ S.1; omega, hS.2.1, fun h => absurd (show (1 : Nat) = 0 from h) (by decide)⟩
  · split
    · rename_i h
      exact ⟨nxt_OK hb hn, tNu_8 (nxt_OK hb hn) h, by show S0.1 ≤ S.1; omega, hS.2.1, fun _ => by show S.2.1 + 1 + 2 * S0.1 + 1 ≤ S0.2.1 + 2 * S.1; omega⟩
    · rename_i h
      exact ⟨nxt_OK hb hn, htk, by show S0.1 ≤ S.1; omega, hS.2.1, fun h2 => absurd h2 h⟩
theorem sOne_G (hb : ∀ j, b j < 256) (hn : n ≤ 740) : ∀ d, sG (sOne b n L d)
  | 0 => fun τ tk S hτ htk hS => by
    rw [sOne]
    split
    · exact ⟨hτ, htk, Nat.le_refl _, hS.1, fun h => absurd (show (1 : Nat) = 0 from h) (by decide)⟩
    · exact ⟨hτ, htk, Nat.le_refl _, hS.1, fun h => absurd (show (4 : Nat) = 0 from h) (by decide)⟩
  | d + 1 => fun τ tk S hτ htk hS => by
    have hS2 := hS.2
    rw [sOne]
    split
    · exact ⟨hτ, htk, Nat.le_refl _, hS.1, fun h => absurd (show (1 : Nat) = 0 from h) (by decide)⟩
    · split
      · exact ⟨hτ, htk, Nat.le_refl _, hS.1, fun h => absurd (show (4 : Nat) = 0 from h) (by decide)⟩
      · rename_i h20
        have hS1 : sB (sOn S) := ⟨by show S.1 + 1 ≤ 20; omega, by show S.2.1 ≤ 2 * (S.1 + 1); omega⟩
        split
        · have hr := sJo_G hb hn (L := L) (w := 20) (j := 8) (sJo_G hb hn (L := L) (w := 21) (j := 7) (sOne_G hb hn d)) (nxt b n L τ) tk (sOn S) (nxt_OK hb hn) htk hS1
          unfold sBk
          generalize sJo b n L 20 8 (sJo b n L 21 7 (sOne b n L d)) (nxt b n L τ) tk (sOn S) = R at hr ⊢
          obtain ⟨g1, g2, g3, g4, g5⟩ := hr
          have g3 : S.1 + 1 ≤ R.2.2.2.1 := g3
          split
          · rename_i h0
            have g5 : R.2.2.2.2.1 + 2 * (S.1 + 1) + 1 ≤ S.2.1 + 2 * R.2.2.2.1 := g5 h0
            split
            · exact ⟨nxt_OK hb hn, g2, by show S.1 ≤ R.2.2.2.1; omega, g4, fun _ => by show R.2.2.2.2.1 + 2 * S.1 + 1 ≤ S.2.1 + 2 * R.2.2.2.1; omega⟩
            · exact ⟨g1, g2, by show S.1 ≤ R.2.2.2.1; omega, g4, fun h => absurd (show (1 : Nat) = 0 from h) (by decide)⟩
          · rename_i h0
            exact ⟨g1, g2, by omega, g4, fun h => absurd h h0⟩
        · split
          · have hr := sOne_G hb hn d (nxt b n L τ) tk (sOn S) (nxt_OK hb hn) htk hS1
            unfold sNt
            generalize sOne b n L d (nxt b n L τ) tk (sOn S) = R at hr ⊢
            obtain ⟨g1, g2, g3, g4, g5⟩ := hr
            have g3 : S.1 + 1 ≤ R.2.2.2.1 := g3
            split
            · rename_i h0
              have g5 : R.2.2.2.2.1 + 2 * (S.1 + 1) + 1 ≤ S.2.1 + 2 * R.2.2.2.1 := g5 h0
              exact ⟨g1, g2, by show S.1 ≤ R.2.2.2.1; omega, g4, fun _ => by show R.2.2.2.2.1 + 1 + 2 * S.1 + 1 ≤ S.2.1 + 2 * R.2.2.2.1; omega⟩
            · rename_i h0
              exact ⟨g1, g2, by omega, g4, fun h => absurd h h0⟩
          · split
            · exact ⟨nxt_OK hb hn, htk, by show S.1 ≤ S.1 + 1; omega, hS1.1, fun _ => by show S.2.1 + 1 + 2 * S.1 + 1 ≤ S.2.1 + 2 * (S.1 + 1); omega⟩
            · exact sCmp_G hb hn (nxt_OK hb hn) htk ⟨by show S.1 + 1 ≤ S.1 + 1; omega, hS1.1, by show S.2.1 + 2 * S.1 + 2 ≤ S.2.1 + 2 * (S.1 + 1); omega⟩
end
theorem dX7_init_0 : decode cX7_init 0 = .ok (.aload_n 0, 1) := by decide +kernel
theorem dX7_init_1 : decode cX7_init 1 = .ok (.invokespecial 3, 3) := by decide +kernel
theorem dX7_init_4 : decode cX7_init 4 = .ok (.aload_n 0, 1) := by decide +kernel
theorem dX7_init_5 : decode cX7_init 5 = .ok (.bipush 40, 2) := by decide +kernel
theorem dX7_init_7 : decode cX7_init 7 = .ok (.newarray .int, 2) := by decide +kernel
theorem dX7_init_9 : decode cX7_init 9 = .ok (.putfield 11, 3) := by decide +kernel
theorem dX7_init_12 : decode cX7_init 12 = .ok (.aload_n 0, 1) := by decide +kernel
theorem dX7_init_13 : decode cX7_init 13 = .ok (.bipush 40, 2) := by decide +kernel
theorem dX7_init_15 : decode cX7_init 15 = .ok (.newarray .int, 2) := by decide +kernel
theorem dX7_init_17 : decode cX7_init 17 = .ok (.putfield 15, 3) := by decide +kernel
theorem dX7_init_20 : decode cX7_init 20 = .ok (.aload_n 0, 1) := by decide +kernel
theorem dX7_init_21 : decode cX7_init 21 = .ok (.bipush 40, 2) := by decide +kernel
theorem dX7_init_23 : decode cX7_init 23 = .ok (.newarray .int, 2) := by decide +kernel
theorem dX7_init_25 : decode cX7_init 25 = .ok (.putfield 18, 3) := by decide +kernel
theorem dX7_init_28 : decode cX7_init 28 = .ok (.aload_n 0, 1) := by decide +kernel
theorem dX7_init_29 : decode cX7_init 29 = .ok (.bipush 20, 2) := by decide +kernel
theorem dX7_init_31 : decode cX7_init 31 = .ok (.newarray .boolean, 2) := by decide +kernel
theorem dX7_init_33 : decode cX7_init 33 = .ok (.putfield 21, 3) := by decide +kernel
theorem dX7_init_36 : decode cX7_init 36 = .ok (.return_, 1) := by decide +kernel
set_option maxRecDepth 100000 in
theorem s_SenInit (l : Launch) (dd : Nat) (t : Nat) (hd : 1 ≤ dd) : zSp l mX7_init dd 4 140 [.ref t] [(t, .inr (6, [.int 0, .int 0, .null, .null, .null, .null]))] (fun r K' => r = none ∧ ∃ as, K' = kSn t as (0, 0, fun _ => 0, fun _ => 0, fun _ => 0) ++ [(as 4, .inl (1, 20, .inl (nF (fun _ => 0))))]) := by
  refine zSp.of (by decide) (Nat.le_of_ble_eq_true rfl) (fun h0 => ?_)
  show zS _ 4 140 0 [(0, .ref t)] [] [(t, .inr (6, [.int 0, .int 0, .null, .null, .null, .null]))]
  refine zs_aload_n dX7_init_0 rfl rfl ?_
  refine zs_objInit dX7_init_1 zo_RX7 (show 1 ≤ dd by omega) (Nat.le_of_ble_eq_true rfl) ?_
  refine zs_aload_n dX7_init_4 rfl rfl ?_
  refine zs_bipush (v := nI 40) dX7_init_5 (by decide) ?_
  refine zs_newa_int (N := 40) dX7_init_7 (by decide) (by decide) (by decide) (by first | omega | (simp only [List.length_cons, List.length_nil]; omega)) (by first | omega | (simp only [List.length_cons, List.length_nil]; omega)) (fun q_1 => ?_)
  show zS _ _ _ _ _ _ [(t, .inr (6, [.int 0, .int 0, .null, .null, .null, .null])), (q_1, .inl (0, 40, .inl (fun _ => 0)))]
  refine zs_putF 0 dX7_init_9 zf_RX7_11 rfl (Nat.le_of_ble_eq_true rfl) (zPv_a rfl) rfl (fun C T N hh => by cases hh; rfl) ?_
  show zS _ _ _ _ _ _ [(t, .inr (6, [.int 0, .int 0, .ref q_1, .null, .null, .null])), (q_1, .inl (0, 40, .inl (fun _ => 0)))]
  refine zs_aload_n dX7_init_12 rfl rfl ?_
  refine zs_bipush (v := nI 40) dX7_init_13 (by decide) ?_
  refine zs_newa_int (N := 40) dX7_init_15 (by decide) (by decide) (by decide) (by first | omega | (simp only [List.length_cons, List.length_nil]; omega)) (by first | omega | (simp only [List.length_cons, List.length_nil]; omega)) (fun q_2 => ?_)
  show zS _ _ _ _ _ _ [(t, .inr (6, [.int 0, .int 0, .ref q_1, .null, .null, .null])), (q_1, .inl (0, 40, .inl (fun _ => 0))), (q_2, .inl (0, 40, .inl (fun _ => 0)))]
  refine zs_putF 0 dX7_init_17 zf_RX7_15 rfl (Nat.le_of_ble_eq_true rfl) (zPv_a rfl) rfl (fun C T N hh => by cases hh; rfl) ?_
  show zS _ _ _ _ _ _ [(t, .inr (6, [.int 0, .int 0, .ref q_1, .ref q_2, .null, .null])), (q_1, .inl (0, 40, .inl (fun _ => 0))), (q_2, .inl (0, 40, .inl (fun _ => 0)))]
  refine zs_aload_n dX7_init_20 rfl rfl ?_
  refine zs_bipush (v := nI 40) dX7_init_21 (by decide) ?_
  refine zs_newa_int (N := 40) dX7_init_23 (by decide) (by decide) (by decide) (by first | omega | (simp only [List.length_cons, List.length_nil]; omega)) (by first | omega | (simp only [List.length_cons, List.length_nil]; omega)) (fun q_3 => ?_)
  show zS _ _ _ _ _ _ [(t, .inr (6, [.int 0, .int 0, .ref q_1, .ref q_2, .null, .null])), (q_1, .inl (0, 40, .inl (fun _ => 0))), (q_2, .inl (0, 40, .inl (fun _ => 0))), (q_3, .inl (0, 40, .inl (fun _ => 0)))]
  refine zs_putF 0 dX7_init_25 zf_RX7_18 rfl (Nat.le_of_ble_eq_true rfl) (zPv_a rfl) rfl (fun C T N hh => by cases hh; rfl) ?_
  show zS _ _ _ _ _ _ [(t, .inr (6, [.int 0, .int 0, .ref q_1, .ref q_2, .ref q_3, .null])), (q_1, .inl (0, 40, .inl (fun _ => 0))), (q_2, .inl (0, 40, .inl (fun _ => 0))), (q_3, .inl (0, 40, .inl (fun _ => 0)))]
  refine zs_aload_n dX7_init_28 rfl rfl ?_
  refine zs_bipush (v := nI 20) dX7_init_29 (by decide) ?_
  refine zs_newa_boolean (N := 20) dX7_init_31 (by decide) (by decide) (by decide) (by first | omega | (simp only [List.length_cons, List.length_nil]; omega)) (by first | omega | (simp only [List.length_cons, List.length_nil]; omega)) (fun q_4 => ?_)
  show zS _ _ _ _ _ _ [(t, .inr (6, [.int 0, .int 0, .ref q_1, .ref q_2, .ref q_3, .null])), (q_1, .inl (0, 40, .inl (fun _ => 0))), (q_2, .inl (0, 40, .inl (fun _ => 0))), (q_3, .inl (0, 40, .inl (fun _ => 0))), (q_4, .inl (1, 20, .inl (fun _ => 0)))]
  refine zs_putF 0 dX7_init_33 zf_RX7_21 rfl (Nat.le_of_ble_eq_true rfl) (zPv_a rfl) rfl (fun C T N hh => by cases hh; rfl) ?_
  show zS _ _ _ _ _ _ [(t, .inr (6, [.int 0, .int 0, .ref q_1, .ref q_2, .ref q_3, .ref q_4])), (q_1, .inl (0, 40, .inl (fun _ => 0))), (q_2, .inl (0, 40, .inl (fun _ => 0))), (q_3, .inl (0, 40, .inl (fun _ => 0))), (q_4, .inl (1, 20, .inl (fun _ => 0)))]
  exact zs_vret dX7_init_36 rfl ⟨rfl, (fun j => [0, q_1, q_2, q_3, q_4].getD j 0), rfl⟩
theorem dX7_clear_0 : decode cX7_clear 0 = .ok (.aload_n 0, 1) := by decide +kernel
theorem dX7_clear_1 : decode cX7_clear 1 = .ok (.iconst 0, 1) := by decide +kernel
theorem dX7_clear_2 : decode cX7_clear 2 = .ok (.putfield 25, 3) := by decide +kernel
theorem dX7_clear_5 : decode cX7_clear 5 = .ok (.aload_n 0, 1) := by decide +kernel
theorem dX7_clear_6 : decode cX7_clear 6 = .ok (.iconst 0, 1) := by decide +kernel
theorem dX7_clear_7 : decode cX7_clear 7 = .ok (.putfield 29, 3) := by decide +kernel
theorem dX7_clear_10 : decode cX7_clear 10 = .ok (.return_, 1) := by decide +kernel
set_option maxRecDepth 100000 in
theorem s_sClear (l : Launch) (dd : Nat) (s : Nat) (as : Nat → Nat) (S : zSe)  : zSp l mX7_clear dd 0 0 [.ref s] [(s, .inr (6, fSen as S.1 S.2.1))] (fun r K' => r = none ∧ K' = [(s, .inr (6, fSen as 0 0))]) := by
  refine zSp.of (by decide) (Nat.le_of_ble_eq_true rfl) (fun h0 => ?_)
  show zS _ 0 0 0 [(0, .ref s)] [] [(s, .inr (6, fSen as S.1 S.2.1))]
  refine zs_aload_n dX7_clear_0 rfl rfl ?_
  refine zs_iconst (v := nI 0) dX7_clear_1 (by decide) ?_
  refine zs_put 0 dX7_clear_2 zf_RX7_25 rfl (Nat.le_of_ble_eq_true rfl) (zPv_i _) ?_
  show zS _ _ _ _ _ _ [(s, .inr (6, fSen as 0 S.2.1))]
  refine zs_aload_n dX7_clear_5 rfl rfl ?_
  refine zs_iconst (v := nI 0) dX7_clear_6 (by decide) ?_
  refine zs_put 0 dX7_clear_7 zf_RX7_29 rfl (Nat.le_of_ble_eq_true rfl) (zPv_i _) ?_
  show zS _ _ _ _ _ _ [(s, .inr (6, fSen as 0 0))]
  exact zs_vret dX7_clear_10 rfl ⟨rfl, rfl⟩
theorem dX7_copy_0 : decode cX7_copy 0 = .ok (.aload_n 0, 1) := by decide +kernel
theorem dX7_copy_1 : decode cX7_copy 1 = .ok (.aload_n 1, 1) := by decide +kernel
theorem dX7_copy_2 : decode cX7_copy 2 = .ok (.getfield 25, 3) := by decide +kernel
theorem dX7_copy_5 : decode cX7_copy 5 = .ok (.putfield 25, 3) := by decide +kernel
theorem dX7_copy_8 : decode cX7_copy 8 = .ok (.aload_n 0, 1) := by decide +kernel
theorem dX7_copy_9 : decode cX7_copy 9 = .ok (.aload_n 1, 1) := by decide +kernel
theorem dX7_copy_10 : decode cX7_copy 10 = .ok (.getfield 29, 3) := by decide +kernel
theorem dX7_copy_13 : decode cX7_copy 13 = .ok (.putfield 29, 3) := by decide +kernel
theorem dX7_copy_16 : decode cX7_copy 16 = .ok (.aload_n 1, 1) := by decide +kernel
theorem dX7_copy_17 : decode cX7_copy 17 = .ok (.getfield 11, 3) := by decide +kernel
theorem dX7_copy_20 : decode cX7_copy 20 = .ok (.iconst 0, 1) := by decide +kernel
theorem dX7_copy_21 : decode cX7_copy 21 = .ok (.aload_n 0, 1) := by decide +kernel
theorem dX7_copy_22 : decode cX7_copy 22 = .ok (.getfield 11, 3) := by decide +kernel
theorem dX7_copy_25 : decode cX7_copy 25 = .ok (.iconst 0, 1) := by decide +kernel
theorem dX7_copy_26 : decode cX7_copy 26 = .ok (.bipush 40, 2) := by decide +kernel
theorem dX7_copy_28 : decode cX7_copy 28 = .ok (.invokestatic 32, 3) := by decide +kernel
theorem dX7_copy_31 : decode cX7_copy 31 = .ok (.aload_n 1, 1) := by decide +kernel
theorem dX7_copy_32 : decode cX7_copy 32 = .ok (.getfield 15, 3) := by decide +kernel
theorem dX7_copy_35 : decode cX7_copy 35 = .ok (.iconst 0, 1) := by decide +kernel
theorem dX7_copy_36 : decode cX7_copy 36 = .ok (.aload_n 0, 1) := by decide +kernel
theorem dX7_copy_37 : decode cX7_copy 37 = .ok (.getfield 15, 3) := by decide +kernel
theorem dX7_copy_40 : decode cX7_copy 40 = .ok (.iconst 0, 1) := by decide +kernel
theorem dX7_copy_41 : decode cX7_copy 41 = .ok (.bipush 40, 2) := by decide +kernel
theorem dX7_copy_43 : decode cX7_copy 43 = .ok (.invokestatic 32, 3) := by decide +kernel
theorem dX7_copy_46 : decode cX7_copy 46 = .ok (.aload_n 1, 1) := by decide +kernel
theorem dX7_copy_47 : decode cX7_copy 47 = .ok (.getfield 18, 3) := by decide +kernel
theorem dX7_copy_50 : decode cX7_copy 50 = .ok (.iconst 0, 1) := by decide +kernel
theorem dX7_copy_51 : decode cX7_copy 51 = .ok (.aload_n 0, 1) := by decide +kernel
theorem dX7_copy_52 : decode cX7_copy 52 = .ok (.getfield 18, 3) := by decide +kernel
theorem dX7_copy_55 : decode cX7_copy 55 = .ok (.iconst 0, 1) := by decide +kernel
theorem dX7_copy_56 : decode cX7_copy 56 = .ok (.bipush 40, 2) := by decide +kernel
theorem dX7_copy_58 : decode cX7_copy 58 = .ok (.invokestatic 32, 3) := by decide +kernel
theorem dX7_copy_61 : decode cX7_copy 61 = .ok (.return_, 1) := by decide +kernel
def sCp (S T : zSe) : zSe := (T.1, T.2.1, nCl T.2.2.1 S.2.2.1 40, nCl T.2.2.2.1 S.2.2.2.1 40, nCl T.2.2.2.2 S.2.2.2.2 40)
set_option maxRecDepth 100000 in
theorem s_sCopy (l : Launch) (dd : Nat) (s t : Nat) (as at_ : Nat → Nat) (S T : zSe) (hd : 1 ≤ dd) : zSp l mX7_copy dd 0 0 [.ref s, .ref t] [(s, .inr (6, fSen as S.1 S.2.1)), (as 1, .inl (0, 40, .inl (nF S.2.2.1))), (as 2, .inl (0, 40, .inl (nF S.2.2.2.1))), (as 3, .inl (0, 40, .inl (nF S.2.2.2.2))), (t, .inr (6, fSen at_ T.1 T.2.1)), (at_ 1, .inl (0, 40, .inl (nF T.2.2.1))), (at_ 2, .inl (0, 40, .inl (nF T.2.2.2.1))), (at_ 3, .inl (0, 40, .inl (nF T.2.2.2.2)))] (fun r K' => r = none ∧ K' = kSn s as (sCp S T) ++ kSn t at_ T) := by
  refine zSp.of (by decide) (Nat.le_of_ble_eq_true rfl) (fun h0 => ?_)
  show zS _ 0 0 0 [(0, .ref s), (1, .ref t)] [] [(s, .inr (6, fSen as S.1 S.2.1)), (as 1, .inl (0, 40, .inl (nF S.2.2.1))), (as 2, .inl (0, 40, .inl (nF S.2.2.2.1))), (as 3, .inl (0, 40, .inl (nF S.2.2.2.2))), (t, .inr (6, fSen at_ T.1 T.2.1)), (at_ 1, .inl (0, 40, .inl (nF T.2.2.1))), (at_ 2, .inl (0, 40, .inl (nF T.2.2.2.1))), (at_ 3, .inl (0, 40, .inl (nF T.2.2.2.2)))]
  refine zs_aload_n dX7_copy_0 rfl rfl ?_
  refine zs_aload_n dX7_copy_1 rfl rfl ?_
  refine zs_get 4 dX7_copy_2 zf_RX7_25 rfl (v := .int (nI T.1)) rfl ?_
  refine zs_put 0 dX7_copy_5 zf_RX7_25 rfl (Nat.le_of_ble_eq_true rfl) (zPv_i _) ?_
  show zS _ _ _ _ _ _ [(s, .inr (6, fSen as T.1 S.2.1)), (as 1, .inl (0, 40, .inl (nF S.2.2.1))), (as 2, .inl (0, 40, .inl (nF S.2.2.2.1))), (as 3, .inl (0, 40, .inl (nF S.2.2.2.2))), (t, .inr (6, fSen at_ T.1 T.2.1)), (at_ 1, .inl (0, 40, .inl (nF T.2.2.1))), (at_ 2, .inl (0, 40, .inl (nF T.2.2.2.1))), (at_ 3, .inl (0, 40, .inl (nF T.2.2.2.2)))]
  refine zs_aload_n dX7_copy_8 rfl rfl ?_
  refine zs_aload_n dX7_copy_9 rfl rfl ?_
  refine zs_get 4 dX7_copy_10 zf_RX7_29 rfl (v := .int (nI T.2.1)) rfl ?_
  refine zs_put 0 dX7_copy_13 zf_RX7_29 rfl (Nat.le_of_ble_eq_true rfl) (zPv_i _) ?_
  show zS _ _ _ _ _ _ [(s, .inr (6, fSen as T.1 T.2.1)), (as 1, .inl (0, 40, .inl (nF S.2.2.1))), (as 2, .inl (0, 40, .inl (nF S.2.2.2.1))), (as 3, .inl (0, 40, .inl (nF S.2.2.2.2))), (t, .inr (6, fSen at_ T.1 T.2.1)), (at_ 1, .inl (0, 40, .inl (nF T.2.2.1))), (at_ 2, .inl (0, 40, .inl (nF T.2.2.2.1))), (at_ 3, .inl (0, 40, .inl (nF T.2.2.2.2)))]
  refine zs_aload_n dX7_copy_16 rfl rfl ?_
  refine zs_get 4 dX7_copy_17 zf_RX7_11 rfl (v := .ref (at_ 1)) rfl ?_
  refine zs_iconst (v := nI 0) dX7_copy_20 (by decide) ?_
  refine zs_aload_n dX7_copy_21 rfl rfl ?_
  refine zs_get 0 dX7_copy_22 zf_RX7_11 rfl (v := .ref (as 1)) rfl ?_
  refine zs_iconst (v := nI 0) dX7_copy_25 (by decide) ?_
  refine zs_bipush (v := nI 40) dX7_copy_26 (by decide) ?_
  refine zs_copy 5 1 dX7_copy_28 zl_RX7_32 zcpy1 zcpy2 zcpy3 (show 1 ≤ dd by omega) (Nat.le_of_ble_eq_true rfl) rfl rfl (by decide) (by decide) (by decide) (by decide) (by decide) ?_
  show zS _ _ _ _ _ _ [(s, .inr (6, fSen as T.1 T.2.1)), (as 1, .inl (0, 40, .inl (va_cpy (nF T.2.2.1) (nF S.2.2.1) (nI 0).toNatClampNeg (nI 0).toNatClampNeg (nI 40).toNatClampNeg))), (as 2, .inl (0, 40, .inl (nF S.2.2.2.1))), (as 3, .inl (0, 40, .inl (nF S.2.2.2.2))), (t, .inr (6, fSen at_ T.1 T.2.1)), (at_ 1, .inl (0, 40, .inl (nF T.2.2.1))), (at_ 2, .inl (0, 40, .inl (nF T.2.2.2.1))), (at_ 3, .inl (0, 40, .inl (nF T.2.2.2.2)))]
  rw [show (nI 0).toNatClampNeg = 0 from rfl, show (nI 40).toNatClampNeg = 40 from rfl, va_cpy_0, pCl_nF]
  show zS _ _ _ _ _ _ [(s, .inr (6, fSen as T.1 T.2.1)), (as 1, .inl (0, 40, .inl (nF (nCl T.2.2.1 S.2.2.1 40)))), (as 2, .inl (0, 40, .inl (nF S.2.2.2.1))), (as 3, .inl (0, 40, .inl (nF S.2.2.2.2))), (t, .inr (6, fSen at_ T.1 T.2.1)), (at_ 1, .inl (0, 40, .inl (nF T.2.2.1))), (at_ 2, .inl (0, 40, .inl (nF T.2.2.2.1))), (at_ 3, .inl (0, 40, .inl (nF T.2.2.2.2)))]
  refine zs_aload_n dX7_copy_31 rfl rfl ?_
  refine zs_get 4 dX7_copy_32 zf_RX7_15 rfl (v := .ref (at_ 2)) rfl ?_
  refine zs_iconst (v := nI 0) dX7_copy_35 (by decide) ?_
  refine zs_aload_n dX7_copy_36 rfl rfl ?_
  refine zs_get 0 dX7_copy_37 zf_RX7_15 rfl (v := .ref (as 2)) rfl ?_
  refine zs_iconst (v := nI 0) dX7_copy_40 (by decide) ?_
  refine zs_bipush (v := nI 40) dX7_copy_41 (by decide) ?_
  refine zs_copy 6 2 dX7_copy_43 zl_RX7_32 zcpy1 zcpy2 zcpy3 (show 1 ≤ dd by omega) (Nat.le_of_ble_eq_true rfl) rfl rfl (by decide) (by decide) (by decide) (by decide) (by decide) ?_
  show zS _ _ _ _ _ _ [(s, .inr (6, fSen as T.1 T.2.1)), (as 1, .inl (0, 40, .inl (nF (nCl T.2.2.1 S.2.2.1 40)))), (as 2, .inl (0, 40, .inl (va_cpy (nF T.2.2.2.1) (nF S.2.2.2.1) (nI 0).toNatClampNeg (nI 0).toNatClampNeg (nI 40).toNatClampNeg))), (as 3, .inl (0, 40, .inl (nF S.2.2.2.2))), (t, .inr (6, fSen at_ T.1 T.2.1)), (at_ 1, .inl (0, 40, .inl (nF T.2.2.1))), (at_ 2, .inl (0, 40, .inl (nF T.2.2.2.1))), (at_ 3, .inl (0, 40, .inl (nF T.2.2.2.2)))]
  rw [show (nI 0).toNatClampNeg = 0 from rfl, show (nI 40).toNatClampNeg = 40 from rfl, va_cpy_0, pCl_nF]
  show zS _ _ _ _ _ _ [(s, .inr (6, fSen as T.1 T.2.1)), (as 1, .inl (0, 40, .inl (nF (nCl T.2.2.1 S.2.2.1 40)))), (as 2, .inl (0, 40, .inl (nF (nCl T.2.2.2.1 S.2.2.2.1 40)))), (as 3, .inl (0, 40, .inl (nF S.2.2.2.2))), (t, .inr (6, fSen at_ T.1 T.2.1)), (at_ 1, .inl (0, 40, .inl (nF T.2.2.1))), (at_ 2, .inl (0, 40, .inl (nF T.2.2.2.1))), (at_ 3, .inl (0, 40, .inl (nF T.2.2.2.2)))]
  refine zs_aload_n dX7_copy_46 rfl rfl ?_
  refine zs_get 4 dX7_copy_47 zf_RX7_18 rfl (v := .ref (at_ 3)) rfl ?_
  refine zs_iconst (v := nI 0) dX7_copy_50 (by decide) ?_
  refine zs_aload_n dX7_copy_51 rfl rfl ?_
  refine zs_get 0 dX7_copy_52 zf_RX7_18 rfl (v := .ref (as 3)) rfl ?_
  refine zs_iconst (v := nI 0) dX7_copy_55 (by decide) ?_
  refine zs_bipush (v := nI 40) dX7_copy_56 (by decide) ?_
  refine zs_copy 7 3 dX7_copy_58 zl_RX7_32 zcpy1 zcpy2 zcpy3 (show 1 ≤ dd by omega) (Nat.le_of_ble_eq_true rfl) rfl rfl (by decide) (by decide) (by decide) (by decide) (by decide) ?_
  show zS _ _ _ _ _ _ [(s, .inr (6, fSen as T.1 T.2.1)), (as 1, .inl (0, 40, .inl (nF (nCl T.2.2.1 S.2.2.1 40)))), (as 2, .inl (0, 40, .inl (nF (nCl T.2.2.2.1 S.2.2.2.1 40)))), (as 3, .inl (0, 40, .inl (va_cpy (nF T.2.2.2.2) (nF S.2.2.2.2) (nI 0).toNatClampNeg (nI 0).toNatClampNeg (nI 40).toNatClampNeg))), (t, .inr (6, fSen at_ T.1 T.2.1)), (at_ 1, .inl (0, 40, .inl (nF T.2.2.1))), (at_ 2, .inl (0, 40, .inl (nF T.2.2.2.1))), (at_ 3, .inl (0, 40, .inl (nF T.2.2.2.2)))]
  rw [show (nI 0).toNatClampNeg = 0 from rfl, show (nI 40).toNatClampNeg = 40 from rfl, va_cpy_0, pCl_nF]
  show zS _ _ _ _ _ _ [(s, .inr (6, fSen as T.1 T.2.1)), (as 1, .inl (0, 40, .inl (nF (nCl T.2.2.1 S.2.2.1 40)))), (as 2, .inl (0, 40, .inl (nF (nCl T.2.2.2.1 S.2.2.2.1 40)))), (as 3, .inl (0, 40, .inl (nF (nCl T.2.2.2.2 S.2.2.2.2 40)))), (t, .inr (6, fSen at_ T.1 T.2.1)), (at_ 1, .inl (0, 40, .inl (nF T.2.2.1))), (at_ 2, .inl (0, 40, .inl (nF T.2.2.2.1))), (at_ 3, .inl (0, 40, .inl (nF T.2.2.2.2)))]
  exact zs_vret dX7_copy_61 rfl ⟨rfl, rfl⟩
theorem dX7_add_0 : decode cX7_add 0 = .ok (.aload_n 0, 1) := by decide +kernel
theorem dX7_add_1 : decode cX7_add 1 = .ok (.getfield 29, 3) := by decide +kernel
theorem dX7_add_4 : decode cX7_add 4 = .ok (.bipush 40, 2) := by decide +kernel
theorem dX7_add_6 : decode cX7_add 6 = .ok (.if_icmp .lt 5, 3) := by decide +kernel
theorem dX7_add_9 : decode cX7_add 9 = .ok (.iconst 0, 1) := by decide +kernel
theorem dX7_add_10 : decode cX7_add 10 = .ok (.ireturn, 1) := by decide +kernel
theorem dX7_add_11 : decode cX7_add 11 = .ok (.aload_n 0, 1) := by decide +kernel
theorem dX7_add_12 : decode cX7_add 12 = .ok (.getfield 11, 3) := by decide +kernel
theorem dX7_add_15 : decode cX7_add 15 = .ok (.aload_n 0, 1) := by decide +kernel
theorem dX7_add_16 : decode cX7_add 16 = .ok (.getfield 29, 3) := by decide +kernel
theorem dX7_add_19 : decode cX7_add 19 = .ok (.iload_n 1, 1) := by decide +kernel
theorem dX7_add_20 : decode cX7_add 20 = .ok (.iastore, 1) := by decide +kernel
theorem dX7_add_21 : decode cX7_add 21 = .ok (.aload_n 0, 1) := by decide +kernel
theorem dX7_add_22 : decode cX7_add 22 = .ok (.getfield 15, 3) := by decide +kernel
theorem dX7_add_25 : decode cX7_add 25 = .ok (.aload_n 0, 1) := by decide +kernel
theorem dX7_add_26 : decode cX7_add 26 = .ok (.getfield 29, 3) := by decide +kernel
theorem dX7_add_29 : decode cX7_add 29 = .ok (.iload_n 2, 1) := by decide +kernel
theorem dX7_add_30 : decode cX7_add 30 = .ok (.iastore, 1) := by decide +kernel
theorem dX7_add_31 : decode cX7_add 31 = .ok (.aload_n 0, 1) := by decide +kernel
theorem dX7_add_32 : decode cX7_add 32 = .ok (.getfield 18, 3) := by decide +kernel
theorem dX7_add_35 : decode cX7_add 35 = .ok (.aload_n 0, 1) := by decide +kernel
theorem dX7_add_36 : decode cX7_add 36 = .ok (.getfield 29, 3) := by decide +kernel
theorem dX7_add_39 : decode cX7_add 39 = .ok (.iload_n 3, 1) := by decide +kernel
theorem dX7_add_40 : decode cX7_add 40 = .ok (.iastore, 1) := by decide +kernel
theorem dX7_add_41 : decode cX7_add 41 = .ok (.aload_n 0, 1) := by decide +kernel
theorem dX7_add_42 : decode cX7_add 42 = .ok (.dup, 1) := by decide +kernel
theorem dX7_add_43 : decode cX7_add 43 = .ok (.getfield 29, 3) := by decide +kernel
theorem dX7_add_46 : decode cX7_add 46 = .ok (.iconst 1, 1) := by decide +kernel
theorem dX7_add_47 : decode cX7_add 47 = .ok (.iadd, 1) := by decide +kernel
theorem dX7_add_48 : decode cX7_add 48 = .ok (.putfield 29, 3) := by decide +kernel
theorem dX7_add_51 : decode cX7_add 51 = .ok (.iconst 1, 1) := by decide +kernel
theorem dX7_add_52 : decode cX7_add 52 = .ok (.ireturn, 1) := by decide +kernel
set_option maxRecDepth 100000 in
theorem s_add (l : Launch) (dd : Nat) (s : Nat) (as : Nat → Nat) (S : zSe) (j c v : Nat) (h40 : S.2.1 < 40) : zSp l mX7_add dd 0 0 [.ref s, .int (nI j), .int (nI c), .int (nI v)] [(s, .inr (6, fSen as S.1 S.2.1)), (as 1, .inl (0, 40, .inl (nF S.2.2.1))), (as 2, .inl (0, 40, .inl (nF S.2.2.2.1))), (as 3, .inl (0, 40, .inl (nF S.2.2.2.2)))] (fun r K' => r = some (.int 1) ∧ K' = kSn s as (sAd S j c v)) := by
  refine zSp.of (by decide) (Nat.le_of_ble_eq_true rfl) (fun h0 => ?_)
  show zS _ 0 0 0 [(0, .ref s), (1, .int (nI j)), (2, .int (nI c)), (3, .int (nI v))] [] [(s, .inr (6, fSen as S.1 S.2.1)), (as 1, .inl (0, 40, .inl (nF S.2.2.1))), (as 2, .inl (0, 40, .inl (nF S.2.2.2.1))), (as 3, .inl (0, 40, .inl (nF S.2.2.2.2)))]
  refine zs_aload_n dX7_add_0 rfl rfl ?_
  refine zs_get 0 dX7_add_1 zf_RX7_29 rfl (v := .int (nI S.2.1)) rfl ?_
  refine zs_bipush (v := nI 40) dX7_add_4 (by decide) ?_
  refine zs_icmp_lt (tgt := 11) dX7_add_6 (by decide) (fun c_1 => ?_) (fun c_1 => (c_1 (by rw [nI_lt' (by omega) (by omega)]; omega) : False).elim)
  refine zs_aload_n dX7_add_11 rfl rfl ?_
  refine zs_get 0 dX7_add_12 zf_RX7_11 rfl (v := .ref (as 1)) rfl ?_
  refine zs_aload_n dX7_add_15 rfl rfl ?_
  refine zs_get 0 dX7_add_16 zf_RX7_29 rfl (v := .int (nI S.2.1)) rfl ?_
  refine zs_iload_n dX7_add_19 rfl ?_
  refine zs_iast 1 dX7_add_20 rfl (vp_in_nI (by omega) (by omega)) ?_
  rw [nI_c (n := S.2.1) (by omega), nF_u]
  show zS _ _ _ _ _ _ [(s, .inr (6, fSen as S.1 S.2.1)), (as 1, .inl (0, 40, .inl (nF (un S.2.2.1 S.2.1 j)))), (as 2, .inl (0, 40, .inl (nF S.2.2.2.1))), (as 3, .inl (0, 40, .inl (nF S.2.2.2.2)))]
  refine zs_aload_n dX7_add_21 rfl rfl ?_
  refine zs_get 0 dX7_add_22 zf_RX7_15 rfl (v := .ref (as 2)) rfl ?_
  refine zs_aload_n dX7_add_25 rfl rfl ?_
  refine zs_get 0 dX7_add_26 zf_RX7_29 rfl (v := .int (nI S.2.1)) rfl ?_
  refine zs_iload_n dX7_add_29 rfl ?_
  refine zs_iast 2 dX7_add_30 rfl (vp_in_nI (by omega) (by omega)) ?_
  rw [nI_c (n := S.2.1) (by omega), nF_u]
  show zS _ _ _ _ _ _ [(s, .inr (6, fSen as S.1 S.2.1)), (as 1, .inl (0, 40, .inl (nF (un S.2.2.1 S.2.1 j)))), (as 2, .inl (0, 40, .inl (nF (un S.2.2.2.1 S.2.1 c)))), (as 3, .inl (0, 40, .inl (nF S.2.2.2.2)))]
  refine zs_aload_n dX7_add_31 rfl rfl ?_
  refine zs_get 0 dX7_add_32 zf_RX7_18 rfl (v := .ref (as 3)) rfl ?_
  refine zs_aload_n dX7_add_35 rfl rfl ?_
  refine zs_get 0 dX7_add_36 zf_RX7_29 rfl (v := .int (nI S.2.1)) rfl ?_
  refine zs_iload_n dX7_add_39 rfl ?_
  refine zs_iast 3 dX7_add_40 rfl (vp_in_nI (by omega) (by omega)) ?_
  rw [nI_c (n := S.2.1) (by omega), nF_u]
  show zS _ _ _ _ _ _ [(s, .inr (6, fSen as S.1 S.2.1)), (as 1, .inl (0, 40, .inl (nF (un S.2.2.1 S.2.1 j)))), (as 2, .inl (0, 40, .inl (nF (un S.2.2.2.1 S.2.1 c)))), (as 3, .inl (0, 40, .inl (nF (un S.2.2.2.2 S.2.1 v))))]
  refine zs_aload_n dX7_add_41 rfl rfl ?_
  refine zs_dup dX7_add_42 rfl ?_
  refine zs_get 0 dX7_add_43 zf_RX7_29 rfl (v := .int (nI S.2.1)) rfl ?_
  refine zs_iconst (v := nI 1) dX7_add_46 (by decide) ?_
  refine zs_iadd dX7_add_47 ?_
  refine zs_as (y := nI (S.2.1 + 1)) (nI_add _ _) ?_
  refine zs_put 0 dX7_add_48 zf_RX7_29 rfl (Nat.le_of_ble_eq_true rfl) (zPv_i _) ?_
  show zS _ _ _ _ _ _ [(s, .inr (6, fSen as S.1 (S.2.1 + 1))), (as 1, .inl (0, 40, .inl (nF (un S.2.2.1 S.2.1 j)))), (as 2, .inl (0, 40, .inl (nF (un S.2.2.2.1 S.2.1 c)))), (as 3, .inl (0, 40, .inl (nF (un S.2.2.2.2 S.2.1 v))))]
  refine zs_iconst (v := nI 1) dX7_add_51 (by decide) ?_
  exact zs_zret dX7_add_52 rfl (Or.inr rfl) ⟨rfl, rfl⟩
theorem dX7_measured_0 : decode cX7_measured 0 = .ok (.aload_n 0, 1) := by decide +kernel
theorem dX7_measured_1 : decode cX7_measured 1 = .ok (.getstatic 112, 3) := by decide +kernel
theorem dX7_measured_4 : decode cX7_measured 4 = .ok (.if_acmp .ne 5, 3) := by decide +kernel
theorem dX7_measured_7 : decode cX7_measured 7 = .ok (.iconst 1, 1) := by decide +kernel
theorem dX7_measured_8 : decode cX7_measured 8 = .ok (.ireturn, 1) := by decide +kernel
theorem dX7_measured_9 : decode cX7_measured 9 = .ok (.aload_n 0, 1) := by decide +kernel
theorem dX7_measured_10 : decode cX7_measured 10 = .ok (.getstatic 115, 3) := by decide +kernel
theorem dX7_measured_13 : decode cX7_measured 13 = .ok (.if_acmp .ne 5, 3) := by decide +kernel
theorem dX7_measured_16 : decode cX7_measured 16 = .ok (.iconst 2, 1) := by decide +kernel
theorem dX7_measured_17 : decode cX7_measured 17 = .ok (.ireturn, 1) := by decide +kernel
theorem dX7_measured_18 : decode cX7_measured 18 = .ok (.aload_n 0, 1) := by decide +kernel
theorem dX7_measured_19 : decode cX7_measured 19 = .ok (.getstatic 118, 3) := by decide +kernel
theorem dX7_measured_22 : decode cX7_measured 22 = .ok (.if_acmp .ne 5, 3) := by decide +kernel
theorem dX7_measured_25 : decode cX7_measured 25 = .ok (.iconst 3, 1) := by decide +kernel
theorem dX7_measured_26 : decode cX7_measured 26 = .ok (.ireturn, 1) := by decide +kernel
theorem dX7_measured_27 : decode cX7_measured 27 = .ok (.aload_n 0, 1) := by decide +kernel
theorem dX7_measured_28 : decode cX7_measured 28 = .ok (.getstatic 121, 3) := by decide +kernel
theorem dX7_measured_31 : decode cX7_measured 31 = .ok (.if_acmp .ne 5, 3) := by decide +kernel
theorem dX7_measured_34 : decode cX7_measured 34 = .ok (.iconst 4, 1) := by decide +kernel
theorem dX7_measured_35 : decode cX7_measured 35 = .ok (.ireturn, 1) := by decide +kernel
theorem dX7_measured_36 : decode cX7_measured 36 = .ok (.aload_n 0, 1) := by decide +kernel
theorem dX7_measured_37 : decode cX7_measured 37 = .ok (.getstatic 124, 3) := by decide +kernel
theorem dX7_measured_40 : decode cX7_measured 40 = .ok (.if_acmp .ne 7, 3) := by decide +kernel
theorem dX7_measured_43 : decode cX7_measured 43 = .ok (.iconst 5, 1) := by decide +kernel
theorem dX7_measured_44 : decode cX7_measured 44 = .ok (.goto 4, 3) := by decide +kernel
theorem dX7_measured_47 : decode cX7_measured 47 = .ok (.iconst (-1), 1) := by decide +kernel
theorem dX7_measured_48 : decode cX7_measured 48 = .ok (.ireturn, 1) := by decide +kernel
set_option maxRecDepth 100000 in
theorem s_measured_s (l : Launch) (dd : Nat) (i : Nat) (hwd : ∀ i_1, (some i) = some i_1 → i_1 < 29) : zSp l mX7_measured dd 0 0 [.float (UInt32.ofNat i)] [] (fun r K' => r = some (.int (oM (some i))) ∧ K' = []) := by
  refine zSp.of (by decide) (Nat.le_of_ble_eq_true rfl) (fun h0 => ?_)
  show zS _ 0 0 0 [(0, .float (UInt32.ofNat i))] [] []
  refine zs_aload_n dX7_measured_0 rfl rfl ?_
  refine zs_getsW (u := 24) dX7_measured_1 (by decide) zg_RX7_112 ?_
  refine zs_acmp_ne (tgt := 9) dX7_measured_4 (by decide) (wV_w (w := (some i)) hwd) rfl (fun c_1 => ?_) (fun c_1 => ?_)
  · refine zs_aload_n dX7_measured_9 rfl rfl ?_
    refine zs_getsW (u := 25) dX7_measured_10 (by decide) zg_RX7_115 ?_
    refine zs_acmp_ne (tgt := 18) dX7_measured_13 (by decide) (wV_w (w := (some i)) hwd) rfl (fun c_2 => ?_) (fun c_2 => ?_)
    · refine zs_aload_n dX7_measured_18 rfl rfl ?_
      refine zs_getsW (u := 26) dX7_measured_19 (by decide) zg_RX7_118 ?_
      refine zs_acmp_ne (tgt := 27) dX7_measured_22 (by decide) (wV_w (w := (some i)) hwd) rfl (fun c_3 => ?_) (fun c_3 => ?_)
      · refine zs_aload_n dX7_measured_27 rfl rfl ?_
        refine zs_getsW (u := 27) dX7_measured_28 (by decide) zg_RX7_121 ?_
        refine zs_acmp_ne (tgt := 36) dX7_measured_31 (by decide) (wV_w (w := (some i)) hwd) rfl (fun c_4 => ?_) (fun c_4 => ?_)
        · refine zs_aload_n dX7_measured_36 rfl rfl ?_
          refine zs_getsW (u := 28) dX7_measured_37 (by decide) zg_RX7_124 ?_
          refine zs_acmp_ne (tgt := 47) dX7_measured_40 (by decide) (wV_w (w := (some i)) hwd) rfl (fun c_5 => ?_) (fun c_5 => ?_)
          · refine zs_iconst (v := (-1)) dX7_measured_47 (by decide) ?_
            exact zs_iret dX7_measured_48 rfl ⟨by rw [oM, if_neg (fun h => c_1 ((wV_e hwd (by decide : 24 < 29)).mpr h)), if_neg (fun h => c_2 ((wV_e hwd (by decide : 25 < 29)).mpr h)), if_neg (fun h => c_3 ((wV_e hwd (by decide : 26 < 29)).mpr h)), if_neg (fun h => c_4 ((wV_e hwd (by decide : 27 < 29)).mpr h)), if_neg (fun h => c_5 ((wV_e hwd (by decide : 28 < 29)).mpr h))] <;> rfl, rfl⟩
          · refine zs_iconst (v := nI 5) dX7_measured_43 (by decide) ?_
            refine zs_goto (tgt := 48) dX7_measured_44 (by decide) ?_
            exact zs_iret dX7_measured_48 rfl ⟨by rw [oM, if_neg (fun h => c_1 ((wV_e hwd (by decide : 24 < 29)).mpr h)), if_neg (fun h => c_2 ((wV_e hwd (by decide : 25 < 29)).mpr h)), if_neg (fun h => c_3 ((wV_e hwd (by decide : 26 < 29)).mpr h)), if_neg (fun h => c_4 ((wV_e hwd (by decide : 27 < 29)).mpr h)), if_pos ((wV_e hwd (by decide : 28 < 29)).mp c_5)] <;> rfl, rfl⟩
        · refine zs_iconst (v := nI 4) dX7_measured_34 (by decide) ?_
          exact zs_iret dX7_measured_35 rfl ⟨by rw [oM, if_neg (fun h => c_1 ((wV_e hwd (by decide : 24 < 29)).mpr h)), if_neg (fun h => c_2 ((wV_e hwd (by decide : 25 < 29)).mpr h)), if_neg (fun h => c_3 ((wV_e hwd (by decide : 26 < 29)).mpr h)), if_pos ((wV_e hwd (by decide : 27 < 29)).mp c_4)] <;> rfl, rfl⟩
      · refine zs_iconst (v := nI 3) dX7_measured_25 (by decide) ?_
        exact zs_iret dX7_measured_26 rfl ⟨by rw [oM, if_neg (fun h => c_1 ((wV_e hwd (by decide : 24 < 29)).mpr h)), if_neg (fun h => c_2 ((wV_e hwd (by decide : 25 < 29)).mpr h)), if_pos ((wV_e hwd (by decide : 26 < 29)).mp c_3)] <;> rfl, rfl⟩
    · refine zs_iconst (v := nI 2) dX7_measured_16 (by decide) ?_
      exact zs_iret dX7_measured_17 rfl ⟨by rw [oM, if_neg (fun h => c_1 ((wV_e hwd (by decide : 24 < 29)).mpr h)), if_pos ((wV_e hwd (by decide : 25 < 29)).mp c_2)] <;> rfl, rfl⟩
  · refine zs_iconst (v := nI 1) dX7_measured_7 (by decide) ?_
    exact zs_iret dX7_measured_8 rfl ⟨by rw [oM, if_pos ((wV_e hwd (by decide : 24 < 29)).mp c_1)] <;> rfl, rfl⟩
set_option maxRecDepth 100000 in
theorem s_measured_n (l : Launch) (dd : Nat)  (hwd : ∀ i_1, none = some i_1 → i_1 < 29) : zSp l mX7_measured dd 0 0 [.null] [] (fun r K' => r = some (.int (oM none)) ∧ K' = []) := by
  refine zSp.of (by decide) (Nat.le_of_ble_eq_true rfl) (fun h0 => ?_)
  show zS _ 0 0 0 [(0, .null)] [] []
  refine zs_aload_n dX7_measured_0 rfl rfl ?_
  refine zs_getsW (u := 24) dX7_measured_1 (by decide) zg_RX7_112 ?_
  refine zs_acmp_ne (tgt := 9) dX7_measured_4 (by decide) (wV_w (w := none) hwd) rfl (fun c_1 => ?_) (fun c_1 => ?_)
  · refine zs_aload_n dX7_measured_9 rfl rfl ?_
    refine zs_getsW (u := 25) dX7_measured_10 (by decide) zg_RX7_115 ?_
    refine zs_acmp_ne (tgt := 18) dX7_measured_13 (by decide) (wV_w (w := none) hwd) rfl (fun c_2 => ?_) (fun c_2 => ?_)
    · refine zs_aload_n dX7_measured_18 rfl rfl ?_
      refine zs_getsW (u := 26) dX7_measured_19 (by decide) zg_RX7_118 ?_
      refine zs_acmp_ne (tgt := 27) dX7_measured_22 (by decide) (wV_w (w := none) hwd) rfl (fun c_3 => ?_) (fun c_3 => ?_)
      · refine zs_aload_n dX7_measured_27 rfl rfl ?_
        refine zs_getsW (u := 27) dX7_measured_28 (by decide) zg_RX7_121 ?_
        refine zs_acmp_ne (tgt := 36) dX7_measured_31 (by decide) (wV_w (w := none) hwd) rfl (fun c_4 => ?_) (fun c_4 => ?_)
        · refine zs_aload_n dX7_measured_36 rfl rfl ?_
          refine zs_getsW (u := 28) dX7_measured_37 (by decide) zg_RX7_124 ?_
          refine zs_acmp_ne (tgt := 47) dX7_measured_40 (by decide) (wV_w (w := none) hwd) rfl (fun c_5 => ?_) (fun c_5 => ?_)
          · refine zs_iconst (v := (-1)) dX7_measured_47 (by decide) ?_
            exact zs_iret dX7_measured_48 rfl ⟨by rw [oM, if_neg (fun h => c_1 ((wV_e hwd (by decide : 24 < 29)).mpr h)), if_neg (fun h => c_2 ((wV_e hwd (by decide : 25 < 29)).mpr h)), if_neg (fun h => c_3 ((wV_e hwd (by decide : 26 < 29)).mpr h)), if_neg (fun h => c_4 ((wV_e hwd (by decide : 27 < 29)).mpr h)), if_neg (fun h => c_5 ((wV_e hwd (by decide : 28 < 29)).mpr h))] <;> rfl, rfl⟩
          · refine zs_iconst (v := nI 5) dX7_measured_43 (by decide) ?_
            refine zs_goto (tgt := 48) dX7_measured_44 (by decide) ?_
            exact zs_iret dX7_measured_48 rfl ⟨by rw [oM, if_neg (fun h => c_1 ((wV_e hwd (by decide : 24 < 29)).mpr h)), if_neg (fun h => c_2 ((wV_e hwd (by decide : 25 < 29)).mpr h)), if_neg (fun h => c_3 ((wV_e hwd (by decide : 26 < 29)).mpr h)), if_neg (fun h => c_4 ((wV_e hwd (by decide : 27 < 29)).mpr h)), if_pos ((wV_e hwd (by decide : 28 < 29)).mp c_5)] <;> rfl, rfl⟩
        · refine zs_iconst (v := nI 4) dX7_measured_34 (by decide) ?_
          exact zs_iret dX7_measured_35 rfl ⟨by rw [oM, if_neg (fun h => c_1 ((wV_e hwd (by decide : 24 < 29)).mpr h)), if_neg (fun h => c_2 ((wV_e hwd (by decide : 25 < 29)).mpr h)), if_neg (fun h => c_3 ((wV_e hwd (by decide : 26 < 29)).mpr h)), if_pos ((wV_e hwd (by decide : 27 < 29)).mp c_4)] <;> rfl, rfl⟩
      · refine zs_iconst (v := nI 3) dX7_measured_25 (by decide) ?_
        exact zs_iret dX7_measured_26 rfl ⟨by rw [oM, if_neg (fun h => c_1 ((wV_e hwd (by decide : 24 < 29)).mpr h)), if_neg (fun h => c_2 ((wV_e hwd (by decide : 25 < 29)).mpr h)), if_pos ((wV_e hwd (by decide : 26 < 29)).mp c_3)] <;> rfl, rfl⟩
    · refine zs_iconst (v := nI 2) dX7_measured_16 (by decide) ?_
      exact zs_iret dX7_measured_17 rfl ⟨by rw [oM, if_neg (fun h => c_1 ((wV_e hwd (by decide : 24 < 29)).mpr h)), if_pos ((wV_e hwd (by decide : 25 < 29)).mp c_2)] <;> rfl, rfl⟩
  · refine zs_iconst (v := nI 1) dX7_measured_7 (by decide) ?_
    exact zs_iret dX7_measured_8 rfl ⟨by rw [oM, if_pos ((wV_e hwd (by decide : 24 < 29)).mp c_1)] <;> rfl, rfl⟩
theorem s_measured (l : Launch) (dd : Nat) (w : Option Nat) (hwd : ∀ i, w = some i → i < 29) : zSp l mX7_measured dd 0 0 [wV w] [] (fun r K' => r = some (.int (oM w)) ∧ K' = []) := by
  cases w with
  | none => exact s_measured_n l dd hwd
  | some i => exact s_measured_s l dd i hwd
theorem dX7_readComparison_0 : decode cX7_readComparison 0 = .ok (.aload_n 1, 1) := by decide +kernel
theorem dX7_readComparison_1 : decode cX7_readComparison 1 = .ok (.bipush 60, 2) := by decide +kernel
theorem dX7_readComparison_3 : decode cX7_readComparison 3 = .ok (.invokevirtual 80, 3) := by decide +kernel
theorem dX7_readComparison_6 : decode cX7_readComparison 6 = .ok (.ifCond .ne 27, 3) := by decide +kernel
theorem dX7_readComparison_9 : decode cX7_readComparison 9 = .ok (.aload_n 1, 1) := by decide +kernel
theorem dX7_readComparison_10 : decode cX7_readComparison 10 = .ok (.bipush 61, 2) := by decide +kernel
theorem dX7_readComparison_12 : decode cX7_readComparison 12 = .ok (.invokevirtual 80, 3) := by decide +kernel
theorem dX7_readComparison_15 : decode cX7_readComparison 15 = .ok (.ifCond .ne 18, 3) := by decide +kernel
theorem dX7_readComparison_18 : decode cX7_readComparison 18 = .ok (.aload_n 1, 1) := by decide +kernel
theorem dX7_readComparison_19 : decode cX7_readComparison 19 = .ok (.bipush 62, 2) := by decide +kernel
theorem dX7_readComparison_21 : decode cX7_readComparison 21 = .ok (.invokevirtual 80, 3) := by decide +kernel
theorem dX7_readComparison_24 : decode cX7_readComparison 24 = .ok (.ifCond .ne 9, 3) := by decide +kernel
theorem dX7_readComparison_27 : decode cX7_readComparison 27 = .ok (.aload_n 1, 1) := by decide +kernel
theorem dX7_readComparison_28 : decode cX7_readComparison 28 = .ok (.iconst 1, 1) := by decide +kernel
theorem dX7_readComparison_29 : decode cX7_readComparison 29 = .ok (.invokevirtual 70, 3) := by decide +kernel
theorem dX7_readComparison_32 : decode cX7_readComparison 32 = .ok (.ireturn, 1) := by decide +kernel
theorem dX7_readComparison_33 : decode cX7_readComparison 33 = .ok (.aload_n 1, 1) := by decide +kernel
theorem dX7_readComparison_34 : decode cX7_readComparison 34 = .ok (.getfield 99, 3) := by decide +kernel
theorem dX7_readComparison_37 : decode cX7_readComparison 37 = .ok (.istore_n 3, 1) := by decide +kernel
theorem dX7_readComparison_38 : decode cX7_readComparison 38 = .ok (.aload_n 1, 1) := by decide +kernel
theorem dX7_readComparison_39 : decode cX7_readComparison 39 = .ok (.invokevirtual 63, 3) := by decide +kernel
theorem dX7_readComparison_42 : decode cX7_readComparison 42 = .ok (.aload_n 1, 1) := by decide +kernel
theorem dX7_readComparison_43 : decode cX7_readComparison 43 = .ok (.iconst 0, 1) := by decide +kernel
theorem dX7_readComparison_44 : decode cX7_readComparison 44 = .ok (.ldc 104, 2) := by decide +kernel
theorem dX7_readComparison_46 : decode cX7_readComparison 46 = .ok (.invokevirtual 105, 3) := by decide +kernel
theorem dX7_readComparison_49 : decode cX7_readComparison 49 = .ok (.ifCond .eq 20, 3) := by decide +kernel
theorem dX7_readComparison_52 : decode cX7_readComparison 52 = .ok (.aload_n 0, 1) := by decide +kernel
theorem dX7_readComparison_53 : decode cX7_readComparison 53 = .ok (.iload_n 2, 1) := by decide +kernel
theorem dX7_readComparison_54 : decode cX7_readComparison 54 = .ok (.iload_n 3, 1) := by decide +kernel
theorem dX7_readComparison_55 : decode cX7_readComparison 55 = .ok (.aload_n 1, 1) := by decide +kernel
theorem dX7_readComparison_56 : decode cX7_readComparison 56 = .ok (.getfield 109, 3) := by decide +kernel
theorem dX7_readComparison_59 : decode cX7_readComparison 59 = .ok (.invokevirtual 66, 3) := by decide +kernel
theorem dX7_readComparison_62 : decode cX7_readComparison 62 = .ok (.ifCond .eq 7, 3) := by decide +kernel
theorem dX7_readComparison_65 : decode cX7_readComparison 65 = .ok (.iconst 1, 1) := by decide +kernel
theorem dX7_readComparison_66 : decode cX7_readComparison 66 = .ok (.goto 4, 3) := by decide +kernel
theorem dX7_readComparison_69 : decode cX7_readComparison 69 = .ok (.iconst 0, 1) := by decide +kernel
theorem dX7_readComparison_70 : decode cX7_readComparison 70 = .ok (.ireturn, 1) := by decide +kernel
set_option maxRecDepth 100000 in
theorem s_readCmp (l : Launch) (dd : Nat) (x b n L s : Nat) (as : Nat → Nat) (bt : Nat → Nat) (pl : Nat) (m : Nat) (τ : zTk) (tk : Nat) (S : zSe) (hd : 4 ≤ dd) (hn : n ≤ 740) (hL : L ≤ 740) (hbt : ∀ j, bt j < 256) (hτ : tOK τ) (h40 : S.2.1 < 40) : zSp l mX7_readComparison dd 0 0 [.ref s, .ref x, .int (nI m)] [(x, .inr (8, fTx b n L τ 0 pl (nI tk))), (b, .inl (0, 740, .inl (nF bt))), (s, .inr (6, fSen as S.1 S.2.1)), (as 1, .inl (0, 40, .inl (nF S.2.2.1))), (as 2, .inl (0, 40, .inl (nF S.2.2.2.1))), (as 3, .inl (0, 40, .inl (nF S.2.2.2.2)))] (fun r K' => ((sCmp bt n L m τ tk S).1 = 0 ∧ r = some (.int 1) ∧ K' = kTx x b n L bt (sCmp bt n L m τ tk S).2.1 0 pl (sCmp bt n L m τ tk S).2.2.1 ++ kSn s as (sCmp bt n L m τ tk S).2.2.2) ∨ (¬ (sCmp bt n L m τ tk S).1 = 0 ∧ r = some (.int 0) ∧ K' = kTx x b n L bt (sCmp bt n L m τ tk S).2.1 (sCmp bt n L m τ tk S).1 (sCmp bt n L m τ tk S).2.1.2.1 (sCmp bt n L m τ tk S).2.2.1 ++ kSn s as (sCmp bt n L m τ tk S).2.2.2)) := by
  refine zSp.of (by decide) (Nat.le_of_ble_eq_true rfl) (fun h0 => ?_)
  show zS _ 0 0 0 [(0, .ref s), (1, .ref x), (2, .int (nI m))] [] [(x, .inr (8, fTx b n L τ 0 pl (nI tk))), (b, .inl (0, 740, .inl (nF bt))), (s, .inr (6, fSen as S.1 S.2.1)), (as 1, .inl (0, 40, .inl (nF S.2.2.1))), (as 2, .inl (0, 40, .inl (nF S.2.2.2.1))), (as 3, .inl (0, 40, .inl (nF S.2.2.2.2)))]
  refine zs_aload_n dX7_readComparison_0 rfl rfl ?_
  refine zs_bipush (v := nI 60) dX7_readComparison_1 (by decide) ?_
  refine zs_callV (M := mX9_isAt) (As := [.int (nI 60)]) (st := []) (Kc := [(x, .inr (8, fTx b n L τ 0 pl (nI tk)))]) (Kr := [(b, .inl (0, 740, .inl (nF bt))), (s, .inr (6, fSen as S.1 S.2.1)), (as 1, .inl (0, 40, .inl (nF S.2.2.1))), (as 2, .inl (0, 40, .inl (nF S.2.2.2.1))), (as 3, .inl (0, 40, .inl (nF S.2.2.2.2)))]) [0] [1, 2, 3, 4, 5] 0 dX7_readComparison_3 zl_RX7_80 kX9_isAt rfl rfl rfl rfl rfl (by decide) rfl rfl (show dd - 1 + 1 ≤ dd by omega) (Nat.zero_le _) (Nat.zero_le _) (Nat.le_of_ble_eq_true rfl) (s_isAt l (dd - 1) x b n L τ 0 pl (nI tk) 60 hτ (by decide)) (fun r K1 hr => ?_)
  obtain ⟨rfl, rfl⟩ := hr
  refine zs_K (K' := [(x, .inr (8, fTx b n L τ 0 pl (nI tk))), (b, .inl (0, 740, .inl (nF bt))), (s, .inr (6, fSen as S.1 S.2.1)), (as 1, .inl (0, 40, .inl (nF S.2.2.1))), (as 2, .inl (0, 40, .inl (nF S.2.2.2.1))), (as 3, .inl (0, 40, .inl (nF S.2.2.2.2)))]) [5, 0, 1, 2, 3, 4] rfl (by decide) ?_
  refine zs_if_ne (tgt := 33) dX7_readComparison_6 (by decide) (fun c_1 => ?_) (fun c_1 => ?_)
  · refine zs_aload_n dX7_readComparison_33 rfl rfl ?_
    refine zs_get 0 dX7_readComparison_34 zf_RX7_99 rfl (v := .int (nI τ.2.2.2.1)) rfl ?_
    refine zs_istore_n (lv' := [(3, .int (nI τ.2.2.2.1)), (0, .ref s), (1, .ref x), (2, .int (nI m))]) dX7_readComparison_37 (Nat.le_of_ble_eq_true rfl) rfl ?_
    refine zs_aload_n dX7_readComparison_38 rfl rfl ?_
    refine zs_callV (M := mX9_next) (As := []) (st := []) (Kc := [(x, .inr (8, fTx b n L τ 0 pl (nI tk))), (b, .inl (0, 740, .inl (nF bt)))]) (Kr := [(s, .inr (6, fSen as S.1 S.2.1)), (as 1, .inl (0, 40, .inl (nF S.2.2.1))), (as 2, .inl (0, 40, .inl (nF S.2.2.2.1))), (as 3, .inl (0, 40, .inl (nF S.2.2.2.2)))]) [0, 1] [2, 3, 4, 5] 0 dX7_readComparison_39 zl_RX7_63 kX9_next rfl rfl rfl rfl rfl (by decide) rfl rfl (show dd - 1 + 1 ≤ dd by omega) (Nat.zero_le _) (Nat.zero_le _) (Nat.le_of_ble_eq_true rfl) (s_next l (dd - 1) x b n L bt τ 0 pl (nI tk) (by omega) hn hL hbt hτ.2.2.1) (fun r K1 hr => ?_)
    obtain ⟨rfl, rfl⟩ := hr
    refine zs_K (K' := [(x, .inr (8, fTx b n L (nxt bt n L τ) 0 pl (nI tk))), (b, .inl (0, 740, .inl (nF bt))), (s, .inr (6, fSen as S.1 S.2.1)), (as 1, .inl (0, 40, .inl (nF S.2.2.1))), (as 2, .inl (0, 40, .inl (nF S.2.2.2.1))), (as 3, .inl (0, 40, .inl (nF S.2.2.2.2)))]) [4, 5, 0, 1, 2, 3] rfl (by decide) ?_
    refine zs_aload_n dX7_readComparison_42 rfl rfl ?_
    refine zs_iconst (v := nI 0) dX7_readComparison_43 (by decide) ?_
    refine zs_ldc (v := 2147483647) dX7_readComparison_44 zk_RX7_104 ?_
    refine zs_callV (M := mX9_takeNumber) (As := [.int (nI 0), .int 2147483647]) (st := []) (Kc := [(x, .inr (8, fTx b n L (nxt bt n L τ) 0 pl (nI tk))), (b, .inl (0, 740, .inl (nF bt)))]) (Kr := [(s, .inr (6, fSen as S.1 S.2.1)), (as 1, .inl (0, 40, .inl (nF S.2.2.1))), (as 2, .inl (0, 40, .inl (nF S.2.2.2.1))), (as 3, .inl (0, 40, .inl (nF S.2.2.2.2)))]) [0, 1] [2, 3, 4, 5] 0 dX7_readComparison_46 zl_RX7_105 kX9_takeNumber rfl rfl rfl rfl rfl (by decide) rfl rfl (show dd - 1 + 1 ≤ dd by omega) (Nat.zero_le _) (Nat.zero_le _) (Nat.le_of_ble_eq_true rfl) (s_takeNumber l (dd - 1) x b n L bt (nxt bt n L τ) pl (nI tk) 0 2147483647 (by omega) hn hL hbt (nxt_OK hbt hn) (by omega) (by omega)) (fun r K1 hr => ?_)
    rcases hr with ⟨hq46, rfl, rfl⟩ | ⟨hq46, rfl, rfl⟩
    · refine zs_K (K' := [(x, .inr (8, fTx b n L (nxt bt n L (nxt bt n L τ)) 0 pl (nI (nxt bt n L τ).2.2.2.1))), (b, .inl (0, 740, .inl (nF bt))), (s, .inr (6, fSen as S.1 S.2.1)), (as 1, .inl (0, 40, .inl (nF S.2.2.1))), (as 2, .inl (0, 40, .inl (nF S.2.2.2.1))), (as 3, .inl (0, 40, .inl (nF S.2.2.2.2)))]) [4, 5, 0, 1, 2, 3] rfl (by decide) ?_
      refine zs_if_eq (tgt := 69) dX7_readComparison_49 (by decide) (fun c_2 => (by first | exact absurd c_2 (by decide) | exact absurd (by decide) c_2 : False).elim) (fun c_2 => ?_)
      refine zs_aload_n dX7_readComparison_52 rfl rfl ?_
      refine zs_iload_n dX7_readComparison_53 rfl ?_
      refine zs_iload_n dX7_readComparison_54 rfl ?_
      refine zs_aload_n dX7_readComparison_55 rfl rfl ?_
      refine zs_get 0 dX7_readComparison_56 zf_RX7_109 rfl (v := .int (nI (nxt bt n L τ).2.2.2.1)) rfl ?_
      refine zs_callV (M := mX7_add) (As := [.int (nI m), .int (nI τ.2.2.2.1), .int (nI (nxt bt n L τ).2.2.2.1)]) (st := []) (Kc := [(s, .inr (6, fSen as S.1 S.2.1)), (as 1, .inl (0, 40, .inl (nF S.2.2.1))), (as 2, .inl (0, 40, .inl (nF S.2.2.2.1))), (as 3, .inl (0, 40, .inl (nF S.2.2.2.2)))]) (Kr := [(x, .inr (8, fTx b n L (nxt bt n L (nxt bt n L τ)) 0 pl (nI (nxt bt n L τ).2.2.2.1))), (b, .inl (0, 740, .inl (nF bt)))]) [2, 3, 4, 5] [0, 1] 0 dX7_readComparison_59 zl_RX7_66 kX7_add rfl rfl rfl rfl rfl (by decide) rfl rfl (show dd - 1 + 1 ≤ dd by omega) (Nat.zero_le _) (Nat.zero_le _) (Nat.le_of_ble_eq_true rfl) (s_add l (dd - 1) s as S m τ.2.2.2.1 ((nxt bt n L τ).2.2.2.1) h40) (fun r K1 hr => ?_)
      obtain ⟨rfl, rfl⟩ := hr
      refine zs_K (K' := [(x, .inr (8, fTx b n L (nxt bt n L (nxt bt n L τ)) 0 pl (nI (nxt bt n L τ).2.2.2.1))), (b, .inl (0, 740, .inl (nF bt))), (s, .inr (6, fSen as ((sAd S m τ.2.2.2.1 ((nxt bt n L τ).2.2.2.1)).1) ((sAd S m τ.2.2.2.1 ((nxt bt n L τ).2.2.2.1)).2.1))), (as 1, .inl (0, 40, .inl (nF ((sAd S m τ.2.2.2.1 ((nxt bt n L τ).2.2.2.1)).2.2.1)))), (as 2, .inl (0, 40, .inl (nF ((sAd S m τ.2.2.2.1 ((nxt bt n L τ).2.2.2.1)).2.2.2.1)))), (as 3, .inl (0, 40, .inl (nF ((sAd S m τ.2.2.2.1 ((nxt bt n L τ).2.2.2.1)).2.2.2.2))))]) [0, 1, 2, 3, 4, 5] rfl (by decide) ?_
      refine zs_if_eq (tgt := 69) dX7_readComparison_62 (by decide) (fun c_3 => (absurd c_3 (by decide) : False).elim) (fun c_3 => ?_)
      refine zs_iconst (v := nI 1) dX7_readComparison_65 (by decide) ?_
      refine zs_goto (tgt := 70) dX7_readComparison_66 (by decide) ?_
      have e : sCmp bt n L m τ tk S = (0, (nxt bt n L (nxt bt n L τ)), ((nxt bt n L τ).2.2.2.1), sAd S m τ.2.2.2.1 (nxt bt n L τ).2.2.2.1) := by rw [sCmp, if_neg (show ¬ (tAt τ 60 = false ∧ tAt τ 61 = false ∧ tAt τ 62 = false) from fun h => absurd ((bI_t c_1).symm.trans h.1) (by decide)), if_pos hq46] <;> rfl
      exact zs_zret dX7_readComparison_70 rfl (Or.inr rfl) (Or.inl ⟨by rw [e], rfl, by rw [e]; rfl⟩)
    · refine zs_K (K' := [(x, .inr (8, fTx b n L (nxt bt n L τ) (tNu (nxt bt n L τ) 0 2147483647) ((nxt bt n L τ).2.1) (nI tk))), (b, .inl (0, 740, .inl (nF bt))), (s, .inr (6, fSen as S.1 S.2.1)), (as 1, .inl (0, 40, .inl (nF S.2.2.1))), (as 2, .inl (0, 40, .inl (nF S.2.2.2.1))), (as 3, .inl (0, 40, .inl (nF S.2.2.2.2)))]) [4, 5, 0, 1, 2, 3] rfl (by decide) ?_
      refine zs_if_eq (tgt := 69) dX7_readComparison_49 (by decide) (fun c_4 => ?_) (fun c_4 => (by first | exact absurd c_4 (by decide) | exact absurd (by decide) c_4 : False).elim)
      refine zs_iconst (v := nI 0) dX7_readComparison_69 (by decide) ?_
      have e : sCmp bt n L m τ tk S = ((tNu (nxt bt n L τ) 0 2147483647), (nxt bt n L τ), tk, S) := by rw [sCmp, if_neg (show ¬ (tAt τ 60 = false ∧ tAt τ 61 = false ∧ tAt τ 62 = false) from fun h => absurd ((bI_t c_1).symm.trans h.1) (by decide)), if_neg hq46] <;> rfl
      exact zs_zret dX7_readComparison_70 rfl (Or.inl rfl) (Or.inr ⟨by rw [e]; exact hq46, rfl, by rw [e]; rfl⟩)
  · have hf0 := bI_f c_1
    refine zs_aload_n dX7_readComparison_9 rfl rfl ?_
    refine zs_bipush (v := nI 61) dX7_readComparison_10 (by decide) ?_
    refine zs_callV (M := mX9_isAt) (As := [.int (nI 61)]) (st := []) (Kc := [(x, .inr (8, fTx b n L τ 0 pl (nI tk)))]) (Kr := [(b, .inl (0, 740, .inl (nF bt))), (s, .inr (6, fSen as S.1 S.2.1)), (as 1, .inl (0, 40, .inl (nF S.2.2.1))), (as 2, .inl (0, 40, .inl (nF S.2.2.2.1))), (as 3, .inl (0, 40, .inl (nF S.2.2.2.2)))]) [0] [1, 2, 3, 4, 5] 0 dX7_readComparison_12 zl_RX7_80 kX9_isAt rfl rfl rfl rfl rfl (by decide) rfl rfl (show dd - 1 + 1 ≤ dd by omega) (Nat.zero_le _) (Nat.zero_le _) (Nat.le_of_ble_eq_true rfl) (s_isAt l (dd - 1) x b n L τ 0 pl (nI tk) 61 hτ (by decide)) (fun r K1 hr => ?_)
    obtain ⟨rfl, rfl⟩ := hr
    refine zs_K (K' := [(x, .inr (8, fTx b n L τ 0 pl (nI tk))), (b, .inl (0, 740, .inl (nF bt))), (s, .inr (6, fSen as S.1 S.2.1)), (as 1, .inl (0, 40, .inl (nF S.2.2.1))), (as 2, .inl (0, 40, .inl (nF S.2.2.2.1))), (as 3, .inl (0, 40, .inl (nF S.2.2.2.2)))]) [5, 0, 1, 2, 3, 4] rfl (by decide) ?_
    refine zs_if_ne (tgt := 33) dX7_readComparison_15 (by decide) (fun c_5 => ?_) (fun c_5 => ?_)
    · refine zs_aload_n dX7_readComparison_33 rfl rfl ?_
      refine zs_get 0 dX7_readComparison_34 zf_RX7_99 rfl (v := .int (nI τ.2.2.2.1)) rfl ?_
      refine zs_istore_n (lv' := [(3, .int (nI τ.2.2.2.1)), (0, .ref s), (1, .ref x), (2, .int (nI m))]) dX7_readComparison_37 (Nat.le_of_ble_eq_true rfl) rfl ?_
      refine zs_aload_n dX7_readComparison_38 rfl rfl ?_
      refine zs_callV (M := mX9_next) (As := []) (st := []) (Kc := [(x, .inr (8, fTx b n L τ 0 pl (nI tk))), (b, .inl (0, 740, .inl (nF bt)))]) (Kr := [(s, .inr (6, fSen as S.1 S.2.1)), (as 1, .inl (0, 40, .inl (nF S.2.2.1))), (as 2, .inl (0, 40, .inl (nF S.2.2.2.1))), (as 3, .inl (0, 40, .inl (nF S.2.2.2.2)))]) [0, 1] [2, 3, 4, 5] 0 dX7_readComparison_39 zl_RX7_63 kX9_next rfl rfl rfl rfl rfl (by decide) rfl rfl (show dd - 1 + 1 ≤ dd by omega) (Nat.zero_le _) (Nat.zero_le _) (Nat.le_of_ble_eq_true rfl) (s_next l (dd - 1) x b n L bt τ 0 pl (nI tk) (by omega) hn hL hbt hτ.2.2.1) (fun r K1 hr => ?_)
      obtain ⟨rfl, rfl⟩ := hr
      refine zs_K (K' := [(x, .inr (8, fTx b n L (nxt bt n L τ) 0 pl (nI tk))), (b, .inl (0, 740, .inl (nF bt))), (s, .inr (6, fSen as S.1 S.2.1)), (as 1, .inl (0, 40, .inl (nF S.2.2.1))), (as 2, .inl (0, 40, .inl (nF S.2.2.2.1))), (as 3, .inl (0, 40, .inl (nF S.2.2.2.2)))]) [4, 5, 0, 1, 2, 3] rfl (by decide) ?_
      refine zs_aload_n dX7_readComparison_42 rfl rfl ?_
      refine zs_iconst (v := nI 0) dX7_readComparison_43 (by decide) ?_
      refine zs_ldc (v := 2147483647) dX7_readComparison_44 zk_RX7_104 ?_
      refine zs_callV (M := mX9_takeNumber) (As := [.int (nI 0), .int 2147483647]) (st := []) (Kc := [(x, .inr (8, fTx b n L (nxt bt n L τ) 0 pl (nI tk))), (b, .inl (0, 740, .inl (nF bt)))]) (Kr := [(s, .inr (6, fSen as S.1 S.2.1)), (as 1, .inl (0, 40, .inl (nF S.2.2.1))), (as 2, .inl (0, 40, .inl (nF S.2.2.2.1))), (as 3, .inl (0, 40, .inl (nF S.2.2.2.2)))]) [0, 1] [2, 3, 4, 5] 0 dX7_readComparison_46 zl_RX7_105 kX9_takeNumber rfl rfl rfl rfl rfl (by decide) rfl rfl (show dd - 1 + 1 ≤ dd by omega) (Nat.zero_le _) (Nat.zero_le _) (Nat.le_of_ble_eq_true rfl) (s_takeNumber l (dd - 1) x b n L bt (nxt bt n L τ) pl (nI tk) 0 2147483647 (by omega) hn hL hbt (nxt_OK hbt hn) (by omega) (by omega)) (fun r K1 hr => ?_)
      rcases hr with ⟨hq46, rfl, rfl⟩ | ⟨hq46, rfl, rfl⟩
      · refine zs_K (K' := [(x, .inr (8, fTx b n L (nxt bt n L (nxt bt n L τ)) 0 pl (nI (nxt bt n L τ).2.2.2.1))), (b, .inl (0, 740, .inl (nF bt))), (s, .inr (6, fSen as S.1 S.2.1)), (as 1, .inl (0, 40, .inl (nF S.2.2.1))), (as 2, .inl (0, 40, .inl (nF S.2.2.2.1))), (as 3, .inl (0, 40, .inl (nF S.2.2.2.2)))]) [4, 5, 0, 1, 2, 3] rfl (by decide) ?_
        refine zs_if_eq (tgt := 69) dX7_readComparison_49 (by decide) (fun c_6 => (by first | exact absurd c_6 (by decide) | exact absurd (by decide) c_6 : False).elim) (fun c_6 => ?_)
        refine zs_aload_n dX7_readComparison_52 rfl rfl ?_
        refine zs_iload_n dX7_readComparison_53 rfl ?_
        refine zs_iload_n dX7_readComparison_54 rfl ?_
        refine zs_aload_n dX7_readComparison_55 rfl rfl ?_
        refine zs_get 0 dX7_readComparison_56 zf_RX7_109 rfl (v := .int (nI (nxt bt n L τ).2.2.2.1)) rfl ?_
        refine zs_callV (M := mX7_add) (As := [.int (nI m), .int (nI τ.2.2.2.1), .int (nI (nxt bt n L τ).2.2.2.1)]) (st := []) (Kc := [(s, .inr (6, fSen as S.1 S.2.1)), (as 1, .inl (0, 40, .inl (nF S.2.2.1))), (as 2, .inl (0, 40, .inl (nF S.2.2.2.1))), (as 3, .inl (0, 40, .inl (nF S.2.2.2.2)))]) (Kr := [(x, .inr (8, fTx b n L (nxt bt n L (nxt bt n L τ)) 0 pl (nI (nxt bt n L τ).2.2.2.1))), (b, .inl (0, 740, .inl (nF bt)))]) [2, 3, 4, 5] [0, 1] 0 dX7_readComparison_59 zl_RX7_66 kX7_add rfl rfl rfl rfl rfl (by decide) rfl rfl (show dd - 1 + 1 ≤ dd by omega) (Nat.zero_le _) (Nat.zero_le _) (Nat.le_of_ble_eq_true rfl) (s_add l (dd - 1) s as S m τ.2.2.2.1 ((nxt bt n L τ).2.2.2.1) h40) (fun r K1 hr => ?_)
        obtain ⟨rfl, rfl⟩ := hr
        refine zs_K (K' := [(x, .inr (8, fTx b n L (nxt bt n L (nxt bt n L τ)) 0 pl (nI (nxt bt n L τ).2.2.2.1))), (b, .inl (0, 740, .inl (nF bt))), (s, .inr (6, fSen as ((sAd S m τ.2.2.2.1 ((nxt bt n L τ).2.2.2.1)).1) ((sAd S m τ.2.2.2.1 ((nxt bt n L τ).2.2.2.1)).2.1))), (as 1, .inl (0, 40, .inl (nF ((sAd S m τ.2.2.2.1 ((nxt bt n L τ).2.2.2.1)).2.2.1)))), (as 2, .inl (0, 40, .inl (nF ((sAd S m τ.2.2.2.1 ((nxt bt n L τ).2.2.2.1)).2.2.2.1)))), (as 3, .inl (0, 40, .inl (nF ((sAd S m τ.2.2.2.1 ((nxt bt n L τ).2.2.2.1)).2.2.2.2))))]) [0, 1, 2, 3, 4, 5] rfl (by decide) ?_
        refine zs_if_eq (tgt := 69) dX7_readComparison_62 (by decide) (fun c_7 => (absurd c_7 (by decide) : False).elim) (fun c_7 => ?_)
        refine zs_iconst (v := nI 1) dX7_readComparison_65 (by decide) ?_
        refine zs_goto (tgt := 70) dX7_readComparison_66 (by decide) ?_
        have e : sCmp bt n L m τ tk S = (0, (nxt bt n L (nxt bt n L τ)), ((nxt bt n L τ).2.2.2.1), sAd S m τ.2.2.2.1 (nxt bt n L τ).2.2.2.1) := by rw [sCmp, if_neg (show ¬ (tAt τ 60 = false ∧ tAt τ 61 = false ∧ tAt τ 62 = false) from fun h => absurd ((bI_t c_5).symm.trans h.2.1) (by decide)), if_pos hq46] <;> rfl
        exact zs_zret dX7_readComparison_70 rfl (Or.inr rfl) (Or.inl ⟨by rw [e], rfl, by rw [e]; rfl⟩)
      · refine zs_K (K' := [(x, .inr (8, fTx b n L (nxt bt n L τ) (tNu (nxt bt n L τ) 0 2147483647) ((nxt bt n L τ).2.1) (nI tk))), (b, .inl (0, 740, .inl (nF bt))), (s, .inr (6, fSen as S.1 S.2.1)), (as 1, .inl (0, 40, .inl (nF S.2.2.1))), (as 2, .inl (0, 40, .inl (nF S.2.2.2.1))), (as 3, .inl (0, 40, .inl (nF S.2.2.2.2)))]) [4, 5, 0, 1, 2, 3] rfl (by decide) ?_
        refine zs_if_eq (tgt := 69) dX7_readComparison_49 (by decide) (fun c_8 => ?_) (fun c_8 => (by first | exact absurd c_8 (by decide) | exact absurd (by decide) c_8 : False).elim)
        refine zs_iconst (v := nI 0) dX7_readComparison_69 (by decide) ?_
        have e : sCmp bt n L m τ tk S = ((tNu (nxt bt n L τ) 0 2147483647), (nxt bt n L τ), tk, S) := by rw [sCmp, if_neg (show ¬ (tAt τ 60 = false ∧ tAt τ 61 = false ∧ tAt τ 62 = false) from fun h => absurd ((bI_t c_5).symm.trans h.2.1) (by decide)), if_neg hq46] <;> rfl
        exact zs_zret dX7_readComparison_70 rfl (Or.inl rfl) (Or.inr ⟨by rw [e]; exact hq46, rfl, by rw [e]; rfl⟩)
    · have hf1 := bI_f c_5
      refine zs_aload_n dX7_readComparison_18 rfl rfl ?_
      refine zs_bipush (v := nI 62) dX7_readComparison_19 (by decide) ?_
      refine zs_callV (M := mX9_isAt) (As := [.int (nI 62)]) (st := []) (Kc := [(x, .inr (8, fTx b n L τ 0 pl (nI tk)))]) (Kr := [(b, .inl (0, 740, .inl (nF bt))), (s, .inr (6, fSen as S.1 S.2.1)), (as 1, .inl (0, 40, .inl (nF S.2.2.1))), (as 2, .inl (0, 40, .inl (nF S.2.2.2.1))), (as 3, .inl (0, 40, .inl (nF S.2.2.2.2)))]) [0] [1, 2, 3, 4, 5] 0 dX7_readComparison_21 zl_RX7_80 kX9_isAt rfl rfl rfl rfl rfl (by decide) rfl rfl (show dd - 1 + 1 ≤ dd by omega) (Nat.zero_le _) (Nat.zero_le _) (Nat.le_of_ble_eq_true rfl) (s_isAt l (dd - 1) x b n L τ 0 pl (nI tk) 62 hτ (by decide)) (fun r K1 hr => ?_)
      obtain ⟨rfl, rfl⟩ := hr
      refine zs_K (K' := [(x, .inr (8, fTx b n L τ 0 pl (nI tk))), (b, .inl (0, 740, .inl (nF bt))), (s, .inr (6, fSen as S.1 S.2.1)), (as 1, .inl (0, 40, .inl (nF S.2.2.1))), (as 2, .inl (0, 40, .inl (nF S.2.2.2.1))), (as 3, .inl (0, 40, .inl (nF S.2.2.2.2)))]) [5, 0, 1, 2, 3, 4] rfl (by decide) ?_
      refine zs_if_ne (tgt := 33) dX7_readComparison_24 (by decide) (fun c_9 => ?_) (fun c_9 => ?_)
      · refine zs_aload_n dX7_readComparison_33 rfl rfl ?_
        refine zs_get 0 dX7_readComparison_34 zf_RX7_99 rfl (v := .int (nI τ.2.2.2.1)) rfl ?_
        refine zs_istore_n (lv' := [(3, .int (nI τ.2.2.2.1)), (0, .ref s), (1, .ref x), (2, .int (nI m))]) dX7_readComparison_37 (Nat.le_of_ble_eq_true rfl) rfl ?_
        refine zs_aload_n dX7_readComparison_38 rfl rfl ?_
        refine zs_callV (M := mX9_next) (As := []) (st := []) (Kc := [(x, .inr (8, fTx b n L τ 0 pl (nI tk))), (b, .inl (0, 740, .inl (nF bt)))]) (Kr := [(s, .inr (6, fSen as S.1 S.2.1)), (as 1, .inl (0, 40, .inl (nF S.2.2.1))), (as 2, .inl (0, 40, .inl (nF S.2.2.2.1))), (as 3, .inl (0, 40, .inl (nF S.2.2.2.2)))]) [0, 1] [2, 3, 4, 5] 0 dX7_readComparison_39 zl_RX7_63 kX9_next rfl rfl rfl rfl rfl (by decide) rfl rfl (show dd - 1 + 1 ≤ dd by omega) (Nat.zero_le _) (Nat.zero_le _) (Nat.le_of_ble_eq_true rfl) (s_next l (dd - 1) x b n L bt τ 0 pl (nI tk) (by omega) hn hL hbt hτ.2.2.1) (fun r K1 hr => ?_)
        obtain ⟨rfl, rfl⟩ := hr
        refine zs_K (K' := [(x, .inr (8, fTx b n L (nxt bt n L τ) 0 pl (nI tk))), (b, .inl (0, 740, .inl (nF bt))), (s, .inr (6, fSen as S.1 S.2.1)), (as 1, .inl (0, 40, .inl (nF S.2.2.1))), (as 2, .inl (0, 40, .inl (nF S.2.2.2.1))), (as 3, .inl (0, 40, .inl (nF S.2.2.2.2)))]) [4, 5, 0, 1, 2, 3] rfl (by decide) ?_
        refine zs_aload_n dX7_readComparison_42 rfl rfl ?_
        refine zs_iconst (v := nI 0) dX7_readComparison_43 (by decide) ?_
        refine zs_ldc (v := 2147483647) dX7_readComparison_44 zk_RX7_104 ?_
        refine zs_callV (M := mX9_takeNumber) (As := [.int (nI 0), .int 2147483647]) (st := []) (Kc := [(x, .inr (8, fTx b n L (nxt bt n L τ) 0 pl (nI tk))), (b, .inl (0, 740, .inl (nF bt)))]) (Kr := [(s, .inr (6, fSen as S.1 S.2.1)), (as 1, .inl (0, 40, .inl (nF S.2.2.1))), (as 2, .inl (0, 40, .inl (nF S.2.2.2.1))), (as 3, .inl (0, 40, .inl (nF S.2.2.2.2)))]) [0, 1] [2, 3, 4, 5] 0 dX7_readComparison_46 zl_RX7_105 kX9_takeNumber rfl rfl rfl rfl rfl (by decide) rfl rfl (show dd - 1 + 1 ≤ dd by omega) (Nat.zero_le _) (Nat.zero_le _) (Nat.le_of_ble_eq_true rfl) (s_takeNumber l (dd - 1) x b n L bt (nxt bt n L τ) pl (nI tk) 0 2147483647 (by omega) hn hL hbt (nxt_OK hbt hn) (by omega) (by omega)) (fun r K1 hr => ?_)
        rcases hr with ⟨hq46, rfl, rfl⟩ | ⟨hq46, rfl, rfl⟩
        · refine zs_K (K' := [(x, .inr (8, fTx b n L (nxt bt n L (nxt bt n L τ)) 0 pl (nI (nxt bt n L τ).2.2.2.1))), (b, .inl (0, 740, .inl (nF bt))), (s, .inr (6, fSen as S.1 S.2.1)), (as 1, .inl (0, 40, .inl (nF S.2.2.1))), (as 2, .inl (0, 40, .inl (nF S.2.2.2.1))), (as 3, .inl (0, 40, .inl (nF S.2.2.2.2)))]) [4, 5, 0, 1, 2, 3] rfl (by decide) ?_
          refine zs_if_eq (tgt := 69) dX7_readComparison_49 (by decide) (fun c_10 => (by first | exact absurd c_10 (by decide) | exact absurd (by decide) c_10 : False).elim) (fun c_10 => ?_)
          refine zs_aload_n dX7_readComparison_52 rfl rfl ?_
          refine zs_iload_n dX7_readComparison_53 rfl ?_
          refine zs_iload_n dX7_readComparison_54 rfl ?_
          refine zs_aload_n dX7_readComparison_55 rfl rfl ?_
          refine zs_get 0 dX7_readComparison_56 zf_RX7_109 rfl (v := .int (nI (nxt bt n L τ).2.2.2.1)) rfl ?_
          refine zs_callV (M := mX7_add) (As := [.int (nI m), .int (nI τ.2.2.2.1), .int (nI (nxt bt n L τ).2.2.2.1)]) (st := []) (Kc := [(s, .inr (6, fSen as S.1 S.2.1)), (as 1, .inl (0, 40, .inl (nF S.2.2.1))), (as 2, .inl (0, 40, .inl (nF S.2.2.2.1))), (as 3, .inl (0, 40, .inl (nF S.2.2.2.2)))]) (Kr := [(x, .inr (8, fTx b n L (nxt bt n L (nxt bt n L τ)) 0 pl (nI (nxt bt n L τ).2.2.2.1))), (b, .inl (0, 740, .inl (nF bt)))]) [2, 3, 4, 5] [0, 1] 0 dX7_readComparison_59 zl_RX7_66 kX7_add rfl rfl rfl rfl rfl (by decide) rfl rfl (show dd - 1 + 1 ≤ dd by omega) (Nat.zero_le _) (Nat.zero_le _) (Nat.le_of_ble_eq_true rfl) (s_add l (dd - 1) s as S m τ.2.2.2.1 ((nxt bt n L τ).2.2.2.1) h40) (fun r K1 hr => ?_)
          obtain ⟨rfl, rfl⟩ := hr
          refine zs_K (K' := [(x, .inr (8, fTx b n L (nxt bt n L (nxt bt n L τ)) 0 pl (nI (nxt bt n L τ).2.2.2.1))), (b, .inl (0, 740, .inl (nF bt))), (s, .inr (6, fSen as ((sAd S m τ.2.2.2.1 ((nxt bt n L τ).2.2.2.1)).1) ((sAd S m τ.2.2.2.1 ((nxt bt n L τ).2.2.2.1)).2.1))), (as 1, .inl (0, 40, .inl (nF ((sAd S m τ.2.2.2.1 ((nxt bt n L τ).2.2.2.1)).2.2.1)))), (as 2, .inl (0, 40, .inl (nF ((sAd S m τ.2.2.2.1 ((nxt bt n L τ).2.2.2.1)).2.2.2.1)))), (as 3, .inl (0, 40, .inl (nF ((sAd S m τ.2.2.2.1 ((nxt bt n L τ).2.2.2.1)).2.2.2.2))))]) [0, 1, 2, 3, 4, 5] rfl (by decide) ?_
          refine zs_if_eq (tgt := 69) dX7_readComparison_62 (by decide) (fun c_11 => (absurd c_11 (by decide) : False).elim) (fun c_11 => ?_)
          refine zs_iconst (v := nI 1) dX7_readComparison_65 (by decide) ?_
          refine zs_goto (tgt := 70) dX7_readComparison_66 (by decide) ?_
          have e : sCmp bt n L m τ tk S = (0, (nxt bt n L (nxt bt n L τ)), ((nxt bt n L τ).2.2.2.1), sAd S m τ.2.2.2.1 (nxt bt n L τ).2.2.2.1) := by rw [sCmp, if_neg (show ¬ (tAt τ 60 = false ∧ tAt τ 61 = false ∧ tAt τ 62 = false) from fun h => absurd ((bI_t c_9).symm.trans h.2.2) (by decide)), if_pos hq46] <;> rfl
          exact zs_zret dX7_readComparison_70 rfl (Or.inr rfl) (Or.inl ⟨by rw [e], rfl, by rw [e]; rfl⟩)
        · refine zs_K (K' := [(x, .inr (8, fTx b n L (nxt bt n L τ) (tNu (nxt bt n L τ) 0 2147483647) ((nxt bt n L τ).2.1) (nI tk))), (b, .inl (0, 740, .inl (nF bt))), (s, .inr (6, fSen as S.1 S.2.1)), (as 1, .inl (0, 40, .inl (nF S.2.2.1))), (as 2, .inl (0, 40, .inl (nF S.2.2.2.1))), (as 3, .inl (0, 40, .inl (nF S.2.2.2.2)))]) [4, 5, 0, 1, 2, 3] rfl (by decide) ?_
          refine zs_if_eq (tgt := 69) dX7_readComparison_49 (by decide) (fun c_12 => ?_) (fun c_12 => (by first | exact absurd c_12 (by decide) | exact absurd (by decide) c_12 : False).elim)
          refine zs_iconst (v := nI 0) dX7_readComparison_69 (by decide) ?_
          have e : sCmp bt n L m τ tk S = ((tNu (nxt bt n L τ) 0 2147483647), (nxt bt n L τ), tk, S) := by rw [sCmp, if_neg (show ¬ (tAt τ 60 = false ∧ tAt τ 61 = false ∧ tAt τ 62 = false) from fun h => absurd ((bI_t c_9).symm.trans h.2.2) (by decide)), if_neg hq46] <;> rfl
          exact zs_zret dX7_readComparison_70 rfl (Or.inl rfl) (Or.inr ⟨by rw [e]; exact hq46, rfl, by rw [e]; rfl⟩)
      · have hf2 := bI_f c_9
        refine zs_aload_n dX7_readComparison_27 rfl rfl ?_
        refine zs_iconst (v := nI 1) dX7_readComparison_28 (by decide) ?_
        refine zs_callV (M := mX9_refuse) (As := [.int (nI 1)]) (st := []) (Kc := [(x, .inr (8, fTx b n L τ 0 pl (nI tk)))]) (Kr := [(b, .inl (0, 740, .inl (nF bt))), (s, .inr (6, fSen as S.1 S.2.1)), (as 1, .inl (0, 40, .inl (nF S.2.2.1))), (as 2, .inl (0, 40, .inl (nF S.2.2.2.1))), (as 3, .inl (0, 40, .inl (nF S.2.2.2.2)))]) [0] [1, 2, 3, 4, 5] 0 dX7_readComparison_29 zl_RX7_70 kX9_refuse rfl rfl rfl rfl rfl (by decide) rfl rfl (show dd - 1 + 1 ≤ dd by omega) (Nat.zero_le _) (Nat.zero_le _) (Nat.le_of_ble_eq_true rfl) (s_refuse l (dd - 1) x b n L τ pl 1 (nI tk)) (fun r K1 hr => ?_)
        obtain ⟨rfl, rfl⟩ := hr
        refine zs_K (K' := [(x, .inr (8, fTx b n L τ 1 τ.2.1 (nI tk))), (b, .inl (0, 740, .inl (nF bt))), (s, .inr (6, fSen as S.1 S.2.1)), (as 1, .inl (0, 40, .inl (nF S.2.2.1))), (as 2, .inl (0, 40, .inl (nF S.2.2.2.1))), (as 3, .inl (0, 40, .inl (nF S.2.2.2.2)))]) [5, 0, 1, 2, 3, 4] rfl (by decide) ?_
        have e : sCmp bt n L m τ tk S = (1, τ, tk, S) := by rw [sCmp, if_pos (show tAt τ 60 = false ∧ tAt τ 61 = false ∧ tAt τ 62 = false from ⟨hf0, hf1, hf2⟩)] <;> rfl
        exact zs_zret dX7_readComparison_32 rfl (Or.inl rfl) (Or.inr ⟨by rw [e]; exact (show ¬ 1 = 0 by decide), rfl, by rw [e]; rfl⟩)
