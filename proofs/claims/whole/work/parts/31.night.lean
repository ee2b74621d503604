/-! ===== Night ===== -/
theorem zi_nk {x : Int32} {k : Nat} (hk : k < 2147483648) (h : ¬ x = nI k) : ¬ x.toInt = (k : Int) := fun e => h (by rw [zi_eq, nI_t hk]; exact e)
def fPlan (ap : Nat → Nat) (th : Nat) : List Value := [.int (nI th), .ref (ap 1), .ref (ap 2), .ref (ap 3), .ref (ap 4)]
abbrev kPlan (p : Nat) (ap : Nat → Nat) (th : Nat) (pt pk pn pm : Nat → Nat) : zK := [(p, .inr (3, fPlan ap th)), (ap 1, .inl (0, 20, .inl (nF pt))), (ap 2, .inl (0, 20, .inl (nF pk))), (ap 3, .inl (0, 20, .inl (nF pn))), (ap 4, .inl (0, 240, .inl (nF pm)))]
def fNi (an : Nat → Nat) (wk aim w : Nat) : List Value := [.ref (an 1), .ref (an 2), .ref (an 3), .ref (an 4), .int (nI wk), .int (nI aim), .int (nI w)]
abbrev kNi (n : Nat) (an : Nat → Nat) (wk aim w : Nat) (o1 o2 o3 o4 : Nat → Int32) : zK := [(n, .inr (2, fNi an wk aim w)), (an 1, .inl (0, 60, .inl o1)), (an 2, .inl (0, 60, .inl o2)), (an 3, .inl (0, 60, .inl o3)), (an 4, .inl (0, 60, .inl o4))]
/-- who works, the aim, the well, the row, the runners, the fire -/
abbrev zNi : Type := Nat × Nat × Nat × zRs × zRs × zF1
def nEnt (Y hdd pcc : Nat → Nat) (C R : Nat) (pk pn pm : Nat → Nat) (k : Nat) (N : zNi) : zNi :=
  if pk k = 0 then (1, N.2.1, N.2.2.1, cBeg Y hdd pm (k * 12) (pn k) N.2.2.1 N.2.2.2.1, N.2.2.2.2.1, N.2.2.2.2.2)
  else if pk k = 1 then (2, N.2.1, N.2.2.1, N.2.2.2.1, rBeg Y pcc pm (k * 12) (pn k) N.2.2.1 N.2.2.2.2.1, N.2.2.2.2.2)
  else if pk k = 2 then (0, N.2)
  else if pk k = 3 then (N.1, pn k, N.2.2)
  else if pk k = 4 then (N.1, N.2.1, N.2.2.1, N.2.2.2.1, N.2.2.2.2.1, ((gF C (pn k) N.2.2.2.2.2.1.1 R, N.2.2.2.2.2.1.2.1, gF C (pn k) N.2.2.2.2.2.1.2.2 R), N.2.2.2.2.2.2.1, gN C (pn k) N.2.2.2.2.2.1.2.2 N.2.2.2.2.2.2.2 R))
  else (0, N.2)
/-- the things whose minute has come; q at most -/
def nEnts (Y hdd pcc : Nat → Nat) (C R : Nat) (pt pk pn pm : Nat → Nat) (m : Nat) : Nat → Nat → zNi → Nat × zNi
  | 0, k, N => (k, N)
  | q + 1, k, N => if pt k ≤ m then nEnts Y hdd pcc C R pt pk pn pm m q (k + 1) (nEnt Y hdd pcc C R pk pn pm k N) else (k, N)
/-- what is thrown in a minute, and what stands behind it -/
def nWrk (Y pww : Nat → Nat) (N : zNi) : Int32 × zNi :=
  if N.1 = 1 then (nI ((cWork (Y 11) (Y 10) (Y 7) pww 60 N.2.2.2.1).1 15) - nI (N.2.2.2.1.1 15), (N.1, N.2.1, (cWork (Y 11) (Y 10) (Y 7) pww 60 N.2.2.2.1).1 14, cWork (Y 11) (Y 10) (Y 7) pww 60 N.2.2.2.1, N.2.2.2.2))
  else if N.1 = 2 then (nI ((rWork (Y 7) (Y 8) N.2.2.2.2.1 60).1 8) - nI (N.2.2.2.2.1.1 8), (N.1, N.2.1, (rWork (Y 7) (Y 8) N.2.2.2.2.1 60).1 7, N.2.2.2.1, rWork (Y 7) (Y 8) N.2.2.2.2.1 60, N.2.2.2.2.2))
  else (0, N)
def nBrn (C R : Nat) (wi : Int32) (V : Int32 × zNi) : zNi := (V.2.1, V.2.2.1, V.2.2.2.1, V.2.2.2.2.1, V.2.2.2.2.2.1, f1 C R wi V.2.2.2.2.2.2 (mAim C R wi V.2.2.2.2.2.2.1 (nI V.2.2.1)) V.1)
section
variable (Y hdd pcc pww : Nat → Nat) (C R : Nat) (wi : Int32) (th : Nat) (pt pk pn pm : Nat → Nat) (N0 : zNi)
/-- the things done with, and what stands, at a minute's beginning -/
def nSt : Nat → Nat × zNi
  | 0 => (0, N0)
  | m + 1 => ((nEnts Y hdd pcc C R pt pk pn pm m (th - (nSt m).1) (nSt m).1 (nSt m).2).1, nBrn C R wi (nWrk Y pww (nEnts Y hdd pcc C R pt pk pn pm m (th - (nSt m).1) (nSt m).1 (nSt m).2).2))
def nE (m : Nat) : Nat × zNi := nEnts Y hdd pcc C R pt pk pn pm m (th - (nSt Y hdd pcc pww C R wi th pt pk pn pm N0 m).1) (nSt Y hdd pcc pww C R wi th pt pk pn pm N0 m).1 (nSt Y hdd pcc pww C R wi th pt pk pn pm N0 m).2
def nO1 (m : Nat) : Int32 := (nWrk Y pww (nE Y hdd pcc pww C R wi th pt pk pn pm N0 m).2).1
def nO2 (m : Nat) : Int32 := (nSt Y hdd pcc pww C R wi th pt pk pn pm N0 (m + 1)).2.2.2.2.2.2.2.1
def nO3 (m : Nat) : Int32 := (nSt Y hdd pcc pww C R wi th pt pk pn pm N0 (m + 1)).2.2.2.2.2.2.2.2
def nO4 (m : Nat) : Int32 := nI (nSt Y hdd pcc pww C R wi th pt pk pn pm N0 (m + 1)).2.2.2.1
end
theorem rBeg_I {Y pcc ff : Nat → Nat} {first n w : Nat} {s : zRs} (h : rI s) (hn : n ≤ 12) (hw : w ≤ 9999) (hY5 : Y 5 ≤ 99) : rI (rBeg Y pcc ff first n w s) := by
  obtain ⟨h1, h2, h3, h4⟩ := h
  refine ⟨Nat.le_trans (Nat.min_le_left _ _) hn, fun p hp => ?_, Nat.zero_le _, ?_⟩
  · obtain ⟨a1, a2, a3, a4⟩ := h2 p hp
    show nCl (fun i => nUp (Y 5) (pcc (ff (first + i)))) (s.2 1) (min n (Y 6)) p ≤ 1000 ∧ nCl (fun _ => 0) (s.2 2) (min n (Y 6)) p ≤ 3 ∧ nCl (fun _ => 0) (s.2 3) (min n (Y 6)) p ≤ 1000 ∧ nCl (fun _ => 0) (s.2 4) (min n (Y 6)) p ≤ 20
    refine ⟨nCl_le (fun _ => ?_) a1, nCl_le (fun _ => Nat.zero_le _) a2, nCl_le (fun _ => Nat.zero_le _) a3, nCl_le (fun _ => Nat.zero_le _) a4⟩
    unfold nUp
    by_cases h0 : pcc (ff (first + p)) = 0
    · rw [h0, Nat.div_zero]
      omega
    · apply Nat.div_le_of_le_mul
      have : 1 * 1000 ≤ pcc (ff (first + p)) * 1000 := Nat.mul_le_mul_right _ (by omega)
      have h2 : pcc (ff (first + p)) * 1 ≤ pcc (ff (first + p)) * 900 := Nat.mul_le_mul_left _ (by omega)
      have h3 : pcc (ff (first + p)) * 1000 = pcc (ff (first + p)) * 900 + pcc (ff (first + p)) * 100 := by rw [← Nat.mul_add]
      have h4 : 1 * 100 ≤ pcc (ff (first + p)) * 100 := Nat.mul_le_mul_right _ (by omega)
      omega
  · show w ≤ 1000000
    omega
theorem rFin_7 (s : zRs) (i : Nat) : (rFin s i).1 7 = s.1 7 := by
  unfold rFin
  split
  · rfl
  · split <;> rfl
theorem rTk_7 {hold draw : Nat} {s : zRs} {i b : Nat} (h : s.1 7 ≤ b) : (rTk hold draw s i).1 7 ≤ b := by
  have h1 : (rA s i).1 7 = s.1 7 := by
    unfold rA
    split
    · rfl
    · split
      · rw [rFin_7]; rfl
      · rfl
  unfold rTk rB
  split
  · split
    · split
      · omega
      · show (rA s i).1 7 - min hold ((rA s i).1 7) ≤ b
        omega
    · omega
  · omega
theorem rPl_7 {hold draw : Nat} {s : zRs} {b : Nat} (h : s.1 7 ≤ b) : ∀ k, (rPl hold draw s k).1 7 ≤ b
  | 0 => h
  | k + 1 => rTk_7 (rPl_7 h k)
theorem rWork_7 {hold draw : Nat} {s : zRs} {b : Nat} (h : s.1 7 ≤ b) : ∀ k, (rWork hold draw s k).1 7 ≤ b
  | 0 => h
  | k + 1 => rPl_7 (rWork_7 h k) _
/-- what is true of a night's numbers before minute m -/
def nI_ (P m : Nat) (y : Nat) (yr yu : Value) (wk w : Nat) (ro ru : zRs) : Prop :=
  wk ≤ 2 ∧ w ≤ 9999 ∧ cW ro ∧ rI ru ∧ (wk = 1 → yr = .ref y ∧ ∃ t, t ≤ 60 * m ∧ cJ P t ro) ∧ (wk = 2 → yu = .ref y ∧ ru.1 7 ≤ 9999)
/-- a plan that fits the yard -/
def pOK (men C th : Nat) (pt pk pn pm : Nat → Nat) : Prop :=
  th ≤ 20 ∧ (∀ k, k < th → pt k ≤ 60 ∧ pk k ≤ 4 ∧ pn k ≤ 99999999 ∧ (pk k = 0 → 2 ≤ pn k ∧ pn k ≤ 12) ∧ (pk k = 1 → pn k ≤ 12) ∧ (pk k ≤ 1 → ∀ i, i < pn k → pm (k * 12 + i) < men) ∧ (pk k = 4 → pn k < C))
theorem s_rowWorkP (l : Launch) (dd : Nat) (ro y : Nat) (ar ay : Nat → Nat) (s : zRs) (Y : Nat → Nat) (wi : Int32) (nm : Nat → Int32) (hdd pcc pww : Nat → Nat) (yf yb : Nat → Int32) (n P t : Nat) (hd : 3 ≤ dd) (hP : P ≤ 30) (ht : t + n ≤ 3600) (hY6 : 1 ≤ Y 7 ∧ Y 7 ≤ 20) (hY10 : Y 10 ≤ 99) (hY11 : Y 11 ≤ 99) (hpw : ∀ j, j < 12 → pww j ≤ 99) (hJ : cJ P t s) : zSp l mX5_work dd 0 0 [.ref ro, .int (nI n)] (kRow ro ar (.ref y) s ++ kYrd y ay Y wi nm hdd pcc pww yf yb) (fun r K' => r = none ∧ K' = kRow ro ar (.ref y) (cWork (Y 11) (Y 10) (Y 7) pww n s) ++ kYrd y ay Y wi nm hdd pcc pww yf yb) :=
  s_rowWork l dd ro y ar ay s Y wi nm hdd pcc pww yf yb n hd (by omega) hY6 hY10 hY11 hpw (fun i s' => cJ P (t + i) s') (fun i k s' => i < n ∧ cIn P (t + i + 1) k s') (fun i s' h => ⟨by have := h.1.1; omega, h.1.1.2⟩) (fun i s' hi h => ⟨hi, cT0_pails h⟩) (fun i k s' h => h.2.cI hP (by have := h.1; show t + i + 1 ≤ 3600; omega)) (fun i s' p h hp => ⟨h.1, cPl_pails h.2 hP ⟨(show 1 ≤ t + i + 1 by omega), by have := h.1; show t + i + 1 ≤ 3600; omega⟩ hY6.2 hp⟩) (fun i s' hi h => cTick_pails h hP (by show t + i + 1 ≤ 3600; omega) hY6.2) hJ
theorem dX3_workMinute_0 : decode cX3_workMinute 0 = .ok (.aload_n 0, 1) := by decide +kernel
theorem dX3_workMinute_1 : decode cX3_workMinute 1 = .ok (.getfield 24, 3) := by decide +kernel
theorem dX3_workMinute_4 : decode cX3_workMinute 4 = .ok (.iconst 1, 1) := by decide +kernel
theorem dX3_workMinute_5 : decode cX3_workMinute 5 = .ok (.if_icmp .ne 29, 3) := by decide +kernel
theorem dX3_workMinute_8 : decode cX3_workMinute 8 = .ok (.aload_n 1, 1) := by decide +kernel
theorem dX3_workMinute_9 : decode cX3_workMinute 9 = .ok (.getfield 88, 3) := by decide +kernel
theorem dX3_workMinute_12 : decode cX3_workMinute 12 = .ok (.istore_n 3, 1) := by decide +kernel
theorem dX3_workMinute_13 : decode cX3_workMinute 13 = .ok (.aload_n 1, 1) := by decide +kernel
theorem dX3_workMinute_14 : decode cX3_workMinute 14 = .ok (.bipush 60, 2) := by decide +kernel
theorem dX3_workMinute_16 : decode cX3_workMinute 16 = .ok (.invokevirtual 90, 3) := by decide +kernel
theorem dX3_workMinute_19 : decode cX3_workMinute 19 = .ok (.aload_n 0, 1) := by decide +kernel
theorem dX3_workMinute_20 : decode cX3_workMinute 20 = .ok (.aload_n 1, 1) := by decide +kernel
theorem dX3_workMinute_21 : decode cX3_workMinute 21 = .ok (.getfield 94, 3) := by decide +kernel
theorem dX3_workMinute_24 : decode cX3_workMinute 24 = .ok (.putfield 35, 3) := by decide +kernel
theorem dX3_workMinute_27 : decode cX3_workMinute 27 = .ok (.aload_n 1, 1) := by decide +kernel
theorem dX3_workMinute_28 : decode cX3_workMinute 28 = .ok (.getfield 88, 3) := by decide +kernel
theorem dX3_workMinute_31 : decode cX3_workMinute 31 = .ok (.iload_n 3, 1) := by decide +kernel
theorem dX3_workMinute_32 : decode cX3_workMinute 32 = .ok (.isub, 1) := by decide +kernel
theorem dX3_workMinute_33 : decode cX3_workMinute 33 = .ok (.ireturn, 1) := by decide +kernel
theorem dX3_workMinute_34 : decode cX3_workMinute 34 = .ok (.aload_n 0, 1) := by decide +kernel
theorem dX3_workMinute_35 : decode cX3_workMinute 35 = .ok (.getfield 24, 3) := by decide +kernel
theorem dX3_workMinute_38 : decode cX3_workMinute 38 = .ok (.iconst 2, 1) := by decide +kernel
theorem dX3_workMinute_39 : decode cX3_workMinute 39 = .ok (.if_icmp .ne 29, 3) := by decide +kernel
theorem dX3_workMinute_42 : decode cX3_workMinute 42 = .ok (.aload_n 2, 1) := by decide +kernel
theorem dX3_workMinute_43 : decode cX3_workMinute 43 = .ok (.getfield 95, 3) := by decide +kernel
theorem dX3_workMinute_46 : decode cX3_workMinute 46 = .ok (.istore_n 3, 1) := by decide +kernel
theorem dX3_workMinute_47 : decode cX3_workMinute 47 = .ok (.aload_n 2, 1) := by decide +kernel
theorem dX3_workMinute_48 : decode cX3_workMinute 48 = .ok (.bipush 60, 2) := by decide +kernel
theorem dX3_workMinute_50 : decode cX3_workMinute 50 = .ok (.invokevirtual 96, 3) := by decide +kernel
theorem dX3_workMinute_53 : decode cX3_workMinute 53 = .ok (.aload_n 0, 1) := by decide +kernel
theorem dX3_workMinute_54 : decode cX3_workMinute 54 = .ok (.aload_n 2, 1) := by decide +kernel
theorem dX3_workMinute_55 : decode cX3_workMinute 55 = .ok (.getfield 97, 3) := by decide +kernel
theorem dX3_workMinute_58 : decode cX3_workMinute 58 = .ok (.putfield 35, 3) := by decide +kernel
theorem dX3_workMinute_61 : decode cX3_workMinute 61 = .ok (.aload_n 2, 1) := by decide +kernel
theorem dX3_workMinute_62 : decode cX3_workMinute 62 = .ok (.getfield 95, 3) := by decide +kernel
theorem dX3_workMinute_65 : decode cX3_workMinute 65 = .ok (.iload_n 3, 1) := by decide +kernel
theorem dX3_workMinute_66 : decode cX3_workMinute 66 = .ok (.isub, 1) := by decide +kernel
theorem dX3_workMinute_67 : decode cX3_workMinute 67 = .ok (.ireturn, 1) := by decide +kernel
theorem dX3_workMinute_68 : decode cX3_workMinute 68 = .ok (.iconst 0, 1) := by decide +kernel
theorem dX3_workMinute_69 : decode cX3_workMinute 69 = .ok (.ireturn, 1) := by decide +kernel
set_option maxRecDepth 100000 in
theorem s_workMin (l : Launch) (dd : Nat) (nn y rr u : Nat) (an ay ar au : Nat → Nat) (yr yu : Value) (wk aim w : Nat) (ro ru : zRs) (Y : Nat → Nat) (wi : Int32) (nm : Nat → Int32) (hdd pcc pww : Nat → Nat) (yf yb : Nat → Int32) (F : zF1) (m : Nat) (hd : 4 ≤ dd) (hm : m < 60) (hY6 : 1 ≤ Y 7 ∧ Y 7 ≤ 20) (hY10 : Y 10 ≤ 99) (hY11 : Y 11 ≤ 99) (hpw : ∀ j, j < 12 → pww j ≤ 99) (hY5 : Y 5 ≤ 99) (hP : Y 6 ≤ 30) (hY8 : Y 8 ≤ 30) (hY12 : Y 12 ≤ 9) (hNI : nI_ (Y 6) m y yr yu wk w ro ru) : zSp l mX3_workMinute dd 0 0 [.ref nn, .ref rr, .ref u] [(nn, .inr (2, fNi an wk aim w)), (rr, .inr (4, fRow ar (nF ro.1) yr)), (ar 1, .inl (0, 12, .inl (nF (ro.2 1)))), (ar 2, .inl (0, 12, .inl (nF (ro.2 2)))), (ar 3, .inl (0, 12, .inl (nF (ro.2 3)))), (ar 4, .inl (0, 12, .inl (nF (ro.2 4)))), (ar 5, .inl (0, 12, .inl (nF (ro.2 5)))), (ar 6, .inl (0, 360, .inl (nF (ro.2 6)))), (ar 7, .inl (0, 12, .inl (nF (ro.2 7)))), (ar 8, .inl (0, 12, .inl (nF (ro.2 8)))), (ar 9, .inl (0, 12, .inl (nF (ro.2 9)))), (ar 10, .inl (0, 100, .inl (nF (ro.2 10)))), (y, .inr (9, fYard ay (ysN Y wi))), (ay 1, .inl (0, 12, .inl nm)), (ay 2, .inl (0, 12, .inl (nF hdd))), (ay 3, .inl (0, 12, .inl (nF pcc))), (ay 4, .inl (0, 12, .inl (nF pww))), (ay 5, .inl (0, 64, .inl yf)), (ay 6, .inl (1, 64, .inl yb)), (u, .inr (5, fRun au (nF ru.1) yu)), (au 1, .inl (0, 12, .inl (nF (ru.2 1)))), (au 2, .inl (0, 12, .inl (nF (ru.2 2)))), (au 3, .inl (0, 12, .inl (nF (ru.2 3)))), (au 4, .inl (0, 12, .inl (nF (ru.2 4))))] (fun r K' => r = some (.int (nWrk Y pww (wk, aim, w, ro, ru, F)).1) ∧ ∃ yr' yu', K' = [(nn, .inr (2, fNi an (nWrk Y pww (wk, aim, w, ro, ru, F)).2.1 (nWrk Y pww (wk, aim, w, ro, ru, F)).2.2.1 (nWrk Y pww (wk, aim, w, ro, ru, F)).2.2.2.1))] ++ (kRow rr ar yr' (nWrk Y pww (wk, aim, w, ro, ru, F)).2.2.2.2.1 ++ (kYrd y ay Y wi nm hdd pcc pww yf yb ++ kRun u au yu' (nWrk Y pww (wk, aim, w, ro, ru, F)).2.2.2.2.2.1)) ∧ (wk = 1 → yr' = .ref y) ∧ (wk = 2 → yu' = .ref y)) := by
  refine zSp.of (by decide) (Nat.le_of_ble_eq_true rfl) (fun h0 => ?_)
  show zS _ 0 0 0 [(0, .ref nn), (1, .ref rr), (2, .ref u)] [] [(nn, .inr (2, fNi an wk aim w)), (rr, .inr (4, fRow ar (nF ro.1) yr)), (ar 1, .inl (0, 12, .inl (nF (ro.2 1)))), (ar 2, .inl (0, 12, .inl (nF (ro.2 2)))), (ar 3, .inl (0, 12, .inl (nF (ro.2 3)))), (ar 4, .inl (0, 12, .inl (nF (ro.2 4)))), (ar 5, .inl (0, 12, .inl (nF (ro.2 5)))), (ar 6, .inl (0, 360, .inl (nF (ro.2 6)))), (ar 7, .inl (0, 12, .inl (nF (ro.2 7)))), (ar 8, .inl (0, 12, .inl (nF (ro.2 8)))), (ar 9, .inl (0, 12, .inl (nF (ro.2 9)))), (ar 10, .inl (0, 100, .inl (nF (ro.2 10)))), (y, .inr (9, fYard ay (ysN Y wi))), (ay 1, .inl (0, 12, .inl nm)), (ay 2, .inl (0, 12, .inl (nF hdd))), (ay 3, .inl (0, 12, .inl (nF pcc))), (ay 4, .inl (0, 12, .inl (nF pww))), (ay 5, .inl (0, 64, .inl yf)), (ay 6, .inl (1, 64, .inl yb)), (u, .inr (5, fRun au (nF ru.1) yu)), (au 1, .inl (0, 12, .inl (nF (ru.2 1)))), (au 2, .inl (0, 12, .inl (nF (ru.2 2)))), (au 3, .inl (0, 12, .inl (nF (ru.2 3)))), (au 4, .inl (0, 12, .inl (nF (ru.2 4))))]
  have b0 := hNI.1
  refine zs_aload_n dX3_workMinute_0 rfl rfl ?_
  refine zs_get 0 dX3_workMinute_1 zf_RX3_24 rfl (v := .int (nI wk)) rfl ?_
  refine zs_iconst (v := nI 1) dX3_workMinute_4 (by decide) ?_
  refine zs_icmp_ne (tgt := 34) dX3_workMinute_5 (by decide) (fun c_1 => ?_) (fun c_1 => ?_)
  · have c_1 : ¬ (wk = 1) := by have hc := c_1; rw [nI_eq' (by omega) (by omega)] at hc; exact hc
    refine zs_aload_n dX3_workMinute_34 rfl rfl ?_
    refine zs_get 0 dX3_workMinute_35 zf_RX3_24 rfl (v := .int (nI wk)) rfl ?_
    refine zs_iconst (v := nI 2) dX3_workMinute_38 (by decide) ?_
    refine zs_icmp_ne (tgt := 68) dX3_workMinute_39 (by decide) (fun c_2 => ?_) (fun c_2 => ?_)
    · have c_2 : ¬ (wk = 2) := by have hc := c_2; rw [nI_eq' (by omega) (by omega)] at hc; exact hc
      refine zs_iconst (v := nI 0) dX3_workMinute_68 (by decide) ?_
      have e : (nWrk Y pww (wk, aim, w, ro, ru, F)) = _ := (if_neg (show ¬ (wk, aim, w, ro, ru, F).1 = 1 from c_1)).trans (if_neg (show ¬ (wk, aim, w, ro, ru, F).1 = 2 from c_2))
      exact zs_iret dX3_workMinute_69 rfl ⟨congrArg (fun z : Int32 × zNi => some (Value.int z.1)) e.symm, yr, yu, by rw [e]; rfl, fun h => absurd h c_1, fun h => absurd h c_2⟩
    · have c_2 : wk = 2 := by have hc := c_2; rw [nI_eq' (by omega) (by omega)] at hc; exact hc
      obtain ⟨rfl, hu7⟩ := hNI.2.2.2.2.2 c_2
      refine zs_aload_n dX3_workMinute_42 rfl rfl ?_
      refine zs_get 19 dX3_workMinute_43 zf_RX3_95 rfl (v := .int (nI (ru.1 8))) rfl ?_
      refine zs_istore_n (lv' := [(3, .int (nI (ru.1 8))), (0, .ref nn), (1, .ref rr), (2, .ref u)]) dX3_workMinute_46 (Nat.le_of_ble_eq_true rfl) rfl ?_
      refine zs_aload_n dX3_workMinute_47 rfl rfl ?_
      refine zs_bipush (v := nI 60) dX3_workMinute_48 (by decide) ?_
      refine zs_callV (M := mX6_work) (As := [.int (nI 60)]) (st := []) (Kc := [(u, .inr (5, fRun au (nF ru.1) (.ref y))), (au 1, .inl (0, 12, .inl (nF (ru.2 1)))), (au 2, .inl (0, 12, .inl (nF (ru.2 2)))), (au 3, .inl (0, 12, .inl (nF (ru.2 3)))), (au 4, .inl (0, 12, .inl (nF (ru.2 4)))), (y, .inr (9, fYard ay (ysN Y wi)))]) (Kr := [(nn, .inr (2, fNi an wk aim w)), (rr, .inr (4, fRow ar (nF ro.1) yr)), (ar 1, .inl (0, 12, .inl (nF (ro.2 1)))), (ar 2, .inl (0, 12, .inl (nF (ro.2 2)))), (ar 3, .inl (0, 12, .inl (nF (ro.2 3)))), (ar 4, .inl (0, 12, .inl (nF (ro.2 4)))), (ar 5, .inl (0, 12, .inl (nF (ro.2 5)))), (ar 6, .inl (0, 360, .inl (nF (ro.2 6)))), (ar 7, .inl (0, 12, .inl (nF (ro.2 7)))), (ar 8, .inl (0, 12, .inl (nF (ro.2 8)))), (ar 9, .inl (0, 12, .inl (nF (ro.2 9)))), (ar 10, .inl (0, 100, .inl (nF (ro.2 10)))), (ay 1, .inl (0, 12, .inl nm)), (ay 2, .inl (0, 12, .inl (nF hdd))), (ay 3, .inl (0, 12, .inl (nF pcc))), (ay 4, .inl (0, 12, .inl (nF pww))), (ay 5, .inl (0, 64, .inl yf)), (ay 6, .inl (1, 64, .inl yb))]) [19, 20, 21, 22, 23, 12] [0, 1, 2, 3, 4, 5, 6, 7, 8, 9, 10, 11, 13, 14, 15, 16, 17, 18] 0 dX3_workMinute_50 zl_RX3_96 kX6_work rfl rfl rfl rfl rfl (by decide) rfl rfl (show dd - 1 + 1 ≤ dd by omega) (Nat.zero_le _) (Nat.zero_le _) (Nat.le_of_ble_eq_true rfl) (s_runWork l (dd - 1) u y au ay ru Y wi 60 (by omega) (by omega) hNI.2.2.2.1 hY6.2 hY8) (fun r K1 hr => ?_)
      obtain ⟨rfl, rfl⟩ := hr
      refine zs_K (K' := [(nn, .inr (2, fNi an wk aim w)), (rr, .inr (4, fRow ar (nF ro.1) yr)), (ar 1, .inl (0, 12, .inl (nF (ro.2 1)))), (ar 2, .inl (0, 12, .inl (nF (ro.2 2)))), (ar 3, .inl (0, 12, .inl (nF (ro.2 3)))), (ar 4, .inl (0, 12, .inl (nF (ro.2 4)))), (ar 5, .inl (0, 12, .inl (nF (ro.2 5)))), (ar 6, .inl (0, 360, .inl (nF (ro.2 6)))), (ar 7, .inl (0, 12, .inl (nF (ro.2 7)))), (ar 8, .inl (0, 12, .inl (nF (ro.2 8)))), (ar 9, .inl (0, 12, .inl (nF (ro.2 9)))), (ar 10, .inl (0, 100, .inl (nF (ro.2 10)))), (y, .inr (9, fYard ay (ysN Y wi))), (ay 1, .inl (0, 12, .inl nm)), (ay 2, .inl (0, 12, .inl (nF hdd))), (ay 3, .inl (0, 12, .inl (nF pcc))), (ay 4, .inl (0, 12, .inl (nF pww))), (ay 5, .inl (0, 64, .inl yf)), (ay 6, .inl (1, 64, .inl yb)), (u, .inr (5, fRun au (nF (rWork (Y 7) (Y 8) ru 60).1) (.ref y))), (au 1, .inl (0, 12, .inl (nF ((rWork (Y 7) (Y 8) ru 60).2 1)))), (au 2, .inl (0, 12, .inl (nF ((rWork (Y 7) (Y 8) ru 60).2 2)))), (au 3, .inl (0, 12, .inl (nF ((rWork (Y 7) (Y 8) ru 60).2 3)))), (au 4, .inl (0, 12, .inl (nF ((rWork (Y 7) (Y 8) ru 60).2 4))))]) [0, 1, 2, 3, 4, 5, 6, 7, 8, 9, 10, 11, 23, 12, 13, 14, 15, 16, 17, 18, 19, 20, 21, 22] rfl (by decide) ?_
      refine zs_aload_n dX3_workMinute_53 rfl rfl ?_
      refine zs_aload_n dX3_workMinute_54 rfl rfl ?_
      refine zs_get 19 dX3_workMinute_55 zf_RX3_97 rfl (v := .int (nI ((rWork (Y 7) (Y 8) ru 60).1 7))) rfl ?_
      refine zs_put 0 dX3_workMinute_58 zf_RX3_35 rfl (Nat.le_of_ble_eq_true rfl) (zPv_i _) ?_
      show zS _ _ _ _ _ _ [(nn, .inr (2, fNi an wk aim ((rWork (Y 7) (Y 8) ru 60).1 7))), (rr, .inr (4, fRow ar (nF ro.1) yr)), (ar 1, .inl (0, 12, .inl (nF (ro.2 1)))), (ar 2, .inl (0, 12, .inl (nF (ro.2 2)))), (ar 3, .inl (0, 12, .inl (nF (ro.2 3)))), (ar 4, .inl (0, 12, .inl (nF (ro.2 4)))), (ar 5, .inl (0, 12, .inl (nF (ro.2 5)))), (ar 6, .inl (0, 360, .inl (nF (ro.2 6)))), (ar 7, .inl (0, 12, .inl (nF (ro.2 7)))), (ar 8, .inl (0, 12, .inl (nF (ro.2 8)))), (ar 9, .inl (0, 12, .inl (nF (ro.2 9)))), (ar 10, .inl (0, 100, .inl (nF (ro.2 10)))), (y, .inr (9, fYard ay (ysN Y wi))), (ay 1, .inl (0, 12, .inl nm)), (ay 2, .inl (0, 12, .inl (nF hdd))), (ay 3, .inl (0, 12, .inl (nF pcc))), (ay 4, .inl (0, 12, .inl (nF pww))), (ay 5, .inl (0, 64, .inl yf)), (ay 6, .inl (1, 64, .inl yb)), (u, .inr (5, fRun au (nF (rWork (Y 7) (Y 8) ru 60).1) (.ref y))), (au 1, .inl (0, 12, .inl (nF ((rWork (Y 7) (Y 8) ru 60).2 1)))), (au 2, .inl (0, 12, .inl (nF ((rWork (Y 7) (Y 8) ru 60).2 2)))), (au 3, .inl (0, 12, .inl (nF ((rWork (Y 7) (Y 8) ru 60).2 3)))), (au 4, .inl (0, 12, .inl (nF ((rWork (Y 7) (Y 8) ru 60).2 4))))]
      refine zs_aload_n dX3_workMinute_61 rfl rfl ?_
      refine zs_get 19 dX3_workMinute_62 zf_RX3_95 rfl (v := .int (nI ((rWork (Y 7) (Y 8) ru 60).1 8))) rfl ?_
      refine zs_iload_n dX3_workMinute_65 rfl ?_
      refine zs_isub dX3_workMinute_66 ?_
      have e : (nWrk Y pww (wk, aim, w, ro, ru, F)) = _ := (if_neg (show ¬ (wk, aim, w, ro, ru, F).1 = 1 from c_1)).trans (if_pos (show (wk, aim, w, ro, ru, F).1 = 2 from c_2))
      generalize rWork (Y 7) (Y 8) ru 60 = z at e ⊢
      exact zs_iret dX3_workMinute_67 rfl ⟨congrArg (fun z : Int32 × zNi => some (Value.int z.1)) e.symm, yr, .ref y, by rw [e]; rfl, fun h => absurd h c_1, fun _ => rfl⟩
  · have c_1 : wk = 1 := by have hc := c_1; rw [nI_eq' (by omega) (by omega)] at hc; exact hc
    obtain ⟨rfl, t, ht, hJt⟩ := hNI.2.2.2.2.1 c_1
    refine zs_aload_n dX3_workMinute_8 rfl rfl ?_
    refine zs_get 1 dX3_workMinute_9 zf_RX3_88 rfl (v := .int (nI (ro.1 15))) rfl ?_
    refine zs_istore_n (lv' := [(3, .int (nI (ro.1 15))), (0, .ref nn), (1, .ref rr), (2, .ref u)]) dX3_workMinute_12 (Nat.le_of_ble_eq_true rfl) rfl ?_
    refine zs_aload_n dX3_workMinute_13 rfl rfl ?_
    refine zs_bipush (v := nI 60) dX3_workMinute_14 (by decide) ?_
    refine zs_callV (M := mX5_work) (As := [.int (nI 60)]) (st := []) (Kc := [(rr, .inr (4, fRow ar (nF ro.1) (.ref y))), (ar 1, .inl (0, 12, .inl (nF (ro.2 1)))), (ar 2, .inl (0, 12, .inl (nF (ro.2 2)))), (ar 3, .inl (0, 12, .inl (nF (ro.2 3)))), (ar 4, .inl (0, 12, .inl (nF (ro.2 4)))), (ar 5, .inl (0, 12, .inl (nF (ro.2 5)))), (ar 6, .inl (0, 360, .inl (nF (ro.2 6)))), (ar 7, .inl (0, 12, .inl (nF (ro.2 7)))), (ar 8, .inl (0, 12, .inl (nF (ro.2 8)))), (ar 9, .inl (0, 12, .inl (nF (ro.2 9)))), (ar 10, .inl (0, 100, .inl (nF (ro.2 10)))), (y, .inr (9, fYard ay (ysN Y wi))), (ay 1, .inl (0, 12, .inl nm)), (ay 2, .inl (0, 12, .inl (nF hdd))), (ay 3, .inl (0, 12, .inl (nF pcc))), (ay 4, .inl (0, 12, .inl (nF pww))), (ay 5, .inl (0, 64, .inl yf)), (ay 6, .inl (1, 64, .inl yb))]) (Kr := [(nn, .inr (2, fNi an wk aim w)), (u, .inr (5, fRun au (nF ru.1) yu)), (au 1, .inl (0, 12, .inl (nF (ru.2 1)))), (au 2, .inl (0, 12, .inl (nF (ru.2 2)))), (au 3, .inl (0, 12, .inl (nF (ru.2 3)))), (au 4, .inl (0, 12, .inl (nF (ru.2 4))))]) [1, 2, 3, 4, 5, 6, 7, 8, 9, 10, 11, 12, 13, 14, 15, 16, 17, 18] [0, 19, 20, 21, 22, 23] 0 dX3_workMinute_16 zl_RX3_90 kX5_work rfl rfl rfl rfl rfl (by decide) rfl rfl (show dd - 1 + 1 ≤ dd by omega) (Nat.zero_le _) (Nat.zero_le _) (Nat.le_of_ble_eq_true rfl) (s_rowWorkP l (dd - 1) rr y ar ay ro Y wi nm hdd pcc pww yf yb 60 (Y 6) t (by omega) hP (by omega) hY6 hY10 hY11 hpw hJt) (fun r K1 hr => ?_)
    obtain ⟨rfl, rfl⟩ := hr
    refine zs_K (K' := [(nn, .inr (2, fNi an wk aim w)), (rr, .inr (4, fRow ar (nF (cWork (Y 11) (Y 10) (Y 7) pww 60 ro).1) (.ref y))), (ar 1, .inl (0, 12, .inl (nF ((cWork (Y 11) (Y 10) (Y 7) pww 60 ro).2 1)))), (ar 2, .inl (0, 12, .inl (nF ((cWork (Y 11) (Y 10) (Y 7) pww 60 ro).2 2)))), (ar 3, .inl (0, 12, .inl (nF ((cWork (Y 11) (Y 10) (Y 7) pww 60 ro).2 3)))), (ar 4, .inl (0, 12, .inl (nF ((cWork (Y 11) (Y 10) (Y 7) pww 60 ro).2 4)))), (ar 5, .inl (0, 12, .inl (nF ((cWork (Y 11) (Y 10) (Y 7) pww 60 ro).2 5)))), (ar 6, .inl (0, 360, .inl (nF ((cWork (Y 11) (Y 10) (Y 7) pww 60 ro).2 6)))), (ar 7, .inl (0, 12, .inl (nF ((cWork (Y 11) (Y 10) (Y 7) pww 60 ro).2 7)))), (ar 8, .inl (0, 12, .inl (nF ((cWork (Y 11) (Y 10) (Y 7) pww 60 ro).2 8)))), (ar 9, .inl (0, 12, .inl (nF ((cWork (Y 11) (Y 10) (Y 7) pww 60 ro).2 9)))), (ar 10, .inl (0, 100, .inl (nF ((cWork (Y 11) (Y 10) (Y 7) pww 60 ro).2 10)))), (y, .inr (9, fYard ay (ysN Y wi))), (ay 1, .inl (0, 12, .inl nm)), (ay 2, .inl (0, 12, .inl (nF hdd))), (ay 3, .inl (0, 12, .inl (nF pcc))), (ay 4, .inl (0, 12, .inl (nF pww))), (ay 5, .inl (0, 64, .inl yf)), (ay 6, .inl (1, 64, .inl yb)), (u, .inr (5, fRun au (nF ru.1) yu)), (au 1, .inl (0, 12, .inl (nF (ru.2 1)))), (au 2, .inl (0, 12, .inl (nF (ru.2 2)))), (au 3, .inl (0, 12, .inl (nF (ru.2 3)))), (au 4, .inl (0, 12, .inl (nF (ru.2 4))))]) [0, 6, 7, 8, 9, 10, 11, 12, 13, 14, 15, 16, 17, 18, 19, 20, 21, 22, 23, 1, 2, 3, 4, 5] rfl (by decide) ?_
    refine zs_aload_n dX3_workMinute_19 rfl rfl ?_
    refine zs_aload_n dX3_workMinute_20 rfl rfl ?_
    refine zs_get 1 dX3_workMinute_21 zf_RX3_94 rfl (v := .int (nI ((cWork (Y 11) (Y 10) (Y 7) pww 60 ro).1 14))) rfl ?_
    refine zs_put 0 dX3_workMinute_24 zf_RX3_35 rfl (Nat.le_of_ble_eq_true rfl) (zPv_i _) ?_
    show zS _ _ _ _ _ _ [(nn, .inr (2, fNi an wk aim ((cWork (Y 11) (Y 10) (Y 7) pww 60 ro).1 14))), (rr, .inr (4, fRow ar (nF (cWork (Y 11) (Y 10) (Y 7) pww 60 ro).1) (.ref y))), (ar 1, .inl (0, 12, .inl (nF ((cWork (Y 11) (Y 10) (Y 7) pww 60 ro).2 1)))), (ar 2, .inl (0, 12, .inl (nF ((cWork (Y 11) (Y 10) (Y 7) pww 60 ro).2 2)))), (ar 3, .inl (0, 12, .inl (nF ((cWork (Y 11) (Y 10) (Y 7) pww 60 ro).2 3)))), (ar 4, .inl (0, 12, .inl (nF ((cWork (Y 11) (Y 10) (Y 7) pww 60 ro).2 4)))), (ar 5, .inl (0, 12, .inl (nF ((cWork (Y 11) (Y 10) (Y 7) pww 60 ro).2 5)))), (ar 6, .inl (0, 360, .inl (nF ((cWork (Y 11) (Y 10) (Y 7) pww 60 ro).2 6)))), (ar 7, .inl (0, 12, .inl (nF ((cWork (Y 11) (Y 10) (Y 7) pww 60 ro).2 7)))), (ar 8, .inl (0, 12, .inl (nF ((cWork (Y 11) (Y 10) (Y 7) pww 60 ro).2 8)))), (ar 9, .inl (0, 12, .inl (nF ((cWork (Y 11) (Y 10) (Y 7) pww 60 ro).2 9)))), (ar 10, .inl (0, 100, .inl (nF ((cWork (Y 11) (Y 10) (Y 7) pww 60 ro).2 10)))), (y, .inr (9, fYard ay (ysN Y wi))), (ay 1, .inl (0, 12, .inl nm)), (ay 2, .inl (0, 12, .inl (nF hdd))), (ay 3, .inl (0, 12, .inl (nF pcc))), (ay 4, .inl (0, 12, .inl (nF pww))), (ay 5, .inl (0, 64, .inl yf)), (ay 6, .inl (1, 64, .inl yb)), (u, .inr (5, fRun au (nF ru.1) yu)), (au 1, .inl (0, 12, .inl (nF (ru.2 1)))), (au 2, .inl (0, 12, .inl (nF (ru.2 2)))), (au 3, .inl (0, 12, .inl (nF (ru.2 3)))), (au 4, .inl (0, 12, .inl (nF (ru.2 4))))]
    refine zs_aload_n dX3_workMinute_27 rfl rfl ?_
    refine zs_get 1 dX3_workMinute_28 zf_RX3_88 rfl (v := .int (nI ((cWork (Y 11) (Y 10) (Y 7) pww 60 ro).1 15))) rfl ?_
    refine zs_iload_n dX3_workMinute_31 rfl ?_
    refine zs_isub dX3_workMinute_32 ?_
    have e : (nWrk Y pww (wk, aim, w, ro, ru, F)) = _ := if_pos (show (wk, aim, w, ro, ru, F).1 = 1 from c_1)
    generalize cWork (Y 11) (Y 10) (Y 7) pww 60 ro = z at e ⊢
    exact zs_iret dX3_workMinute_33 rfl ⟨congrArg (fun z : Int32 × zNi => some (Value.int z.1)) e.symm, .ref y, yu, by rw [e]; rfl, fun _ => rfl, fun h => absurd (c_1.symm.trans h) (by decide)⟩
