/-! ===== Night ===== -/
theorem zi_nk {x : Int32} {k : Nat} (hk : k < 2147483648) (h : ¬ x = nI k) : ¬ x.toInt = (k : Int) := fun e => h (by rw [zi_eq, nI_t hk]; exact e)
def fPlan (ap : Nat → Nat) (th : Nat) : List Value := [.int (nI th), .ref (ap 1), .ref (ap 2), .ref (ap 3), .ref (ap 4)]
abbrev kPlan (p : Nat) (ap : Nat → Nat) (th : Nat) (pt pk pn pm : Nat → Nat) : zK := [(p, .inr (3, fPlan ap th)), (ap 1, .inl (0, 20, .inl (nF pt))), (ap 2, .inl (0, 20, .inl (nF pk))), (ap 3, .inl (0, 20, .inl (nF pn))), (ap 4, .inl (0, 240, .inl (nF pm)))]
def fNi (an : Nat → Nat) (wk aim w : Nat) : List Value := [.ref (an 1), .ref (an 2), .ref (an 3), .ref (an 4), .int (nI wk), .int (nI aim), .int (nI w)]
abbrev kNi (n : Nat) (an : Nat → Nat) (wk aim w : Nat) (o1 o2 o3 o4 : Nat → Int32) : zK := [(n, .inr (2, fNi an wk aim w)), (an 1, .inl (0, 60, .inl o1)), (an 2, .inl (0, 60, .inl o2)), (an 3, .inl (0, 60, .inl o3)), (an 4, .inl (0, 60, .inl o4))]
/-- who works, the aim, the well, the row, the runners, the fire -/
abbrev zNi : Type := Nat × Nat × Nat × zRs × zRs × zF1
def nEnt (Y hdd pcc : Nat → Nat) (C R : Nat) (pk pn pm : Nat → Nat) (k : Nat) (N : zNi) : zNi :=
  if pk k = 0 then (1, N.2.1, N.2.2.1, cBeg Y hdd pm (k * 12) (pn k) N.2.2.1 N.2.2.2.1, N.2.2.2.2.1, N.2.2.2.2.2)
  else if pk k = 1 then (2, N.2.1, N.2.2.1, N.2.2.2.1, rBeg Y pcc pm (k * 12) (pn k) N.2.2.1 N.2.2.2.2.1, N.2.2.2.2.2)
  else if pk k = 2 then (0, N.2)
  else if pk k = 3 then (N.1, pn k, N.2.2)
  else if pk k = 4 then (N.1, N.2.1, N.2.2.1, N.2.2.2.1, N.2.2.2.2.1, ((gF C (pn k) N.2.2.2.2.2.1.1 R, N.2.2.2.2.2.1.2.1, gF C (pn k) N.2.2.2.2.2.1.2.2 R), N.2.2.2.2.2.2.1, gN C (pn k) N.2.2.2.2.2.1.2.2 N.2.2.2.2.2.2.2 R))
  else (0, N.2)
/-- the things whose minute has come; q at most -/
def nEnts (Y hdd pcc : Nat → Nat) (C R : Nat) (pt pk pn pm : Nat → Nat) (m : Nat) : Nat → Nat → zNi → Nat × zNi
  | 0, k, N => (k, N)
  | q + 1, k, N => if pt k ≤ m then nEnts Y hdd pcc C R pt pk pn pm m q (k + 1) (nEnt Y hdd pcc C R pk pn pm k N) else (k, N)
/-- what is thrown in a minute, and what stands behind it -/
def nWrk (Y pww : Nat → Nat) (N : zNi) : Int32 × zNi :=
  if N.1 = 1 then (nI ((cWork (Y 11) (Y 10) (Y 7) pww 60 N.2.2.2.1).1 15) - nI (N.2.2.2.1.1 15), (N.1, N.2.1, (cWork (Y 11) (Y 10) (Y 7) pww 60 N.2.2.2.1).1 14, cWork (Y 11) (Y 10) (Y 7) pww 60 N.2.2.2.1, N.2.2.2.2))
  else if N.1 = 2 then (nI ((rWork (Y 7) (Y 8) N.2.2.2.2.1 60).1 8) - nI (N.2.2.2.2.1.1 8), (N.1, N.2.1, (rWork (Y 7) (Y 8) N.2.2.2.2.1 60).1 7, N.2.2.2.1, rWork (Y 7) (Y 8) N.2.2.2.2.1 60, N.2.2.2.2.2))
  else (0, N)
def nBrn (C R : Nat) (wi : Int32) (V : Int32 × zNi) : zNi := (V.2.1, V.2.2.1, V.2.2.2.1, V.2.2.2.2.1, V.2.2.2.2.2.1, f1 C R wi V.2.2.2.2.2.2 (mAim C R wi V.2.2.2.2.2.2.1 (nI V.2.2.1)) V.1)
section
variable (Y hdd pcc pww : Nat → Nat) (C R : Nat) (wi : Int32) (th : Nat) (pt pk pn pm : Nat → Nat) (N0 : zNi)
/-- the things done with, and what stands, at a minute's beginning -/
def nSt : Nat → Nat × zNi
  | 0 => (0, N0)
  | m + 1 => ((nEnts Y hdd pcc C R pt pk pn pm m (th - (nSt m).1) (nSt m).1 (nSt m).2).1, nBrn C R wi (nWrk Y pww (nEnts Y hdd pcc C R pt pk pn pm m (th - (nSt m).1) (nSt m).1 (nSt m).2).2))
def nE (m : Nat) : Nat × zNi := nEnts Y hdd pcc C R pt pk pn pm m (th - (nSt Y hdd pcc pww C R wi th pt pk pn pm N0 m).1) (nSt Y hdd pcc pww C R wi th pt pk pn pm N0 m).1 (nSt Y hdd pcc pww C R wi th pt pk pn pm N0 m).2
def nO1 (m : Nat) : Int32 := (nWrk Y pww (nE Y hdd pcc pww C R wi th pt pk pn pm N0 m).2).1
def nO2 (m : Nat) : Int32 := (nSt Y hdd pcc pww C R wi th pt pk pn pm N0 (m + 1)).2.2.2.2.2.2.2.1
def nO3 (m : Nat) : Int32 := (nSt Y hdd pcc pww C R wi th pt pk pn pm N0 (m + 1)).2.2.2.2.2.2.2.2
def nO4 (m : Nat) : Int32 := nI (nSt Y hdd pcc pww C R wi th pt pk pn pm N0 (m + 1)).2.2.2.1
end
theorem rBeg_I {Y pcc ff : Nat → Nat} {first n w : Nat} {s : zRs} (h : rI s) (hn : n ≤ 12) (hw : w ≤ 9999) (hY5 : Y 5 ≤ 99) : rI (rBeg Y pcc ff first n w s) := by
  obtain ⟨h1, h2, h3, h4⟩ := h
  refine ⟨Nat.le_trans (Nat.min_le_left _ _) hn, fun p hp => ?_, Nat.zero_le _, ?_⟩
  · obtain ⟨a1, a2, a3, a4⟩ := h2 p hp
    show nCl (fun i => nUp (Y 5) (pcc (ff (first + i)))) (s.2 1) (min n (Y 6)) p ≤ 1000 ∧ nCl (fun _ => 0) (s.2 2) (min n (Y 6)) p ≤ 3 ∧ nCl (fun _ => 0) (s.2 3) (min n (Y 6)) p ≤ 1000 ∧ nCl (fun _ => 0) (s.2 4) (min n (Y 6)) p ≤ 20
    refine ⟨nCl_le (fun _ => ?_) a1, nCl_le (fun _ => Nat.zero_le _) a2, nCl_le (fun _ => Nat.zero_le _) a3, nCl_le (fun _ => Nat.zero_le _) a4⟩
    unfold nUp
    by_cases h0 : pcc (ff (first + p)) = 0
    · rw [h0, Nat.div_zero]
      omega
    · apply Nat.div_le_of_le_mul
      have : 1 * 1000 ≤ pcc (ff (first + p)) * 1000 := Nat.mul_le_mul_right _ (by omega)
      have h2 : pcc (ff (first + p)) * 1 ≤ pcc (ff (first + p)) * 900 := Nat.mul_le_mul_left _ (by omega)
      have h3 : pcc (ff (first + p)) * 1000 = pcc (ff (first + p)) * 900 + pcc (ff (first + p)) * 100 := by rw [← Nat.mul_add]
      have h4 : 1 * 100 ≤ pcc (ff (first + p)) * 100 := Nat.mul_le_mul_right _ (by omega)
      omega
  · show w ≤ 1000000
    omega
theorem rFin_7 (s : zRs) (i : Nat) : (rFin s i).1 7 = s.1 7 := by
  unfold rFin
  split
  · rfl
  · split <;> rfl
theorem rTk_7 {hold draw : Nat} {s : zRs} {i b : Nat} (h : s.1 7 ≤ b) : (rTk hold draw s i).1 7 ≤ b := by
  have h1 : (rA s i).1 7 = s.1 7 := by
    unfold rA
    split
    · rfl
    · split
      · rw [rFin_7]; rfl
      · rfl
  unfold rTk rB
  split
  · split
    · split
      · omega
      · show (rA s i).1 7 - min hold ((rA s i).1 7) ≤ b
        omega
    · omega
  · omega
theorem rPl_7 {hold draw : Nat} {s : zRs} {b : Nat} (h : s.1 7 ≤ b) : ∀ k, (rPl hold draw s k).1 7 ≤ b
  | 0 => h
  | k + 1 => rTk_7 (rPl_7 h k)
theorem rWork_7 {hold draw : Nat} {s : zRs} {b : Nat} (h : s.1 7 ≤ b) : ∀ k, (rWork hold draw s k).1 7 ≤ b
  | 0 => h
  | k + 1 => rPl_7 (rWork_7 h k) _
/-- what is true of a night's numbers before minute m -/
def nI_ (P m : Nat) (y : Nat) (yr yu : Value) (wk w : Nat) (ro ru : zRs) : Prop :=
  wk ≤ 2 ∧ w ≤ 9999 ∧ cW ro ∧ rI ru ∧ (wk = 1 → yr = .ref y ∧ ∃ t, t ≤ 60 * m ∧ cJ P t ro) ∧ (wk = 2 → yu = .ref y ∧ ru.1 7 ≤ 9999)
/-- a plan that fits the yard -/
def pOK (men C th : Nat) (pt pk pn pm : Nat → Nat) : Prop :=
  th ≤ 20 ∧ (∀ k, k < th → pt k ≤ 60 ∧ pk k ≤ 4 ∧ pn k ≤ 99999999 ∧ (pk k = 0 → 2 ≤ pn k ∧ pn k ≤ 12) ∧ (pk k = 1 → pn k ≤ 12) ∧ (pk k ≤ 1 → ∀ i, i < pn k → pm (k * 12 + i) < men) ∧ (pk k = 4 → pn k < C))
theorem s_rowWorkP (l : Launch) (dd : Nat) (ro y : Nat) (ar ay : Nat → Nat) (s : zRs) (Y : Nat → Nat) (wi : Int32) (nm : Nat → Int32) (hdd pcc pww : Nat → Nat) (yf yb : Nat → Int32) (n P t : Nat) (hd : 3 ≤ dd) (hP : P ≤ 30) (ht : t + n ≤ 3600) (hY6 : 1 ≤ Y 7 ∧ Y 7 ≤ 20) (hY10 : Y 10 ≤ 99) (hY11 : Y 11 ≤ 99) (hpw : ∀ j, j < 12 → pww j ≤ 99) (hJ : cJ P t s) : zSp l mX5_work dd 0 0 [.ref ro, .int (nI n)] (kRow ro ar (.ref y) s ++ kYrd y ay Y wi nm hdd pcc pww yf yb) (fun r K' => r = none ∧ K' = kRow ro ar (.ref y) (cWork (Y 11) (Y 10) (Y 7) pww n s) ++ kYrd y ay Y wi nm hdd pcc pww yf yb) :=
  s_rowWork l dd ro y ar ay s Y wi nm hdd pcc pww yf yb n hd (by omega) hY6 hY10 hY11 hpw (fun i s' => cJ P (t + i) s') (fun i k s' => i < n ∧ cIn P (t + i + 1) k s') (fun i s' h => ⟨by have := h.1.1; omega, h.1.1.2⟩) (fun i s' hi h => ⟨hi, cT0_pails h⟩) (fun i k s' h => h.2.cI hP (by have := h.1; show t + i + 1 ≤ 3600; omega)) (fun i s' p h hp => ⟨h.1, cPl_pails h.2 hP ⟨(show 1 ≤ t + i + 1 by omega), by have := h.1; show t + i + 1 ≤ 3600; omega⟩ hY6.2 hp⟩) (fun i s' hi h => cTick_pails h hP (by show t + i + 1 ≤ 3600; omega) hY6.2) hJ
theorem dX3_workMinute_0 : decode cX3_workMinute 0 = .ok (.aload_n 0, 1) := by decide +kernel
theorem dX3_workMinute_1 : decode cX3_workMinute 1 = .ok (.getfield 24, 3) := by decide +kernel
theorem dX3_workMinute_4 : decode cX3_workMinute 4 = .ok (.iconst 1, 1) := by decide +kernel
theorem dX3_workMinute_5 : decode cX3_workMinute 5 = .ok (.if_icmp .ne 29, 3) := by decide +kernel
theorem dX3_workMinute_8 : decode cX3_workMinute 8 = .ok (.aload_n 1, 1) := by decide +kernel
theorem dX3_workMinute_9 : decode cX3_workMinute 9 = .ok (.getfield 88, 3) := by decide +kernel
theorem dX3_workMinute_12 : decode cX3_workMinute 12 = .ok (.istore_n 3, 1) := by decide +kernel
theorem dX3_workMinute_13 : decode cX3_workMinute 13 = .ok (.aload_n 1, 1) := by decide +kernel
theorem dX3_workMinute_14 : decode cX3_workMinute 14 = .ok (.bipush 60, 2) := by decide +kernel
theorem dX3_workMinute_16 : decode cX3_workMinute 16 = .ok (.invokevirtual 90, 3) := by decide +kernel
theorem dX3_workMinute_19 : decode cX3_workMinute 19 = .ok (.aload_n 0, 1) := by decide +kernel
theorem dX3_workMinute_20 : decode cX3_workMinute 20 = .ok (.aload_n 1, 1) := by decide +kernel
theorem dX3_workMinute_21 : decode cX3_workMinute 21 = .ok (.getfield 94, 3) := by decide +kernel
theorem dX3_workMinute_24 : decode cX3_workMinute 24 = .ok (.putfield 35, 3) := by decide +kernel
theorem dX3_workMinute_27 : decode cX3_workMinute 27 = .ok (.aload_n 1, 1) := by decide +kernel
theorem dX3_workMinute_28 : decode cX3_workMinute 28 = .ok (.getfield 88, 3) := by decide +kernel
theorem dX3_workMinute_31 : decode cX3_workMinute 31 = .ok (.iload_n 3, 1) := by decide +kernel
theorem dX3_workMinute_32 : decode cX3_workMinute 32 = .ok (.isub, 1) := by decide +kernel
theorem dX3_workMinute_33 : decode cX3_workMinute 33 = .ok (.ireturn, 1) := by decide +kernel
theorem dX3_workMinute_34 : decode cX3_workMinute 34 = .ok (.aload_n 0, 1) := by decide +kernel
theorem dX3_workMinute_35 : decode cX3_workMinute 35 = .ok (.getfield 24, 3) := by decide +kernel
theorem dX3_workMinute_38 : decode cX3_workMinute 38 = .ok (.iconst 2, 1) := by decide +kernel
theorem dX3_workMinute_39 : decode cX3_workMinute 39 = .ok (.if_icmp .ne 29, 3) := by decide +kernel
theorem dX3_workMinute_42 : decode cX3_workMinute 42 = .ok (.aload_n 2, 1) := by decide +kernel
theorem dX3_workMinute_43 : decode cX3_workMinute 43 = .ok (.getfield 95, 3) := by decide +kernel
theorem dX3_workMinute_46 : decode cX3_workMinute 46 = .ok (.istore_n 3, 1) := by decide +kernel
theorem dX3_workMinute_47 : decode cX3_workMinute 47 = .ok (.aload_n 2, 1) := by decide +kernel
theorem dX3_workMinute_48 : decode cX3_workMinute 48 = .ok (.bipush 60, 2) := by decide +kernel
theorem dX3_workMinute_50 : decode cX3_workMinute 50 = .ok (.invokevirtual 96, 3) := by decide +kernel
theorem dX3_workMinute_53 : decode cX3_workMinute 53 = .ok (.aload_n 0, 1) := by decide +kernel
theorem dX3_workMinute_54 : decode cX3_workMinute 54 = .ok (.aload_n 2, 1) := by decide +kernel
theorem dX3_workMinute_55 : decode cX3_workMinute 55 = .ok (.getfield 97, 3) := by decide +kernel
theorem dX3_workMinute_58 : decode cX3_workMinute 58 = .ok (.putfield 35, 3) := by decide +kernel
theorem dX3_workMinute_61 : decode cX3_workMinute 61 = .ok (.aload_n 2, 1) := by decide +kernel
theorem dX3_workMinute_62 : decode cX3_workMinute 62 = .ok (.getfield 95, 3) := by decide +kernel
theorem dX3_workMinute_65 : decode cX3_workMinute 65 = .ok (.iload_n 3, 1) := by decide +kernel
theorem dX3_workMinute_66 : decode cX3_workMinute 66 = .ok (.isub, 1) := by decide +kernel
theorem dX3_workMinute_67 : decode cX3_workMinute 67 = .ok (.ireturn, 1) := by decide +kernel
theorem dX3_workMinute_68 : decode cX3_workMinute 68 = .ok (.iconst 0, 1) := by decide +kernel
theorem dX3_workMinute_69 : decode cX3_workMinute 69 = .ok (.ireturn, 1) := by decide +kernel
set_option maxRecDepth 100000 in
theorem s_workMin (l : Launch) (dd : Nat) (nn y rr u : Nat) (an ay ar au : Nat → Nat) (yr yu : Value) (wk aim w : Nat) (ro ru : zRs) (Y : Nat → Nat) (wi : Int32) (nm : Nat → Int32) (hdd pcc pww : Nat → Nat) (yf yb : Nat → Int32) (F : zF1) (m : Nat) (hd : 4 ≤ dd) (hm : m < 60) (hY6 : 1 ≤ Y 7 ∧ Y 7 ≤ 20) (hY10 : Y 10 ≤ 99) (hY11 : Y 11 ≤ 99) (hpw : ∀ j, j < 12 → pww j ≤ 99) (hY5 : Y 5 ≤ 99) (hP : Y 6 ≤ 30) (hY8 : Y 8 ≤ 30) (hY12 : Y 12 ≤ 9) (hNI : nI_ (Y 6) m y yr yu wk w ro ru) : zSp l mX3_workMinute dd 0 0 [.ref nn, .ref rr, .ref u] [(nn, .inr (2, fNi an wk aim w)), (rr, .inr (4, fRow ar (nF ro.1) yr)), (ar 1, .inl (0, 12, .inl (nF (ro.2 1)))), (ar 2, .inl (0, 12, .inl (nF (ro.2 2)))), (ar 3, .inl (0, 12, .inl (nF (ro.2 3)))), (ar 4, .inl (0, 12, .inl (nF (ro.2 4)))), (ar 5, .inl (0, 12, .inl (nF (ro.2 5)))), (ar 6, .inl (0, 360, .inl (nF (ro.2 6)))), (ar 7, .inl (0, 12, .inl (nF (ro.2 7)))), (ar 8, .inl (0, 12, .inl (nF (ro.2 8)))), (ar 9, .inl (0, 12, .inl (nF (ro.2 9)))), (ar 10, .inl (0, 100, .inl (nF (ro.2 10)))), (y, .inr (9, fYard ay (ysN Y wi))), (ay 1, .inl (0, 12, .inl nm)), (ay 2, .inl (0, 12, .inl (nF hdd))), (ay 3, .inl (0, 12, .inl (nF pcc))), (ay 4, .inl (0, 12, .inl (nF pww))), (ay 5, .inl (0, 64, .inl yf)), (ay 6, .inl (1, 64, .inl yb)), (u, .inr (5, fRun au (nF ru.1) yu)), (au 1, .inl (0, 12, .inl (nF (ru.2 1)))), (au 2, .inl (0, 12, .inl (nF (ru.2 2)))), (au 3, .inl (0, 12, .inl (nF (ru.2 3)))), (au 4, .inl (0, 12, .inl (nF (ru.2 4))))] (fun r K' => r = some (.int (nWrk Y pww (wk, aim, w, ro, ru, F)).1) ∧ ∃ yr' yu', K' = [(nn, .inr (2, fNi an (nWrk Y pww (wk, aim, w, ro, ru, F)).2.1 (nWrk Y pww (wk, aim, w, ro, ru, F)).2.2.1 (nWrk Y pww (wk, aim, w, ro, ru, F)).2.2.2.1))] ++ (kRow rr ar yr' (nWrk Y pww (wk, aim, w, ro, ru, F)).2.2.2.2.1 ++ (kYrd y ay Y wi nm hdd pcc pww yf yb ++ kRun u au yu' (nWrk Y pww (wk, aim, w, ro, ru, F)).2.2.2.2.2.1)) ∧ (wk = 1 → yr' = .ref y) ∧ (wk = 2 → yu' = .ref y)) := by
  refine zSp.of (by decide) (Nat.le_of_ble_eq_true rfl) (fun h0 => ?_)
  show zS _ 0 0 0 [(0, .ref nn), (1, .ref rr), (2, .ref u)] [] [(nn, .inr (2, fNi an wk aim w)), (rr, .inr (4, fRow ar (nF ro.1) yr)), (ar 1, .inl (0, 12, .inl (nF (ro.2 1)))), (ar 2, .inl (0, 12, .inl (nF (ro.2 2)))), (ar 3, .inl (0, 12, .inl (nF (ro.2 3)))), (ar 4, .inl (0, 12, .inl (nF (ro.2 4)))), (ar 5, .inl (0, 12, .inl (nF (ro.2 5)))), (ar 6, .inl (0, 360, .inl (nF (ro.2 6)))), (ar 7, .inl (0, 12, .inl (nF (ro.2 7)))), (ar 8, .inl (0, 12, .inl (nF (ro.2 8)))), (ar 9, .inl (0, 12, .inl (nF (ro.2 9)))), (ar 10, .inl (0, 100, .inl (nF (ro.2 10)))), (y, .inr (9, fYard ay (ysN Y wi))), (ay 1, .inl (0, 12, .inl nm)), (ay 2, .inl (0, 12, .inl (nF hdd))), (ay 3, .inl (0, 12, .inl (nF pcc))), (ay 4, .inl (0, 12, .inl (nF pww))), (ay 5, .inl (0, 64, .inl yf)), (ay 6, .inl (1, 64, .inl yb)), (u, .inr (5, fRun au (nF ru.1) yu)), (au 1, .inl (0, 12, .inl (nF (ru.2 1)))), (au 2, .inl (0, 12, .inl (nF (ru.2 2)))), (au 3, .inl (0, 12, .inl (nF (ru.2 3)))), (au 4, .inl (0, 12, .inl (nF (ru.2 4))))]
  have b0 := hNI.1
  refine zs_aload_n dX3_workMinute_0 rfl rfl ?_
  refine zs_get 0 dX3_workMinute_1 zf_RX3_24 rfl (v := .int (nI wk)) rfl ?_
  refine zs_iconst (v := nI 1) dX3_workMinute_4 (by decide) ?_
  refine zs_icmp_ne (tgt := 34) dX3_workMinute_5 (by decide) (fun c_1 => ?_) (fun c_1 => ?_)
  · have c_1 : ¬ (wk = 1) := by have hc := c_1; rw [nI_eq' (by omega) (by omega)] at hc; exact hc
    refine zs_aload_n dX3_workMinute_34 rfl rfl ?_
    refine zs_get 0 dX3_workMinute_35 zf_RX3_24 rfl (v := .int (nI wk)) rfl ?_
    refine zs_iconst (v := nI 2) dX3_workMinute_38 (by decide) ?_
    refine zs_icmp_ne (tgt := 68) dX3_workMinute_39 (by decide) (fun c_2 => ?_) (fun c_2 => ?_)
    · have c_2 : ¬ (wk = 2) := by have hc := c_2; rw [nI_eq' (by omega) (by omega)] at hc; exact hc
      refine zs_iconst (v := nI 0) dX3_workMinute_68 (by decide) ?_
      have e : (nWrk Y pww (wk, aim, w, ro, ru, F)) = _ := (if_neg (show ¬ (wk, aim, w, ro, ru, F).1 = 1 from c_1)).trans (if_neg (show ¬ (wk, aim, w, ro, ru, F).1 = 2 from c_2))
      exact zs_iret dX3_workMinute_69 rfl ⟨congrArg (fun z : Int32 × zNi => some (Value.int z.1)) e.symm, yr, yu, by rw [e]; rfl, fun h => absurd h c_1, fun h => absurd h c_2⟩
    · have c_2 : wk = 2 := by have hc := c_2; rw [nI_eq' (by omega) (by omega)] at hc; exact hc
      obtain ⟨rfl, hu7⟩ := hNI.2.2.2.2.2 c_2
      refine zs_aload_n dX3_workMinute_42 rfl rfl ?_
      refine zs_get 19 dX3_workMinute_43 zf_RX3_95 rfl (v := .int (nI (ru.1 8))) rfl ?_
      refine zs_istore_n (lv' := [(3, .int (nI (ru.1 8))), (0, .ref nn), (1, .ref rr), (2, .ref u)]) dX3_workMinute_46 (Nat.le_of_ble_eq_true rfl) rfl ?_
      refine zs_aload_n dX3_workMinute_47 rfl rfl ?_
      refine zs_bipush (v := nI 60) dX3_workMinute_48 (by decide) ?_
      refine zs_callV (M := mX6_work) (As := [.int (nI 60)]) (st := []) (Kc := [(u, .inr (5, fRun au (nF ru.1) (.ref y))), (au 1, .inl (0, 12, .inl (nF (ru.2 1)))), (au 2, .inl (0, 12, .inl (nF (ru.2 2)))), (au 3, .inl (0, 12, .inl (nF (ru.2 3)))), (au 4, .inl (0, 12, .inl (nF (ru.2 4)))), (y, .inr (9, fYard ay (ysN Y wi)))]) (Kr := [(nn, .inr (2, fNi an wk aim w)), (rr, .inr (4, fRow ar (nF ro.1) yr)), (ar 1, .inl (0, 12, .inl (nF (ro.2 1)))), (ar 2, .inl (0, 12, .inl (nF (ro.2 2)))), (ar 3, .inl (0, 12, .inl (nF (ro.2 3)))), (ar 4, .inl (0, 12, .inl (nF (ro.2 4)))), (ar 5, .inl (0, 12, .inl (nF (ro.2 5)))), (ar 6, .inl (0, 360, .inl (nF (ro.2 6)))), (ar 7, .inl (0, 12, .inl (nF (ro.2 7)))), (ar 8, .inl (0, 12, .inl (nF (ro.2 8)))), (ar 9, .inl (0, 12, .inl (nF (ro.2 9)))), (ar 10, .inl (0, 100, .inl (nF (ro.2 10)))), (ay 1, .inl (0, 12, .inl nm)), (ay 2, .inl (0, 12, .inl (nF hdd))), (ay 3, .inl (0, 12, .inl (nF pcc))), (ay 4, .inl (0, 12, .inl (nF pww))), (ay 5, .inl (0, 64, .inl yf)), (ay 6, .inl (1, 64, .inl yb))]) [19, 20, 21, 22, 23, 12] [0, 1, 2, 3, 4, 5, 6, 7, 8, 9, 10, 11, 13, 14, 15, 16, 17, 18] 0 dX3_workMinute_50 zl_RX3_96 kX6_work rfl rfl rfl rfl rfl (by decide) rfl rfl (show dd - 1 + 1 ≤ dd by omega) (Nat.zero_le _) (Nat.zero_le _) (Nat.le_of_ble_eq_true rfl) (s_runWork l (dd - 1) u y au ay ru Y wi 60 (by omega) (by omega) hNI.2.2.2.1 hY6.2 hY8) (fun r K1 hr => ?_)
      obtain ⟨rfl, rfl⟩ := hr
      refine zs_K (K' := [(nn, .inr (2, fNi an wk aim w)), (rr, .inr (4, fRow ar (nF ro.1) yr)), (ar 1, .inl (0, 12, .inl (nF (ro.2 1)))), (ar 2, .inl (0, 12, .inl (nF (ro.2 2)))), (ar 3, .inl (0, 12, .inl (nF (ro.2 3)))), (ar 4, .inl (0, 12, .inl (nF (ro.2 4)))), (ar 5, .inl (0, 12, .inl (nF (ro.2 5)))), (ar 6, .inl (0, 360, .inl (nF (ro.2 6)))), (ar 7, .inl (0, 12, .inl (nF (ro.2 7)))), (ar 8, .inl (0, 12, .inl (nF (ro.2 8)))), (ar 9, .inl (0, 12, .inl (nF (ro.2 9)))), (ar 10, .inl (0, 100, .inl (nF (ro.2 10)))), (y, .inr (9, fYard ay (ysN Y wi))), (ay 1, .inl (0, 12, .inl nm)), (ay 2, .inl (0, 12, .inl (nF hdd))), (ay 3, .inl (0, 12, .inl (nF pcc))), (ay 4, .inl (0, 12, .inl (nF pww))), (ay 5, .inl (0, 64, .inl yf)), (ay 6, .inl (1, 64, .inl yb)), (u, .inr (5, fRun au (nF (rWork (Y 7) (Y 8) ru 60).1) (.ref y))), (au 1, .inl (0, 12, .inl (nF ((rWork (Y 7) (Y 8) ru 60).2 1)))), (au 2, .inl (0, 12, .inl (nF ((rWork (Y 7) (Y 8) ru 60).2 2)))), (au 3, .inl (0, 12, .inl (nF ((rWork (Y 7) (Y 8) ru 60).2 3)))), (au 4, .inl (0, 12, .inl (nF ((rWork (Y 7) (Y 8) ru 60).2 4))))]) [0, 1, 2, 3, 4, 5, 6, 7, 8, 9, 10, 11, 23, 12, 13, 14, 15, 16, 17, 18, 19, 20, 21, 22] rfl (by decide) ?_
      refine zs_aload_n dX3_workMinute_53 rfl rfl ?_
      refine zs_aload_n dX3_workMinute_54 rfl rfl ?_
      refine zs_get 19 dX3_workMinute_55 zf_RX3_97 rfl (v := .int (nI ((rWork (Y 7) (Y 8) ru 60).1 7))) rfl ?_
      refine zs_put 0 dX3_workMinute_58 zf_RX3_35 rfl (Nat.le_of_ble_eq_true rfl) (zPv_i _) ?_
      show zS _ _ _ _ _ _ [(nn, .inr (2, fNi an wk aim ((rWork (Y 7) (Y 8) ru 60).1 7))), (rr, .inr (4, fRow ar (nF ro.1) yr)), (ar 1, .inl (0, 12, .inl (nF (ro.2 1)))), (ar 2, .inl (0, 12, .inl (nF (ro.2 2)))), (ar 3, .inl (0, 12, .inl (nF (ro.2 3)))), (ar 4, .inl (0, 12, .inl (nF (ro.2 4)))), (ar 5, .inl (0, 12, .inl (nF (ro.2 5)))), (ar 6, .inl (0, 360, .inl (nF (ro.2 6)))), (ar 7, .inl (0, 12, .inl (nF (ro.2 7)))), (ar 8, .inl (0, 12, .inl (nF (ro.2 8)))), (ar 9, .inl (0, 12, .inl (nF (ro.2 9)))), (ar 10, .inl (0, 100, .inl (nF (ro.2 10)))), (y, .inr (9, fYard ay (ysN Y wi))), (ay 1, .inl (0, 12, .inl nm)), (ay 2, .inl (0, 12, .inl (nF hdd))), (ay 3, .inl (0, 12, .inl (nF pcc))), (ay 4, .inl (0, 12, .inl (nF pww))), (ay 5, .inl (0, 64, .inl yf)), (ay 6, .inl (1, 64, .inl yb)), (u, .inr (5, fRun au (nF (rWork (Y 7) (Y 8) ru 60).1) (.ref y))), (au 1, .inl (0, 12, .inl (nF ((rWork (Y 7) (Y 8) ru 60).2 1)))), (au 2, .inl (0, 12, .inl (nF ((rWork (Y 7) (Y 8) ru 60).2 2)))), (au 3, .inl (0, 12, .inl (nF ((rWork (Y 7) (Y 8) ru 60).2 3)))), (au 4, .inl (0, 12, .inl (nF ((rWork (Y 7) (Y 8) ru 60).2 4))))]
      refine zs_aload_n dX3_workMinute_61 rfl rfl ?_
      refine zs_get 19 dX3_workMinute_62 zf_RX3_95 rfl (v := .int (nI ((rWork (Y 7) (Y 8) ru 60).1 8))) rfl ?_
      refine zs_iload_n dX3_workMinute_65 rfl ?_
      refine zs_isub dX3_workMinute_66 ?_
      have e : (nWrk Y pww (wk, aim, w, ro, ru, F)) = _ := (if_neg (show ¬ (wk, aim, w, ro, ru, F).1 = 1 from c_1)).trans (if_pos (show (wk, aim, w, ro, ru, F).1 = 2 from c_2))
      generalize rWork (Y 7) (Y 8) ru 60 = z at e ⊢
      exact zs_iret dX3_workMinute_67 rfl ⟨congrArg (fun z : Int32 × zNi => some (Value.int z.1)) e.symm, yr, .ref y, by rw [e]; rfl, fun h => absurd h c_1, fun _ => rfl⟩
  · have c_1 : wk = 1 := by have hc := c_1; rw [nI_eq' (by omega) (by omega)] at hc; exact hc
    obtain ⟨rfl, t, ht, hJt⟩ := hNI.2.2.2.2.1 c_1
    refine zs_aload_n dX3_workMinute_8 rfl rfl ?_
    refine zs_get 1 dX3_workMinute_9 zf_RX3_88 rfl (v := .int (nI (ro.1 15))) rfl ?_
    refine zs_istore_n (lv' := [(3, .int (nI (ro.1 15))), (0, .ref nn), (1, .ref rr), (2, .ref u)]) dX3_workMinute_12 (Nat.le_of_ble_eq_true rfl) rfl ?_
    refine zs_aload_n dX3_workMinute_13 rfl rfl ?_
    refine zs_bipush (v := nI 60) dX3_workMinute_14 (by decide) ?_
    refine zs_callV (M := mX5_work) (As := [.int (nI 60)]) (st := []) (Kc := [(rr, .inr (4, fRow ar (nF ro.1) (.ref y))), (ar 1, .inl (0, 12, .inl (nF (ro.2 1)))), (ar 2, .inl (0, 12, .inl (nF (ro.2 2)))), (ar 3, .inl (0, 12, .inl (nF (ro.2 3)))), (ar 4, .inl (0, 12, .inl (nF (ro.2 4)))), (ar 5, .inl (0, 12, .inl (nF (ro.2 5)))), (ar 6, .inl (0, 360, .inl (nF (ro.2 6)))), (ar 7, .inl (0, 12, .inl (nF (ro.2 7)))), (ar 8, .inl (0, 12, .inl (nF (ro.2 8)))), (ar 9, .inl (0, 12, .inl (nF (ro.2 9)))), (ar 10, .inl (0, 100, .inl (nF (ro.2 10)))), (y, .inr (9, fYard ay (ysN Y wi))), (ay 1, .inl (0, 12, .inl nm)), (ay 2, .inl (0, 12, .inl (nF hdd))), (ay 3, .inl (0, 12, .inl (nF pcc))), (ay 4, .inl (0, 12, .inl (nF pww))), (ay 5, .inl (0, 64, .inl yf)), (ay 6, .inl (1, 64, .inl yb))]) (Kr := [(nn, .inr (2, fNi an wk aim w)), (u, .inr (5, fRun au (nF ru.1) yu)), (au 1, .inl (0, 12, .inl (nF (ru.2 1)))), (au 2, .inl (0, 12, .inl (nF (ru.2 2)))), (au 3, .inl (0, 12, .inl (nF (ru.2 3)))), (au 4, .inl (0, 12, .inl (nF (ru.2 4))))]) [1, 2, 3, 4, 5, 6, 7, 8, 9, 10, 11, 12, 13, 14, 15, 16, 17, 18] [0, 19, 20, 21, 22, 23] 0 dX3_workMinute_16 zl_RX3_90 kX5_work rfl rfl rfl rfl rfl (by decide) rfl rfl (show dd - 1 + 1 ≤ dd by omega) (Nat.zero_le _) (Nat.zero_le _) (Nat.le_of_ble_eq_true rfl) (s_rowWorkP l (dd - 1) rr y ar ay ro Y wi nm hdd pcc pww yf yb 60 (Y 6) t (by omega) hP (by omega) hY6 hY10 hY11 hpw hJt) (fun r K1 hr => ?_)
    obtain ⟨rfl, rfl⟩ := hr
    refine zs_K (K' := [(nn, .inr (2, fNi an wk aim w)), (rr, .inr (4, fRow ar (nF (cWork (Y 11) (Y 10) (Y 7) pww 60 ro).1) (.ref y))), (ar 1, .inl (0, 12, .inl (nF ((cWork (Y 11) (Y 10) (Y 7) pww 60 ro).2 1)))), (ar 2, .inl (0, 12, .inl (nF ((cWork (Y 11) (Y 10) (Y 7) pww 60 ro).2 2)))), (ar 3, .inl (0, 12, .inl (nF ((cWork (Y 11) (Y 10) (Y 7) pww 60 ro).2 3)))), (ar 4, .inl (0, 12, .inl (nF ((cWork (Y 11) (Y 10) (Y 7) pww 60 ro).2 4)))), (ar 5, .inl (0, 12, .inl (nF ((cWork (Y 11) (Y 10) (Y 7) pww 60 ro).2 5)))), (ar 6, .inl (0, 360, .inl (nF ((cWork (Y 11) (Y 10) (Y 7) pww 60 ro).2 6)))), (ar 7, .inl (0, 12, .inl (nF ((cWork (Y 11) (Y 10) (Y 7) pww 60 ro).2 7)))), (ar 8, .inl (0, 12, .inl (nF ((cWork (Y 11) (Y 10) (Y 7) pww 60 ro).2 8)))), (ar 9, .inl (0, 12, .inl (nF ((cWork (Y 11) (Y 10) (Y 7) pww 60 ro).2 9)))), (ar 10, .inl (0, 100, .inl (nF ((cWork (Y 11) (Y 10) (Y 7) pww 60 ro).2 10)))), (y, .inr (9, fYard ay (ysN Y wi))), (ay 1, .inl (0, 12, .inl nm)), (ay 2, .inl (0, 12, .inl (nF hdd))), (ay 3, .inl (0, 12, .inl (nF pcc))), (ay 4, .inl (0, 12, .inl (nF pww))), (ay 5, .inl (0, 64, .inl yf)), (ay 6, .inl (1, 64, .inl yb)), (u, .inr (5, fRun au (nF ru.1) yu)), (au 1, .inl (0, 12, .inl (nF (ru.2 1)))), (au 2, .inl (0, 12, .inl (nF (ru.2 2)))), (au 3, .inl (0, 12, .inl (nF (ru.2 3)))), (au 4, .inl (0, 12, .inl (nF (ru.2 4))))]) [0, 6, 7, 8, 9, 10, 11, 12, 13, 14, 15, 16, 17, 18, 19, 20, 21, 22, 23, 1, 2, 3, 4, 5] rfl (by decide) ?_
    refine zs_aload_n dX3_workMinute_19 rfl rfl ?_
    refine zs_aload_n dX3_workMinute_20 rfl rfl ?_
    refine zs_get 1 dX3_workMinute_21 zf_RX3_94 rfl (v := .int (nI ((cWork (Y 11) (Y 10) (Y 7) pww 60 ro).1 14))) rfl ?_
    refine zs_put 0 dX3_workMinute_24 zf_RX3_35 rfl (Nat.le_of_ble_eq_true rfl) (zPv_i _) ?_
    show zS _ _ _ _ _ _ [(nn, .inr (2, fNi an wk aim ((cWork (Y 11) (Y 10) (Y 7) pww 60 ro).1 14))), (rr, .inr (4, fRow ar (nF (cWork (Y 11) (Y 10) (Y 7) pww 60 ro).1) (.ref y))), (ar 1, .inl (0, 12, .inl (nF ((cWork (Y 11) (Y 10) (Y 7) pww 60 ro).2 1)))), (ar 2, .inl (0, 12, .inl (nF ((cWork (Y 11) (Y 10) (Y 7) pww 60 ro).2 2)))), (ar 3, .inl (0, 12, .inl (nF ((cWork (Y 11) (Y 10) (Y 7) pww 60 ro).2 3)))), (ar 4, .inl (0, 12, .inl (nF ((cWork (Y 11) (Y 10) (Y 7) pww 60 ro).2 4)))), (ar 5, .inl (0, 12, .inl (nF ((cWork (Y 11) (Y 10) (Y 7) pww 60 ro).2 5)))), (ar 6, .inl (0, 360, .inl (nF ((cWork (Y 11) (Y 10) (Y 7) pww 60 ro).2 6)))), (ar 7, .inl (0, 12, .inl (nF ((cWork (Y 11) (Y 10) (Y 7) pww 60 ro).2 7)))), (ar 8, .inl (0, 12, .inl (nF ((cWork (Y 11) (Y 10) (Y 7) pww 60 ro).2 8)))), (ar 9, .inl (0, 12, .inl (nF ((cWork (Y 11) (Y 10) (Y 7) pww 60 ro).2 9)))), (ar 10, .inl (0, 100, .inl (nF ((cWork (Y 11) (Y 10) (Y 7) pww 60 ro).2 10)))), (y, .inr (9, fYard ay (ysN Y wi))), (ay 1, .inl (0, 12, .inl nm)), (ay 2, .inl (0, 12, .inl (nF hdd))), (ay 3, .inl (0, 12, .inl (nF pcc))), (ay 4, .inl (0, 12, .inl (nF pww))), (ay 5, .inl (0, 64, .inl yf)), (ay 6, .inl (1, 64, .inl yb)), (u, .inr (5, fRun au (nF ru.1) yu)), (au 1, .inl (0, 12, .inl (nF (ru.2 1)))), (au 2, .inl (0, 12, .inl (nF (ru.2 2)))), (au 3, .inl (0, 12, .inl (nF (ru.2 3)))), (au 4, .inl (0, 12, .inl (nF (ru.2 4))))]
    refine zs_aload_n dX3_workMinute_27 rfl rfl ?_
    refine zs_get 1 dX3_workMinute_28 zf_RX3_88 rfl (v := .int (nI ((cWork (Y 11) (Y 10) (Y 7) pww 60 ro).1 15))) rfl ?_
    refine zs_iload_n dX3_workMinute_31 rfl ?_
    refine zs_isub dX3_workMinute_32 ?_
    have e : (nWrk Y pww (wk, aim, w, ro, ru, F)) = _ := if_pos (show (wk, aim, w, ro, ru, F).1 = 1 from c_1)
    generalize cWork (Y 11) (Y 10) (Y 7) pww 60 ro = z at e ⊢
    exact zs_iret dX3_workMinute_33 rfl ⟨congrArg (fun z : Int32 × zNi => some (Value.int z.1)) e.symm, .ref y, yu, by rw [e]; rfl, fun _ => rfl, fun h => absurd (c_1.symm.trans h) (by decide)⟩
theorem nWrk_F (Y pww : Nat → Nat) (N : zNi) : (nWrk Y pww N).2.2.2.2.2.2 = N.2.2.2.2.2 := by
  unfold nWrk
  split
  · rfl
  · split <;> rfl
theorem nWrk_I {Y pww : Nat → Nat} {m y : Nat} {yr yu yr' yu' : Value} {wk aim w : Nat} {ro ru : zRs} {F : zF1} (h : nI_ (Y 6) m y yr yu wk w ro ru) (hm : m < 60) (hP : Y 6 ≤ 30) (h7 : Y 7 ≤ 20) (h8 : Y 8 ≤ 30) (h1 : wk = 1 → yr' = .ref y) (h2 : wk = 2 → yu' = .ref y) {V : Int32 × zNi} (hV : nWrk Y pww (wk, aim, w, ro, ru, F) = V) : nI_ (Y 6) (m + 1) y yr' yu' V.2.1 V.2.2.2.1 V.2.2.2.2.1 V.2.2.2.2.2.1 := by
  obtain ⟨a1, a2, a3, a4, a5, a6⟩ := h
  subst hV
  by_cases c1 : wk = 1
  · obtain ⟨_, t, ht, hJ⟩ := a5 c1
    have hw := cWork_pails (back := Y 11) (spill := Y 10) (hold := Y 7) (pww := pww) hJ hP h7 60 (by omega)
    rw [nWrk, if_pos (show (wk, aim, w, ro, ru, F).1 = 1 from c1)]
    generalize cWork (Y 11) (Y 10) (Y 7) pww 60 ro = z at hw ⊢
    exact ⟨a1, hw.1.2.2.2.2.1, hw.1.w, a4, fun _ => ⟨h1 c1, t + 60, by omega, hw⟩, fun e => absurd (c1.symm.trans e) (by decide)⟩
  · by_cases c2 : wk = 2
    · obtain ⟨_, h9⟩ := a6 c2
      rw [nWrk, if_neg (show ¬ (wk, aim, w, ro, ru, F).1 = 1 from c1), if_pos (show (wk, aim, w, ro, ru, F).1 = 2 from c2)]
      have hw := rI_work (hold := Y 7) (draw := Y 8) a4 h7 (by omega) 60
      have hw7 := rWork_7 (hold := Y 7) (draw := Y 8) h9 60
      generalize rWork (Y 7) (Y 8) ru 60 = z at hw hw7 ⊢
      exact ⟨a1, hw7, a3, hw, fun e => absurd e c1, fun _ => ⟨h2 c2, hw7⟩⟩
    · rw [nWrk, if_neg (show ¬ (wk, aim, w, ro, ru, F).1 = 1 from c1), if_neg (show ¬ (wk, aim, w, ro, ru, F).1 = 2 from c2)]
      exact ⟨a1, a2, a3, a4, fun e => absurd e c1, fun e => absurd e c2⟩
theorem dX3_pass_0 : decode cX3_pass 0 = .ok (.aload_n 0, 1) := by decide +kernel
theorem dX3_pass_1 : decode cX3_pass 1 = .ok (.iconst 0, 1) := by decide +kernel
theorem dX3_pass_2 : decode cX3_pass 2 = .ok (.putfield 24, 3) := by decide +kernel
theorem dX3_pass_5 : decode cX3_pass 5 = .ok (.aload_n 0, 1) := by decide +kernel
theorem dX3_pass_6 : decode cX3_pass 6 = .ok (.iconst 1, 1) := by decide +kernel
theorem dX3_pass_7 : decode cX3_pass 7 = .ok (.putfield 28, 3) := by decide +kernel
theorem dX3_pass_10 : decode cX3_pass 10 = .ok (.aload_n 0, 1) := by decide +kernel
theorem dX3_pass_11 : decode cX3_pass 11 = .ok (.aload_n 1, 1) := by decide +kernel
theorem dX3_pass_12 : decode cX3_pass 12 = .ok (.getfield 31, 3) := by decide +kernel
theorem dX3_pass_15 : decode cX3_pass 15 = .ok (.putfield 35, 3) := by decide +kernel
theorem dX3_pass_18 : decode cX3_pass 18 = .ok (.aload 5, 2) := by decide +kernel
theorem dX3_pass_20 : decode cX3_pass 20 = .ok (.aload_n 1, 1) := by decide +kernel
theorem dX3_pass_21 : decode cX3_pass 21 = .ok (.invokevirtual 38, 3) := by decide +kernel
theorem dX3_pass_24 : decode cX3_pass 24 = .ok (.iconst 0, 1) := by decide +kernel
theorem dX3_pass_25 : decode cX3_pass 25 = .ok (.istore 6, 2) := by decide +kernel
theorem dX3_pass_27 : decode cX3_pass 27 = .ok (.iconst 0, 1) := by decide +kernel
theorem dX3_pass_28 : decode cX3_pass 28 = .ok (.istore 7, 2) := by decide +kernel
theorem dX3_pass_30 : decode cX3_pass 30 = .ok (.iload 7, 2) := by decide +kernel
theorem dX3_pass_32 : decode cX3_pass 32 = .ok (.bipush 60, 2) := by decide +kernel
theorem dX3_pass_34 : decode cX3_pass 34 = .ok (.if_icmp .ge 240, 3) := by decide +kernel
theorem dX3_pass_37 : decode cX3_pass 37 = .ok (.iload 6, 2) := by decide +kernel
theorem dX3_pass_39 : decode cX3_pass 39 = .ok (.aload_n 2, 1) := by decide +kernel
theorem dX3_pass_40 : decode cX3_pass 40 = .ok (.getfield 44, 3) := by decide +kernel
theorem dX3_pass_43 : decode cX3_pass 43 = .ok (.if_icmp .ge 155, 3) := by decide +kernel
theorem dX3_pass_46 : decode cX3_pass 46 = .ok (.aload_n 2, 1) := by decide +kernel
theorem dX3_pass_47 : decode cX3_pass 47 = .ok (.getfield 49, 3) := by decide +kernel
theorem dX3_pass_50 : decode cX3_pass 50 = .ok (.iload 6, 2) := by decide +kernel
theorem dX3_pass_52 : decode cX3_pass 52 = .ok (.iaload, 1) := by decide +kernel
theorem dX3_pass_53 : decode cX3_pass 53 = .ok (.iload 7, 2) := by decide +kernel
theorem dX3_pass_55 : decode cX3_pass 55 = .ok (.if_icmp .gt 143, 3) := by decide +kernel
theorem dX3_pass_58 : decode cX3_pass 58 = .ok (.iload 6, 2) := by decide +kernel
theorem dX3_pass_60 : decode cX3_pass 60 = .ok (.bipush 12, 2) := by decide +kernel
theorem dX3_pass_62 : decode cX3_pass 62 = .ok (.imul, 1) := by decide +kernel
theorem dX3_pass_63 : decode cX3_pass 63 = .ok (.istore 8, 2) := by decide +kernel
theorem dX3_pass_65 : decode cX3_pass 65 = .ok (.aload_n 2, 1) := by decide +kernel
theorem dX3_pass_66 : decode cX3_pass 66 = .ok (.getfield 52, 3) := by decide +kernel
theorem dX3_pass_69 : decode cX3_pass 69 = .ok (.iload 6, 2) := by decide +kernel
theorem dX3_pass_71 : decode cX3_pass 71 = .ok (.iaload, 1) := by decide +kernel
theorem dX3_pass_72 : decode cX3_pass 72 = .ok (.istore 9, 2) := by decide +kernel
theorem dX3_pass_74 : decode cX3_pass 74 = .ok (.aload_n 2, 1) := by decide +kernel
theorem dX3_pass_75 : decode cX3_pass 75 = .ok (.getfield 55, 3) := by decide +kernel
theorem dX3_pass_78 : decode cX3_pass 78 = .ok (.iload 6, 2) := by decide +kernel
theorem dX3_pass_80 : decode cX3_pass 80 = .ok (.iaload, 1) := by decide +kernel
theorem dX3_pass_81 : decode cX3_pass 81 = .ok (.tableswitch 106 0 4 #[35, 60, 106, 86, 95], 35) := by decide +kernel
theorem dX3_pass_116 : decode cX3_pass 116 = .ok (.aload_n 3, 1) := by decide +kernel
theorem dX3_pass_117 : decode cX3_pass 117 = .ok (.aload_n 1, 1) := by decide +kernel
theorem dX3_pass_118 : decode cX3_pass 118 = .ok (.aload_n 2, 1) := by decide +kernel
theorem dX3_pass_119 : decode cX3_pass 119 = .ok (.getfield 58, 3) := by decide +kernel
theorem dX3_pass_122 : decode cX3_pass 122 = .ok (.iload 8, 2) := by decide +kernel
theorem dX3_pass_124 : decode cX3_pass 124 = .ok (.iload 9, 2) := by decide +kernel
theorem dX3_pass_126 : decode cX3_pass 126 = .ok (.aload_n 0, 1) := by decide +kernel
theorem dX3_pass_127 : decode cX3_pass 127 = .ok (.getfield 35, 3) := by decide +kernel
theorem dX3_pass_130 : decode cX3_pass 130 = .ok (.invokevirtual 61, 3) := by decide +kernel
theorem dX3_pass_133 : decode cX3_pass 133 = .ok (.aload_n 0, 1) := by decide +kernel
theorem dX3_pass_134 : decode cX3_pass 134 = .ok (.iconst 1, 1) := by decide +kernel
theorem dX3_pass_135 : decode cX3_pass 135 = .ok (.putfield 24, 3) := by decide +kernel
theorem dX3_pass_138 : decode cX3_pass 138 = .ok (.goto 54, 3) := by decide +kernel
theorem dX3_pass_141 : decode cX3_pass 141 = .ok (.aload 4, 2) := by decide +kernel
theorem dX3_pass_143 : decode cX3_pass 143 = .ok (.aload_n 1, 1) := by decide +kernel
theorem dX3_pass_144 : decode cX3_pass 144 = .ok (.aload_n 2, 1) := by decide +kernel
theorem dX3_pass_145 : decode cX3_pass 145 = .ok (.getfield 58, 3) := by decide +kernel
theorem dX3_pass_148 : decode cX3_pass 148 = .ok (.iload 8, 2) := by decide +kernel
theorem dX3_pass_150 : decode cX3_pass 150 = .ok (.iload 9, 2) := by decide +kernel
theorem dX3_pass_152 : decode cX3_pass 152 = .ok (.aload_n 0, 1) := by decide +kernel
theorem dX3_pass_153 : decode cX3_pass 153 = .ok (.getfield 35, 3) := by decide +kernel
theorem dX3_pass_156 : decode cX3_pass 156 = .ok (.invokevirtual 66, 3) := by decide +kernel
theorem dX3_pass_159 : decode cX3_pass 159 = .ok (.aload_n 0, 1) := by decide +kernel
theorem dX3_pass_160 : decode cX3_pass 160 = .ok (.iconst 2, 1) := by decide +kernel
theorem dX3_pass_161 : decode cX3_pass 161 = .ok (.putfield 24, 3) := by decide +kernel
theorem dX3_pass_164 : decode cX3_pass 164 = .ok (.goto 28, 3) := by decide +kernel
theorem dX3_pass_167 : decode cX3_pass 167 = .ok (.aload_n 0, 1) := by decide +kernel
theorem dX3_pass_168 : decode cX3_pass 168 = .ok (.iload 9, 2) := by decide +kernel
theorem dX3_pass_170 : decode cX3_pass 170 = .ok (.putfield 28, 3) := by decide +kernel
theorem dX3_pass_173 : decode cX3_pass 173 = .ok (.goto 19, 3) := by decide +kernel
theorem dX3_pass_176 : decode cX3_pass 176 = .ok (.aload 5, 2) := by decide +kernel
theorem dX3_pass_178 : decode cX3_pass 178 = .ok (.iload 9, 2) := by decide +kernel
theorem dX3_pass_180 : decode cX3_pass 180 = .ok (.invokevirtual 69, 3) := by decide +kernel
theorem dX3_pass_183 : decode cX3_pass 183 = .ok (.pop, 1) := by decide +kernel
theorem dX3_pass_184 : decode cX3_pass 184 = .ok (.goto 8, 3) := by decide +kernel
theorem dX3_pass_187 : decode cX3_pass 187 = .ok (.aload_n 0, 1) := by decide +kernel
theorem dX3_pass_188 : decode cX3_pass 188 = .ok (.iconst 0, 1) := by decide +kernel
theorem dX3_pass_189 : decode cX3_pass 189 = .ok (.putfield 24, 3) := by decide +kernel
theorem dX3_pass_192 : decode cX3_pass 192 = .ok (.iinc 6 1, 3) := by decide +kernel
theorem dX3_pass_195 : decode cX3_pass 195 = .ok (.goto (-158), 3) := by decide +kernel
theorem dX3_pass_198 : decode cX3_pass 198 = .ok (.aload_n 0, 1) := by decide +kernel
theorem dX3_pass_199 : decode cX3_pass 199 = .ok (.getfield 9, 3) := by decide +kernel
theorem dX3_pass_202 : decode cX3_pass 202 = .ok (.iload 7, 2) := by decide +kernel
theorem dX3_pass_204 : decode cX3_pass 204 = .ok (.aload_n 0, 1) := by decide +kernel
theorem dX3_pass_205 : decode cX3_pass 205 = .ok (.aload_n 3, 1) := by decide +kernel
theorem dX3_pass_206 : decode cX3_pass 206 = .ok (.aload 4, 2) := by decide +kernel
theorem dX3_pass_208 : decode cX3_pass 208 = .ok (.invokevirtual 73, 3) := by decide +kernel
theorem dX3_pass_211 : decode cX3_pass 211 = .ok (.iastore, 1) := by decide +kernel
theorem dX3_pass_212 : decode cX3_pass 212 = .ok (.aload 5, 2) := by decide +kernel
theorem dX3_pass_214 : decode cX3_pass 214 = .ok (.aload 5, 2) := by decide +kernel
theorem dX3_pass_216 : decode cX3_pass 216 = .ok (.aload_n 0, 1) := by decide +kernel
theorem dX3_pass_217 : decode cX3_pass 217 = .ok (.getfield 28, 3) := by decide +kernel
theorem dX3_pass_220 : decode cX3_pass 220 = .ok (.invokevirtual 77, 3) := by decide +kernel
theorem dX3_pass_223 : decode cX3_pass 223 = .ok (.aload_n 0, 1) := by decide +kernel
theorem dX3_pass_224 : decode cX3_pass 224 = .ok (.getfield 9, 3) := by decide +kernel
theorem dX3_pass_227 : decode cX3_pass 227 = .ok (.iload 7, 2) := by decide +kernel
theorem dX3_pass_229 : decode cX3_pass 229 = .ok (.iaload, 1) := by decide +kernel
theorem dX3_pass_230 : decode cX3_pass 230 = .ok (.invokevirtual 80, 3) := by decide +kernel
theorem dX3_pass_233 : decode cX3_pass 233 = .ok (.aload_n 0, 1) := by decide +kernel
theorem dX3_pass_234 : decode cX3_pass 234 = .ok (.getfield 15, 3) := by decide +kernel
theorem dX3_pass_237 : decode cX3_pass 237 = .ok (.iload 7, 2) := by decide +kernel
theorem dX3_pass_239 : decode cX3_pass 239 = .ok (.aload 5, 2) := by decide +kernel
theorem dX3_pass_241 : decode cX3_pass 241 = .ok (.getfield 84, 3) := by decide +kernel
theorem dX3_pass_244 : decode cX3_pass 244 = .ok (.iastore, 1) := by decide +kernel
theorem dX3_pass_245 : decode cX3_pass 245 = .ok (.aload_n 0, 1) := by decide +kernel
theorem dX3_pass_246 : decode cX3_pass 246 = .ok (.getfield 18, 3) := by decide +kernel
theorem dX3_pass_249 : decode cX3_pass 249 = .ok (.iload 7, 2) := by decide +kernel
theorem dX3_pass_251 : decode cX3_pass 251 = .ok (.aload 5, 2) := by decide +kernel
theorem dX3_pass_253 : decode cX3_pass 253 = .ok (.getfield 86, 3) := by decide +kernel
theorem dX3_pass_256 : decode cX3_pass 256 = .ok (.iastore, 1) := by decide +kernel
theorem dX3_pass_257 : decode cX3_pass 257 = .ok (.aload_n 0, 1) := by decide +kernel
theorem dX3_pass_258 : decode cX3_pass 258 = .ok (.getfield 21, 3) := by decide +kernel
theorem dX3_pass_261 : decode cX3_pass 261 = .ok (.iload 7, 2) := by decide +kernel
theorem dX3_pass_263 : decode cX3_pass 263 = .ok (.aload_n 0, 1) := by decide +kernel
theorem dX3_pass_264 : decode cX3_pass 264 = .ok (.getfield 35, 3) := by decide +kernel
theorem dX3_pass_267 : decode cX3_pass 267 = .ok (.iastore, 1) := by decide +kernel
theorem dX3_pass_268 : decode cX3_pass 268 = .ok (.iinc 7 1, 3) := by decide +kernel
theorem dX3_pass_271 : decode cX3_pass 271 = .ok (.goto (-241), 3) := by decide +kernel
theorem dX3_pass_274 : decode cX3_pass 274 = .ok (.return_, 1) := by decide +kernel
set_option maxRecDepth 100000 in
theorem lp_ent {l : Launch} {dd : Nat} {Po : zPo} {K0 : zK} {h0 : List va_E} {Xo : zK → Prop} {Gc : zG → Prop} (nn y rr u t pl : Nat) (an ay ar au ad ap : Nat → Nat) (Y : Nat → Nat) (wi : Int32) (nm : Nat → Int32) (hdd pcc pww : Nat → Nat) (yf yb : Nat → Int32) (C R th : Nat) (pt pk pn pm : Nat → Nat) (N0 : zNi) (o1 o2 o3 o4 se : Nat → Int32) (hd : 6 ≤ dd) (hY6 : 1 ≤ Y 7 ∧ Y 7 ≤ 20) (hY10 : Y 10 ≤ 99) (hY11 : Y 11 ≤ 99) (hpw : ∀ j, j < 12 → pww j ≤ 99) (hY5 : Y 5 ≤ 99) (hP : Y 6 ≤ 30) (hY8 : Y 8 ≤ 30) (hY12 : Y 12 ≤ 9) (hmen : Y 0 ≤ 12) (hhd9 : ∀ j, j < 12 → hdd j ≤ 9) (hh1 : ∀ j, j < Y 0 → 1 ≤ hdd j) (hp1 : ∀ j, j < Y 0 → 1 ≤ pcc j ∧ pcc j ≤ 9) (hC : C ≤ 64) (hOK : pOK (Y 0) C th pt pk pn pm) (m : Nat) (hm : m < 60) (G : Nat × zNi) (hk : ∀ (k wk aim w : Nat) (ro ru : zRs) (s : zFs) (sc he : Nat → Int32) (yr yu : Value), nI_ (Y 6) m y yr yu wk w ro ru → zFh C R sc → sc 3 = wi → (k, (wk, aim, w, ro, ru, (s, sc 10, sc 9))) = G → zS (l, mX3_pass, dd, Po, K0, h0, Xo, Gc) 0 0 198 [(0, .ref nn), (1, .ref y), (2, .ref pl), (3, .ref rr), (4, .ref u), (5, .ref t), (6, .int (nI k)), (7, .int (nI m))] [] ((nn, .inr (2, fNi an wk aim w)) :: (an 1, .inl (0, 60, .inl (pCl (nO1 Y hdd pcc pww C R wi th pt pk pn pm N0) o1 m))) :: (an 2, .inl (0, 60, .inl (pCl (nO2 Y hdd pcc pww C R wi th pt pk pn pm N0) o2 m))) :: (an 3, .inl (0, 60, .inl (pCl (nO3 Y hdd pcc pww C R wi th pt pk pn pm N0) o3 m))) :: (an 4, .inl (0, 60, .inl (pCl (nO4 Y hdd pcc pww C R wi th pt pk pn pm N0) o4 m))) :: (y, .inr (9, fYard ay (ysN Y wi))) :: (ay 1, .inl (0, 12, .inl nm)) :: (ay 2, .inl (0, 12, .inl (nF hdd))) :: (ay 3, .inl (0, 12, .inl (nF pcc))) :: (ay 4, .inl (0, 12, .inl (nF pww))) :: (ay 5, .inl (0, 64, .inl yf)) :: (ay 6, .inl (1, 64, .inl yb)) :: (pl, .inr (3, fPlan ap th)) :: (ap 1, .inl (0, 20, .inl (nF pt))) :: (ap 2, .inl (0, 20, .inl (nF pk))) :: (ap 3, .inl (0, 20, .inl (nF pn))) :: (ap 4, .inl (0, 240, .inl (nF pm))) :: (rr, .inr (4, fRow ar (nF ro.1) yr)) :: (ar 1, .inl (0, 12, .inl (nF (ro.2 1)))) :: (ar 2, .inl (0, 12, .inl (nF (ro.2 2)))) :: (ar 3, .inl (0, 12, .inl (nF (ro.2 3)))) :: (ar 4, .inl (0, 12, .inl (nF (ro.2 4)))) :: (ar 5, .inl (0, 12, .inl (nF (ro.2 5)))) :: (ar 6, .inl (0, 360, .inl (nF (ro.2 6)))) :: (ar 7, .inl (0, 12, .inl (nF (ro.2 7)))) :: (ar 8, .inl (0, 12, .inl (nF (ro.2 8)))) :: (ar 9, .inl (0, 12, .inl (nF (ro.2 9)))) :: (ar 10, .inl (0, 100, .inl (nF (ro.2 10)))) :: (u, .inr (5, fRun au (nF ru.1) yu)) :: (au 1, .inl (0, 12, .inl (nF (ru.2 1)))) :: (au 2, .inl (0, 12, .inl (nF (ru.2 2)))) :: (au 3, .inl (0, 12, .inl (nF (ru.2 3)))) :: (au 4, .inl (0, 12, .inl (nF (ru.2 4)))) :: (t, .inr (1, fFire ad sc)) :: (ad 1, .inl (0, 64, .inl (s.1))) :: (ad 2, .inl (0, 64, .inl (s.2.1))) :: (ad 3, .inl (1, 64, .inl (s.2.2))) :: (ad 4, .inl (0, 64, .inl he)) :: (ad 5, .inl (0, 60, .inl se)) :: [])) :
    ∀ (q : Nat) (k wk aim w : Nat) (ro ru : zRs) (s : zFs) (sc he : Nat → Int32) (yr yu : Value), k + q = th → nI_ (Y 6) m y yr yu wk w ro ru → zFh C R sc → sc 3 = wi → nEnts Y hdd pcc C R pt pk pn pm m q k (wk, aim, w, ro, ru, (s, sc 10, sc 9)) = G → zS (l, mX3_pass, dd, Po, K0, h0, Xo, Gc) 0 0 37 [(0, .ref nn), (1, .ref y), (2, .ref pl), (3, .ref rr), (4, .ref u), (5, .ref t), (6, .int (nI k)), (7, .int (nI m))] [] ((nn, .inr (2, fNi an wk aim w)) :: (an 1, .inl (0, 60, .inl (pCl (nO1 Y hdd pcc pww C R wi th pt pk pn pm N0) o1 m))) :: (an 2, .inl (0, 60, .inl (pCl (nO2 Y hdd pcc pww C R wi th pt pk pn pm N0) o2 m))) :: (an 3, .inl (0, 60, .inl (pCl (nO3 Y hdd pcc pww C R wi th pt pk pn pm N0) o3 m))) :: (an 4, .inl (0, 60, .inl (pCl (nO4 Y hdd pcc pww C R wi th pt pk pn pm N0) o4 m))) :: (y, .inr (9, fYard ay (ysN Y wi))) :: (ay 1, .inl (0, 12, .inl nm)) :: (ay 2, .inl (0, 12, .inl (nF hdd))) :: (ay 3, .inl (0, 12, .inl (nF pcc))) :: (ay 4, .inl (0, 12, .inl (nF pww))) :: (ay 5, .inl (0, 64, .inl yf)) :: (ay 6, .inl (1, 64, .inl yb)) :: (pl, .inr (3, fPlan ap th)) :: (ap 1, .inl (0, 20, .inl (nF pt))) :: (ap 2, .inl (0, 20, .inl (nF pk))) :: (ap 3, .inl (0, 20, .inl (nF pn))) :: (ap 4, .inl (0, 240, .inl (nF pm))) :: (rr, .inr (4, fRow ar (nF ro.1) yr)) :: (ar 1, .inl (0, 12, .inl (nF (ro.2 1)))) :: (ar 2, .inl (0, 12, .inl (nF (ro.2 2)))) :: (ar 3, .inl (0, 12, .inl (nF (ro.2 3)))) :: (ar 4, .inl (0, 12, .inl (nF (ro.2 4)))) :: (ar 5, .inl (0, 12, .inl (nF (ro.2 5)))) :: (ar 6, .inl (0, 360, .inl (nF (ro.2 6)))) :: (ar 7, .inl (0, 12, .inl (nF (ro.2 7)))) :: (ar 8, .inl (0, 12, .inl (nF (ro.2 8)))) :: (ar 9, .inl (0, 12, .inl (nF (ro.2 9)))) :: (ar 10, .inl (0, 100, .inl (nF (ro.2 10)))) :: (u, .inr (5, fRun au (nF ru.1) yu)) :: (au 1, .inl (0, 12, .inl (nF (ru.2 1)))) :: (au 2, .inl (0, 12, .inl (nF (ru.2 2)))) :: (au 3, .inl (0, 12, .inl (nF (ru.2 3)))) :: (au 4, .inl (0, 12, .inl (nF (ru.2 4)))) :: (t, .inr (1, fFire ad sc)) :: (ad 1, .inl (0, 64, .inl (s.1))) :: (ad 2, .inl (0, 64, .inl (s.2.1))) :: (ad 3, .inl (1, 64, .inl (s.2.2))) :: (ad 4, .inl (0, 64, .inl he)) :: (ad 5, .inl (0, 60, .inl se)) :: []) := by
  have hth := hOK.1
  intro q
  induction q with
  | zero =>
    intro k wk aim w ro ru s sc he yr yu hi hNI hfz hwi hG
    refine zs_iload dX3_pass_37 rfl ?_
    refine zs_aload_n dX3_pass_39 rfl rfl ?_
    refine zs_get 12 dX3_pass_40 zf_RX3_44 rfl (v := .int (nI th)) rfl ?_
    refine zs_icmp_ge (tgt := 198) dX3_pass_43 (by decide) (fun c_1 => ?_) (fun c_1 => (c_1 (by rw [show k = th by omega]; exact Int32.le_refl _) : False).elim)
    refine zs_lv [0, 1, 2, 3, 4, 5, 6, 7] rfl ?_
    exact hk k wk aim w ro ru s sc he yr yu hNI hfz hwi hG
  | succ q ih =>
    intro k wk aim w ro ru s sc he yr yu hi hNI hfz hwi hG
    have hkt : k < th := by omega
    obtain ⟨pt6, pk4, pnb, p0, p1, pmn, p4⟩ := hOK.2 k hkt
    refine zs_iload dX3_pass_37 rfl ?_
    refine zs_aload_n dX3_pass_39 rfl rfl ?_
    refine zs_get 12 dX3_pass_40 zf_RX3_44 rfl (v := .int (nI th)) rfl ?_
    refine zs_icmp_ge (tgt := 198) dX3_pass_43 (by decide) (fun c_1 => (nI_ge hkt (by omega) c_1 : False).elim) (fun c_1 => ?_)
    refine zs_aload_n dX3_pass_46 rfl rfl ?_
    refine zs_get 12 dX3_pass_47 zf_RX3_49 rfl (v := .ref (ap 1)) rfl ?_
    refine zs_iload dX3_pass_50 rfl ?_
    refine zs_iald 13 dX3_pass_52 rfl (vp_in_nI (by omega) (by omega)) ?_
    refine zs_as (y := nI (pt k)) (by rw [nI_c (n := k) (by omega)]; rfl) ?_
    refine zs_iload dX3_pass_53 rfl ?_
    refine zs_icmp_gt (tgt := 198) dX3_pass_55 (by decide) (fun c_2 => ?_) (fun c_2 => ?_)
    · have c_2 : m < (pt k) := by have hc := c_2; rw [nI_lt' (by omega) (by omega)] at hc; exact hc
      refine zs_lv [0, 1, 2, 3, 4, 5, 6, 7] rfl ?_
      exact hk k wk aim w ro ru s sc he yr yu hNI hfz hwi (by rw [← hG, nEnts, if_neg (show ¬ pt k ≤ m by omega)])
    · have c_2 : ¬ (m < (pt k)) := by have hc := c_2; rw [nI_lt' (by omega) (by omega)] at hc; exact hc
      refine zs_iload dX3_pass_58 rfl ?_
      refine zs_bipush (v := nI 12) dX3_pass_60 (by decide) ?_
      refine zs_imul dX3_pass_62 ?_
      refine zs_as (y := nI (k * 12)) (nI_mul _ _) ?_
      refine zs_istore (lv' := [(8, .int (nI (k * 12))), (0, .ref nn), (1, .ref y), (2, .ref pl), (3, .ref rr), (4, .ref u), (5, .ref t), (6, .int (nI k)), (7, .int (nI m))]) dX3_pass_63 (Nat.le_of_ble_eq_true rfl) rfl ?_
      refine zs_aload_n dX3_pass_65 rfl rfl ?_
      refine zs_get 12 dX3_pass_66 zf_RX3_52 rfl (v := .ref (ap 3)) rfl ?_
      refine zs_iload dX3_pass_69 rfl ?_
      refine zs_iald 15 dX3_pass_71 rfl (vp_in_nI (by omega) (by omega)) ?_
      refine zs_as (y := nI (pn k)) (by rw [nI_c (n := k) (by omega)]; rfl) ?_
      refine zs_istore (lv' := [(9, .int (nI (pn k))), (8, .int (nI (k * 12))), (0, .ref nn), (1, .ref y), (2, .ref pl), (3, .ref rr), (4, .ref u), (5, .ref t), (6, .int (nI k)), (7, .int (nI m))]) dX3_pass_72 (Nat.le_of_ble_eq_true rfl) rfl ?_
      refine zs_aload_n dX3_pass_74 rfl rfl ?_
      refine zs_get 12 dX3_pass_75 zf_RX3_55 rfl (v := .ref (ap 2)) rfl ?_
      refine zs_iload dX3_pass_78 rfl ?_
      refine zs_iald 14 dX3_pass_80 rfl (vp_in_nI (by omega) (by omega)) ?_
      refine zs_as (y := nI (pk k)) (by rw [nI_c (n := k) (by omega)]; rfl) ?_
      by_cases h81_0 : (pk k) = 0
      · refine zs_as (y := nI 0) (congrArg nI h81_0) ?_
        refine zs_tableIn (off := 35) (tgt := 116) dX3_pass_81 (by decide) (by decide) rfl (by decide) ?_
        refine zs_aload_n dX3_pass_116 rfl rfl ?_
        refine zs_aload_n dX3_pass_117 rfl rfl ?_
        refine zs_aload_n dX3_pass_118 rfl rfl ?_
        refine zs_get 12 dX3_pass_119 zf_RX3_58 rfl (v := .ref (ap 4)) rfl ?_
        refine zs_iload dX3_pass_122 rfl ?_
        refine zs_iload dX3_pass_124 rfl ?_
        refine zs_aload_n dX3_pass_126 rfl rfl ?_
        refine zs_get 0 dX3_pass_127 zf_RX3_35 rfl (v := .int (nI w)) rfl ?_
        refine zs_callV (M := mX5_begin) (As := [.ref y, .ref (ap 4), .int (nI (k * 12)), .int (nI (pn k)), .int (nI w)]) (st := []) (Kc := [(rr, .inr (4, fRow ar (nF ro.1) yr)), (ar 1, .inl (0, 12, .inl (nF (ro.2 1)))), (ar 2, .inl (0, 12, .inl (nF (ro.2 2)))), (ar 3, .inl (0, 12, .inl (nF (ro.2 3)))), (ar 4, .inl (0, 12, .inl (nF (ro.2 4)))), (ar 5, .inl (0, 12, .inl (nF (ro.2 5)))), (ar 6, .inl (0, 360, .inl (nF (ro.2 6)))), (ar 7, .inl (0, 12, .inl (nF (ro.2 7)))), (ar 8, .inl (0, 12, .inl (nF (ro.2 8)))), (ar 9, .inl (0, 12, .inl (nF (ro.2 9)))), (ar 10, .inl (0, 100, .inl (nF (ro.2 10)))), (y, .inr (9, fYard ay (ysN Y wi))), (ay 1, .inl (0, 12, .inl nm)), (ay 2, .inl (0, 12, .inl (nF hdd))), (ay 3, .inl (0, 12, .inl (nF pcc))), (ay 4, .inl (0, 12, .inl (nF pww))), (ay 5, .inl (0, 64, .inl yf)), (ay 6, .inl (1, 64, .inl yb)), (ap 4, .inl (0, 240, .inl (nF pm)))]) (Kr := [(nn, .inr (2, fNi an wk aim w)), (an 1, .inl (0, 60, .inl (pCl (nO1 Y hdd pcc pww C R wi th pt pk pn pm N0) o1 m))), (an 2, .inl (0, 60, .inl (pCl (nO2 Y hdd pcc pww C R wi th pt pk pn pm N0) o2 m))), (an 3, .inl (0, 60, .inl (pCl (nO3 Y hdd pcc pww C R wi th pt pk pn pm N0) o3 m))), (an 4, .inl (0, 60, .inl (pCl (nO4 Y hdd pcc pww C R wi th pt pk pn pm N0) o4 m))), (pl, .inr (3, fPlan ap th)), (ap 1, .inl (0, 20, .inl (nF pt))), (ap 2, .inl (0, 20, .inl (nF pk))), (ap 3, .inl (0, 20, .inl (nF pn))), (u, .inr (5, fRun au (nF ru.1) yu)), (au 1, .inl (0, 12, .inl (nF (ru.2 1)))), (au 2, .inl (0, 12, .inl (nF (ru.2 2)))), (au 3, .inl (0, 12, .inl (nF (ru.2 3)))), (au 4, .inl (0, 12, .inl (nF (ru.2 4)))), (t, .inr (1, fFire ad sc)), (ad 1, .inl (0, 64, .inl (s.1))), (ad 2, .inl (0, 64, .inl (s.2.1))), (ad 3, .inl (1, 64, .inl (s.2.2))), (ad 4, .inl (0, 64, .inl he)), (ad 5, .inl (0, 60, .inl se))]) [17, 18, 19, 20, 21, 22, 23, 24, 25, 26, 27, 5, 6, 7, 8, 9, 10, 11, 16] [0, 1, 2, 3, 4, 12, 13, 14, 15, 28, 29, 30, 31, 32, 33, 34, 35, 36, 37, 38] 0 dX3_pass_130 zl_RX3_61 kX5_begin rfl rfl rfl rfl rfl (by decide) rfl rfl (show dd - 1 + 1 ≤ dd by omega) (Nat.zero_le _) (Nat.zero_le _) (Nat.le_of_ble_eq_true rfl) (s_rowBegin l (dd - 1) rr y (ap 4) 240 ar ay yr ro Y wi nm hdd pcc pww pm yf yb (k * 12) (pn k) w (by omega) (p0 h81_0) (by have := p0 h81_0; omega) (by omega) (pmn (by omega)) hmen hY5 hY8 hY12 hhd9) (fun r K1 hr => ?_)
        obtain ⟨rfl, rfl⟩ := hr
        refine zs_K (K' := ((nn, .inr (2, fNi an wk aim w)) :: (an 1, .inl (0, 60, .inl (pCl (nO1 Y hdd pcc pww C R wi th pt pk pn pm N0) o1 m))) :: (an 2, .inl (0, 60, .inl (pCl (nO2 Y hdd pcc pww C R wi th pt pk pn pm N0) o2 m))) :: (an 3, .inl (0, 60, .inl (pCl (nO3 Y hdd pcc pww C R wi th pt pk pn pm N0) o3 m))) :: (an 4, .inl (0, 60, .inl (pCl (nO4 Y hdd pcc pww C R wi th pt pk pn pm N0) o4 m))) :: (y, .inr (9, fYard ay (ysN Y wi))) :: (ay 1, .inl (0, 12, .inl nm)) :: (ay 2, .inl (0, 12, .inl (nF hdd))) :: (ay 3, .inl (0, 12, .inl (nF pcc))) :: (ay 4, .inl (0, 12, .inl (nF pww))) :: (ay 5, .inl (0, 64, .inl yf)) :: (ay 6, .inl (1, 64, .inl yb)) :: (pl, .inr (3, fPlan ap th)) :: (ap 1, .inl (0, 20, .inl (nF pt))) :: (ap 2, .inl (0, 20, .inl (nF pk))) :: (ap 3, .inl (0, 20, .inl (nF pn))) :: (ap 4, .inl (0, 240, .inl (nF pm))) :: (rr, .inr (4, fRow ar (nF (cBeg Y hdd pm (k * 12) (pn k) w ro).1) (.ref y))) :: (ar 1, .inl (0, 12, .inl (nF ((cBeg Y hdd pm (k * 12) (pn k) w ro).2 1)))) :: (ar 2, .inl (0, 12, .inl (nF ((cBeg Y hdd pm (k * 12) (pn k) w ro).2 2)))) :: (ar 3, .inl (0, 12, .inl (nF ((cBeg Y hdd pm (k * 12) (pn k) w ro).2 3)))) :: (ar 4, .inl (0, 12, .inl (nF ((cBeg Y hdd pm (k * 12) (pn k) w ro).2 4)))) :: (ar 5, .inl (0, 12, .inl (nF ((cBeg Y hdd pm (k * 12) (pn k) w ro).2 5)))) :: (ar 6, .inl (0, 360, .inl (nF ((cBeg Y hdd pm (k * 12) (pn k) w ro).2 6)))) :: (ar 7, .inl (0, 12, .inl (nF ((cBeg Y hdd pm (k * 12) (pn k) w ro).2 7)))) :: (ar 8, .inl (0, 12, .inl (nF ((cBeg Y hdd pm (k * 12) (pn k) w ro).2 8)))) :: (ar 9, .inl (0, 12, .inl (nF ((cBeg Y hdd pm (k * 12) (pn k) w ro).2 9)))) :: (ar 10, .inl (0, 100, .inl (nF ((cBeg Y hdd pm (k * 12) (pn k) w ro).2 10)))) :: (u, .inr (5, fRun au (nF ru.1) yu)) :: (au 1, .inl (0, 12, .inl (nF (ru.2 1)))) :: (au 2, .inl (0, 12, .inl (nF (ru.2 2)))) :: (au 3, .inl (0, 12, .inl (nF (ru.2 3)))) :: (au 4, .inl (0, 12, .inl (nF (ru.2 4)))) :: (t, .inr (1, fFire ad sc)) :: (ad 1, .inl (0, 64, .inl (s.1))) :: (ad 2, .inl (0, 64, .inl (s.2.1))) :: (ad 3, .inl (1, 64, .inl (s.2.2))) :: (ad 4, .inl (0, 64, .inl he)) :: (ad 5, .inl (0, 60, .inl se)) :: [])) (0 :: 1 :: 2 :: 3 :: 4 :: 31 :: 32 :: 33 :: 34 :: 35 :: 36 :: 37 :: 5 :: 6 :: 7 :: 8 :: 38 :: 20 :: 21 :: 22 :: 23 :: 24 :: 25 :: 26 :: 27 :: 28 :: 29 :: 30 :: 9 :: 10 :: 11 :: 12 :: 13 :: 14 :: 15 :: 16 :: 17 :: 18 :: 19 :: []) rfl (by decide) ?_
        refine zs_aload_n dX3_pass_133 rfl rfl ?_
        refine zs_iconst (v := nI 1) dX3_pass_134 (by decide) ?_
        refine zs_put 0 dX3_pass_135 zf_RX3_24 rfl (Nat.le_of_ble_eq_true rfl) (zPv_i _) ?_
        show zS _ _ _ _ _ _ ((nn, .inr (2, fNi an 1 aim w)) :: (an 1, .inl (0, 60, .inl (pCl (nO1 Y hdd pcc pww C R wi th pt pk pn pm N0) o1 m))) :: (an 2, .inl (0, 60, .inl (pCl (nO2 Y hdd pcc pww C R wi th pt pk pn pm N0) o2 m))) :: (an 3, .inl (0, 60, .inl (pCl (nO3 Y hdd pcc pww C R wi th pt pk pn pm N0) o3 m))) :: (an 4, .inl (0, 60, .inl (pCl (nO4 Y hdd pcc pww C R wi th pt pk pn pm N0) o4 m))) :: (y, .inr (9, fYard ay (ysN Y wi))) :: (ay 1, .inl (0, 12, .inl nm)) :: (ay 2, .inl (0, 12, .inl (nF hdd))) :: (ay 3, .inl (0, 12, .inl (nF pcc))) :: (ay 4, .inl (0, 12, .inl (nF pww))) :: (ay 5, .inl (0, 64, .inl yf)) :: (ay 6, .inl (1, 64, .inl yb)) :: (pl, .inr (3, fPlan ap th)) :: (ap 1, .inl (0, 20, .inl (nF pt))) :: (ap 2, .inl (0, 20, .inl (nF pk))) :: (ap 3, .inl (0, 20, .inl (nF pn))) :: (ap 4, .inl (0, 240, .inl (nF pm))) :: (rr, .inr (4, fRow ar (nF (cBeg Y hdd pm (k * 12) (pn k) w ro).1) (.ref y))) :: (ar 1, .inl (0, 12, .inl (nF ((cBeg Y hdd pm (k * 12) (pn k) w ro).2 1)))) :: (ar 2, .inl (0, 12, .inl (nF ((cBeg Y hdd pm (k * 12) (pn k) w ro).2 2)))) :: (ar 3, .inl (0, 12, .inl (nF ((cBeg Y hdd pm (k * 12) (pn k) w ro).2 3)))) :: (ar 4, .inl (0, 12, .inl (nF ((cBeg Y hdd pm (k * 12) (pn k) w ro).2 4)))) :: (ar 5, .inl (0, 12, .inl (nF ((cBeg Y hdd pm (k * 12) (pn k) w ro).2 5)))) :: (ar 6, .inl (0, 360, .inl (nF ((cBeg Y hdd pm (k * 12) (pn k) w ro).2 6)))) :: (ar 7, .inl (0, 12, .inl (nF ((cBeg Y hdd pm (k * 12) (pn k) w ro).2 7)))) :: (ar 8, .inl (0, 12, .inl (nF ((cBeg Y hdd pm (k * 12) (pn k) w ro).2 8)))) :: (ar 9, .inl (0, 12, .inl (nF ((cBeg Y hdd pm (k * 12) (pn k) w ro).2 9)))) :: (ar 10, .inl (0, 100, .inl (nF ((cBeg Y hdd pm (k * 12) (pn k) w ro).2 10)))) :: (u, .inr (5, fRun au (nF ru.1) yu)) :: (au 1, .inl (0, 12, .inl (nF (ru.2 1)))) :: (au 2, .inl (0, 12, .inl (nF (ru.2 2)))) :: (au 3, .inl (0, 12, .inl (nF (ru.2 3)))) :: (au 4, .inl (0, 12, .inl (nF (ru.2 4)))) :: (t, .inr (1, fFire ad sc)) :: (ad 1, .inl (0, 64, .inl (s.1))) :: (ad 2, .inl (0, 64, .inl (s.2.1))) :: (ad 3, .inl (1, 64, .inl (s.2.2))) :: (ad 4, .inl (0, 64, .inl he)) :: (ad 5, .inl (0, 60, .inl se)) :: [])
        refine zs_goto (tgt := 192) dX3_pass_138 (by decide) ?_
        refine zs_iinc (v := (nI (k + 1))) (lv' := [(6, .int (nI (k + 1))), (9, .int (nI (pn k))), (8, .int (nI (k * 12))), (0, .ref nn), (1, .ref y), (2, .ref pl), (3, .ref rr), (4, .ref u), (5, .ref t), (7, .int (nI m))]) dX3_pass_192 rfl (nI_add _ 1) (Nat.le_of_ble_eq_true rfl) rfl ?_
        refine zs_goto (tgt := 37) dX3_pass_195 (by decide) ?_
        refine zs_lv [3, 4, 5, 6, 7, 8, 0, 9] rfl ?_
        exact ih (k + 1) _ _ _ _ _ _ _ _ _ _ (by omega) ⟨by decide, hNI.2.1, (cBeg_J hNI.2.2.1 (p0 h81_0) (fun i hi => by have := pmn (by omega) i hi; omega) hY5 hY8 hY12 (fun i hi => ⟨hh1 _ (pmn (by omega) i hi), hhd9 _ (by have := pmn (by omega) i hi; omega)⟩) hNI.2.1).1.w, hNI.2.2.2.1, fun _ => ⟨rfl, 0, Nat.zero_le _, cBeg_J hNI.2.2.1 (p0 h81_0) (fun i hi => by have := pmn (by omega) i hi; omega) hY5 hY8 hY12 (fun i hi => ⟨hh1 _ (pmn (by omega) i hi), hhd9 _ (by have := pmn (by omega) i hi; omega)⟩) hNI.2.1⟩, fun e => absurd e (by decide)⟩ hfz hwi (by rw [← hG, nEnts, if_pos (show pt k ≤ m by omega), nEnt, if_pos h81_0])
      by_cases h81_1 : (pk k) = 1
      · refine zs_as (y := nI 1) (congrArg nI h81_1) ?_
        refine zs_tableIn (off := 60) (tgt := 141) dX3_pass_81 (by decide) (by decide) rfl (by decide) ?_
        refine zs_aload dX3_pass_141 rfl rfl ?_
        refine zs_aload_n dX3_pass_143 rfl rfl ?_
        refine zs_aload_n dX3_pass_144 rfl rfl ?_
        refine zs_get 12 dX3_pass_145 zf_RX3_58 rfl (v := .ref (ap 4)) rfl ?_
        refine zs_iload dX3_pass_148 rfl ?_
        refine zs_iload dX3_pass_150 rfl ?_
        refine zs_aload_n dX3_pass_152 rfl rfl ?_
        refine zs_get 0 dX3_pass_153 zf_RX3_35 rfl (v := .int (nI w)) rfl ?_
        refine zs_callV (M := mX6_begin) (As := [.ref y, .ref (ap 4), .int (nI (k * 12)), .int (nI (pn k)), .int (nI w)]) (st := []) (Kc := [(u, .inr (5, fRun au (nF ru.1) yu)), (au 1, .inl (0, 12, .inl (nF (ru.2 1)))), (au 2, .inl (0, 12, .inl (nF (ru.2 2)))), (au 3, .inl (0, 12, .inl (nF (ru.2 3)))), (au 4, .inl (0, 12, .inl (nF (ru.2 4)))), (y, .inr (9, fYard ay (ysN Y wi))), (ay 3, .inl (0, 12, .inl (nF pcc))), (ap 4, .inl (0, 240, .inl (nF pm)))]) (Kr := ((nn, .inr (2, fNi an wk aim w)) :: (an 1, .inl (0, 60, .inl (pCl (nO1 Y hdd pcc pww C R wi th pt pk pn pm N0) o1 m))) :: (an 2, .inl (0, 60, .inl (pCl (nO2 Y hdd pcc pww C R wi th pt pk pn pm N0) o2 m))) :: (an 3, .inl (0, 60, .inl (pCl (nO3 Y hdd pcc pww C R wi th pt pk pn pm N0) o3 m))) :: (an 4, .inl (0, 60, .inl (pCl (nO4 Y hdd pcc pww C R wi th pt pk pn pm N0) o4 m))) :: (ay 1, .inl (0, 12, .inl nm)) :: (ay 2, .inl (0, 12, .inl (nF hdd))) :: (ay 4, .inl (0, 12, .inl (nF pww))) :: (ay 5, .inl (0, 64, .inl yf)) :: (ay 6, .inl (1, 64, .inl yb)) :: (pl, .inr (3, fPlan ap th)) :: (ap 1, .inl (0, 20, .inl (nF pt))) :: (ap 2, .inl (0, 20, .inl (nF pk))) :: (ap 3, .inl (0, 20, .inl (nF pn))) :: (rr, .inr (4, fRow ar (nF ro.1) yr)) :: (ar 1, .inl (0, 12, .inl (nF (ro.2 1)))) :: (ar 2, .inl (0, 12, .inl (nF (ro.2 2)))) :: (ar 3, .inl (0, 12, .inl (nF (ro.2 3)))) :: (ar 4, .inl (0, 12, .inl (nF (ro.2 4)))) :: (ar 5, .inl (0, 12, .inl (nF (ro.2 5)))) :: (ar 6, .inl (0, 360, .inl (nF (ro.2 6)))) :: (ar 7, .inl (0, 12, .inl (nF (ro.2 7)))) :: (ar 8, .inl (0, 12, .inl (nF (ro.2 8)))) :: (ar 9, .inl (0, 12, .inl (nF (ro.2 9)))) :: (ar 10, .inl (0, 100, .inl (nF (ro.2 10)))) :: (t, .inr (1, fFire ad sc)) :: (ad 1, .inl (0, 64, .inl (s.1))) :: (ad 2, .inl (0, 64, .inl (s.2.1))) :: (ad 3, .inl (1, 64, .inl (s.2.2))) :: (ad 4, .inl (0, 64, .inl he)) :: (ad 5, .inl (0, 60, .inl se)) :: [])) [28, 29, 30, 31, 32, 5, 8, 16] (0 :: 1 :: 2 :: 3 :: 4 :: 6 :: 7 :: 9 :: 10 :: 11 :: 12 :: 13 :: 14 :: 15 :: 17 :: 18 :: 19 :: 20 :: 21 :: 22 :: 23 :: 24 :: 25 :: 26 :: 27 :: 33 :: 34 :: 35 :: 36 :: 37 :: 38 :: []) 0 dX3_pass_156 zl_RX3_66 kX6_begin rfl rfl rfl rfl rfl (by decide) rfl rfl (show dd - 1 + 1 ≤ dd by omega) (Nat.zero_le _) (Nat.zero_le _) (Nat.le_of_ble_eq_true rfl) (s_runBegin l (dd - 1) u y (ap 4) 240 au ay yu ru Y wi pcc pm (k * 12) (pn k) w (by omega) (p1 h81_1) (by have := p1 h81_1; omega) (by omega) (fun i hi => by have := pmn (by omega) i hi; omega) hY5 hP (fun i hi => hp1 _ (pmn (by omega) i hi))) (fun r K1 hr => ?_)
        obtain ⟨rfl, rfl⟩ := hr
        refine zs_K (K' := ((nn, .inr (2, fNi an wk aim w)) :: (an 1, .inl (0, 60, .inl (pCl (nO1 Y hdd pcc pww C R wi th pt pk pn pm N0) o1 m))) :: (an 2, .inl (0, 60, .inl (pCl (nO2 Y hdd pcc pww C R wi th pt pk pn pm N0) o2 m))) :: (an 3, .inl (0, 60, .inl (pCl (nO3 Y hdd pcc pww C R wi th pt pk pn pm N0) o3 m))) :: (an 4, .inl (0, 60, .inl (pCl (nO4 Y hdd pcc pww C R wi th pt pk pn pm N0) o4 m))) :: (y, .inr (9, fYard ay (ysN Y wi))) :: (ay 1, .inl (0, 12, .inl nm)) :: (ay 2, .inl (0, 12, .inl (nF hdd))) :: (ay 3, .inl (0, 12, .inl (nF pcc))) :: (ay 4, .inl (0, 12, .inl (nF pww))) :: (ay 5, .inl (0, 64, .inl yf)) :: (ay 6, .inl (1, 64, .inl yb)) :: (pl, .inr (3, fPlan ap th)) :: (ap 1, .inl (0, 20, .inl (nF pt))) :: (ap 2, .inl (0, 20, .inl (nF pk))) :: (ap 3, .inl (0, 20, .inl (nF pn))) :: (ap 4, .inl (0, 240, .inl (nF pm))) :: (rr, .inr (4, fRow ar (nF ro.1) yr)) :: (ar 1, .inl (0, 12, .inl (nF (ro.2 1)))) :: (ar 2, .inl (0, 12, .inl (nF (ro.2 2)))) :: (ar 3, .inl (0, 12, .inl (nF (ro.2 3)))) :: (ar 4, .inl (0, 12, .inl (nF (ro.2 4)))) :: (ar 5, .inl (0, 12, .inl (nF (ro.2 5)))) :: (ar 6, .inl (0, 360, .inl (nF (ro.2 6)))) :: (ar 7, .inl (0, 12, .inl (nF (ro.2 7)))) :: (ar 8, .inl (0, 12, .inl (nF (ro.2 8)))) :: (ar 9, .inl (0, 12, .inl (nF (ro.2 9)))) :: (ar 10, .inl (0, 100, .inl (nF (ro.2 10)))) :: (u, .inr (5, fRun au (nF (rBeg Y pcc pm (k * 12) (pn k) w ru).1) (.ref y))) :: (au 1, .inl (0, 12, .inl (nF ((rBeg Y pcc pm (k * 12) (pn k) w ru).2 1)))) :: (au 2, .inl (0, 12, .inl (nF ((rBeg Y pcc pm (k * 12) (pn k) w ru).2 2)))) :: (au 3, .inl (0, 12, .inl (nF ((rBeg Y pcc pm (k * 12) (pn k) w ru).2 3)))) :: (au 4, .inl (0, 12, .inl (nF ((rBeg Y pcc pm (k * 12) (pn k) w ru).2 4)))) :: (t, .inr (1, fFire ad sc)) :: (ad 1, .inl (0, 64, .inl (s.1))) :: (ad 2, .inl (0, 64, .inl (s.2.1))) :: (ad 3, .inl (1, 64, .inl (s.2.2))) :: (ad 4, .inl (0, 64, .inl he)) :: (ad 5, .inl (0, 60, .inl se)) :: [])) (0 :: 1 :: 2 :: 3 :: 4 :: 36 :: 5 :: 6 :: 37 :: 7 :: 8 :: 9 :: 10 :: 11 :: 12 :: 13 :: 38 :: 14 :: 15 :: 16 :: 17 :: 18 :: 19 :: 20 :: 21 :: 22 :: 23 :: 24 :: 31 :: 32 :: 33 :: 34 :: 35 :: 25 :: 26 :: 27 :: 28 :: 29 :: 30 :: []) rfl (by decide) ?_
        refine zs_aload_n dX3_pass_159 rfl rfl ?_
        refine zs_iconst (v := nI 2) dX3_pass_160 (by decide) ?_
        refine zs_put 0 dX3_pass_161 zf_RX3_24 rfl (Nat.le_of_ble_eq_true rfl) (zPv_i _) ?_
        show zS _ _ _ _ _ _ ((nn, .inr (2, fNi an 2 aim w)) :: (an 1, .inl (0, 60, .inl (pCl (nO1 Y hdd pcc pww C R wi th pt pk pn pm N0) o1 m))) :: (an 2, .inl (0, 60, .inl (pCl (nO2 Y hdd pcc pww C R wi th pt pk pn pm N0) o2 m))) :: (an 3, .inl (0, 60, .inl (pCl (nO3 Y hdd pcc pww C R wi th pt pk pn pm N0) o3 m))) :: (an 4, .inl (0, 60, .inl (pCl (nO4 Y hdd pcc pww C R wi th pt pk pn pm N0) o4 m))) :: (y, .inr (9, fYard ay (ysN Y wi))) :: (ay 1, .inl (0, 12, .inl nm)) :: (ay 2, .inl (0, 12, .inl (nF hdd))) :: (ay 3, .inl (0, 12, .inl (nF pcc))) :: (ay 4, .inl (0, 12, .inl (nF pww))) :: (ay 5, .inl (0, 64, .inl yf)) :: (ay 6, .inl (1, 64, .inl yb)) :: (pl, .inr (3, fPlan ap th)) :: (ap 1, .inl (0, 20, .inl (nF pt))) :: (ap 2, .inl (0, 20, .inl (nF pk))) :: (ap 3, .inl (0, 20, .inl (nF pn))) :: (ap 4, .inl (0, 240, .inl (nF pm))) :: (rr, .inr (4, fRow ar (nF ro.1) yr)) :: (ar 1, .inl (0, 12, .inl (nF (ro.2 1)))) :: (ar 2, .inl (0, 12, .inl (nF (ro.2 2)))) :: (ar 3, .inl (0, 12, .inl (nF (ro.2 3)))) :: (ar 4, .inl (0, 12, .inl (nF (ro.2 4)))) :: (ar 5, .inl (0, 12, .inl (nF (ro.2 5)))) :: (ar 6, .inl (0, 360, .inl (nF (ro.2 6)))) :: (ar 7, .inl (0, 12, .inl (nF (ro.2 7)))) :: (ar 8, .inl (0, 12, .inl (nF (ro.2 8)))) :: (ar 9, .inl (0, 12, .inl (nF (ro.2 9)))) :: (ar 10, .inl (0, 100, .inl (nF (ro.2 10)))) :: (u, .inr (5, fRun au (nF (rBeg Y pcc pm (k * 12) (pn k) w ru).1) (.ref y))) :: (au 1, .inl (0, 12, .inl (nF ((rBeg Y pcc pm (k * 12) (pn k) w ru).2 1)))) :: (au 2, .inl (0, 12, .inl (nF ((rBeg Y pcc pm (k * 12) (pn k) w ru).2 2)))) :: (au 3, .inl (0, 12, .inl (nF ((rBeg Y pcc pm (k * 12) (pn k) w ru).2 3)))) :: (au 4, .inl (0, 12, .inl (nF ((rBeg Y pcc pm (k * 12) (pn k) w ru).2 4)))) :: (t, .inr (1, fFire ad sc)) :: (ad 1, .inl (0, 64, .inl (s.1))) :: (ad 2, .inl (0, 64, .inl (s.2.1))) :: (ad 3, .inl (1, 64, .inl (s.2.2))) :: (ad 4, .inl (0, 64, .inl he)) :: (ad 5, .inl (0, 60, .inl se)) :: [])
        refine zs_goto (tgt := 192) dX3_pass_164 (by decide) ?_
        refine zs_iinc (v := (nI (k + 1))) (lv' := [(6, .int (nI (k + 1))), (9, .int (nI (pn k))), (8, .int (nI (k * 12))), (0, .ref nn), (1, .ref y), (2, .ref pl), (3, .ref rr), (4, .ref u), (5, .ref t), (7, .int (nI m))]) dX3_pass_192 rfl (nI_add _ 1) (Nat.le_of_ble_eq_true rfl) rfl ?_
        refine zs_goto (tgt := 37) dX3_pass_195 (by decide) ?_
        refine zs_lv [3, 4, 5, 6, 7, 8, 0, 9] rfl ?_
        exact ih (k + 1) _ _ _ _ _ _ _ _ _ _ (by omega) ⟨by decide, hNI.2.1, hNI.2.2.1, rBeg_I hNI.2.2.2.1 (p1 h81_1) hNI.2.1 hY5, fun e => absurd e (by decide), fun _ => ⟨rfl, hNI.2.1⟩⟩ hfz hwi (by rw [← hG, nEnts, if_pos (show pt k ≤ m by omega), nEnt, if_neg h81_0, if_pos h81_1])
      by_cases h81_2 : (pk k) = 2
      · refine zs_as (y := nI 2) (congrArg nI h81_2) ?_
        refine zs_tableIn (off := 106) (tgt := 187) dX3_pass_81 (by decide) (by decide) rfl (by decide) ?_
        refine zs_aload_n dX3_pass_187 rfl rfl ?_
        refine zs_iconst (v := nI 0) dX3_pass_188 (by decide) ?_
        refine zs_put 0 dX3_pass_189 zf_RX3_24 rfl (Nat.le_of_ble_eq_true rfl) (zPv_i _) ?_
        show zS _ _ _ _ _ _ ((nn, .inr (2, fNi an 0 aim w)) :: (an 1, .inl (0, 60, .inl (pCl (nO1 Y hdd pcc pww C R wi th pt pk pn pm N0) o1 m))) :: (an 2, .inl (0, 60, .inl (pCl (nO2 Y hdd pcc pww C R wi th pt pk pn pm N0) o2 m))) :: (an 3, .inl (0, 60, .inl (pCl (nO3 Y hdd pcc pww C R wi th pt pk pn pm N0) o3 m))) :: (an 4, .inl (0, 60, .inl (pCl (nO4 Y hdd pcc pww C R wi th pt pk pn pm N0) o4 m))) :: (y, .inr (9, fYard ay (ysN Y wi))) :: (ay 1, .inl (0, 12, .inl nm)) :: (ay 2, .inl (0, 12, .inl (nF hdd))) :: (ay 3, .inl (0, 12, .inl (nF pcc))) :: (ay 4, .inl (0, 12, .inl (nF pww))) :: (ay 5, .inl (0, 64, .inl yf)) :: (ay 6, .inl (1, 64, .inl yb)) :: (pl, .inr (3, fPlan ap th)) :: (ap 1, .inl (0, 20, .inl (nF pt))) :: (ap 2, .inl (0, 20, .inl (nF pk))) :: (ap 3, .inl (0, 20, .inl (nF pn))) :: (ap 4, .inl (0, 240, .inl (nF pm))) :: (rr, .inr (4, fRow ar (nF ro.1) yr)) :: (ar 1, .inl (0, 12, .inl (nF (ro.2 1)))) :: (ar 2, .inl (0, 12, .inl (nF (ro.2 2)))) :: (ar 3, .inl (0, 12, .inl (nF (ro.2 3)))) :: (ar 4, .inl (0, 12, .inl (nF (ro.2 4)))) :: (ar 5, .inl (0, 12, .inl (nF (ro.2 5)))) :: (ar 6, .inl (0, 360, .inl (nF (ro.2 6)))) :: (ar 7, .inl (0, 12, .inl (nF (ro.2 7)))) :: (ar 8, .inl (0, 12, .inl (nF (ro.2 8)))) :: (ar 9, .inl (0, 12, .inl (nF (ro.2 9)))) :: (ar 10, .inl (0, 100, .inl (nF (ro.2 10)))) :: (u, .inr (5, fRun au (nF ru.1) yu)) :: (au 1, .inl (0, 12, .inl (nF (ru.2 1)))) :: (au 2, .inl (0, 12, .inl (nF (ru.2 2)))) :: (au 3, .inl (0, 12, .inl (nF (ru.2 3)))) :: (au 4, .inl (0, 12, .inl (nF (ru.2 4)))) :: (t, .inr (1, fFire ad sc)) :: (ad 1, .inl (0, 64, .inl (s.1))) :: (ad 2, .inl (0, 64, .inl (s.2.1))) :: (ad 3, .inl (1, 64, .inl (s.2.2))) :: (ad 4, .inl (0, 64, .inl he)) :: (ad 5, .inl (0, 60, .inl se)) :: [])
        refine zs_iinc (v := (nI (k + 1))) (lv' := [(6, .int (nI (k + 1))), (9, .int (nI (pn k))), (8, .int (nI (k * 12))), (0, .ref nn), (1, .ref y), (2, .ref pl), (3, .ref rr), (4, .ref u), (5, .ref t), (7, .int (nI m))]) dX3_pass_192 rfl (nI_add _ 1) (Nat.le_of_ble_eq_true rfl) rfl ?_
        refine zs_goto (tgt := 37) dX3_pass_195 (by decide) ?_
        refine zs_lv [3, 4, 5, 6, 7, 8, 0, 9] rfl ?_
        exact ih (k + 1) _ _ _ _ _ _ _ _ _ _ (by omega) ⟨by decide, hNI.2.1, hNI.2.2.1, hNI.2.2.2.1, fun e => absurd e (by decide), fun e => absurd e (by decide)⟩ hfz hwi (by rw [← hG, nEnts, if_pos (show pt k ≤ m by omega), nEnt, if_neg h81_0, if_neg h81_1, if_pos h81_2])
      by_cases h81_3 : (pk k) = 3
      · refine zs_as (y := nI 3) (congrArg nI h81_3) ?_
        refine zs_tableIn (off := 86) (tgt := 167) dX3_pass_81 (by decide) (by decide) rfl (by decide) ?_
        refine zs_aload_n dX3_pass_167 rfl rfl ?_
        refine zs_iload dX3_pass_168 rfl ?_
        refine zs_put 0 dX3_pass_170 zf_RX3_28 rfl (Nat.le_of_ble_eq_true rfl) (zPv_i _) ?_
        show zS _ _ _ _ _ _ ((nn, .inr (2, fNi an wk (pn k) w)) :: (an 1, .inl (0, 60, .inl (pCl (nO1 Y hdd pcc pww C R wi th pt pk pn pm N0) o1 m))) :: (an 2, .inl (0, 60, .inl (pCl (nO2 Y hdd pcc pww C R wi th pt pk pn pm N0) o2 m))) :: (an 3, .inl (0, 60, .inl (pCl (nO3 Y hdd pcc pww C R wi th pt pk pn pm N0) o3 m))) :: (an 4, .inl (0, 60, .inl (pCl (nO4 Y hdd pcc pww C R wi th pt pk pn pm N0) o4 m))) :: (y, .inr (9, fYard ay (ysN Y wi))) :: (ay 1, .inl (0, 12, .inl nm)) :: (ay 2, .inl (0, 12, .inl (nF hdd))) :: (ay 3, .inl (0, 12, .inl (nF pcc))) :: (ay 4, .inl (0, 12, .inl (nF pww))) :: (ay 5, .inl (0, 64, .inl yf)) :: (ay 6, .inl (1, 64, .inl yb)) :: (pl, .inr (3, fPlan ap th)) :: (ap 1, .inl (0, 20, .inl (nF pt))) :: (ap 2, .inl (0, 20, .inl (nF pk))) :: (ap 3, .inl (0, 20, .inl (nF pn))) :: (ap 4, .inl (0, 240, .inl (nF pm))) :: (rr, .inr (4, fRow ar (nF ro.1) yr)) :: (ar 1, .inl (0, 12, .inl (nF (ro.2 1)))) :: (ar 2, .inl (0, 12, .inl (nF (ro.2 2)))) :: (ar 3, .inl (0, 12, .inl (nF (ro.2 3)))) :: (ar 4, .inl (0, 12, .inl (nF (ro.2 4)))) :: (ar 5, .inl (0, 12, .inl (nF (ro.2 5)))) :: (ar 6, .inl (0, 360, .inl (nF (ro.2 6)))) :: (ar 7, .inl (0, 12, .inl (nF (ro.2 7)))) :: (ar 8, .inl (0, 12, .inl (nF (ro.2 8)))) :: (ar 9, .inl (0, 12, .inl (nF (ro.2 9)))) :: (ar 10, .inl (0, 100, .inl (nF (ro.2 10)))) :: (u, .inr (5, fRun au (nF ru.1) yu)) :: (au 1, .inl (0, 12, .inl (nF (ru.2 1)))) :: (au 2, .inl (0, 12, .inl (nF (ru.2 2)))) :: (au 3, .inl (0, 12, .inl (nF (ru.2 3)))) :: (au 4, .inl (0, 12, .inl (nF (ru.2 4)))) :: (t, .inr (1, fFire ad sc)) :: (ad 1, .inl (0, 64, .inl (s.1))) :: (ad 2, .inl (0, 64, .inl (s.2.1))) :: (ad 3, .inl (1, 64, .inl (s.2.2))) :: (ad 4, .inl (0, 64, .inl he)) :: (ad 5, .inl (0, 60, .inl se)) :: [])
        refine zs_goto (tgt := 192) dX3_pass_173 (by decide) ?_
        refine zs_iinc (v := (nI (k + 1))) (lv' := [(6, .int (nI (k + 1))), (9, .int (nI (pn k))), (8, .int (nI (k * 12))), (0, .ref nn), (1, .ref y), (2, .ref pl), (3, .ref rr), (4, .ref u), (5, .ref t), (7, .int (nI m))]) dX3_pass_192 rfl (nI_add _ 1) (Nat.le_of_ble_eq_true rfl) rfl ?_
        refine zs_goto (tgt := 37) dX3_pass_195 (by decide) ?_
        refine zs_lv [3, 4, 5, 6, 7, 8, 0, 9] rfl ?_
        exact ih (k + 1) _ _ _ _ _ _ _ _ _ _ (by omega) hNI hfz hwi (by rw [← hG, nEnts, if_pos (show pt k ≤ m by omega), nEnt, if_neg h81_0, if_neg h81_1, if_neg h81_2, if_pos h81_3])
      by_cases h81_4 : (pk k) = 4
      · refine zs_as (y := nI 4) (congrArg nI h81_4) ?_
        refine zs_tableIn (off := 95) (tgt := 176) dX3_pass_81 (by decide) (by decide) rfl (by decide) ?_
        refine zs_aload dX3_pass_176 rfl rfl ?_
        refine zs_iload dX3_pass_178 rfl ?_
        refine zs_callV (M := mX2_giveUp) (As := [.int (nI (pn k))]) (st := []) (Kc := [(t, .inr (1, fFire ad sc)), (ad 1, .inl (0, 64, .inl (s.1))), (ad 2, .inl (0, 64, .inl (s.2.1))), (ad 3, .inl (1, 64, .inl (s.2.2))), (ad 4, .inl (0, 64, .inl he)), (ad 5, .inl (0, 60, .inl se))]) (Kr := ((nn, .inr (2, fNi an wk aim w)) :: (an 1, .inl (0, 60, .inl (pCl (nO1 Y hdd pcc pww C R wi th pt pk pn pm N0) o1 m))) :: (an 2, .inl (0, 60, .inl (pCl (nO2 Y hdd pcc pww C R wi th pt pk pn pm N0) o2 m))) :: (an 3, .inl (0, 60, .inl (pCl (nO3 Y hdd pcc pww C R wi th pt pk pn pm N0) o3 m))) :: (an 4, .inl (0, 60, .inl (pCl (nO4 Y hdd pcc pww C R wi th pt pk pn pm N0) o4 m))) :: (y, .inr (9, fYard ay (ysN Y wi))) :: (ay 1, .inl (0, 12, .inl nm)) :: (ay 2, .inl (0, 12, .inl (nF hdd))) :: (ay 3, .inl (0, 12, .inl (nF pcc))) :: (ay 4, .inl (0, 12, .inl (nF pww))) :: (ay 5, .inl (0, 64, .inl yf)) :: (ay 6, .inl (1, 64, .inl yb)) :: (pl, .inr (3, fPlan ap th)) :: (ap 1, .inl (0, 20, .inl (nF pt))) :: (ap 2, .inl (0, 20, .inl (nF pk))) :: (ap 3, .inl (0, 20, .inl (nF pn))) :: (ap 4, .inl (0, 240, .inl (nF pm))) :: (rr, .inr (4, fRow ar (nF ro.1) yr)) :: (ar 1, .inl (0, 12, .inl (nF (ro.2 1)))) :: (ar 2, .inl (0, 12, .inl (nF (ro.2 2)))) :: (ar 3, .inl (0, 12, .inl (nF (ro.2 3)))) :: (ar 4, .inl (0, 12, .inl (nF (ro.2 4)))) :: (ar 5, .inl (0, 12, .inl (nF (ro.2 5)))) :: (ar 6, .inl (0, 360, .inl (nF (ro.2 6)))) :: (ar 7, .inl (0, 12, .inl (nF (ro.2 7)))) :: (ar 8, .inl (0, 12, .inl (nF (ro.2 8)))) :: (ar 9, .inl (0, 12, .inl (nF (ro.2 9)))) :: (ar 10, .inl (0, 100, .inl (nF (ro.2 10)))) :: (u, .inr (5, fRun au (nF ru.1) yu)) :: (au 1, .inl (0, 12, .inl (nF (ru.2 1)))) :: (au 2, .inl (0, 12, .inl (nF (ru.2 2)))) :: (au 3, .inl (0, 12, .inl (nF (ru.2 3)))) :: (au 4, .inl (0, 12, .inl (nF (ru.2 4)))) :: [])) [33, 34, 35, 36, 37, 38] (0 :: 1 :: 2 :: 3 :: 4 :: 5 :: 6 :: 7 :: 8 :: 9 :: 10 :: 11 :: 12 :: 13 :: 14 :: 15 :: 16 :: 17 :: 18 :: 19 :: 20 :: 21 :: 22 :: 23 :: 24 :: 25 :: 26 :: 27 :: 28 :: 29 :: 30 :: 31 :: 32 :: []) 0 dX3_pass_180 zl_RX3_69 kX2_giveUp rfl rfl rfl rfl rfl (by decide) rfl rfl (show dd - 1 + 1 ≤ dd by omega) (Nat.zero_le _) (Nat.zero_le _) (Nat.le_of_ble_eq_true rfl) (s_giveUp l (dd - 1) t ad C R (pn k) sc s.1 s.2.1 s.2.2 he se hfz (p4 h81_4) hC) (fun r K1 hr => ?_)
        obtain ⟨rfl, rfl⟩ := hr
        refine zs_K (K' := ((nn, .inr (2, fNi an wk aim w)) :: (an 1, .inl (0, 60, .inl (pCl (nO1 Y hdd pcc pww C R wi th pt pk pn pm N0) o1 m))) :: (an 2, .inl (0, 60, .inl (pCl (nO2 Y hdd pcc pww C R wi th pt pk pn pm N0) o2 m))) :: (an 3, .inl (0, 60, .inl (pCl (nO3 Y hdd pcc pww C R wi th pt pk pn pm N0) o3 m))) :: (an 4, .inl (0, 60, .inl (pCl (nO4 Y hdd pcc pww C R wi th pt pk pn pm N0) o4 m))) :: (y, .inr (9, fYard ay (ysN Y wi))) :: (ay 1, .inl (0, 12, .inl nm)) :: (ay 2, .inl (0, 12, .inl (nF hdd))) :: (ay 3, .inl (0, 12, .inl (nF pcc))) :: (ay 4, .inl (0, 12, .inl (nF pww))) :: (ay 5, .inl (0, 64, .inl yf)) :: (ay 6, .inl (1, 64, .inl yb)) :: (pl, .inr (3, fPlan ap th)) :: (ap 1, .inl (0, 20, .inl (nF pt))) :: (ap 2, .inl (0, 20, .inl (nF pk))) :: (ap 3, .inl (0, 20, .inl (nF pn))) :: (ap 4, .inl (0, 240, .inl (nF pm))) :: (rr, .inr (4, fRow ar (nF ro.1) yr)) :: (ar 1, .inl (0, 12, .inl (nF (ro.2 1)))) :: (ar 2, .inl (0, 12, .inl (nF (ro.2 2)))) :: (ar 3, .inl (0, 12, .inl (nF (ro.2 3)))) :: (ar 4, .inl (0, 12, .inl (nF (ro.2 4)))) :: (ar 5, .inl (0, 12, .inl (nF (ro.2 5)))) :: (ar 6, .inl (0, 360, .inl (nF (ro.2 6)))) :: (ar 7, .inl (0, 12, .inl (nF (ro.2 7)))) :: (ar 8, .inl (0, 12, .inl (nF (ro.2 8)))) :: (ar 9, .inl (0, 12, .inl (nF (ro.2 9)))) :: (ar 10, .inl (0, 100, .inl (nF (ro.2 10)))) :: (u, .inr (5, fRun au (nF ru.1) yu)) :: (au 1, .inl (0, 12, .inl (nF (ru.2 1)))) :: (au 2, .inl (0, 12, .inl (nF (ru.2 2)))) :: (au 3, .inl (0, 12, .inl (nF (ru.2 3)))) :: (au 4, .inl (0, 12, .inl (nF (ru.2 4)))) :: (t, .inr (1, fFire ad (upd sc 9 (gN C (pn k) s.2.2 (sc 9) R)))) :: (ad 1, .inl (0, 64, .inl (gF C (pn k) s.1 R))) :: (ad 2, .inl (0, 64, .inl (s.2.1))) :: (ad 3, .inl (1, 64, .inl (gF C (pn k) s.2.2 R))) :: (ad 4, .inl (0, 64, .inl he)) :: (ad 5, .inl (0, 60, .inl se)) :: [])) (0 :: 1 :: 2 :: 3 :: 4 :: 5 :: 6 :: 7 :: 8 :: 9 :: 10 :: 11 :: 12 :: 13 :: 14 :: 15 :: 16 :: 17 :: 18 :: 19 :: 20 :: 21 :: 22 :: 23 :: 24 :: 25 :: 26 :: 27 :: 28 :: 29 :: 30 :: 31 :: 32 :: 33 :: 34 :: 35 :: 36 :: 37 :: 38 :: []) rfl (by decide) ?_
        refine zs_pop dX3_pass_183 rfl ?_
        refine zs_goto (tgt := 192) dX3_pass_184 (by decide) ?_
        refine zs_iinc (v := (nI (k + 1))) (lv' := [(6, .int (nI (k + 1))), (9, .int (nI (pn k))), (8, .int (nI (k * 12))), (0, .ref nn), (1, .ref y), (2, .ref pl), (3, .ref rr), (4, .ref u), (5, .ref t), (7, .int (nI m))]) dX3_pass_192 rfl (nI_add _ 1) (Nat.le_of_ble_eq_true rfl) rfl ?_
        refine zs_goto (tgt := 37) dX3_pass_195 (by decide) ?_
        refine zs_lv [3, 4, 5, 6, 7, 8, 0, 9] rfl ?_
        exact ih (k + 1) wk aim w ro ru (gF C (pn k) s.1 R, s.2.1, gF C (pn k) s.2.2 R) (upd sc 9 (gN C (pn k) s.2.2 (sc 9) R)) he yr yu (by omega) hNI hfz hwi (by rw [nEnts, if_pos (show pt k ≤ m by omega), nEnt, if_neg h81_0, if_neg h81_1, if_neg h81_2, if_neg h81_3, if_pos h81_4] at hG; exact hG)
      exact absurd pk4 (by omega)
theorem nEnts_k (Y hdd pcc : Nat → Nat) (C R : Nat) (pt pk pn pm : Nat → Nat) (m : Nat) : ∀ (q k : Nat) (N : zNi), k ≤ (nEnts Y hdd pcc C R pt pk pn pm m q k N).1 ∧ (nEnts Y hdd pcc C R pt pk pn pm m q k N).1 ≤ k + q
  | 0, k, N => ⟨Nat.le_refl _, Nat.le_refl _⟩
  | q + 1, k, N => by
    simp only [nEnts]
    split
    · have := nEnts_k Y hdd pcc C R pt pk pn pm m q (k + 1) (nEnt Y hdd pcc C R pk pn pm k N)
      omega
    · exact ⟨Nat.le_refl _, Nat.le_add_right _ _⟩
theorem nSt_k (Y hdd pcc pww : Nat → Nat) (C R : Nat) (wi : Int32) (th : Nat) (pt pk pn pm : Nat → Nat) (N0 : zNi) : ∀ m, (nSt Y hdd pcc pww C R wi th pt pk pn pm N0 m).1 ≤ th
  | 0 => Nat.zero_le _
  | m + 1 => by
    have h := nSt_k Y hdd pcc pww C R wi th pt pk pn pm N0 m
    have h2 := (nEnts_k Y hdd pcc C R pt pk pn pm m (th - (nSt Y hdd pcc pww C R wi th pt pk pn pm N0 m).1) (nSt Y hdd pcc pww C R wi th pt pk pn pm N0 m).1 (nSt Y hdd pcc pww C R wi th pt pk pn pm N0 m).2).2
    show (nEnts Y hdd pcc C R pt pk pn pm m (th - (nSt Y hdd pcc pww C R wi th pt pk pn pm N0 m).1) (nSt Y hdd pcc pww C R wi th pt pk pn pm N0 m).1 (nSt Y hdd pcc pww C R wi th pt pk pn pm N0 m).2).1 ≤ th
    omega
set_option maxRecDepth 100000 in
theorem lp_pass {l : Launch} {dd : Nat} {Po : zPo} {K0 : zK} {h0 : List va_E} {Xo : zK → Prop} {Gc : zG → Prop} (nn y rr u t pl : Nat) (an ay ar au ad ap : Nat → Nat) (Y : Nat → Nat) (wi : Int32) (nm : Nat → Int32) (hdd pcc pww : Nat → Nat) (yf yb : Nat → Int32) (C R th : Nat) (pt pk pn pm : Nat → Nat) (N0 : zNi) (o1 o2 o3 o4 se : Nat → Int32) (hd : 6 ≤ dd) (hY6 : 1 ≤ Y 7 ∧ Y 7 ≤ 20) (hY10 : Y 10 ≤ 99) (hY11 : Y 11 ≤ 99) (hpw : ∀ j, j < 12 → pww j ≤ 99) (hY5 : Y 5 ≤ 99) (hP : Y 6 ≤ 30) (hY8 : Y 8 ≤ 30) (hY12 : Y 12 ≤ 9) (hmen : Y 0 ≤ 12) (hhd9 : ∀ j, j < 12 → hdd j ≤ 9) (hh1 : ∀ j, j < Y 0 → 1 ≤ hdd j) (hp1 : ∀ j, j < Y 0 → 1 ≤ pcc j ∧ pcc j ≤ 9) (hC : C ≤ 64) (hOK : pOK (Y 0) C th pt pk pn pm) (hk : ∀ (wk aim w : Nat) (ro ru : zRs) (s : zFs) (sc he : Nat → Int32) (yr yu : Value), nI_ (Y 6) 60 y yr yu wk w ro ru → zFh C R sc → sc 3 = wi → zS (l, mX3_pass, dd, Po, K0, h0, Xo, Gc) 0 0 274 [(0, .ref nn), (1, .ref y), (2, .ref pl), (3, .ref rr), (4, .ref u), (5, .ref t)] [] ((nn, .inr (2, fNi an wk aim w)) :: (an 1, .inl (0, 60, .inl (pCl (nO1 Y hdd pcc pww C R wi th pt pk pn pm N0) o1 60))) :: (an 2, .inl (0, 60, .inl (pCl (nO2 Y hdd pcc pww C R wi th pt pk pn pm N0) o2 60))) :: (an 3, .inl (0, 60, .inl (pCl (nO3 Y hdd pcc pww C R wi th pt pk pn pm N0) o3 60))) :: (an 4, .inl (0, 60, .inl (pCl (nO4 Y hdd pcc pww C R wi th pt pk pn pm N0) o4 60))) :: (y, .inr (9, fYard ay (ysN Y wi))) :: (ay 1, .inl (0, 12, .inl nm)) :: (ay 2, .inl (0, 12, .inl (nF hdd))) :: (ay 3, .inl (0, 12, .inl (nF pcc))) :: (ay 4, .inl (0, 12, .inl (nF pww))) :: (ay 5, .inl (0, 64, .inl yf)) :: (ay 6, .inl (1, 64, .inl yb)) :: (pl, .inr (3, fPlan ap th)) :: (ap 1, .inl (0, 20, .inl (nF pt))) :: (ap 2, .inl (0, 20, .inl (nF pk))) :: (ap 3, .inl (0, 20, .inl (nF pn))) :: (ap 4, .inl (0, 240, .inl (nF pm))) :: (rr, .inr (4, fRow ar (nF ro.1) yr)) :: (ar 1, .inl (0, 12, .inl (nF (ro.2 1)))) :: (ar 2, .inl (0, 12, .inl (nF (ro.2 2)))) :: (ar 3, .inl (0, 12, .inl (nF (ro.2 3)))) :: (ar 4, .inl (0, 12, .inl (nF (ro.2 4)))) :: (ar 5, .inl (0, 12, .inl (nF (ro.2 5)))) :: (ar 6, .inl (0, 360, .inl (nF (ro.2 6)))) :: (ar 7, .inl (0, 12, .inl (nF (ro.2 7)))) :: (ar 8, .inl (0, 12, .inl (nF (ro.2 8)))) :: (ar 9, .inl (0, 12, .inl (nF (ro.2 9)))) :: (ar 10, .inl (0, 100, .inl (nF (ro.2 10)))) :: (u, .inr (5, fRun au (nF ru.1) yu)) :: (au 1, .inl (0, 12, .inl (nF (ru.2 1)))) :: (au 2, .inl (0, 12, .inl (nF (ru.2 2)))) :: (au 3, .inl (0, 12, .inl (nF (ru.2 3)))) :: (au 4, .inl (0, 12, .inl (nF (ru.2 4)))) :: (t, .inr (1, fFire ad sc)) :: (ad 1, .inl (0, 64, .inl (s.1))) :: (ad 2, .inl (0, 64, .inl (s.2.1))) :: (ad 3, .inl (1, 64, .inl (s.2.2))) :: (ad 4, .inl (0, 64, .inl he)) :: (ad 5, .inl (0, 60, .inl se)) :: [])) :
    ∀ (q m : Nat) (k wk aim w : Nat) (ro ru : zRs) (s : zFs) (sc he : Nat → Int32) (yr yu : Value), m + q = 60 → k ≤ th → nI_ (Y 6) m y yr yu wk w ro ru → zFh C R sc → sc 3 = wi → nSt Y hdd pcc pww C R wi th pt pk pn pm N0 m = (k, (wk, aim, w, ro, ru, (s, sc 10, sc 9))) → zS (l, mX3_pass, dd, Po, K0, h0, Xo, Gc) 0 0 30 [(0, .ref nn), (1, .ref y), (2, .ref pl), (3, .ref rr), (4, .ref u), (5, .ref t), (6, .int (nI k)), (7, .int (nI m))] [] ((nn, .inr (2, fNi an wk aim w)) :: (an 1, .inl (0, 60, .inl (pCl (nO1 Y hdd pcc pww C R wi th pt pk pn pm N0) o1 m))) :: (an 2, .inl (0, 60, .inl (pCl (nO2 Y hdd pcc pww C R wi th pt pk pn pm N0) o2 m))) :: (an 3, .inl (0, 60, .inl (pCl (nO3 Y hdd pcc pww C R wi th pt pk pn pm N0) o3 m))) :: (an 4, .inl (0, 60, .inl (pCl (nO4 Y hdd pcc pww C R wi th pt pk pn pm N0) o4 m))) :: (y, .inr (9, fYard ay (ysN Y wi))) :: (ay 1, .inl (0, 12, .inl nm)) :: (ay 2, .inl (0, 12, .inl (nF hdd))) :: (ay 3, .inl (0, 12, .inl (nF pcc))) :: (ay 4, .inl (0, 12, .inl (nF pww))) :: (ay 5, .inl (0, 64, .inl yf)) :: (ay 6, .inl (1, 64, .inl yb)) :: (pl, .inr (3, fPlan ap th)) :: (ap 1, .inl (0, 20, .inl (nF pt))) :: (ap 2, .inl (0, 20, .inl (nF pk))) :: (ap 3, .inl (0, 20, .inl (nF pn))) :: (ap 4, .inl (0, 240, .inl (nF pm))) :: (rr, .inr (4, fRow ar (nF ro.1) yr)) :: (ar 1, .inl (0, 12, .inl (nF (ro.2 1)))) :: (ar 2, .inl (0, 12, .inl (nF (ro.2 2)))) :: (ar 3, .inl (0, 12, .inl (nF (ro.2 3)))) :: (ar 4, .inl (0, 12, .inl (nF (ro.2 4)))) :: (ar 5, .inl (0, 12, .inl (nF (ro.2 5)))) :: (ar 6, .inl (0, 360, .inl (nF (ro.2 6)))) :: (ar 7, .inl (0, 12, .inl (nF (ro.2 7)))) :: (ar 8, .inl (0, 12, .inl (nF (ro.2 8)))) :: (ar 9, .inl (0, 12, .inl (nF (ro.2 9)))) :: (ar 10, .inl (0, 100, .inl (nF (ro.2 10)))) :: (u, .inr (5, fRun au (nF ru.1) yu)) :: (au 1, .inl (0, 12, .inl (nF (ru.2 1)))) :: (au 2, .inl (0, 12, .inl (nF (ru.2 2)))) :: (au 3, .inl (0, 12, .inl (nF (ru.2 3)))) :: (au 4, .inl (0, 12, .inl (nF (ru.2 4)))) :: (t, .inr (1, fFire ad sc)) :: (ad 1, .inl (0, 64, .inl (s.1))) :: (ad 2, .inl (0, 64, .inl (s.2.1))) :: (ad 3, .inl (1, 64, .inl (s.2.2))) :: (ad 4, .inl (0, 64, .inl he)) :: (ad 5, .inl (0, 60, .inl se)) :: []) := by
  have hth := hOK.1
  have hkk : ∀ (k2 m : Nat) {N : zNi}, (k2, N) = nE Y hdd pcc pww C R wi th pt pk pn pm N0 m → k2 ≤ th := fun k2 m N h => by
    have h1 := nSt_k Y hdd pcc pww C R wi th pt pk pn pm N0 (m + 1)
    rw [show k2 = (nE Y hdd pcc pww C R wi th pt pk pn pm N0 m).1 from congrArg Prod.fst h]
    exact h1
  intro q
  induction q with
  | zero =>
    intro m k wk aim w ro ru s sc he yr yu hi hkt hNI hfz hwi hN
    refine zs_iload dX3_pass_30 rfl ?_
    refine zs_bipush (v := nI 60) dX3_pass_32 (by decide) ?_
    refine zs_icmp_ge (tgt := 274) dX3_pass_34 (by decide) (fun c_1 => ?_) (fun c_1 => (c_1 (by rw [show m = 60 by omega]; exact Int32.le_refl _) : False).elim)
    refine zs_lv [0, 1, 2, 3, 4, 5] rfl ?_
    have hm60 : m = 60 := by omega
    subst hm60
    exact hk wk aim w ro ru s sc he yr yu hNI hfz hwi
  | succ q ih =>
    intro m k wk aim w ro ru s sc he yr yu hi hkt hNI hfz hwi hN
    have hm : m < 60 := by omega
    refine zs_iload dX3_pass_30 rfl ?_
    refine zs_bipush (v := nI 60) dX3_pass_32 (by decide) ?_
    refine zs_icmp_ge (tgt := 274) dX3_pass_34 (by decide) (fun c_1 => (nI_ge hm (by omega) c_1 : False).elim) (fun c_1 => ?_)
    refine zs_lv [0, 1, 2, 3, 4, 5, 6, 7] rfl ?_
    refine lp_ent nn y rr u t pl an ay ar au ad ap Y wi nm hdd pcc pww yf yb C R th pt pk pn pm N0 o1 o2 o3 o4 se hd hY6 hY10 hY11 hpw hY5 hP hY8 hY12 hmen hhd9 hh1 hp1 hC hOK m hm (nE Y hdd pcc pww C R wi th pt pk pn pm N0 m) (fun k2 wk2 aim2 w2 ro2 ru2 s2 sc2 he2 yr2 yu2 hNI2 hfz2 hwi2 hG2 => ?_) (th - k) k wk aim w ro ru s sc he yr yu (by omega) hNI hfz hwi (by rw [nE, hN])
    refine zs_aload_n dX3_pass_198 rfl rfl ?_
    refine zs_get 0 dX3_pass_199 zf_RX3_9 rfl (v := .ref (an 1)) rfl ?_
    refine zs_iload dX3_pass_202 rfl ?_
    refine zs_aload_n dX3_pass_204 rfl rfl ?_
    refine zs_aload_n dX3_pass_205 rfl rfl ?_
    refine zs_aload dX3_pass_206 rfl rfl ?_
    have hNI3 := hNI2
    refine zs_callV (M := mX3_workMinute) (As := [.ref rr, .ref u]) (st := [.int (nI m), .ref (an 1)]) (Kc := [(nn, .inr (2, fNi an wk2 aim2 w2)), (rr, .inr (4, fRow ar (nF ro2.1) yr2)), (ar 1, .inl (0, 12, .inl (nF (ro2.2 1)))), (ar 2, .inl (0, 12, .inl (nF (ro2.2 2)))), (ar 3, .inl (0, 12, .inl (nF (ro2.2 3)))), (ar 4, .inl (0, 12, .inl (nF (ro2.2 4)))), (ar 5, .inl (0, 12, .inl (nF (ro2.2 5)))), (ar 6, .inl (0, 360, .inl (nF (ro2.2 6)))), (ar 7, .inl (0, 12, .inl (nF (ro2.2 7)))), (ar 8, .inl (0, 12, .inl (nF (ro2.2 8)))), (ar 9, .inl (0, 12, .inl (nF (ro2.2 9)))), (ar 10, .inl (0, 100, .inl (nF (ro2.2 10)))), (y, .inr (9, fYard ay (ysN Y wi))), (ay 1, .inl (0, 12, .inl nm)), (ay 2, .inl (0, 12, .inl (nF hdd))), (ay 3, .inl (0, 12, .inl (nF pcc))), (ay 4, .inl (0, 12, .inl (nF pww))), (ay 5, .inl (0, 64, .inl yf)), (ay 6, .inl (1, 64, .inl yb)), (u, .inr (5, fRun au (nF ru2.1) yu2)), (au 1, .inl (0, 12, .inl (nF (ru2.2 1)))), (au 2, .inl (0, 12, .inl (nF (ru2.2 2)))), (au 3, .inl (0, 12, .inl (nF (ru2.2 3)))), (au 4, .inl (0, 12, .inl (nF (ru2.2 4))))]) (Kr := [(an 1, .inl (0, 60, .inl (pCl (nO1 Y hdd pcc pww C R wi th pt pk pn pm N0) o1 m))), (an 2, .inl (0, 60, .inl (pCl (nO2 Y hdd pcc pww C R wi th pt pk pn pm N0) o2 m))), (an 3, .inl (0, 60, .inl (pCl (nO3 Y hdd pcc pww C R wi th pt pk pn pm N0) o3 m))), (an 4, .inl (0, 60, .inl (pCl (nO4 Y hdd pcc pww C R wi th pt pk pn pm N0) o4 m))), (pl, .inr (3, fPlan ap th)), (ap 1, .inl (0, 20, .inl (nF pt))), (ap 2, .inl (0, 20, .inl (nF pk))), (ap 3, .inl (0, 20, .inl (nF pn))), (ap 4, .inl (0, 240, .inl (nF pm))), (t, .inr (1, fFire ad sc2)), (ad 1, .inl (0, 64, .inl (s2.1))), (ad 2, .inl (0, 64, .inl (s2.2.1))), (ad 3, .inl (1, 64, .inl (s2.2.2))), (ad 4, .inl (0, 64, .inl he2)), (ad 5, .inl (0, 60, .inl se))]) [0, 17, 18, 19, 20, 21, 22, 23, 24, 25, 26, 27, 5, 6, 7, 8, 9, 10, 11, 28, 29, 30, 31, 32] [1, 2, 3, 4, 12, 13, 14, 15, 16, 33, 34, 35, 36, 37, 38] 0 dX3_pass_208 zl_RX3_73 kX3_workMinute rfl rfl rfl rfl rfl (by decide) rfl rfl (show dd - 1 + 1 ≤ dd by omega) (Nat.zero_le _) (Nat.zero_le _) (Nat.le_of_ble_eq_true rfl) (s_workMin l (dd - 1) nn y rr u an ay ar au yr2 yu2 wk2 aim2 w2 ro2 ru2 Y wi nm hdd pcc pww yf yb (s2, sc2 10, sc2 9) m (by omega) hm hY6 hY10 hY11 hpw hY5 hP hY8 hY12 hNI2) (fun r K1 hr => ?_)
    obtain ⟨rfl, yr3, yu3, rfl, q1, q2⟩ := hr
    have hF := nWrk_F Y pww (wk2, aim2, w2, ro2, ru2, (s2, sc2 10, sc2 9))
    have hV0 : (nWrk Y pww (wk2, aim2, w2, ro2, ru2, (s2, sc2 10, sc2 9))) = (nWrk Y pww (wk2, aim2, w2, ro2, ru2, (s2, sc2 10, sc2 9))) := rfl
    generalize hV : (nWrk Y pww (wk2, aim2, w2, ro2, ru2, (s2, sc2 10, sc2 9))) = V at hF hV0 ⊢
    have hI3 := nWrk_I hNI2 hm hP hY6.2 hY8 q1 q2 hV
    refine zs_K (K' := ((nn, .inr (2, fNi an V.2.1 V.2.2.1 V.2.2.2.1)) :: (an 1, .inl (0, 60, .inl (pCl (nO1 Y hdd pcc pww C R wi th pt pk pn pm N0) o1 m))) :: (an 2, .inl (0, 60, .inl (pCl (nO2 Y hdd pcc pww C R wi th pt pk pn pm N0) o2 m))) :: (an 3, .inl (0, 60, .inl (pCl (nO3 Y hdd pcc pww C R wi th pt pk pn pm N0) o3 m))) :: (an 4, .inl (0, 60, .inl (pCl (nO4 Y hdd pcc pww C R wi th pt pk pn pm N0) o4 m))) :: (y, .inr (9, fYard ay (ysN Y wi))) :: (ay 1, .inl (0, 12, .inl nm)) :: (ay 2, .inl (0, 12, .inl (nF hdd))) :: (ay 3, .inl (0, 12, .inl (nF pcc))) :: (ay 4, .inl (0, 12, .inl (nF pww))) :: (ay 5, .inl (0, 64, .inl yf)) :: (ay 6, .inl (1, 64, .inl yb)) :: (pl, .inr (3, fPlan ap th)) :: (ap 1, .inl (0, 20, .inl (nF pt))) :: (ap 2, .inl (0, 20, .inl (nF pk))) :: (ap 3, .inl (0, 20, .inl (nF pn))) :: (ap 4, .inl (0, 240, .inl (nF pm))) :: (rr, .inr (4, fRow ar (nF V.2.2.2.2.1.1) yr3)) :: (ar 1, .inl (0, 12, .inl (nF (V.2.2.2.2.1.2 1)))) :: (ar 2, .inl (0, 12, .inl (nF (V.2.2.2.2.1.2 2)))) :: (ar 3, .inl (0, 12, .inl (nF (V.2.2.2.2.1.2 3)))) :: (ar 4, .inl (0, 12, .inl (nF (V.2.2.2.2.1.2 4)))) :: (ar 5, .inl (0, 12, .inl (nF (V.2.2.2.2.1.2 5)))) :: (ar 6, .inl (0, 360, .inl (nF (V.2.2.2.2.1.2 6)))) :: (ar 7, .inl (0, 12, .inl (nF (V.2.2.2.2.1.2 7)))) :: (ar 8, .inl (0, 12, .inl (nF (V.2.2.2.2.1.2 8)))) :: (ar 9, .inl (0, 12, .inl (nF (V.2.2.2.2.1.2 9)))) :: (ar 10, .inl (0, 100, .inl (nF (V.2.2.2.2.1.2 10)))) :: (u, .inr (5, fRun au (nF V.2.2.2.2.2.1.1) yu3)) :: (au 1, .inl (0, 12, .inl (nF (V.2.2.2.2.2.1.2 1)))) :: (au 2, .inl (0, 12, .inl (nF (V.2.2.2.2.2.1.2 2)))) :: (au 3, .inl (0, 12, .inl (nF (V.2.2.2.2.2.1.2 3)))) :: (au 4, .inl (0, 12, .inl (nF (V.2.2.2.2.2.1.2 4)))) :: (t, .inr (1, fFire ad sc2)) :: (ad 1, .inl (0, 64, .inl (s2.1))) :: (ad 2, .inl (0, 64, .inl (s2.2.1))) :: (ad 3, .inl (1, 64, .inl (s2.2.2))) :: (ad 4, .inl (0, 64, .inl he2)) :: (ad 5, .inl (0, 60, .inl se)) :: [])) (15 :: 0 :: 1 :: 2 :: 3 :: 27 :: 28 :: 29 :: 30 :: 31 :: 32 :: 33 :: 4 :: 5 :: 6 :: 7 :: 8 :: 16 :: 17 :: 18 :: 19 :: 20 :: 21 :: 22 :: 23 :: 24 :: 25 :: 26 :: 34 :: 35 :: 36 :: 37 :: 38 :: 9 :: 10 :: 11 :: 12 :: 13 :: 14 :: []) rfl (by decide) ?_
    have hE : nE Y hdd pcc pww C R wi th pt pk pn pm N0 m = (k2, (wk2, aim2, w2, ro2, ru2, (s2, sc2 10, sc2 9))) := hG2.symm
    have hS : nSt Y hdd pcc pww C R wi th pt pk pn pm N0 (m + 1) = (k2, nBrn C R wi V) := by
      rw [← hV, ← show (nE Y hdd pcc pww C R wi th pt pk pn pm N0 m).2 = (wk2, aim2, w2, ro2, ru2, (s2, sc2 10, sc2 9)) from congrArg Prod.snd hE, ← show (nE Y hdd pcc pww C R wi th pt pk pn pm N0 m).1 = k2 from congrArg Prod.fst hE]
      rfl
    have h1 : nO1 Y hdd pcc pww C R wi th pt pk pn pm N0 m = V.1 := by
      rw [nO1, hE]
      exact congrArg Prod.fst hV
    have hB : nBrn C R wi V = (V.2.1, V.2.2.1, V.2.2.2.1, V.2.2.2.2.1, V.2.2.2.2.2.1, (mMin C R wi s2 (mAim C R wi s2 (nI V.2.2.1)) V.1, sc2 10 + mLs C R s2 (mAim C R wi s2 (nI V.2.2.1)) V.1, mBn C R wi s2 (mAim C R wi s2 (nI V.2.2.1)) V.1)) := by
      rw [nBrn, hF]
      rfl
    have h2 : nO2 Y hdd pcc pww C R wi th pt pk pn pm N0 m = sc2 10 + mLs C R s2 (mAim C R wi s2 (nI V.2.2.1)) V.1 := by rw [nO2, hS, hB]
    have h3 : nO3 Y hdd pcc pww C R wi th pt pk pn pm N0 m = mBn C R wi s2 (mAim C R wi s2 (nI V.2.2.1)) V.1 := by rw [nO3, hS, hB]
    have h4 : nO4 Y hdd pcc pww C R wi th pt pk pn pm N0 m = nI V.2.2.2.1 := by rw [nO4, hS, hB]
    refine zs_iast 1 dX3_pass_211 rfl (vp_in_nI (by omega) (by omega)) ?_
    rw [nI_c (n := m) (by omega)]
    rw [pCl_u (new := nO1 Y hdd pcc pww C R wi th pt pk pn pm N0) (old := o1) (k := m) h1]
    show zS _ _ _ _ _ _ ((nn, .inr (2, fNi an V.2.1 V.2.2.1 V.2.2.2.1)) :: (an 1, .inl (0, 60, .inl (pCl (nO1 Y hdd pcc pww C R wi th pt pk pn pm N0) o1 (m + 1)))) :: (an 2, .inl (0, 60, .inl (pCl (nO2 Y hdd pcc pww C R wi th pt pk pn pm N0) o2 m))) :: (an 3, .inl (0, 60, .inl (pCl (nO3 Y hdd pcc pww C R wi th pt pk pn pm N0) o3 m))) :: (an 4, .inl (0, 60, .inl (pCl (nO4 Y hdd pcc pww C R wi th pt pk pn pm N0) o4 m))) :: (y, .inr (9, fYard ay (ysN Y wi))) :: (ay 1, .inl (0, 12, .inl nm)) :: (ay 2, .inl (0, 12, .inl (nF hdd))) :: (ay 3, .inl (0, 12, .inl (nF pcc))) :: (ay 4, .inl (0, 12, .inl (nF pww))) :: (ay 5, .inl (0, 64, .inl yf)) :: (ay 6, .inl (1, 64, .inl yb)) :: (pl, .inr (3, fPlan ap th)) :: (ap 1, .inl (0, 20, .inl (nF pt))) :: (ap 2, .inl (0, 20, .inl (nF pk))) :: (ap 3, .inl (0, 20, .inl (nF pn))) :: (ap 4, .inl (0, 240, .inl (nF pm))) :: (rr, .inr (4, fRow ar (nF V.2.2.2.2.1.1) yr3)) :: (ar 1, .inl (0, 12, .inl (nF (V.2.2.2.2.1.2 1)))) :: (ar 2, .inl (0, 12, .inl (nF (V.2.2.2.2.1.2 2)))) :: (ar 3, .inl (0, 12, .inl (nF (V.2.2.2.2.1.2 3)))) :: (ar 4, .inl (0, 12, .inl (nF (V.2.2.2.2.1.2 4)))) :: (ar 5, .inl (0, 12, .inl (nF (V.2.2.2.2.1.2 5)))) :: (ar 6, .inl (0, 360, .inl (nF (V.2.2.2.2.1.2 6)))) :: (ar 7, .inl (0, 12, .inl (nF (V.2.2.2.2.1.2 7)))) :: (ar 8, .inl (0, 12, .inl (nF (V.2.2.2.2.1.2 8)))) :: (ar 9, .inl (0, 12, .inl (nF (V.2.2.2.2.1.2 9)))) :: (ar 10, .inl (0, 100, .inl (nF (V.2.2.2.2.1.2 10)))) :: (u, .inr (5, fRun au (nF V.2.2.2.2.2.1.1) yu3)) :: (au 1, .inl (0, 12, .inl (nF (V.2.2.2.2.2.1.2 1)))) :: (au 2, .inl (0, 12, .inl (nF (V.2.2.2.2.2.1.2 2)))) :: (au 3, .inl (0, 12, .inl (nF (V.2.2.2.2.2.1.2 3)))) :: (au 4, .inl (0, 12, .inl (nF (V.2.2.2.2.2.1.2 4)))) :: (t, .inr (1, fFire ad sc2)) :: (ad 1, .inl (0, 64, .inl (s2.1))) :: (ad 2, .inl (0, 64, .inl (s2.2.1))) :: (ad 3, .inl (1, 64, .inl (s2.2.2))) :: (ad 4, .inl (0, 64, .inl he2)) :: (ad 5, .inl (0, 60, .inl se)) :: [])
    refine zs_aload dX3_pass_212 rfl rfl ?_
    refine zs_aload dX3_pass_214 rfl rfl ?_
    refine zs_aload_n dX3_pass_216 rfl rfl ?_
    refine zs_get 0 dX3_pass_217 zf_RX3_28 rfl (v := .int (nI V.2.2.1)) rfl ?_
    refine zs_callV (M := mX2_aimed) (As := [.int (nI V.2.2.1)]) (st := [.ref t]) (Kc := [(t, .inr (1, fFire ad sc2)), (ad 1, .inl (0, 64, .inl (s2.1))), (ad 2, .inl (0, 64, .inl (s2.2.1))), (ad 3, .inl (1, 64, .inl (s2.2.2))), (ad 4, .inl (0, 64, .inl he2)), (ad 5, .inl (0, 60, .inl se))]) (Kr := ((nn, .inr (2, fNi an V.2.1 V.2.2.1 V.2.2.2.1)) :: (an 1, .inl (0, 60, .inl (pCl (nO1 Y hdd pcc pww C R wi th pt pk pn pm N0) o1 (m + 1)))) :: (an 2, .inl (0, 60, .inl (pCl (nO2 Y hdd pcc pww C R wi th pt pk pn pm N0) o2 m))) :: (an 3, .inl (0, 60, .inl (pCl (nO3 Y hdd pcc pww C R wi th pt pk pn pm N0) o3 m))) :: (an 4, .inl (0, 60, .inl (pCl (nO4 Y hdd pcc pww C R wi th pt pk pn pm N0) o4 m))) :: (y, .inr (9, fYard ay (ysN Y wi))) :: (ay 1, .inl (0, 12, .inl nm)) :: (ay 2, .inl (0, 12, .inl (nF hdd))) :: (ay 3, .inl (0, 12, .inl (nF pcc))) :: (ay 4, .inl (0, 12, .inl (nF pww))) :: (ay 5, .inl (0, 64, .inl yf)) :: (ay 6, .inl (1, 64, .inl yb)) :: (pl, .inr (3, fPlan ap th)) :: (ap 1, .inl (0, 20, .inl (nF pt))) :: (ap 2, .inl (0, 20, .inl (nF pk))) :: (ap 3, .inl (0, 20, .inl (nF pn))) :: (ap 4, .inl (0, 240, .inl (nF pm))) :: (rr, .inr (4, fRow ar (nF V.2.2.2.2.1.1) yr3)) :: (ar 1, .inl (0, 12, .inl (nF (V.2.2.2.2.1.2 1)))) :: (ar 2, .inl (0, 12, .inl (nF (V.2.2.2.2.1.2 2)))) :: (ar 3, .inl (0, 12, .inl (nF (V.2.2.2.2.1.2 3)))) :: (ar 4, .inl (0, 12, .inl (nF (V.2.2.2.2.1.2 4)))) :: (ar 5, .inl (0, 12, .inl (nF (V.2.2.2.2.1.2 5)))) :: (ar 6, .inl (0, 360, .inl (nF (V.2.2.2.2.1.2 6)))) :: (ar 7, .inl (0, 12, .inl (nF (V.2.2.2.2.1.2 7)))) :: (ar 8, .inl (0, 12, .inl (nF (V.2.2.2.2.1.2 8)))) :: (ar 9, .inl (0, 12, .inl (nF (V.2.2.2.2.1.2 9)))) :: (ar 10, .inl (0, 100, .inl (nF (V.2.2.2.2.1.2 10)))) :: (u, .inr (5, fRun au (nF V.2.2.2.2.2.1.1) yu3)) :: (au 1, .inl (0, 12, .inl (nF (V.2.2.2.2.2.1.2 1)))) :: (au 2, .inl (0, 12, .inl (nF (V.2.2.2.2.2.1.2 2)))) :: (au 3, .inl (0, 12, .inl (nF (V.2.2.2.2.2.1.2 3)))) :: (au 4, .inl (0, 12, .inl (nF (V.2.2.2.2.2.1.2 4)))) :: [])) [33, 34, 35, 36, 37, 38] (0 :: 1 :: 2 :: 3 :: 4 :: 5 :: 6 :: 7 :: 8 :: 9 :: 10 :: 11 :: 12 :: 13 :: 14 :: 15 :: 16 :: 17 :: 18 :: 19 :: 20 :: 21 :: 22 :: 23 :: 24 :: 25 :: 26 :: 27 :: 28 :: 29 :: 30 :: 31 :: 32 :: []) 0 dX3_pass_220 zl_RX3_77 kX2_aimed rfl rfl rfl rfl rfl (by decide) rfl rfl (show dd - 1 + 1 ≤ dd by omega) (Nat.zero_le _) (Nat.zero_le _) (Nat.le_of_ble_eq_true rfl) (s_aim l (dd - 1) t ad C R sc2 s2 he2 se (nI V.2.2.1) wi (by omega) hfz2 hwi2) (fun r K1 hr => ?_)
    obtain ⟨rfl, he3, rfl⟩ := hr
    refine zs_K (K' := ((nn, .inr (2, fNi an V.2.1 V.2.2.1 V.2.2.2.1)) :: (an 1, .inl (0, 60, .inl (pCl (nO1 Y hdd pcc pww C R wi th pt pk pn pm N0) o1 (m + 1)))) :: (an 2, .inl (0, 60, .inl (pCl (nO2 Y hdd pcc pww C R wi th pt pk pn pm N0) o2 m))) :: (an 3, .inl (0, 60, .inl (pCl (nO3 Y hdd pcc pww C R wi th pt pk pn pm N0) o3 m))) :: (an 4, .inl (0, 60, .inl (pCl (nO4 Y hdd pcc pww C R wi th pt pk pn pm N0) o4 m))) :: (y, .inr (9, fYard ay (ysN Y wi))) :: (ay 1, .inl (0, 12, .inl nm)) :: (ay 2, .inl (0, 12, .inl (nF hdd))) :: (ay 3, .inl (0, 12, .inl (nF pcc))) :: (ay 4, .inl (0, 12, .inl (nF pww))) :: (ay 5, .inl (0, 64, .inl yf)) :: (ay 6, .inl (1, 64, .inl yb)) :: (pl, .inr (3, fPlan ap th)) :: (ap 1, .inl (0, 20, .inl (nF pt))) :: (ap 2, .inl (0, 20, .inl (nF pk))) :: (ap 3, .inl (0, 20, .inl (nF pn))) :: (ap 4, .inl (0, 240, .inl (nF pm))) :: (rr, .inr (4, fRow ar (nF V.2.2.2.2.1.1) yr3)) :: (ar 1, .inl (0, 12, .inl (nF (V.2.2.2.2.1.2 1)))) :: (ar 2, .inl (0, 12, .inl (nF (V.2.2.2.2.1.2 2)))) :: (ar 3, .inl (0, 12, .inl (nF (V.2.2.2.2.1.2 3)))) :: (ar 4, .inl (0, 12, .inl (nF (V.2.2.2.2.1.2 4)))) :: (ar 5, .inl (0, 12, .inl (nF (V.2.2.2.2.1.2 5)))) :: (ar 6, .inl (0, 360, .inl (nF (V.2.2.2.2.1.2 6)))) :: (ar 7, .inl (0, 12, .inl (nF (V.2.2.2.2.1.2 7)))) :: (ar 8, .inl (0, 12, .inl (nF (V.2.2.2.2.1.2 8)))) :: (ar 9, .inl (0, 12, .inl (nF (V.2.2.2.2.1.2 9)))) :: (ar 10, .inl (0, 100, .inl (nF (V.2.2.2.2.1.2 10)))) :: (u, .inr (5, fRun au (nF V.2.2.2.2.2.1.1) yu3)) :: (au 1, .inl (0, 12, .inl (nF (V.2.2.2.2.2.1.2 1)))) :: (au 2, .inl (0, 12, .inl (nF (V.2.2.2.2.2.1.2 2)))) :: (au 3, .inl (0, 12, .inl (nF (V.2.2.2.2.2.1.2 3)))) :: (au 4, .inl (0, 12, .inl (nF (V.2.2.2.2.2.1.2 4)))) :: (t, .inr (1, fFire ad sc2)) :: (ad 1, .inl (0, 64, .inl (s2.1))) :: (ad 2, .inl (0, 64, .inl (s2.2.1))) :: (ad 3, .inl (1, 64, .inl (s2.2.2))) :: (ad 4, .inl (0, 64, .inl he3)) :: (ad 5, .inl (0, 60, .inl se)) :: [])) (0 :: 1 :: 2 :: 3 :: 4 :: 5 :: 6 :: 7 :: 8 :: 9 :: 10 :: 11 :: 12 :: 13 :: 14 :: 15 :: 16 :: 17 :: 18 :: 19 :: 20 :: 21 :: 22 :: 23 :: 24 :: 25 :: 26 :: 27 :: 28 :: 29 :: 30 :: 31 :: 32 :: 33 :: 34 :: 35 :: 36 :: 37 :: 38 :: []) rfl (by decide) ?_
    refine zs_aload_n dX3_pass_223 rfl rfl ?_
    refine zs_get 0 dX3_pass_224 zf_RX3_9 rfl (v := .ref (an 1)) rfl ?_
    refine zs_iload dX3_pass_227 rfl ?_
    refine zs_iald 1 dX3_pass_229 rfl (vp_in_nI (by omega) (by omega)) ?_
    refine zs_as (y := V.1) (by rw [nI_c (n := m) (by omega)]; exact (if_pos (Nat.lt_succ_self m)).trans h1) ?_
    refine zs_callV (M := mX2_passMinute) (As := [.int (mAim C R wi s2 (nI V.2.2.1)), .int V.1]) (st := []) (Kc := [(t, .inr (1, fFire ad sc2)), (ad 1, .inl (0, 64, .inl (s2.1))), (ad 2, .inl (0, 64, .inl (s2.2.1))), (ad 3, .inl (1, 64, .inl (s2.2.2))), (ad 4, .inl (0, 64, .inl he3)), (ad 5, .inl (0, 60, .inl se))]) (Kr := ((nn, .inr (2, fNi an V.2.1 V.2.2.1 V.2.2.2.1)) :: (an 1, .inl (0, 60, .inl (pCl (nO1 Y hdd pcc pww C R wi th pt pk pn pm N0) o1 (m + 1)))) :: (an 2, .inl (0, 60, .inl (pCl (nO2 Y hdd pcc pww C R wi th pt pk pn pm N0) o2 m))) :: (an 3, .inl (0, 60, .inl (pCl (nO3 Y hdd pcc pww C R wi th pt pk pn pm N0) o3 m))) :: (an 4, .inl (0, 60, .inl (pCl (nO4 Y hdd pcc pww C R wi th pt pk pn pm N0) o4 m))) :: (y, .inr (9, fYard ay (ysN Y wi))) :: (ay 1, .inl (0, 12, .inl nm)) :: (ay 2, .inl (0, 12, .inl (nF hdd))) :: (ay 3, .inl (0, 12, .inl (nF pcc))) :: (ay 4, .inl (0, 12, .inl (nF pww))) :: (ay 5, .inl (0, 64, .inl yf)) :: (ay 6, .inl (1, 64, .inl yb)) :: (pl, .inr (3, fPlan ap th)) :: (ap 1, .inl (0, 20, .inl (nF pt))) :: (ap 2, .inl (0, 20, .inl (nF pk))) :: (ap 3, .inl (0, 20, .inl (nF pn))) :: (ap 4, .inl (0, 240, .inl (nF pm))) :: (rr, .inr (4, fRow ar (nF V.2.2.2.2.1.1) yr3)) :: (ar 1, .inl (0, 12, .inl (nF (V.2.2.2.2.1.2 1)))) :: (ar 2, .inl (0, 12, .inl (nF (V.2.2.2.2.1.2 2)))) :: (ar 3, .inl (0, 12, .inl (nF (V.2.2.2.2.1.2 3)))) :: (ar 4, .inl (0, 12, .inl (nF (V.2.2.2.2.1.2 4)))) :: (ar 5, .inl (0, 12, .inl (nF (V.2.2.2.2.1.2 5)))) :: (ar 6, .inl (0, 360, .inl (nF (V.2.2.2.2.1.2 6)))) :: (ar 7, .inl (0, 12, .inl (nF (V.2.2.2.2.1.2 7)))) :: (ar 8, .inl (0, 12, .inl (nF (V.2.2.2.2.1.2 8)))) :: (ar 9, .inl (0, 12, .inl (nF (V.2.2.2.2.1.2 9)))) :: (ar 10, .inl (0, 100, .inl (nF (V.2.2.2.2.1.2 10)))) :: (u, .inr (5, fRun au (nF V.2.2.2.2.2.1.1) yu3)) :: (au 1, .inl (0, 12, .inl (nF (V.2.2.2.2.2.1.2 1)))) :: (au 2, .inl (0, 12, .inl (nF (V.2.2.2.2.2.1.2 2)))) :: (au 3, .inl (0, 12, .inl (nF (V.2.2.2.2.2.1.2 3)))) :: (au 4, .inl (0, 12, .inl (nF (V.2.2.2.2.2.1.2 4)))) :: [])) [33, 34, 35, 36, 37, 38] (0 :: 1 :: 2 :: 3 :: 4 :: 5 :: 6 :: 7 :: 8 :: 9 :: 10 :: 11 :: 12 :: 13 :: 14 :: 15 :: 16 :: 17 :: 18 :: 19 :: 20 :: 21 :: 22 :: 23 :: 24 :: 25 :: 26 :: 27 :: 28 :: 29 :: 30 :: 31 :: 32 :: []) 0 dX3_pass_230 zl_RX3_80 kX2_passMinute rfl rfl rfl rfl rfl (by decide) rfl rfl (show dd - 1 + 1 ≤ dd by omega) (Nat.zero_le _) (Nat.zero_le _) (Nat.le_of_ble_eq_true rfl) (s_minute l (dd - 1) t ad C R sc2 s2 he3 se (mAim C R wi s2 (nI V.2.2.1)) V.1 wi (by omega) hfz2 hwi2) (fun r K1 hr => ?_)
    obtain ⟨rfl, he4, rfl⟩ := hr
    refine zs_K (K' := ((nn, .inr (2, fNi an V.2.1 V.2.2.1 V.2.2.2.1)) :: (an 1, .inl (0, 60, .inl (pCl (nO1 Y hdd pcc pww C R wi th pt pk pn pm N0) o1 (m + 1)))) :: (an 2, .inl (0, 60, .inl (pCl (nO2 Y hdd pcc pww C R wi th pt pk pn pm N0) o2 m))) :: (an 3, .inl (0, 60, .inl (pCl (nO3 Y hdd pcc pww C R wi th pt pk pn pm N0) o3 m))) :: (an 4, .inl (0, 60, .inl (pCl (nO4 Y hdd pcc pww C R wi th pt pk pn pm N0) o4 m))) :: (y, .inr (9, fYard ay (ysN Y wi))) :: (ay 1, .inl (0, 12, .inl nm)) :: (ay 2, .inl (0, 12, .inl (nF hdd))) :: (ay 3, .inl (0, 12, .inl (nF pcc))) :: (ay 4, .inl (0, 12, .inl (nF pww))) :: (ay 5, .inl (0, 64, .inl yf)) :: (ay 6, .inl (1, 64, .inl yb)) :: (pl, .inr (3, fPlan ap th)) :: (ap 1, .inl (0, 20, .inl (nF pt))) :: (ap 2, .inl (0, 20, .inl (nF pk))) :: (ap 3, .inl (0, 20, .inl (nF pn))) :: (ap 4, .inl (0, 240, .inl (nF pm))) :: (rr, .inr (4, fRow ar (nF V.2.2.2.2.1.1) yr3)) :: (ar 1, .inl (0, 12, .inl (nF (V.2.2.2.2.1.2 1)))) :: (ar 2, .inl (0, 12, .inl (nF (V.2.2.2.2.1.2 2)))) :: (ar 3, .inl (0, 12, .inl (nF (V.2.2.2.2.1.2 3)))) :: (ar 4, .inl (0, 12, .inl (nF (V.2.2.2.2.1.2 4)))) :: (ar 5, .inl (0, 12, .inl (nF (V.2.2.2.2.1.2 5)))) :: (ar 6, .inl (0, 360, .inl (nF (V.2.2.2.2.1.2 6)))) :: (ar 7, .inl (0, 12, .inl (nF (V.2.2.2.2.1.2 7)))) :: (ar 8, .inl (0, 12, .inl (nF (V.2.2.2.2.1.2 8)))) :: (ar 9, .inl (0, 12, .inl (nF (V.2.2.2.2.1.2 9)))) :: (ar 10, .inl (0, 100, .inl (nF (V.2.2.2.2.1.2 10)))) :: (u, .inr (5, fRun au (nF V.2.2.2.2.2.1.1) yu3)) :: (au 1, .inl (0, 12, .inl (nF (V.2.2.2.2.2.1.2 1)))) :: (au 2, .inl (0, 12, .inl (nF (V.2.2.2.2.2.1.2 2)))) :: (au 3, .inl (0, 12, .inl (nF (V.2.2.2.2.2.1.2 3)))) :: (au 4, .inl (0, 12, .inl (nF (V.2.2.2.2.2.1.2 4)))) :: (t, .inr (1, fFire ad (upd (upd sc2 9 (mBn C R wi s2 (mAim C R wi s2 (nI V.2.2.1)) V.1)) 10 (sc2 10 + mLs C R s2 (mAim C R wi s2 (nI V.2.2.1)) V.1)))) :: (ad 1, .inl (0, 64, .inl ((mMin C R wi s2 (mAim C R wi s2 (nI V.2.2.1)) V.1).1))) :: (ad 2, .inl (0, 64, .inl ((mMin C R wi s2 (mAim C R wi s2 (nI V.2.2.1)) V.1).2.1))) :: (ad 3, .inl (1, 64, .inl ((mMin C R wi s2 (mAim C R wi s2 (nI V.2.2.1)) V.1).2.2))) :: (ad 4, .inl (0, 64, .inl he4)) :: (ad 5, .inl (0, 60, .inl se)) :: [])) (0 :: 1 :: 2 :: 3 :: 4 :: 5 :: 6 :: 7 :: 8 :: 9 :: 10 :: 11 :: 12 :: 13 :: 14 :: 15 :: 16 :: 17 :: 18 :: 19 :: 20 :: 21 :: 22 :: 23 :: 24 :: 25 :: 26 :: 27 :: 28 :: 29 :: 30 :: 31 :: 32 :: 33 :: 34 :: 35 :: 36 :: 37 :: 38 :: []) rfl (by decide) ?_
    refine zs_aload_n dX3_pass_233 rfl rfl ?_
    refine zs_get 0 dX3_pass_234 zf_RX3_15 rfl (v := .ref (an 2)) rfl ?_
    refine zs_iload dX3_pass_237 rfl ?_
    refine zs_aload dX3_pass_239 rfl rfl ?_
    refine zs_get 33 dX3_pass_241 zf_RX3_84 rfl (v := .int ((upd (upd sc2 9 (mBn C R wi s2 (mAim C R wi s2 (nI V.2.2.1)) V.1)) 10 (sc2 10 + mLs C R s2 (mAim C R wi s2 (nI V.2.2.1)) V.1)) 10)) rfl ?_
    refine zs_as (y := sc2 10 + mLs C R s2 (mAim C R wi s2 (nI V.2.2.1)) V.1) rfl ?_
    refine zs_iast 2 dX3_pass_244 rfl (vp_in_nI (by omega) (by omega)) ?_
    rw [nI_c (n := m) (by omega)]
    rw [pCl_u (new := nO2 Y hdd pcc pww C R wi th pt pk pn pm N0) (old := o2) (k := m) h2]
    show zS _ _ _ _ _ _ ((nn, .inr (2, fNi an V.2.1 V.2.2.1 V.2.2.2.1)) :: (an 1, .inl (0, 60, .inl (pCl (nO1 Y hdd pcc pww C R wi th pt pk pn pm N0) o1 (m + 1)))) :: (an 2, .inl (0, 60, .inl (pCl (nO2 Y hdd pcc pww C R wi th pt pk pn pm N0) o2 (m + 1)))) :: (an 3, .inl (0, 60, .inl (pCl (nO3 Y hdd pcc pww C R wi th pt pk pn pm N0) o3 m))) :: (an 4, .inl (0, 60, .inl (pCl (nO4 Y hdd pcc pww C R wi th pt pk pn pm N0) o4 m))) :: (y, .inr (9, fYard ay (ysN Y wi))) :: (ay 1, .inl (0, 12, .inl nm)) :: (ay 2, .inl (0, 12, .inl (nF hdd))) :: (ay 3, .inl (0, 12, .inl (nF pcc))) :: (ay 4, .inl (0, 12, .inl (nF pww))) :: (ay 5, .inl (0, 64, .inl yf)) :: (ay 6, .inl (1, 64, .inl yb)) :: (pl, .inr (3, fPlan ap th)) :: (ap 1, .inl (0, 20, .inl (nF pt))) :: (ap 2, .inl (0, 20, .inl (nF pk))) :: (ap 3, .inl (0, 20, .inl (nF pn))) :: (ap 4, .inl (0, 240, .inl (nF pm))) :: (rr, .inr (4, fRow ar (nF V.2.2.2.2.1.1) yr3)) :: (ar 1, .inl (0, 12, .inl (nF (V.2.2.2.2.1.2 1)))) :: (ar 2, .inl (0, 12, .inl (nF (V.2.2.2.2.1.2 2)))) :: (ar 3, .inl (0, 12, .inl (nF (V.2.2.2.2.1.2 3)))) :: (ar 4, .inl (0, 12, .inl (nF (V.2.2.2.2.1.2 4)))) :: (ar 5, .inl (0, 12, .inl (nF (V.2.2.2.2.1.2 5)))) :: (ar 6, .inl (0, 360, .inl (nF (V.2.2.2.2.1.2 6)))) :: (ar 7, .inl (0, 12, .inl (nF (V.2.2.2.2.1.2 7)))) :: (ar 8, .inl (0, 12, .inl (nF (V.2.2.2.2.1.2 8)))) :: (ar 9, .inl (0, 12, .inl (nF (V.2.2.2.2.1.2 9)))) :: (ar 10, .inl (0, 100, .inl (nF (V.2.2.2.2.1.2 10)))) :: (u, .inr (5, fRun au (nF V.2.2.2.2.2.1.1) yu3)) :: (au 1, .inl (0, 12, .inl (nF (V.2.2.2.2.2.1.2 1)))) :: (au 2, .inl (0, 12, .inl (nF (V.2.2.2.2.2.1.2 2)))) :: (au 3, .inl (0, 12, .inl (nF (V.2.2.2.2.2.1.2 3)))) :: (au 4, .inl (0, 12, .inl (nF (V.2.2.2.2.2.1.2 4)))) :: (t, .inr (1, fFire ad (upd (upd sc2 9 (mBn C R wi s2 (mAim C R wi s2 (nI V.2.2.1)) V.1)) 10 (sc2 10 + mLs C R s2 (mAim C R wi s2 (nI V.2.2.1)) V.1)))) :: (ad 1, .inl (0, 64, .inl ((mMin C R wi s2 (mAim C R wi s2 (nI V.2.2.1)) V.1).1))) :: (ad 2, .inl (0, 64, .inl ((mMin C R wi s2 (mAim C R wi s2 (nI V.2.2.1)) V.1).2.1))) :: (ad 3, .inl (1, 64, .inl ((mMin C R wi s2 (mAim C R wi s2 (nI V.2.2.1)) V.1).2.2))) :: (ad 4, .inl (0, 64, .inl he4)) :: (ad 5, .inl (0, 60, .inl se)) :: [])
    refine zs_aload_n dX3_pass_245 rfl rfl ?_
    refine zs_get 0 dX3_pass_246 zf_RX3_18 rfl (v := .ref (an 3)) rfl ?_
    refine zs_iload dX3_pass_249 rfl ?_
    refine zs_aload dX3_pass_251 rfl rfl ?_
    refine zs_get 33 dX3_pass_253 zf_RX3_86 rfl (v := .int ((upd (upd sc2 9 (mBn C R wi s2 (mAim C R wi s2 (nI V.2.2.1)) V.1)) 10 (sc2 10 + mLs C R s2 (mAim C R wi s2 (nI V.2.2.1)) V.1)) 9)) rfl ?_
    refine zs_as (y := mBn C R wi s2 (mAim C R wi s2 (nI V.2.2.1)) V.1) rfl ?_
    refine zs_iast 3 dX3_pass_256 rfl (vp_in_nI (by omega) (by omega)) ?_
    rw [nI_c (n := m) (by omega)]
    rw [pCl_u (new := nO3 Y hdd pcc pww C R wi th pt pk pn pm N0) (old := o3) (k := m) h3]
    show zS _ _ _ _ _ _ ((nn, .inr (2, fNi an V.2.1 V.2.2.1 V.2.2.2.1)) :: (an 1, .inl (0, 60, .inl (pCl (nO1 Y hdd pcc pww C R wi th pt pk pn pm N0) o1 (m + 1)))) :: (an 2, .inl (0, 60, .inl (pCl (nO2 Y hdd pcc pww C R wi th pt pk pn pm N0) o2 (m + 1)))) :: (an 3, .inl (0, 60, .inl (pCl (nO3 Y hdd pcc pww C R wi th pt pk pn pm N0) o3 (m + 1)))) :: (an 4, .inl (0, 60, .inl (pCl (nO4 Y hdd pcc pww C R wi th pt pk pn pm N0) o4 m))) :: (y, .inr (9, fYard ay (ysN Y wi))) :: (ay 1, .inl (0, 12, .inl nm)) :: (ay 2, .inl (0, 12, .inl (nF hdd))) :: (ay 3, .inl (0, 12, .inl (nF pcc))) :: (ay 4, .inl (0, 12, .inl (nF pww))) :: (ay 5, .inl (0, 64, .inl yf)) :: (ay 6, .inl (1, 64, .inl yb)) :: (pl, .inr (3, fPlan ap th)) :: (ap 1, .inl (0, 20, .inl (nF pt))) :: (ap 2, .inl (0, 20, .inl (nF pk))) :: (ap 3, .inl (0, 20, .inl (nF pn))) :: (ap 4, .inl (0, 240, .inl (nF pm))) :: (rr, .inr (4, fRow ar (nF V.2.2.2.2.1.1) yr3)) :: (ar 1, .inl (0, 12, .inl (nF (V.2.2.2.2.1.2 1)))) :: (ar 2, .inl (0, 12, .inl (nF (V.2.2.2.2.1.2 2)))) :: (ar 3, .inl (0, 12, .inl (nF (V.2.2.2.2.1.2 3)))) :: (ar 4, .inl (0, 12, .inl (nF (V.2.2.2.2.1.2 4)))) :: (ar 5, .inl (0, 12, .inl (nF (V.2.2.2.2.1.2 5)))) :: (ar 6, .inl (0, 360, .inl (nF (V.2.2.2.2.1.2 6)))) :: (ar 7, .inl (0, 12, .inl (nF (V.2.2.2.2.1.2 7)))) :: (ar 8, .inl (0, 12, .inl (nF (V.2.2.2.2.1.2 8)))) :: (ar 9, .inl (0, 12, .inl (nF (V.2.2.2.2.1.2 9)))) :: (ar 10, .inl (0, 100, .inl (nF (V.2.2.2.2.1.2 10)))) :: (u, .inr (5, fRun au (nF V.2.2.2.2.2.1.1) yu3)) :: (au 1, .inl (0, 12, .inl (nF (V.2.2.2.2.2.1.2 1)))) :: (au 2, .inl (0, 12, .inl (nF (V.2.2.2.2.2.1.2 2)))) :: (au 3, .inl (0, 12, .inl (nF (V.2.2.2.2.2.1.2 3)))) :: (au 4, .inl (0, 12, .inl (nF (V.2.2.2.2.2.1.2 4)))) :: (t, .inr (1, fFire ad (upd (upd sc2 9 (mBn C R wi s2 (mAim C R wi s2 (nI V.2.2.1)) V.1)) 10 (sc2 10 + mLs C R s2 (mAim C R wi s2 (nI V.2.2.1)) V.1)))) :: (ad 1, .inl (0, 64, .inl ((mMin C R wi s2 (mAim C R wi s2 (nI V.2.2.1)) V.1).1))) :: (ad 2, .inl (0, 64, .inl ((mMin C R wi s2 (mAim C R wi s2 (nI V.2.2.1)) V.1).2.1))) :: (ad 3, .inl (1, 64, .inl ((mMin C R wi s2 (mAim C R wi s2 (nI V.2.2.1)) V.1).2.2))) :: (ad 4, .inl (0, 64, .inl he4)) :: (ad 5, .inl (0, 60, .inl se)) :: [])
    refine zs_aload_n dX3_pass_257 rfl rfl ?_
    refine zs_get 0 dX3_pass_258 zf_RX3_21 rfl (v := .ref (an 4)) rfl ?_
    refine zs_iload dX3_pass_261 rfl ?_
    refine zs_aload_n dX3_pass_263 rfl rfl ?_
    refine zs_get 0 dX3_pass_264 zf_RX3_35 rfl (v := .int (nI V.2.2.2.1)) rfl ?_
    refine zs_iast 4 dX3_pass_267 rfl (vp_in_nI (by omega) (by omega)) ?_
    rw [nI_c (n := m) (by omega)]
    rw [pCl_u (new := nO4 Y hdd pcc pww C R wi th pt pk pn pm N0) (old := o4) (k := m) h4]
    show zS _ _ _ _ _ _ ((nn, .inr (2, fNi an V.2.1 V.2.2.1 V.2.2.2.1)) :: (an 1, .inl (0, 60, .inl (pCl (nO1 Y hdd pcc pww C R wi th pt pk pn pm N0) o1 (m + 1)))) :: (an 2, .inl (0, 60, .inl (pCl (nO2 Y hdd pcc pww C R wi th pt pk pn pm N0) o2 (m + 1)))) :: (an 3, .inl (0, 60, .inl (pCl (nO3 Y hdd pcc pww C R wi th pt pk pn pm N0) o3 (m + 1)))) :: (an 4, .inl (0, 60, .inl (pCl (nO4 Y hdd pcc pww C R wi th pt pk pn pm N0) o4 (m + 1)))) :: (y, .inr (9, fYard ay (ysN Y wi))) :: (ay 1, .inl (0, 12, .inl nm)) :: (ay 2, .inl (0, 12, .inl (nF hdd))) :: (ay 3, .inl (0, 12, .inl (nF pcc))) :: (ay 4, .inl (0, 12, .inl (nF pww))) :: (ay 5, .inl (0, 64, .inl yf)) :: (ay 6, .inl (1, 64, .inl yb)) :: (pl, .inr (3, fPlan ap th)) :: (ap 1, .inl (0, 20, .inl (nF pt))) :: (ap 2, .inl (0, 20, .inl (nF pk))) :: (ap 3, .inl (0, 20, .inl (nF pn))) :: (ap 4, .inl (0, 240, .inl (nF pm))) :: (rr, .inr (4, fRow ar (nF V.2.2.2.2.1.1) yr3)) :: (ar 1, .inl (0, 12, .inl (nF (V.2.2.2.2.1.2 1)))) :: (ar 2, .inl (0, 12, .inl (nF (V.2.2.2.2.1.2 2)))) :: (ar 3, .inl (0, 12, .inl (nF (V.2.2.2.2.1.2 3)))) :: (ar 4, .inl (0, 12, .inl (nF (V.2.2.2.2.1.2 4)))) :: (ar 5, .inl (0, 12, .inl (nF (V.2.2.2.2.1.2 5)))) :: (ar 6, .inl (0, 360, .inl (nF (V.2.2.2.2.1.2 6)))) :: (ar 7, .inl (0, 12, .inl (nF (V.2.2.2.2.1.2 7)))) :: (ar 8, .inl (0, 12, .inl (nF (V.2.2.2.2.1.2 8)))) :: (ar 9, .inl (0, 12, .inl (nF (V.2.2.2.2.1.2 9)))) :: (ar 10, .inl (0, 100, .inl (nF (V.2.2.2.2.1.2 10)))) :: (u, .inr (5, fRun au (nF V.2.2.2.2.2.1.1) yu3)) :: (au 1, .inl (0, 12, .inl (nF (V.2.2.2.2.2.1.2 1)))) :: (au 2, .inl (0, 12, .inl (nF (V.2.2.2.2.2.1.2 2)))) :: (au 3, .inl (0, 12, .inl (nF (V.2.2.2.2.2.1.2 3)))) :: (au 4, .inl (0, 12, .inl (nF (V.2.2.2.2.2.1.2 4)))) :: (t, .inr (1, fFire ad (upd (upd sc2 9 (mBn C R wi s2 (mAim C R wi s2 (nI V.2.2.1)) V.1)) 10 (sc2 10 + mLs C R s2 (mAim C R wi s2 (nI V.2.2.1)) V.1)))) :: (ad 1, .inl (0, 64, .inl ((mMin C R wi s2 (mAim C R wi s2 (nI V.2.2.1)) V.1).1))) :: (ad 2, .inl (0, 64, .inl ((mMin C R wi s2 (mAim C R wi s2 (nI V.2.2.1)) V.1).2.1))) :: (ad 3, .inl (1, 64, .inl ((mMin C R wi s2 (mAim C R wi s2 (nI V.2.2.1)) V.1).2.2))) :: (ad 4, .inl (0, 64, .inl he4)) :: (ad 5, .inl (0, 60, .inl se)) :: [])
    refine zs_iinc (v := (nI (m + 1))) (lv' := [(7, .int (nI (m + 1))), (0, .ref nn), (1, .ref y), (2, .ref pl), (3, .ref rr), (4, .ref u), (5, .ref t), (6, .int (nI k2))]) dX3_pass_268 rfl (nI_add _ 1) (Nat.le_of_ble_eq_true rfl) rfl ?_
    refine zs_goto (tgt := 30) dX3_pass_271 (by decide) ?_
    refine zs_lv [1, 2, 3, 4, 5, 6, 7, 0] rfl ?_
    exact ih (m + 1) k2 V.2.1 V.2.2.1 V.2.2.2.1 V.2.2.2.2.1 V.2.2.2.2.2.1 (mMin C R wi s2 (mAim C R wi s2 (nI V.2.2.1)) V.1) (upd (upd sc2 9 (mBn C R wi s2 (mAim C R wi s2 (nI V.2.2.1)) V.1)) 10 (sc2 10 + mLs C R s2 (mAim C R wi s2 (nI V.2.2.1)) V.1)) he4 yr3 yu3 (by omega) (hkk k2 m hG2) hI3 ⟨hfz2.1, hfz2.2.1, hfz2.2.2.1, hfz2.2.2.2.1, hfz2.2.2.2.2⟩ hwi2 (by rw [hS, hB]; rfl)
