/-! ===== the class itself: nights ===== -/
/-- the night that is known is the yard's and the plan's -/
def nKn (D : zYd) (P : zPl) (o1 o2 o3 o4 : Nat → Int32) : Prop := ∃ (ro ru : zRs) (fu we bu : Nat → Int32), cW ro ∧ rI ru ∧ ∀ m, m < 60 → o1 m = nO1 D.1 D.2.2.2.1 D.2.2.2.2.1 D.2.2.2.2.2.1 (D.1 14) (D.1 15) D.2.1 P.1 P.2.1 P.2.2.1 P.2.2.2.1 P.2.2.2.2 (0, 1, D.1 9, ro, ru, ((pCl (nF D.2.2.2.2.2.2.1) fu (D.1 14 * D.1 15), pCl (fun _ => 0) we (D.1 14 * D.1 15), pCl (nF D.2.2.2.2.2.2.2) bu (D.1 14 * D.1 15)), 0, pCnt (nF D.2.2.2.2.2.2.2) (D.1 14 * D.1 15))) m ∧ o2 m = nO2 D.1 D.2.2.2.1 D.2.2.2.2.1 D.2.2.2.2.2.1 (D.1 14) (D.1 15) D.2.1 P.1 P.2.1 P.2.2.1 P.2.2.2.1 P.2.2.2.2 (0, 1, D.1 9, ro, ru, ((pCl (nF D.2.2.2.2.2.2.1) fu (D.1 14 * D.1 15), pCl (fun _ => 0) we (D.1 14 * D.1 15), pCl (nF D.2.2.2.2.2.2.2) bu (D.1 14 * D.1 15)), 0, pCnt (nF D.2.2.2.2.2.2.2) (D.1 14 * D.1 15))) m ∧ o3 m = nO3 D.1 D.2.2.2.1 D.2.2.2.2.1 D.2.2.2.2.2.1 (D.1 14) (D.1 15) D.2.1 P.1 P.2.1 P.2.2.1 P.2.2.2.1 P.2.2.2.2 (0, 1, D.1 9, ro, ru, ((pCl (nF D.2.2.2.2.2.2.1) fu (D.1 14 * D.1 15), pCl (fun _ => 0) we (D.1 14 * D.1 15), pCl (nF D.2.2.2.2.2.2.2) bu (D.1 14 * D.1 15)), 0, pCnt (nF D.2.2.2.2.2.2.2) (D.1 14 * D.1 15))) m ∧ o4 m = nO4 D.1 D.2.2.2.1 D.2.2.2.2.1 D.2.2.2.2.2.1 (D.1 14) (D.1 15) D.2.1 P.1 P.2.1 P.2.2.1 P.2.2.2.1 P.2.2.2.2 (0, 1, D.1 9, ro, ru, ((pCl (nF D.2.2.2.2.2.2.1) fu (D.1 14 * D.1 15), pCl (fun _ => 0) we (D.1 14 * D.1 15), pCl (nF D.2.2.2.2.2.2.2) bu (D.1 14 * D.1 15)), 0, pCnt (nF D.2.2.2.2.2.2.2) (D.1 14 * D.1 15))) m
theorem dX12_knowNight_0 : decode cX12_knowNight 0 = .ok (.aload_n 0, 1) := by decide +kernel
theorem dX12_knowNight_1 : decode cX12_knowNight 1 = .ok (.getfield 143, 3) := by decide +kernel
theorem dX12_knowNight_4 : decode cX12_knowNight 4 = .ok (.ifCond .ne 41, 3) := by decide +kernel
theorem dX12_knowNight_7 : decode cX12_knowNight 7 = .ok (.aload_n 0, 1) := by decide +kernel
theorem dX12_knowNight_8 : decode cX12_knowNight 8 = .ok (.getfield 75, 3) := by decide +kernel
theorem dX12_knowNight_11 : decode cX12_knowNight 11 = .ok (.aload_n 0, 1) := by decide +kernel
theorem dX12_knowNight_12 : decode cX12_knowNight 12 = .ok (.getfield 23, 3) := by decide +kernel
theorem dX12_knowNight_15 : decode cX12_knowNight 15 = .ok (.getfield 96, 3) := by decide +kernel
theorem dX12_knowNight_18 : decode cX12_knowNight 18 = .ok (.aload_n 0, 1) := by decide +kernel
theorem dX12_knowNight_19 : decode cX12_knowNight 19 = .ok (.getfield 23, 3) := by decide +kernel
theorem dX12_knowNight_22 : decode cX12_knowNight 22 = .ok (.getfield 127, 3) := by decide +kernel
theorem dX12_knowNight_25 : decode cX12_knowNight 25 = .ok (.aload_n 0, 1) := by decide +kernel
theorem dX12_knowNight_26 : decode cX12_knowNight 26 = .ok (.getfield 45, 3) := by decide +kernel
theorem dX12_knowNight_29 : decode cX12_knowNight 29 = .ok (.aload_n 0, 1) := by decide +kernel
theorem dX12_knowNight_30 : decode cX12_knowNight 30 = .ok (.getfield 51, 3) := by decide +kernel
theorem dX12_knowNight_33 : decode cX12_knowNight 33 = .ok (.aload_n 0, 1) := by decide +kernel
theorem dX12_knowNight_34 : decode cX12_knowNight 34 = .ok (.getfield 62, 3) := by decide +kernel
theorem dX12_knowNight_37 : decode cX12_knowNight 37 = .ok (.invokevirtual 370, 3) := by decide +kernel
theorem dX12_knowNight_40 : decode cX12_knowNight 40 = .ok (.aload_n 0, 1) := by decide +kernel
theorem dX12_knowNight_41 : decode cX12_knowNight 41 = .ok (.iconst 1, 1) := by decide +kernel
theorem dX12_knowNight_42 : decode cX12_knowNight 42 = .ok (.putfield 143, 3) := by decide +kernel
theorem dX12_knowNight_45 : decode cX12_knowNight 45 = .ok (.return_, 1) := by decide +kernel
set_option maxRecDepth 100000 in
theorem s_knowNight (l : Launch) (dd : Nat) (z : Nat) (a : Nat → Nat) (sz fa nk oo be ho : Nat) (y p s : Nat) (ay ap an ar au ad : Nat → Nat) (D : zYd) (P : zPl) (yr yu : Value) (ro ru : zRs) (sc fu we bu he se : Nat → Int32) (o1 o2 o3 o4 : Nat → Int32) (wk aim wv : Nat) (hd : 7 ≤ dd) (hD : yI D) (hF : pFit D P) (hro : cW ro) (hru : rI ru) (hN : nk = 0 ∨ (nk = 1 ∧ nKn D P o1 o2 o3 o4)) : zSp l mX12_knowNight dd 0 0 [.ref z] ((z, .inr (10, fPR a sz fa nk oo be ho)) :: ((a 4), .inr (7, fSta y p s)) :: ((a 14), .inr (2, fNi an wk aim wv)) :: ((an 1), .inl (0, 60, .inl o1)) :: ((an 2), .inl (0, 60, .inl o2)) :: ((an 3), .inl (0, 60, .inl o3)) :: ((an 4), .inl (0, 60, .inl o4)) :: (y, .inr (9, fYard ay (ysN D.1 D.2.1))) :: (ay 1, .inl (0, 12, .inl (nF D.2.2.1))) :: (ay 2, .inl (0, 12, .inl (nF D.2.2.2.1))) :: (ay 3, .inl (0, 12, .inl (nF D.2.2.2.2.1))) :: (ay 4, .inl (0, 12, .inl (nF D.2.2.2.2.2.1))) :: (ay 5, .inl (0, 64, .inl (nF D.2.2.2.2.2.2.1))) :: (ay 6, .inl (1, 64, .inl (nF D.2.2.2.2.2.2.2))) :: (p, .inr (3, fPlan ap P.1)) :: (ap 1, .inl (0, 20, .inl (nF P.2.1))) :: (ap 2, .inl (0, 20, .inl (nF P.2.2.1))) :: (ap 3, .inl (0, 20, .inl (nF P.2.2.2.1))) :: (ap 4, .inl (0, 240, .inl (nF P.2.2.2.2))) :: ((a 9), .inr (4, fRow ar (nF ro.1) yr)) :: (ar 1, .inl (0, 12, .inl (nF (ro.2 1)))) :: (ar 2, .inl (0, 12, .inl (nF (ro.2 2)))) :: (ar 3, .inl (0, 12, .inl (nF (ro.2 3)))) :: (ar 4, .inl (0, 12, .inl (nF (ro.2 4)))) :: (ar 5, .inl (0, 12, .inl (nF (ro.2 5)))) :: (ar 6, .inl (0, 360, .inl (nF (ro.2 6)))) :: (ar 7, .inl (0, 12, .inl (nF (ro.2 7)))) :: (ar 8, .inl (0, 12, .inl (nF (ro.2 8)))) :: (ar 9, .inl (0, 12, .inl (nF (ro.2 9)))) :: (ar 10, .inl (0, 100, .inl (nF (ro.2 10)))) :: ((a 10), .inr (5, fRun au (nF ru.1) yu)) :: (au 1, .inl (0, 12, .inl (nF (ru.2 1)))) :: (au 2, .inl (0, 12, .inl (nF (ru.2 2)))) :: (au 3, .inl (0, 12, .inl (nF (ru.2 3)))) :: (au 4, .inl (0, 12, .inl (nF (ru.2 4)))) :: ((a 12), .inr (1, fFire ad sc)) :: (ad 1, .inl (0, 64, .inl fu)) :: (ad 2, .inl (0, 64, .inl we)) :: (ad 3, .inl (1, 64, .inl bu)) :: (ad 4, .inl (0, 64, .inl he)) :: (ad 5, .inl (0, 60, .inl se)) :: []) (fun r K' => r = none ∧ ∃ (wk' aim' wv' : Nat) (o1' o2' o3' o4' : Nat → Int32) (ro' ru' : zRs) (yr' yu' : Value) (sc' fu' we' bu' he' se' : Nat → Int32), cW ro' ∧ rI ru' ∧ nKn D P o1' o2' o3' o4' ∧ K' = ((z, .inr (10, fPR a sz fa 1 oo be ho)) :: ((a 4), .inr (7, fSta y p s)) :: ((a 14), .inr (2, fNi an wk' aim' wv')) :: ((an 1), .inl (0, 60, .inl (o1'))) :: ((an 2), .inl (0, 60, .inl (o2'))) :: ((an 3), .inl (0, 60, .inl (o3'))) :: ((an 4), .inl (0, 60, .inl (o4'))) :: (y, .inr (9, fYard ay (ysN D.1 D.2.1))) :: (ay 1, .inl (0, 12, .inl (nF D.2.2.1))) :: (ay 2, .inl (0, 12, .inl (nF D.2.2.2.1))) :: (ay 3, .inl (0, 12, .inl (nF D.2.2.2.2.1))) :: (ay 4, .inl (0, 12, .inl (nF D.2.2.2.2.2.1))) :: (ay 5, .inl (0, 64, .inl (nF D.2.2.2.2.2.2.1))) :: (ay 6, .inl (1, 64, .inl (nF D.2.2.2.2.2.2.2))) :: (p, .inr (3, fPlan ap P.1)) :: (ap 1, .inl (0, 20, .inl (nF P.2.1))) :: (ap 2, .inl (0, 20, .inl (nF P.2.2.1))) :: (ap 3, .inl (0, 20, .inl (nF P.2.2.2.1))) :: (ap 4, .inl (0, 240, .inl (nF P.2.2.2.2))) :: ((a 9), .inr (4, fRow ar (nF ro'.1) yr')) :: (ar 1, .inl (0, 12, .inl (nF (ro'.2 1)))) :: (ar 2, .inl (0, 12, .inl (nF (ro'.2 2)))) :: (ar 3, .inl (0, 12, .inl (nF (ro'.2 3)))) :: (ar 4, .inl (0, 12, .inl (nF (ro'.2 4)))) :: (ar 5, .inl (0, 12, .inl (nF (ro'.2 5)))) :: (ar 6, .inl (0, 360, .inl (nF (ro'.2 6)))) :: (ar 7, .inl (0, 12, .inl (nF (ro'.2 7)))) :: (ar 8, .inl (0, 12, .inl (nF (ro'.2 8)))) :: (ar 9, .inl (0, 12, .inl (nF (ro'.2 9)))) :: (ar 10, .inl (0, 100, .inl (nF (ro'.2 10)))) :: ((a 10), .inr (5, fRun au (nF ru'.1) yu')) :: (au 1, .inl (0, 12, .inl (nF (ru'.2 1)))) :: (au 2, .inl (0, 12, .inl (nF (ru'.2 2)))) :: (au 3, .inl (0, 12, .inl (nF (ru'.2 3)))) :: (au 4, .inl (0, 12, .inl (nF (ru'.2 4)))) :: ((a 12), .inr (1, fFire ad sc')) :: (ad 1, .inl (0, 64, .inl (fu'))) :: (ad 2, .inl (0, 64, .inl (we'))) :: (ad 3, .inl (1, 64, .inl (bu'))) :: (ad 4, .inl (0, 64, .inl (he'))) :: (ad 5, .inl (0, 60, .inl (se'))) :: [])) := by
  refine zSp.of (by decide) (Nat.le_of_ble_eq_true rfl) (fun h0 => ?_)
  show zS _ 0 0 0 [(0, .ref z)] [] ((z, .inr (10, fPR a sz fa nk oo be ho)) :: ((a 4), .inr (7, fSta y p s)) :: ((a 14), .inr (2, fNi an wk aim wv)) :: ((an 1), .inl (0, 60, .inl o1)) :: ((an 2), .inl (0, 60, .inl o2)) :: ((an 3), .inl (0, 60, .inl o3)) :: ((an 4), .inl (0, 60, .inl o4)) :: (y, .inr (9, fYard ay (ysN D.1 D.2.1))) :: (ay 1, .inl (0, 12, .inl (nF D.2.2.1))) :: (ay 2, .inl (0, 12, .inl (nF D.2.2.2.1))) :: (ay 3, .inl (0, 12, .inl (nF D.2.2.2.2.1))) :: (ay 4, .inl (0, 12, .inl (nF D.2.2.2.2.2.1))) :: (ay 5, .inl (0, 64, .inl (nF D.2.2.2.2.2.2.1))) :: (ay 6, .inl (1, 64, .inl (nF D.2.2.2.2.2.2.2))) :: (p, .inr (3, fPlan ap P.1)) :: (ap 1, .inl (0, 20, .inl (nF P.2.1))) :: (ap 2, .inl (0, 20, .inl (nF P.2.2.1))) :: (ap 3, .inl (0, 20, .inl (nF P.2.2.2.1))) :: (ap 4, .inl (0, 240, .inl (nF P.2.2.2.2))) :: ((a 9), .inr (4, fRow ar (nF ro.1) yr)) :: (ar 1, .inl (0, 12, .inl (nF (ro.2 1)))) :: (ar 2, .inl (0, 12, .inl (nF (ro.2 2)))) :: (ar 3, .inl (0, 12, .inl (nF (ro.2 3)))) :: (ar 4, .inl (0, 12, .inl (nF (ro.2 4)))) :: (ar 5, .inl (0, 12, .inl (nF (ro.2 5)))) :: (ar 6, .inl (0, 360, .inl (nF (ro.2 6)))) :: (ar 7, .inl (0, 12, .inl (nF (ro.2 7)))) :: (ar 8, .inl (0, 12, .inl (nF (ro.2 8)))) :: (ar 9, .inl (0, 12, .inl (nF (ro.2 9)))) :: (ar 10, .inl (0, 100, .inl (nF (ro.2 10)))) :: ((a 10), .inr (5, fRun au (nF ru.1) yu)) :: (au 1, .inl (0, 12, .inl (nF (ru.2 1)))) :: (au 2, .inl (0, 12, .inl (nF (ru.2 2)))) :: (au 3, .inl (0, 12, .inl (nF (ru.2 3)))) :: (au 4, .inl (0, 12, .inl (nF (ru.2 4)))) :: ((a 12), .inr (1, fFire ad sc)) :: (ad 1, .inl (0, 64, .inl fu)) :: (ad 2, .inl (0, 64, .inl we)) :: (ad 3, .inl (1, 64, .inl bu)) :: (ad 4, .inl (0, 64, .inl he)) :: (ad 5, .inl (0, 60, .inl se)) :: [])
  obtain ⟨y1, y2, y3, y4, y5, y6, y7, y8, y9, y10, y11, y12, y13, y14, y15, y16, y17, y18, y19, y20⟩ := id hD
  have hn1 : nk ≤ 1 := by omega
  refine zs_aload_n dX12_knowNight_0 rfl rfl ?_
  refine zs_get 0 dX12_knowNight_1 zf_RX12_143 rfl (v := .int (nI nk)) rfl ?_
  refine zs_if_ne (tgt := 45) dX12_knowNight_4 (by decide) (fun c_1 => ?_) (fun c_1 => ?_)
  · have c_1 : ¬ (nk = 0) := by have hc := c_1; rw [show (0 : Int32) = nI 0 from rfl] at hc; rw [nI_eq' (by omega) (by omega)] at hc; exact hc
    obtain ⟨h1, hk⟩ : nk = 1 ∧ nKn D P o1 o2 o3 o4 := hN.resolve_left c_1
    subst h1
    exact zs_vret dX12_knowNight_45 rfl ⟨rfl, wk, aim, wv, o1, o2, o3, o4, ro, ru, yr, yu, sc, fu, we, bu, he, se, hro, hru, hk, rfl⟩
  · have c_1 : nk = 0 := by have hc := c_1; rw [show (0 : Int32) = nI 0 from rfl] at hc; rw [nI_eq' (by omega) (by omega)] at hc; exact hc
    refine zs_aload_n dX12_knowNight_7 rfl rfl ?_
    refine zs_get 0 dX12_knowNight_8 zf_RX12_75 rfl (v := .ref (a 14)) rfl ?_
    refine zs_aload_n dX12_knowNight_11 rfl rfl ?_
    refine zs_get 0 dX12_knowNight_12 zf_RX12_23 rfl (v := .ref (a 4)) rfl ?_
    refine zs_get 1 dX12_knowNight_15 zf_RX12_96 rfl (v := .ref y) rfl ?_
    refine zs_aload_n dX12_knowNight_18 rfl rfl ?_
    refine zs_get 0 dX12_knowNight_19 zf_RX12_23 rfl (v := .ref (a 4)) rfl ?_
    refine zs_get 1 dX12_knowNight_22 zf_RX12_127 rfl (v := .ref p) rfl ?_
    refine zs_aload_n dX12_knowNight_25 rfl rfl ?_
    refine zs_get 0 dX12_knowNight_26 zf_RX12_45 rfl (v := .ref (a 9)) rfl ?_
    refine zs_aload_n dX12_knowNight_29 rfl rfl ?_
    refine zs_get 0 dX12_knowNight_30 zf_RX12_51 rfl (v := .ref (a 10)) rfl ?_
    refine zs_aload_n dX12_knowNight_33 rfl rfl ?_
    refine zs_get 0 dX12_knowNight_34 zf_RX12_62 rfl (v := .ref (a 12)) rfl ?_
    refine zs_callV (M := mX3_pass) (As := [.ref y, .ref p, .ref (a 9), .ref (a 10), .ref (a 12)]) (st := []) (Kc := (((a 14), .inr (2, fNi an wk aim wv)) :: ((an 1), .inl (0, 60, .inl o1)) :: ((an 2), .inl (0, 60, .inl o2)) :: ((an 3), .inl (0, 60, .inl o3)) :: ((an 4), .inl (0, 60, .inl o4)) :: (y, .inr (9, fYard ay (ysN D.1 D.2.1))) :: (ay 1, .inl (0, 12, .inl (nF D.2.2.1))) :: (ay 2, .inl (0, 12, .inl (nF D.2.2.2.1))) :: (ay 3, .inl (0, 12, .inl (nF D.2.2.2.2.1))) :: (ay 4, .inl (0, 12, .inl (nF D.2.2.2.2.2.1))) :: (ay 5, .inl (0, 64, .inl (nF D.2.2.2.2.2.2.1))) :: (ay 6, .inl (1, 64, .inl (nF D.2.2.2.2.2.2.2))) :: (p, .inr (3, fPlan ap P.1)) :: (ap 1, .inl (0, 20, .inl (nF P.2.1))) :: (ap 2, .inl (0, 20, .inl (nF P.2.2.1))) :: (ap 3, .inl (0, 20, .inl (nF P.2.2.2.1))) :: (ap 4, .inl (0, 240, .inl (nF P.2.2.2.2))) :: ((a 9), .inr (4, fRow ar (nF ro.1) yr)) :: (ar 1, .inl (0, 12, .inl (nF (ro.2 1)))) :: (ar 2, .inl (0, 12, .inl (nF (ro.2 2)))) :: (ar 3, .inl (0, 12, .inl (nF (ro.2 3)))) :: (ar 4, .inl (0, 12, .inl (nF (ro.2 4)))) :: (ar 5, .inl (0, 12, .inl (nF (ro.2 5)))) :: (ar 6, .inl (0, 360, .inl (nF (ro.2 6)))) :: (ar 7, .inl (0, 12, .inl (nF (ro.2 7)))) :: (ar 8, .inl (0, 12, .inl (nF (ro.2 8)))) :: (ar 9, .inl (0, 12, .inl (nF (ro.2 9)))) :: (ar 10, .inl (0, 100, .inl (nF (ro.2 10)))) :: ((a 10), .inr (5, fRun au (nF ru.1) yu)) :: (au 1, .inl (0, 12, .inl (nF (ru.2 1)))) :: (au 2, .inl (0, 12, .inl (nF (ru.2 2)))) :: (au 3, .inl (0, 12, .inl (nF (ru.2 3)))) :: (au 4, .inl (0, 12, .inl (nF (ru.2 4)))) :: ((a 12), .inr (1, fFire ad sc)) :: (ad 1, .inl (0, 64, .inl fu)) :: (ad 2, .inl (0, 64, .inl we)) :: (ad 3, .inl (1, 64, .inl bu)) :: (ad 4, .inl (0, 64, .inl he)) :: (ad 5, .inl (0, 60, .inl se)) :: [])) (Kr := [(z, .inr (10, fPR a sz fa nk oo be ho)), ((a 4), .inr (7, fSta y p s))]) (2 :: 3 :: 4 :: 5 :: 6 :: 7 :: 8 :: 9 :: 10 :: 11 :: 12 :: 13 :: 14 :: 15 :: 16 :: 17 :: 18 :: 19 :: 20 :: 21 :: 22 :: 23 :: 24 :: 25 :: 26 :: 27 :: 28 :: 29 :: 30 :: 31 :: 32 :: 33 :: 34 :: 35 :: 36 :: 37 :: 38 :: 39 :: 40 :: []) [0, 1] 0 dX12_knowNight_37 zl_RX12_370 kX3_pass rfl rfl rfl rfl rfl (by decide) rfl rfl (show dd - 1 + 1 ≤ dd by omega) (Nat.zero_le _) (Nat.zero_le _) (Nat.le_of_ble_eq_true rfl) (s_pass l (dd - 1) (a 14) y (a 9) (a 10) (a 12) p an ay ar au ad ap D.1 D.2.1 (nF D.2.2.1) D.2.2.2.1 D.2.2.2.2.1 D.2.2.2.2.2.1 (nF D.2.2.2.2.2.2.1) (nF D.2.2.2.2.2.2.2) P.1 P.2.1 P.2.2.1 P.2.2.2.1 P.2.2.2.2 o1 o2 o3 o4 wk aim wv yr yu ro ru sc fu we bu he se (by omega) y12 (by omega) (by omega) (fun j _ => (y8 j).2.2) (by omega) (by omega) (by omega) (by omega) (by omega) (fun j _ => (y8 j).1) (fun j hj => (y9 j hj).1) (fun j hj => ⟨(y9 j hj).2.1, (y8 j).2.1⟩) (by omega) hF.1 (by omega) (yI_n hD) (by omega) (fun j _ => nF_01 (y6 j)) hro hru) (fun r K1 hr => ?_)
    obtain ⟨rfl, wk', aim', wv', ro', ru', X, yr', yu', hro', hru', rfl⟩ := hr
    refine zs_K (K' := ((z, .inr (10, fPR a sz fa nk oo be ho)) :: ((a 4), .inr (7, fSta y p s)) :: ((a 14), .inr (2, fNi an wk' aim' wv')) :: ((an 1), .inl (0, 60, .inl (pCl (nO1 D.1 D.2.2.2.1 D.2.2.2.2.1 D.2.2.2.2.2.1 (D.1 14) (D.1 15) D.2.1 P.1 P.2.1 P.2.2.1 P.2.2.2.1 P.2.2.2.2 (0, 1, D.1 9, ro, ru, ((pCl (nF D.2.2.2.2.2.2.1) fu (D.1 14 * D.1 15), pCl (fun _ => 0) we (D.1 14 * D.1 15), pCl (nF D.2.2.2.2.2.2.2) bu (D.1 14 * D.1 15)), 0, pCnt (nF D.2.2.2.2.2.2.2) (D.1 14 * D.1 15)))) o1 60))) :: ((an 2), .inl (0, 60, .inl (pCl (nO2 D.1 D.2.2.2.1 D.2.2.2.2.1 D.2.2.2.2.2.1 (D.1 14) (D.1 15) D.2.1 P.1 P.2.1 P.2.2.1 P.2.2.2.1 P.2.2.2.2 (0, 1, D.1 9, ro, ru, ((pCl (nF D.2.2.2.2.2.2.1) fu (D.1 14 * D.1 15), pCl (fun _ => 0) we (D.1 14 * D.1 15), pCl (nF D.2.2.2.2.2.2.2) bu (D.1 14 * D.1 15)), 0, pCnt (nF D.2.2.2.2.2.2.2) (D.1 14 * D.1 15)))) o2 60))) :: ((an 3), .inl (0, 60, .inl (pCl (nO3 D.1 D.2.2.2.1 D.2.2.2.2.1 D.2.2.2.2.2.1 (D.1 14) (D.1 15) D.2.1 P.1 P.2.1 P.2.2.1 P.2.2.2.1 P.2.2.2.2 (0, 1, D.1 9, ro, ru, ((pCl (nF D.2.2.2.2.2.2.1) fu (D.1 14 * D.1 15), pCl (fun _ => 0) we (D.1 14 * D.1 15), pCl (nF D.2.2.2.2.2.2.2) bu (D.1 14 * D.1 15)), 0, pCnt (nF D.2.2.2.2.2.2.2) (D.1 14 * D.1 15)))) o3 60))) :: ((an 4), .inl (0, 60, .inl (pCl (nO4 D.1 D.2.2.2.1 D.2.2.2.2.1 D.2.2.2.2.2.1 (D.1 14) (D.1 15) D.2.1 P.1 P.2.1 P.2.2.1 P.2.2.2.1 P.2.2.2.2 (0, 1, D.1 9, ro, ru, ((pCl (nF D.2.2.2.2.2.2.1) fu (D.1 14 * D.1 15), pCl (fun _ => 0) we (D.1 14 * D.1 15), pCl (nF D.2.2.2.2.2.2.2) bu (D.1 14 * D.1 15)), 0, pCnt (nF D.2.2.2.2.2.2.2) (D.1 14 * D.1 15)))) o4 60))) :: (y, .inr (9, fYard ay (ysN D.1 D.2.1))) :: (ay 1, .inl (0, 12, .inl (nF D.2.2.1))) :: (ay 2, .inl (0, 12, .inl (nF D.2.2.2.1))) :: (ay 3, .inl (0, 12, .inl (nF D.2.2.2.2.1))) :: (ay 4, .inl (0, 12, .inl (nF D.2.2.2.2.2.1))) :: (ay 5, .inl (0, 64, .inl (nF D.2.2.2.2.2.2.1))) :: (ay 6, .inl (1, 64, .inl (nF D.2.2.2.2.2.2.2))) :: (p, .inr (3, fPlan ap P.1)) :: (ap 1, .inl (0, 20, .inl (nF P.2.1))) :: (ap 2, .inl (0, 20, .inl (nF P.2.2.1))) :: (ap 3, .inl (0, 20, .inl (nF P.2.2.2.1))) :: (ap 4, .inl (0, 240, .inl (nF P.2.2.2.2))) :: ((a 9), .inr (4, fRow ar (nF ro'.1) yr')) :: (ar 1, .inl (0, 12, .inl (nF (ro'.2 1)))) :: (ar 2, .inl (0, 12, .inl (nF (ro'.2 2)))) :: (ar 3, .inl (0, 12, .inl (nF (ro'.2 3)))) :: (ar 4, .inl (0, 12, .inl (nF (ro'.2 4)))) :: (ar 5, .inl (0, 12, .inl (nF (ro'.2 5)))) :: (ar 6, .inl (0, 360, .inl (nF (ro'.2 6)))) :: (ar 7, .inl (0, 12, .inl (nF (ro'.2 7)))) :: (ar 8, .inl (0, 12, .inl (nF (ro'.2 8)))) :: (ar 9, .inl (0, 12, .inl (nF (ro'.2 9)))) :: (ar 10, .inl (0, 100, .inl (nF (ro'.2 10)))) :: ((a 10), .inr (5, fRun au (nF ru'.1) yu')) :: (au 1, .inl (0, 12, .inl (nF (ru'.2 1)))) :: (au 2, .inl (0, 12, .inl (nF (ru'.2 2)))) :: (au 3, .inl (0, 12, .inl (nF (ru'.2 3)))) :: (au 4, .inl (0, 12, .inl (nF (ru'.2 4)))) :: ((a 12), .inr (1, fFire ad X.1)) :: (ad 1, .inl (0, 64, .inl (X.2.1.1))) :: (ad 2, .inl (0, 64, .inl (X.2.1.2.1))) :: (ad 3, .inl (1, 64, .inl (X.2.1.2.2))) :: (ad 4, .inl (0, 64, .inl (X.2.2))) :: (ad 5, .inl (0, 60, .inl se)) :: [])) (0 :: 1 :: 2 :: 3 :: 4 :: 5 :: 6 :: 7 :: 8 :: 9 :: 10 :: 11 :: 12 :: 13 :: 14 :: 15 :: 16 :: 17 :: 18 :: 19 :: 20 :: 21 :: 22 :: 23 :: 24 :: 25 :: 26 :: 27 :: 28 :: 29 :: 30 :: 31 :: 32 :: 33 :: 34 :: 35 :: 36 :: 37 :: 38 :: 39 :: 40 :: []) rfl (by decide) ?_
    refine zs_aload_n dX12_knowNight_40 rfl rfl ?_
    refine zs_iconst (v := nI 1) dX12_knowNight_41 (by decide) ?_
    refine zs_put 0 dX12_knowNight_42 zf_RX12_143 rfl (Nat.le_of_ble_eq_true rfl) (zPv_z (by first | exact Or.inl rfl | exact Or.inr rfl | assumption)) ?_
    show zS _ _ _ _ _ _ ((z, .inr (10, fPR a sz fa 1 oo be ho)) :: ((a 4), .inr (7, fSta y p s)) :: ((a 14), .inr (2, fNi an wk' aim' wv')) :: ((an 1), .inl (0, 60, .inl (pCl (nO1 D.1 D.2.2.2.1 D.2.2.2.2.1 D.2.2.2.2.2.1 (D.1 14) (D.1 15) D.2.1 P.1 P.2.1 P.2.2.1 P.2.2.2.1 P.2.2.2.2 (0, 1, D.1 9, ro, ru, ((pCl (nF D.2.2.2.2.2.2.1) fu (D.1 14 * D.1 15), pCl (fun _ => 0) we (D.1 14 * D.1 15), pCl (nF D.2.2.2.2.2.2.2) bu (D.1 14 * D.1 15)), 0, pCnt (nF D.2.2.2.2.2.2.2) (D.1 14 * D.1 15)))) o1 60))) :: ((an 2), .inl (0, 60, .inl (pCl (nO2 D.1 D.2.2.2.1 D.2.2.2.2.1 D.2.2.2.2.2.1 (D.1 14) (D.1 15) D.2.1 P.1 P.2.1 P.2.2.1 P.2.2.2.1 P.2.2.2.2 (0, 1, D.1 9, ro, ru, ((pCl (nF D.2.2.2.2.2.2.1) fu (D.1 14 * D.1 15), pCl (fun _ => 0) we (D.1 14 * D.1 15), pCl (nF D.2.2.2.2.2.2.2) bu (D.1 14 * D.1 15)), 0, pCnt (nF D.2.2.2.2.2.2.2) (D.1 14 * D.1 15)))) o2 60))) :: ((an 3), .inl (0, 60, .inl (pCl (nO3 D.1 D.2.2.2.1 D.2.2.2.2.1 D.2.2.2.2.2.1 (D.1 14) (D.1 15) D.2.1 P.1 P.2.1 P.2.2.1 P.2.2.2.1 P.2.2.2.2 (0, 1, D.1 9, ro, ru, ((pCl (nF D.2.2.2.2.2.2.1) fu (D.1 14 * D.1 15), pCl (fun _ => 0) we (D.1 14 * D.1 15), pCl (nF D.2.2.2.2.2.2.2) bu (D.1 14 * D.1 15)), 0, pCnt (nF D.2.2.2.2.2.2.2) (D.1 14 * D.1 15)))) o3 60))) :: ((an 4), .inl (0, 60, .inl (pCl (nO4 D.1 D.2.2.2.1 D.2.2.2.2.1 D.2.2.2.2.2.1 (D.1 14) (D.1 15) D.2.1 P.1 P.2.1 P.2.2.1 P.2.2.2.1 P.2.2.2.2 (0, 1, D.1 9, ro, ru, ((pCl (nF D.2.2.2.2.2.2.1) fu (D.1 14 * D.1 15), pCl (fun _ => 0) we (D.1 14 * D.1 15), pCl (nF D.2.2.2.2.2.2.2) bu (D.1 14 * D.1 15)), 0, pCnt (nF D.2.2.2.2.2.2.2) (D.1 14 * D.1 15)))) o4 60))) :: (y, .inr (9, fYard ay (ysN D.1 D.2.1))) :: (ay 1, .inl (0, 12, .inl (nF D.2.2.1))) :: (ay 2, .inl (0, 12, .inl (nF D.2.2.2.1))) :: (ay 3, .inl (0, 12, .inl (nF D.2.2.2.2.1))) :: (ay 4, .inl (0, 12, .inl (nF D.2.2.2.2.2.1))) :: (ay 5, .inl (0, 64, .inl (nF D.2.2.2.2.2.2.1))) :: (ay 6, .inl (1, 64, .inl (nF D.2.2.2.2.2.2.2))) :: (p, .inr (3, fPlan ap P.1)) :: (ap 1, .inl (0, 20, .inl (nF P.2.1))) :: (ap 2, .inl (0, 20, .inl (nF P.2.2.1))) :: (ap 3, .inl (0, 20, .inl (nF P.2.2.2.1))) :: (ap 4, .inl (0, 240, .inl (nF P.2.2.2.2))) :: ((a 9), .inr (4, fRow ar (nF ro'.1) yr')) :: (ar 1, .inl (0, 12, .inl (nF (ro'.2 1)))) :: (ar 2, .inl (0, 12, .inl (nF (ro'.2 2)))) :: (ar 3, .inl (0, 12, .inl (nF (ro'.2 3)))) :: (ar 4, .inl (0, 12, .inl (nF (ro'.2 4)))) :: (ar 5, .inl (0, 12, .inl (nF (ro'.2 5)))) :: (ar 6, .inl (0, 360, .inl (nF (ro'.2 6)))) :: (ar 7, .inl (0, 12, .inl (nF (ro'.2 7)))) :: (ar 8, .inl (0, 12, .inl (nF (ro'.2 8)))) :: (ar 9, .inl (0, 12, .inl (nF (ro'.2 9)))) :: (ar 10, .inl (0, 100, .inl (nF (ro'.2 10)))) :: ((a 10), .inr (5, fRun au (nF ru'.1) yu')) :: (au 1, .inl (0, 12, .inl (nF (ru'.2 1)))) :: (au 2, .inl (0, 12, .inl (nF (ru'.2 2)))) :: (au 3, .inl (0, 12, .inl (nF (ru'.2 3)))) :: (au 4, .inl (0, 12, .inl (nF (ru'.2 4)))) :: ((a 12), .inr (1, fFire ad X.1)) :: (ad 1, .inl (0, 64, .inl (X.2.1.1))) :: (ad 2, .inl (0, 64, .inl (X.2.1.2.1))) :: (ad 3, .inl (1, 64, .inl (X.2.1.2.2))) :: (ad 4, .inl (0, 64, .inl (X.2.2))) :: (ad 5, .inl (0, 60, .inl se)) :: [])
    exact zs_vret dX12_knowNight_45 rfl ⟨rfl, wk', aim', wv', (pCl (nO1 D.1 D.2.2.2.1 D.2.2.2.2.1 D.2.2.2.2.2.1 (D.1 14) (D.1 15) D.2.1 P.1 P.2.1 P.2.2.1 P.2.2.2.1 P.2.2.2.2 (0, 1, D.1 9, ro, ru, ((pCl (nF D.2.2.2.2.2.2.1) fu (D.1 14 * D.1 15), pCl (fun _ => 0) we (D.1 14 * D.1 15), pCl (nF D.2.2.2.2.2.2.2) bu (D.1 14 * D.1 15)), 0, pCnt (nF D.2.2.2.2.2.2.2) (D.1 14 * D.1 15)))) o1 60), (pCl (nO2 D.1 D.2.2.2.1 D.2.2.2.2.1 D.2.2.2.2.2.1 (D.1 14) (D.1 15) D.2.1 P.1 P.2.1 P.2.2.1 P.2.2.2.1 P.2.2.2.2 (0, 1, D.1 9, ro, ru, ((pCl (nF D.2.2.2.2.2.2.1) fu (D.1 14 * D.1 15), pCl (fun _ => 0) we (D.1 14 * D.1 15), pCl (nF D.2.2.2.2.2.2.2) bu (D.1 14 * D.1 15)), 0, pCnt (nF D.2.2.2.2.2.2.2) (D.1 14 * D.1 15)))) o2 60), (pCl (nO3 D.1 D.2.2.2.1 D.2.2.2.2.1 D.2.2.2.2.2.1 (D.1 14) (D.1 15) D.2.1 P.1 P.2.1 P.2.2.1 P.2.2.2.1 P.2.2.2.2 (0, 1, D.1 9, ro, ru, ((pCl (nF D.2.2.2.2.2.2.1) fu (D.1 14 * D.1 15), pCl (fun _ => 0) we (D.1 14 * D.1 15), pCl (nF D.2.2.2.2.2.2.2) bu (D.1 14 * D.1 15)), 0, pCnt (nF D.2.2.2.2.2.2.2) (D.1 14 * D.1 15)))) o3 60), (pCl (nO4 D.1 D.2.2.2.1 D.2.2.2.2.1 D.2.2.2.2.2.1 (D.1 14) (D.1 15) D.2.1 P.1 P.2.1 P.2.2.1 P.2.2.2.1 P.2.2.2.2 (0, 1, D.1 9, ro, ru, ((pCl (nF D.2.2.2.2.2.2.1) fu (D.1 14 * D.1 15), pCl (fun _ => 0) we (D.1 14 * D.1 15), pCl (nF D.2.2.2.2.2.2.2) bu (D.1 14 * D.1 15)), 0, pCnt (nF D.2.2.2.2.2.2.2) (D.1 14 * D.1 15)))) o4 60), ro', ru', yr', yu', X.1, X.2.1.1, X.2.1.2.1, X.2.1.2.2, X.2.2, se, hro', hru', ⟨ro, ru, fu, we, bu, hro, hru, fun m hm => ⟨if_pos hm, if_pos hm, if_pos hm, if_pos hm⟩⟩, rfl⟩
theorem dX12_night_0 : decode cX12_night 0 = .ok (.iload_n 1, 1) := by decide +kernel
theorem dX12_night_1 : decode cX12_night 1 = .ok (.ifCond .lt 9, 3) := by decide +kernel
theorem dX12_night_4 : decode cX12_night 4 = .ok (.iload_n 1, 1) := by decide +kernel
theorem dX12_night_5 : decode cX12_night 5 = .ok (.bipush 60, 2) := by decide +kernel
theorem dX12_night_7 : decode cX12_night 7 = .ok (.if_icmp .lt 5, 3) := by decide +kernel
theorem dX12_night_10 : decode cX12_night 10 = .ok (.iconst (-1), 1) := by decide +kernel
theorem dX12_night_11 : decode cX12_night 11 = .ok (.ireturn, 1) := by decide +kernel
theorem dX12_night_12 : decode cX12_night 12 = .ok (.aload_n 0, 1) := by decide +kernel
theorem dX12_night_13 : decode cX12_night 13 = .ok (.invokevirtual 359, 3) := by decide +kernel
theorem dX12_night_16 : decode cX12_night 16 = .ok (.iload_n 2, 1) := by decide +kernel
theorem dX12_night_17 : decode cX12_night 17 = .ok (.tableswitch 71 0 3 #[31, 41, 51, 61], 31) := by decide +kernel
theorem dX12_night_48 : decode cX12_night 48 = .ok (.aload_n 0, 1) := by decide +kernel
theorem dX12_night_49 : decode cX12_night 49 = .ok (.getfield 75, 3) := by decide +kernel
theorem dX12_night_52 : decode cX12_night 52 = .ok (.getfield 362, 3) := by decide +kernel
theorem dX12_night_55 : decode cX12_night 55 = .ok (.iload_n 1, 1) := by decide +kernel
theorem dX12_night_56 : decode cX12_night 56 = .ok (.iaload, 1) := by decide +kernel
theorem dX12_night_57 : decode cX12_night 57 = .ok (.ireturn, 1) := by decide +kernel
theorem dX12_night_58 : decode cX12_night 58 = .ok (.aload_n 0, 1) := by decide +kernel
theorem dX12_night_59 : decode cX12_night 59 = .ok (.getfield 75, 3) := by decide +kernel
theorem dX12_night_62 : decode cX12_night 62 = .ok (.getfield 364, 3) := by decide +kernel
theorem dX12_night_65 : decode cX12_night 65 = .ok (.iload_n 1, 1) := by decide +kernel
theorem dX12_night_66 : decode cX12_night 66 = .ok (.iaload, 1) := by decide +kernel
theorem dX12_night_67 : decode cX12_night 67 = .ok (.ireturn, 1) := by decide +kernel
theorem dX12_night_68 : decode cX12_night 68 = .ok (.aload_n 0, 1) := by decide +kernel
theorem dX12_night_69 : decode cX12_night 69 = .ok (.getfield 75, 3) := by decide +kernel
theorem dX12_night_72 : decode cX12_night 72 = .ok (.getfield 366, 3) := by decide +kernel
theorem dX12_night_75 : decode cX12_night 75 = .ok (.iload_n 1, 1) := by decide +kernel
theorem dX12_night_76 : decode cX12_night 76 = .ok (.iaload, 1) := by decide +kernel
theorem dX12_night_77 : decode cX12_night 77 = .ok (.ireturn, 1) := by decide +kernel
theorem dX12_night_78 : decode cX12_night 78 = .ok (.aload_n 0, 1) := by decide +kernel
theorem dX12_night_79 : decode cX12_night 79 = .ok (.getfield 75, 3) := by decide +kernel
theorem dX12_night_82 : decode cX12_night 82 = .ok (.getfield 368, 3) := by decide +kernel
theorem dX12_night_85 : decode cX12_night 85 = .ok (.iload_n 1, 1) := by decide +kernel
theorem dX12_night_86 : decode cX12_night 86 = .ok (.iaload, 1) := by decide +kernel
theorem dX12_night_87 : decode cX12_night 87 = .ok (.ireturn, 1) := by decide +kernel
theorem dX12_night_88 : decode cX12_night 88 = .ok (.iconst (-1), 1) := by decide +kernel
theorem dX12_night_89 : decode cX12_night 89 = .ok (.ireturn, 1) := by decide +kernel
def nAt (o1 o2 o3 o4 : Nat → Int32) (m : Nat) (q : Int32) : Int32 := if q = nI 0 then o1 m else if q = nI 1 then o2 m else if q = nI 2 then o3 m else if q = nI 3 then o4 m else -1
set_option maxRecDepth 100000 in
theorem s_night (l : Launch) (dd : Nat) (z : Nat) (a : Nat → Nat) (sz fa nk oo be ho : Nat) (y p s : Nat) (ay ap an ar au ad : Nat → Nat) (D : zYd) (P : zPl) (yr yu : Value) (ro ru : zRs) (sc fu we bu he se : Nat → Int32) (o1 o2 o3 o4 : Nat → Int32) (wk aim wv : Nat) (x q : Int32) (hd : 8 ≤ dd) (hD : yI D) (hF : pFit D P) (hro : cW ro) (hru : rI ru) (hN : nk = 0 ∨ (nk = 1 ∧ nKn D P o1 o2 o3 o4)) : zSp l mX12_night dd 0 0 [.ref z, .int x, .int q] ((z, .inr (10, fPR a sz fa nk oo be ho)) :: ((a 4), .inr (7, fSta y p s)) :: ((a 14), .inr (2, fNi an wk aim wv)) :: ((an 1), .inl (0, 60, .inl o1)) :: ((an 2), .inl (0, 60, .inl o2)) :: ((an 3), .inl (0, 60, .inl o3)) :: ((an 4), .inl (0, 60, .inl o4)) :: (y, .inr (9, fYard ay (ysN D.1 D.2.1))) :: (ay 1, .inl (0, 12, .inl (nF D.2.2.1))) :: (ay 2, .inl (0, 12, .inl (nF D.2.2.2.1))) :: (ay 3, .inl (0, 12, .inl (nF D.2.2.2.2.1))) :: (ay 4, .inl (0, 12, .inl (nF D.2.2.2.2.2.1))) :: (ay 5, .inl (0, 64, .inl (nF D.2.2.2.2.2.2.1))) :: (ay 6, .inl (1, 64, .inl (nF D.2.2.2.2.2.2.2))) :: (p, .inr (3, fPlan ap P.1)) :: (ap 1, .inl (0, 20, .inl (nF P.2.1))) :: (ap 2, .inl (0, 20, .inl (nF P.2.2.1))) :: (ap 3, .inl (0, 20, .inl (nF P.2.2.2.1))) :: (ap 4, .inl (0, 240, .inl (nF P.2.2.2.2))) :: ((a 9), .inr (4, fRow ar (nF ro.1) yr)) :: (ar 1, .inl (0, 12, .inl (nF (ro.2 1)))) :: (ar 2, .inl (0, 12, .inl (nF (ro.2 2)))) :: (ar 3, .inl (0, 12, .inl (nF (ro.2 3)))) :: (ar 4, .inl (0, 12, .inl (nF (ro.2 4)))) :: (ar 5, .inl (0, 12, .inl (nF (ro.2 5)))) :: (ar 6, .inl (0, 360, .inl (nF (ro.2 6)))) :: (ar 7, .inl (0, 12, .inl (nF (ro.2 7)))) :: (ar 8, .inl (0, 12, .inl (nF (ro.2 8)))) :: (ar 9, .inl (0, 12, .inl (nF (ro.2 9)))) :: (ar 10, .inl (0, 100, .inl (nF (ro.2 10)))) :: ((a 10), .inr (5, fRun au (nF ru.1) yu)) :: (au 1, .inl (0, 12, .inl (nF (ru.2 1)))) :: (au 2, .inl (0, 12, .inl (nF (ru.2 2)))) :: (au 3, .inl (0, 12, .inl (nF (ru.2 3)))) :: (au 4, .inl (0, 12, .inl (nF (ru.2 4)))) :: ((a 12), .inr (1, fFire ad sc)) :: (ad 1, .inl (0, 64, .inl fu)) :: (ad 2, .inl (0, 64, .inl we)) :: (ad 3, .inl (1, 64, .inl bu)) :: (ad 4, .inl (0, 64, .inl he)) :: (ad 5, .inl (0, 60, .inl se)) :: []) (fun r K' => ((x < 0 ∨ ¬ x < nI 60) ∧ r = some (.int (-1)) ∧ K' = ((z, .inr (10, fPR a sz fa nk oo be ho)) :: ((a 4), .inr (7, fSta y p s)) :: ((a 14), .inr (2, fNi an wk aim wv)) :: ((an 1), .inl (0, 60, .inl o1)) :: ((an 2), .inl (0, 60, .inl o2)) :: ((an 3), .inl (0, 60, .inl o3)) :: ((an 4), .inl (0, 60, .inl o4)) :: (y, .inr (9, fYard ay (ysN D.1 D.2.1))) :: (ay 1, .inl (0, 12, .inl (nF D.2.2.1))) :: (ay 2, .inl (0, 12, .inl (nF D.2.2.2.1))) :: (ay 3, .inl (0, 12, .inl (nF D.2.2.2.2.1))) :: (ay 4, .inl (0, 12, .inl (nF D.2.2.2.2.2.1))) :: (ay 5, .inl (0, 64, .inl (nF D.2.2.2.2.2.2.1))) :: (ay 6, .inl (1, 64, .inl (nF D.2.2.2.2.2.2.2))) :: (p, .inr (3, fPlan ap P.1)) :: (ap 1, .inl (0, 20, .inl (nF P.2.1))) :: (ap 2, .inl (0, 20, .inl (nF P.2.2.1))) :: (ap 3, .inl (0, 20, .inl (nF P.2.2.2.1))) :: (ap 4, .inl (0, 240, .inl (nF P.2.2.2.2))) :: ((a 9), .inr (4, fRow ar (nF ro.1) yr)) :: (ar 1, .inl (0, 12, .inl (nF (ro.2 1)))) :: (ar 2, .inl (0, 12, .inl (nF (ro.2 2)))) :: (ar 3, .inl (0, 12, .inl (nF (ro.2 3)))) :: (ar 4, .inl (0, 12, .inl (nF (ro.2 4)))) :: (ar 5, .inl (0, 12, .inl (nF (ro.2 5)))) :: (ar 6, .inl (0, 360, .inl (nF (ro.2 6)))) :: (ar 7, .inl (0, 12, .inl (nF (ro.2 7)))) :: (ar 8, .inl (0, 12, .inl (nF (ro.2 8)))) :: (ar 9, .inl (0, 12, .inl (nF (ro.2 9)))) :: (ar 10, .inl (0, 100, .inl (nF (ro.2 10)))) :: ((a 10), .inr (5, fRun au (nF ru.1) yu)) :: (au 1, .inl (0, 12, .inl (nF (ru.2 1)))) :: (au 2, .inl (0, 12, .inl (nF (ru.2 2)))) :: (au 3, .inl (0, 12, .inl (nF (ru.2 3)))) :: (au 4, .inl (0, 12, .inl (nF (ru.2 4)))) :: ((a 12), .inr (1, fFire ad sc)) :: (ad 1, .inl (0, 64, .inl fu)) :: (ad 2, .inl (0, 64, .inl we)) :: (ad 3, .inl (1, 64, .inl bu)) :: (ad 4, .inl (0, 64, .inl he)) :: (ad 5, .inl (0, 60, .inl se)) :: [])) ∨ (∃ m, m < 60 ∧ x = nI m ∧ ∃ (wk' aim' wv' : Nat) (o1' o2' o3' o4' : Nat → Int32) (ro' ru' : zRs) (yr' yu' : Value) (sc' fu' we' bu' he' se' : Nat → Int32), cW ro' ∧ rI ru' ∧ nKn D P o1' o2' o3' o4' ∧ r = some (.int (nAt o1' o2' o3' o4' m q)) ∧ K' = ((z, .inr (10, fPR a sz fa 1 oo be ho)) :: ((a 4), .inr (7, fSta y p s)) :: ((a 14), .inr (2, fNi an wk' aim' wv')) :: ((an 1), .inl (0, 60, .inl (o1'))) :: ((an 2), .inl (0, 60, .inl (o2'))) :: ((an 3), .inl (0, 60, .inl (o3'))) :: ((an 4), .inl (0, 60, .inl (o4'))) :: (y, .inr (9, fYard ay (ysN D.1 D.2.1))) :: (ay 1, .inl (0, 12, .inl (nF D.2.2.1))) :: (ay 2, .inl (0, 12, .inl (nF D.2.2.2.1))) :: (ay 3, .inl (0, 12, .inl (nF D.2.2.2.2.1))) :: (ay 4, .inl (0, 12, .inl (nF D.2.2.2.2.2.1))) :: (ay 5, .inl (0, 64, .inl (nF D.2.2.2.2.2.2.1))) :: (ay 6, .inl (1, 64, .inl (nF D.2.2.2.2.2.2.2))) :: (p, .inr (3, fPlan ap P.1)) :: (ap 1, .inl (0, 20, .inl (nF P.2.1))) :: (ap 2, .inl (0, 20, .inl (nF P.2.2.1))) :: (ap 3, .inl (0, 20, .inl (nF P.2.2.2.1))) :: (ap 4, .inl (0, 240, .inl (nF P.2.2.2.2))) :: ((a 9), .inr (4, fRow ar (nF ro'.1) yr')) :: (ar 1, .inl (0, 12, .inl (nF (ro'.2 1)))) :: (ar 2, .inl (0, 12, .inl (nF (ro'.2 2)))) :: (ar 3, .inl (0, 12, .inl (nF (ro'.2 3)))) :: (ar 4, .inl (0, 12, .inl (nF (ro'.2 4)))) :: (ar 5, .inl (0, 12, .inl (nF (ro'.2 5)))) :: (ar 6, .inl (0, 360, .inl (nF (ro'.2 6)))) :: (ar 7, .inl (0, 12, .inl (nF (ro'.2 7)))) :: (ar 8, .inl (0, 12, .inl (nF (ro'.2 8)))) :: (ar 9, .inl (0, 12, .inl (nF (ro'.2 9)))) :: (ar 10, .inl (0, 100, .inl (nF (ro'.2 10)))) :: ((a 10), .inr (5, fRun au (nF ru'.1) yu')) :: (au 1, .inl (0, 12, .inl (nF (ru'.2 1)))) :: (au 2, .inl (0, 12, .inl (nF (ru'.2 2)))) :: (au 3, .inl (0, 12, .inl (nF (ru'.2 3)))) :: (au 4, .inl (0, 12, .inl (nF (ru'.2 4)))) :: ((a 12), .inr (1, fFire ad sc')) :: (ad 1, .inl (0, 64, .inl (fu'))) :: (ad 2, .inl (0, 64, .inl (we'))) :: (ad 3, .inl (1, 64, .inl (bu'))) :: (ad 4, .inl (0, 64, .inl (he'))) :: (ad 5, .inl (0, 60, .inl (se'))) :: []))) := by
  refine zSp.of (by decide) (Nat.le_of_ble_eq_true rfl) (fun h0 => ?_)
  show zS _ 0 0 0 [(0, .ref z), (1, .int x), (2, .int q)] [] ((z, .inr (10, fPR a sz fa nk oo be ho)) :: ((a 4), .inr (7, fSta y p s)) :: ((a 14), .inr (2, fNi an wk aim wv)) :: ((an 1), .inl (0, 60, .inl o1)) :: ((an 2), .inl (0, 60, .inl o2)) :: ((an 3), .inl (0, 60, .inl o3)) :: ((an 4), .inl (0, 60, .inl o4)) :: (y, .inr (9, fYard ay (ysN D.1 D.2.1))) :: (ay 1, .inl (0, 12, .inl (nF D.2.2.1))) :: (ay 2, .inl (0, 12, .inl (nF D.2.2.2.1))) :: (ay 3, .inl (0, 12, .inl (nF D.2.2.2.2.1))) :: (ay 4, .inl (0, 12, .inl (nF D.2.2.2.2.2.1))) :: (ay 5, .inl (0, 64, .inl (nF D.2.2.2.2.2.2.1))) :: (ay 6, .inl (1, 64, .inl (nF D.2.2.2.2.2.2.2))) :: (p, .inr (3, fPlan ap P.1)) :: (ap 1, .inl (0, 20, .inl (nF P.2.1))) :: (ap 2, .inl (0, 20, .inl (nF P.2.2.1))) :: (ap 3, .inl (0, 20, .inl (nF P.2.2.2.1))) :: (ap 4, .inl (0, 240, .inl (nF P.2.2.2.2))) :: ((a 9), .inr (4, fRow ar (nF ro.1) yr)) :: (ar 1, .inl (0, 12, .inl (nF (ro.2 1)))) :: (ar 2, .inl (0, 12, .inl (nF (ro.2 2)))) :: (ar 3, .inl (0, 12, .inl (nF (ro.2 3)))) :: (ar 4, .inl (0, 12, .inl (nF (ro.2 4)))) :: (ar 5, .inl (0, 12, .inl (nF (ro.2 5)))) :: (ar 6, .inl (0, 360, .inl (nF (ro.2 6)))) :: (ar 7, .inl (0, 12, .inl (nF (ro.2 7)))) :: (ar 8, .inl (0, 12, .inl (nF (ro.2 8)))) :: (ar 9, .inl (0, 12, .inl (nF (ro.2 9)))) :: (ar 10, .inl (0, 100, .inl (nF (ro.2 10)))) :: ((a 10), .inr (5, fRun au (nF ru.1) yu)) :: (au 1, .inl (0, 12, .inl (nF (ru.2 1)))) :: (au 2, .inl (0, 12, .inl (nF (ru.2 2)))) :: (au 3, .inl (0, 12, .inl (nF (ru.2 3)))) :: (au 4, .inl (0, 12, .inl (nF (ru.2 4)))) :: ((a 12), .inr (1, fFire ad sc)) :: (ad 1, .inl (0, 64, .inl fu)) :: (ad 2, .inl (0, 64, .inl we)) :: (ad 3, .inl (1, 64, .inl bu)) :: (ad 4, .inl (0, 64, .inl he)) :: (ad 5, .inl (0, 60, .inl se)) :: [])
  refine zs_iload_n dX12_night_0 rfl ?_
  refine zs_if_lt (tgt := 10) dX12_night_1 (by decide) (fun c_1 => ?_) (fun c_1 => ?_)
  · refine zs_iconst (v := (-1)) dX12_night_10 (by decide) ?_
    exact zs_iret dX12_night_11 rfl (Or.inl ⟨Or.inl c_1, rfl, rfl⟩)
  · refine zs_iload_n dX12_night_4 rfl ?_
    refine zs_bipush (v := nI 60) dX12_night_5 (by decide) ?_
    refine zs_icmp_lt (tgt := 12) dX12_night_7 (by decide) (fun c_2 => ?_) (fun c_2 => ?_)
    · obtain ⟨m, hm, rfl⟩ := zi_nn c_1
      have hm60 : m < 60 := by rw [nI_lt' (by omega) (by omega)] at c_2; exact c_2
      refine zs_aload_n dX12_night_12 rfl rfl ?_
      refine zs_callV (M := mX12_knowNight) (As := []) (st := []) (Kc := ((z, .inr (10, fPR a sz fa nk oo be ho)) :: ((a 4), .inr (7, fSta y p s)) :: ((a 14), .inr (2, fNi an wk aim wv)) :: ((an 1), .inl (0, 60, .inl o1)) :: ((an 2), .inl (0, 60, .inl o2)) :: ((an 3), .inl (0, 60, .inl o3)) :: ((an 4), .inl (0, 60, .inl o4)) :: (y, .inr (9, fYard ay (ysN D.1 D.2.1))) :: (ay 1, .inl (0, 12, .inl (nF D.2.2.1))) :: (ay 2, .inl (0, 12, .inl (nF D.2.2.2.1))) :: (ay 3, .inl (0, 12, .inl (nF D.2.2.2.2.1))) :: (ay 4, .inl (0, 12, .inl (nF D.2.2.2.2.2.1))) :: (ay 5, .inl (0, 64, .inl (nF D.2.2.2.2.2.2.1))) :: (ay 6, .inl (1, 64, .inl (nF D.2.2.2.2.2.2.2))) :: (p, .inr (3, fPlan ap P.1)) :: (ap 1, .inl (0, 20, .inl (nF P.2.1))) :: (ap 2, .inl (0, 20, .inl (nF P.2.2.1))) :: (ap 3, .inl (0, 20, .inl (nF P.2.2.2.1))) :: (ap 4, .inl (0, 240, .inl (nF P.2.2.2.2))) :: ((a 9), .inr (4, fRow ar (nF ro.1) yr)) :: (ar 1, .inl (0, 12, .inl (nF (ro.2 1)))) :: (ar 2, .inl (0, 12, .inl (nF (ro.2 2)))) :: (ar 3, .inl (0, 12, .inl (nF (ro.2 3)))) :: (ar 4, .inl (0, 12, .inl (nF (ro.2 4)))) :: (ar 5, .inl (0, 12, .inl (nF (ro.2 5)))) :: (ar 6, .inl (0, 360, .inl (nF (ro.2 6)))) :: (ar 7, .inl (0, 12, .inl (nF (ro.2 7)))) :: (ar 8, .inl (0, 12, .inl (nF (ro.2 8)))) :: (ar 9, .inl (0, 12, .inl (nF (ro.2 9)))) :: (ar 10, .inl (0, 100, .inl (nF (ro.2 10)))) :: ((a 10), .inr (5, fRun au (nF ru.1) yu)) :: (au 1, .inl (0, 12, .inl (nF (ru.2 1)))) :: (au 2, .inl (0, 12, .inl (nF (ru.2 2)))) :: (au 3, .inl (0, 12, .inl (nF (ru.2 3)))) :: (au 4, .inl (0, 12, .inl (nF (ru.2 4)))) :: ((a 12), .inr (1, fFire ad sc)) :: (ad 1, .inl (0, 64, .inl fu)) :: (ad 2, .inl (0, 64, .inl we)) :: (ad 3, .inl (1, 64, .inl bu)) :: (ad 4, .inl (0, 64, .inl he)) :: (ad 5, .inl (0, 60, .inl se)) :: [])) (Kr := []) (0 :: 1 :: 2 :: 3 :: 4 :: 5 :: 6 :: 7 :: 8 :: 9 :: 10 :: 11 :: 12 :: 13 :: 14 :: 15 :: 16 :: 17 :: 18 :: 19 :: 20 :: 21 :: 22 :: 23 :: 24 :: 25 :: 26 :: 27 :: 28 :: 29 :: 30 :: 31 :: 32 :: 33 :: 34 :: 35 :: 36 :: 37 :: 38 :: 39 :: 40 :: []) [] 0 dX12_night_13 zl_RX12_359 kX12_knowNight rfl rfl rfl rfl rfl (by decide) rfl rfl (show dd - 1 + 1 ≤ dd by omega) (Nat.zero_le _) (Nat.zero_le _) (Nat.le_of_ble_eq_true rfl) (s_knowNight l (dd - 1) z a sz fa nk oo be ho y p s ay ap an ar au ad D P yr yu ro ru sc fu we bu he se o1 o2 o3 o4 wk aim wv (by omega) hD hF hro hru hN) (fun r K1 hr => ?_)
      obtain ⟨rfl, wk', aim', wv', o1', o2', o3', o4', ro', ru', yr', yu', sc', fu', we', bu', he', se', hro', hru', hkn, rfl⟩ := hr
      refine zs_K (K' := ((z, .inr (10, fPR a sz fa 1 oo be ho)) :: ((a 4), .inr (7, fSta y p s)) :: ((a 14), .inr (2, fNi an wk' aim' wv')) :: ((an 1), .inl (0, 60, .inl (o1'))) :: ((an 2), .inl (0, 60, .inl (o2'))) :: ((an 3), .inl (0, 60, .inl (o3'))) :: ((an 4), .inl (0, 60, .inl (o4'))) :: (y, .inr (9, fYard ay (ysN D.1 D.2.1))) :: (ay 1, .inl (0, 12, .inl (nF D.2.2.1))) :: (ay 2, .inl (0, 12, .inl (nF D.2.2.2.1))) :: (ay 3, .inl (0, 12, .inl (nF D.2.2.2.2.1))) :: (ay 4, .inl (0, 12, .inl (nF D.2.2.2.2.2.1))) :: (ay 5, .inl (0, 64, .inl (nF D.2.2.2.2.2.2.1))) :: (ay 6, .inl (1, 64, .inl (nF D.2.2.2.2.2.2.2))) :: (p, .inr (3, fPlan ap P.1)) :: (ap 1, .inl (0, 20, .inl (nF P.2.1))) :: (ap 2, .inl (0, 20, .inl (nF P.2.2.1))) :: (ap 3, .inl (0, 20, .inl (nF P.2.2.2.1))) :: (ap 4, .inl (0, 240, .inl (nF P.2.2.2.2))) :: ((a 9), .inr (4, fRow ar (nF ro'.1) yr')) :: (ar 1, .inl (0, 12, .inl (nF (ro'.2 1)))) :: (ar 2, .inl (0, 12, .inl (nF (ro'.2 2)))) :: (ar 3, .inl (0, 12, .inl (nF (ro'.2 3)))) :: (ar 4, .inl (0, 12, .inl (nF (ro'.2 4)))) :: (ar 5, .inl (0, 12, .inl (nF (ro'.2 5)))) :: (ar 6, .inl (0, 360, .inl (nF (ro'.2 6)))) :: (ar 7, .inl (0, 12, .inl (nF (ro'.2 7)))) :: (ar 8, .inl (0, 12, .inl (nF (ro'.2 8)))) :: (ar 9, .inl (0, 12, .inl (nF (ro'.2 9)))) :: (ar 10, .inl (0, 100, .inl (nF (ro'.2 10)))) :: ((a 10), .inr (5, fRun au (nF ru'.1) yu')) :: (au 1, .inl (0, 12, .inl (nF (ru'.2 1)))) :: (au 2, .inl (0, 12, .inl (nF (ru'.2 2)))) :: (au 3, .inl (0, 12, .inl (nF (ru'.2 3)))) :: (au 4, .inl (0, 12, .inl (nF (ru'.2 4)))) :: ((a 12), .inr (1, fFire ad sc')) :: (ad 1, .inl (0, 64, .inl (fu'))) :: (ad 2, .inl (0, 64, .inl (we'))) :: (ad 3, .inl (1, 64, .inl (bu'))) :: (ad 4, .inl (0, 64, .inl (he'))) :: (ad 5, .inl (0, 60, .inl (se'))) :: [])) (0 :: 1 :: 2 :: 3 :: 4 :: 5 :: 6 :: 7 :: 8 :: 9 :: 10 :: 11 :: 12 :: 13 :: 14 :: 15 :: 16 :: 17 :: 18 :: 19 :: 20 :: 21 :: 22 :: 23 :: 24 :: 25 :: 26 :: 27 :: 28 :: 29 :: 30 :: 31 :: 32 :: 33 :: 34 :: 35 :: 36 :: 37 :: 38 :: 39 :: 40 :: []) rfl (by decide) ?_
      refine zs_iload_n dX12_night_16 rfl ?_
      by_cases h17_0 : q = nI 0
      · refine zs_as (y := nI 0) h17_0 ?_
        refine zs_tableIn (off := 31) (tgt := 48) dX12_night_17 (by decide) (by decide) rfl (by decide) ?_
        refine zs_aload_n dX12_night_48 rfl rfl ?_
        refine zs_get 0 dX12_night_49 zf_RX12_75 rfl (v := .ref (a 14)) rfl ?_
        refine zs_get 2 dX12_night_52 zf_RX12_362 rfl (v := .ref (an 1)) rfl ?_
        refine zs_iload_n dX12_night_55 rfl ?_
        refine zs_iald 3 dX12_night_56 rfl (vp_in_nI (by omega) (by omega)) ?_
        refine zs_as (y := o1' m) (by rw [nI_c (n := m) (by omega)]) ?_
        exact zs_iret dX12_night_57 rfl (Or.inr ⟨m, hm60, rfl, wk', aim', wv', o1', o2', o3', o4', ro', ru', yr', yu', sc', fu', we', bu', he', se', hro', hru', hkn, by rw [nAt, if_pos h17_0], rfl⟩)
      by_cases h17_1 : q = nI 1
      · refine zs_as (y := nI 1) h17_1 ?_
        refine zs_tableIn (off := 41) (tgt := 58) dX12_night_17 (by decide) (by decide) rfl (by decide) ?_
        refine zs_aload_n dX12_night_58 rfl rfl ?_
        refine zs_get 0 dX12_night_59 zf_RX12_75 rfl (v := .ref (a 14)) rfl ?_
        refine zs_get 2 dX12_night_62 zf_RX12_364 rfl (v := .ref (an 2)) rfl ?_
        refine zs_iload_n dX12_night_65 rfl ?_
        refine zs_iald 4 dX12_night_66 rfl (vp_in_nI (by omega) (by omega)) ?_
        refine zs_as (y := o2' m) (by rw [nI_c (n := m) (by omega)]) ?_
        exact zs_iret dX12_night_67 rfl (Or.inr ⟨m, hm60, rfl, wk', aim', wv', o1', o2', o3', o4', ro', ru', yr', yu', sc', fu', we', bu', he', se', hro', hru', hkn, by rw [nAt, if_neg h17_0, if_pos h17_1], rfl⟩)
      by_cases h17_2 : q = nI 2
      · refine zs_as (y := nI 2) h17_2 ?_
        refine zs_tableIn (off := 51) (tgt := 68) dX12_night_17 (by decide) (by decide) rfl (by decide) ?_
        refine zs_aload_n dX12_night_68 rfl rfl ?_
        refine zs_get 0 dX12_night_69 zf_RX12_75 rfl (v := .ref (a 14)) rfl ?_
        refine zs_get 2 dX12_night_72 zf_RX12_366 rfl (v := .ref (an 3)) rfl ?_
        refine zs_iload_n dX12_night_75 rfl ?_
        refine zs_iald 5 dX12_night_76 rfl (vp_in_nI (by omega) (by omega)) ?_
        refine zs_as (y := o3' m) (by rw [nI_c (n := m) (by omega)]) ?_
        exact zs_iret dX12_night_77 rfl (Or.inr ⟨m, hm60, rfl, wk', aim', wv', o1', o2', o3', o4', ro', ru', yr', yu', sc', fu', we', bu', he', se', hro', hru', hkn, by rw [nAt, if_neg h17_0, if_neg h17_1, if_pos h17_2], rfl⟩)
      by_cases h17_3 : q = nI 3
      · refine zs_as (y := nI 3) h17_3 ?_
        refine zs_tableIn (off := 61) (tgt := 78) dX12_night_17 (by decide) (by decide) rfl (by decide) ?_
        refine zs_aload_n dX12_night_78 rfl rfl ?_
        refine zs_get 0 dX12_night_79 zf_RX12_75 rfl (v := .ref (a 14)) rfl ?_
        refine zs_get 2 dX12_night_82 zf_RX12_368 rfl (v := .ref (an 4)) rfl ?_
        refine zs_iload_n dX12_night_85 rfl ?_
        refine zs_iald 6 dX12_night_86 rfl (vp_in_nI (by omega) (by omega)) ?_
        refine zs_as (y := o4' m) (by rw [nI_c (n := m) (by omega)]) ?_
        exact zs_iret dX12_night_87 rfl (Or.inr ⟨m, hm60, rfl, wk', aim', wv', o1', o2', o3', o4', ro', ru', yr', yu', sc', fu', we', bu', he', se', hro', hru', hkn, by rw [nAt, if_neg h17_0, if_neg h17_1, if_neg h17_2, if_pos h17_3], rfl⟩)
      refine zs_tableOut (tgt := 88) dX12_night_17 (by have q0 := zi_nk (k := 0) (by decide) h17_0; have q1 := zi_nk (k := 1) (by decide) h17_1; have q2 := zi_nk (k := 2) (by decide) h17_2; have q3 := zi_nk (k := 3) (by decide) h17_3; omega) (by decide) ?_
      refine zs_iconst (v := (-1)) dX12_night_88 (by decide) ?_
      exact zs_iret dX12_night_89 rfl (Or.inr ⟨m, hm60, rfl, wk', aim', wv', o1', o2', o3', o4', ro', ru', yr', yu', sc', fu', we', bu', he', se', hro', hru', hkn, by rw [nAt, if_neg h17_0, if_neg h17_1, if_neg h17_2, if_neg h17_3], rfl⟩)
    · refine zs_iconst (v := (-1)) dX12_night_10 (by decide) ?_
      exact zs_iret dX12_night_11 rfl (Or.inl ⟨Or.inr c_2, rfl, rfl⟩)
section
variable {so : Nat → Bool} {st : Nat → Nat}
/-- piles that agree below their height -/
def vAg (v w : Nat × (Nat → Nat)) : Prop := v.1 = w.1 ∧ ∀ j, j < v.1 → v.2 j = w.2 j
theorem vSt_ag {v w : Nat × (Nat → Nat)} (h : vAg v w) (i : Nat) : vAg (vSt so st i v) (vSt so st i w) := by
  obtain ⟨h1, h2⟩ := h
  unfold vSt
  rw [← h1]
  have up : ∀ (n k x x' : Nat), n ≤ v.1 → x = x' → vAg (n, un v.2 k x) (n, un w.2 k x') := fun n k x x' hn hx => ⟨rfl, fun j hj => by
    have hj : j < n := hj
    show un v.2 k x j = un w.2 k x' j
    unfold un
    split
    · exact hx
    · exact h2 j (by omega)⟩
  split
  · split
    · exact up _ _ _ _ (Nat.le_refl _) (by rw [h2 (v.1 - 1) (by omega)])
    · exact ⟨h1, h2⟩
  · split
    · split
      · exact up _ _ _ _ (Nat.sub_le _ _) (by rw [h2 (v.1 - 1) (by omega), h2 (v.1 - 1 - 1) (by omega)])
      · exact ⟨h1, h2⟩
    · split
      · split
        · exact up _ _ _ _ (Nat.sub_le _ _) (by rw [h2 (v.1 - 1) (by omega), h2 (v.1 - 1 - 1) (by omega)])
        · exact ⟨h1, h2⟩
      · split
        · refine ⟨rfl, fun j hj => ?_⟩
          have hj : j < v.1 + 1 := hj
          show un v.2 v.1 (bN (so i)) j = un w.2 v.1 (bN (so i)) j
          unfold un
          split
          · rfl
          · exact h2 j (by omega)
        · exact ⟨h1, h2⟩
theorem vRn_ag {v w : Nat × (Nat → Nat)} (h : vAg v w) : ∀ n, vAg (vRn so st v n) (vRn so st w n)
  | 0 => h
  | n + 1 => vSt_ag (vRn_ag h n) n
theorem vHo_ag {v w : Nat × (Nat → Nat)} (h : vAg v w) : vHo v = vHo w := by
  unfold vHo
  by_cases h0 : 0 < v.1
  · rw [← h.1, h.2 0 h0]
  · rw [decide_eq_false (fun z => h0 z.1), decide_eq_false (fun z => h0 (by rw [h.1]; exact z.1))]
end
/-- whether the sentence holds of a minute -/
def hHo (o1 o2 o3 o4 : Nat → Int32) (S : zSe) (m : Nat) : Bool := vHo (vRn (sSo o1 o2 o3 o4 m S) S.2.2.1 (0, fun _ => 0) S.2.1)
theorem hHo_e {o1 o2 o3 o4 : Nat → Int32} {S : zSe} {m : Nat} {pl : Nat → Nat} : vHo (vRn (sSo o1 o2 o3 o4 m S) S.2.2.1 (0, pl) S.2.1) = hHo o1 o2 o3 o4 S m := vHo_ag (vRn_ag (v := (0, pl)) (w := (0, fun _ => 0)) ⟨rfl, fun j hj => absurd hj (Nat.not_lt_zero j)⟩ _)
def sCt (f : Nat → Bool) : Nat → Nat
  | 0 => 0
  | m + 1 => sCt f m + bN (f m)
theorem sCt_le {f : Nat → Bool} : ∀ m, sCt f m ≤ m
  | 0 => Nat.le_refl _
  | m + 1 => Nat.add_le_add (sCt_le m) (bN_1 _)
/-- the minute, from m on, of which it holds when it held k times before -/
def sdL (f : Nat → Bool) (k : Int32) : Nat → Nat → Option Nat
  | 0, _ => none
  | q + 1, m => if f m = true ∧ nI (sCt f m) = k then some m else sdL f k q (m + 1)
def pSd (f : Nat → Bool) (k : Int32) : Int32 := match sdL f k 60 0 with
  | some m => nI m
  | none => if k = -1 then nI (sCt f 60) else -1
theorem pSd_s {f : Nat → Bool} {k : Int32} {m : Nat} (h : sdL f k 60 0 = some m) : pSd f k = nI m := by
  unfold pSd
  rw [h]
theorem pSd_n {f : Nat → Bool} {k : Int32} (h : sdL f k 60 0 = none) : pSd f k = if k = -1 then nI (sCt f 60) else -1 := by
  unfold pSd
  rw [h]
theorem dX12_said_0 : decode cX12_said 0 = .ok (.aload_n 0, 1) := by decide +kernel
theorem dX12_said_1 : decode cX12_said 1 = .ok (.getfield 23, 3) := by decide +kernel
theorem dX12_said_4 : decode cX12_said 4 = .ok (.getfield 136, 3) := by decide +kernel
theorem dX12_said_7 : decode cX12_said 7 = .ok (.getfield 156, 3) := by decide +kernel
theorem dX12_said_10 : decode cX12_said 10 = .ok (.ifCond .eq 8, 3) := by decide +kernel
theorem dX12_said_13 : decode cX12_said 13 = .ok (.iload_n 1, 1) := by decide +kernel
theorem dX12_said_14 : decode cX12_said 14 = .ok (.iconst (-1), 1) := by decide +kernel
theorem dX12_said_15 : decode cX12_said 15 = .ok (.if_icmp .ge 5, 3) := by decide +kernel
theorem dX12_said_18 : decode cX12_said 18 = .ok (.iconst (-1), 1) := by decide +kernel
theorem dX12_said_19 : decode cX12_said 19 = .ok (.ireturn, 1) := by decide +kernel
theorem dX12_said_20 : decode cX12_said 20 = .ok (.aload_n 0, 1) := by decide +kernel
theorem dX12_said_21 : decode cX12_said 21 = .ok (.invokevirtual 359, 3) := by decide +kernel
theorem dX12_said_24 : decode cX12_said 24 = .ok (.iconst 0, 1) := by decide +kernel
theorem dX12_said_25 : decode cX12_said 25 = .ok (.istore_n 2, 1) := by decide +kernel
theorem dX12_said_26 : decode cX12_said 26 = .ok (.iconst 0, 1) := by decide +kernel
theorem dX12_said_27 : decode cX12_said 27 = .ok (.istore_n 3, 1) := by decide +kernel
theorem dX12_said_28 : decode cX12_said 28 = .ok (.iload_n 3, 1) := by decide +kernel
theorem dX12_said_29 : decode cX12_said 29 = .ok (.bipush 60, 2) := by decide +kernel
theorem dX12_said_31 : decode cX12_said 31 = .ok (.if_icmp .ge 37, 3) := by decide +kernel
theorem dX12_said_34 : decode cX12_said 34 = .ok (.aload_n 0, 1) := by decide +kernel
theorem dX12_said_35 : decode cX12_said 35 = .ok (.getfield 23, 3) := by decide +kernel
theorem dX12_said_38 : decode cX12_said 38 = .ok (.getfield 136, 3) := by decide +kernel
theorem dX12_said_41 : decode cX12_said 41 = .ok (.aload_n 0, 1) := by decide +kernel
theorem dX12_said_42 : decode cX12_said 42 = .ok (.getfield 75, 3) := by decide +kernel
theorem dX12_said_45 : decode cX12_said 45 = .ok (.iload_n 3, 1) := by decide +kernel
theorem dX12_said_46 : decode cX12_said 46 = .ok (.invokevirtual 374, 3) := by decide +kernel
theorem dX12_said_49 : decode cX12_said 49 = .ok (.ifCond .eq 13, 3) := by decide +kernel
theorem dX12_said_52 : decode cX12_said 52 = .ok (.iload_n 2, 1) := by decide +kernel
theorem dX12_said_53 : decode cX12_said 53 = .ok (.iload_n 1, 1) := by decide +kernel
theorem dX12_said_54 : decode cX12_said 54 = .ok (.if_icmp .ne 5, 3) := by decide +kernel
theorem dX12_said_57 : decode cX12_said 57 = .ok (.iload_n 3, 1) := by decide +kernel
theorem dX12_said_58 : decode cX12_said 58 = .ok (.ireturn, 1) := by decide +kernel
theorem dX12_said_59 : decode cX12_said 59 = .ok (.iinc 2 1, 3) := by decide +kernel
theorem dX12_said_62 : decode cX12_said 62 = .ok (.iinc 3 1, 3) := by decide +kernel
theorem dX12_said_65 : decode cX12_said 65 = .ok (.goto (-37), 3) := by decide +kernel
theorem dX12_said_68 : decode cX12_said 68 = .ok (.iload_n 1, 1) := by decide +kernel
theorem dX12_said_69 : decode cX12_said 69 = .ok (.iconst (-1), 1) := by decide +kernel
theorem dX12_said_70 : decode cX12_said 70 = .ok (.if_icmp .ne 7, 3) := by decide +kernel
theorem dX12_said_73 : decode cX12_said 73 = .ok (.iload_n 2, 1) := by decide +kernel
theorem dX12_said_74 : decode cX12_said 74 = .ok (.goto 4, 3) := by decide +kernel
theorem dX12_said_77 : decode cX12_said 77 = .ok (.iconst (-1), 1) := by decide +kernel
theorem dX12_said_78 : decode cX12_said 78 = .ok (.ireturn, 1) := by decide +kernel
set_option maxRecDepth 100000 in
theorem lp_said {l : Launch} {dd : Nat} {Po : zPo} {K0 : zK} {h0 : List va_E} {Xo : zK → Prop} {Gc : zG → Prop} (z : Nat) (a : Nat → Nat) (sz fa nk oo be ho : Nat) (y p s : Nat) (an as : Nat → Nat) (S : zSe) (o1 o2 o3 o4 : Nat → Int32) (wk aim wv : Nat) (x : Int32) (hd : 3 ≤ dd) (hV : sV S) (h40 : S.2.1 ≤ 40) (W : Option Nat) (hW : sdL (hHo o1 o2 o3 o4 S) x 60 0 = W) (hP : ∀ r K', (r = some (.int (pSd (hHo o1 o2 o3 o4 S) x)) ∧ ∃ pl, (∀ j, pl j ≤ 1) ∧ K' = [(z, .inr (10, fPR a sz fa 1 oo be ho)), ((a 4), .inr (7, fSta y p s)), ((a 14), .inr (2, fNi an wk aim wv)), ((an 1), .inl (0, 60, .inl o1)), ((an 2), .inl (0, 60, .inl o2)), ((an 3), .inl (0, 60, .inl o3)), ((an 4), .inl (0, 60, .inl o4)), (s, .inr (6, fSen as S.1 S.2.1)), (as 1, .inl (0, 40, .inl (nF S.2.2.1))), (as 2, .inl (0, 40, .inl (nF S.2.2.2.1))), (as 3, .inl (0, 40, .inl (nF S.2.2.2.2))), (as 4, .inl (1, 20, .inl (nF pl)))]) → Po r K') : ∀ (q m : Nat) (pl : Nat → Nat), m + q = 60 → (∀ j, pl j ≤ 1) → sdL (hHo o1 o2 o3 o4 S) x q m = W → zS (l, mX12_said, dd, Po, K0, h0, Xo, Gc) 0 0 28 [(0, .ref z), (1, .int x), (2, .int (nI (sCt (hHo o1 o2 o3 o4 S) m))), (3, .int (nI m))] [] [(z, .inr (10, fPR a sz fa 1 oo be ho)), ((a 4), .inr (7, fSta y p s)), ((a 14), .inr (2, fNi an wk aim wv)), ((an 1), .inl (0, 60, .inl o1)), ((an 2), .inl (0, 60, .inl o2)), ((an 3), .inl (0, 60, .inl o3)), ((an 4), .inl (0, 60, .inl o4)), (s, .inr (6, fSen as S.1 S.2.1)), (as 1, .inl (0, 40, .inl (nF S.2.2.1))), (as 2, .inl (0, 40, .inl (nF S.2.2.2.1))), (as 3, .inl (0, 40, .inl (nF S.2.2.2.2))), (as 4, .inl (1, 20, .inl (nF pl)))] := by
  intro q
  induction q with
  | zero =>
    intro m pl hm hpl hG
    refine zs_iload_n dX12_said_28 rfl ?_
    refine zs_bipush (v := nI 60) dX12_said_29 (by decide) ?_
    refine zs_icmp_ge (tgt := 68) dX12_said_31 (by decide) (fun c_1 => ?_) (fun c_1 => (c_1 (by rw [show m = 60 by omega]; exact Int32.le_refl _) : False).elim)
    refine zs_iload_n dX12_said_68 rfl ?_
    refine zs_iconst (v := (-1)) dX12_said_69 (by decide) ?_
    refine zs_icmp_ne (tgt := 77) dX12_said_70 (by decide) (fun c_2 => ?_) (fun c_2 => ?_)
    · refine zs_iconst (v := (-1)) dX12_said_77 (by decide) ?_
      have hm60 : m = 60 := by omega
      subst hm60
      exact zs_iret dX12_said_78 rfl (hP _ _ ⟨by rw [pSd_n (hW.trans hG.symm), if_neg c_2], pl, hpl, rfl⟩)
    · refine zs_iload_n dX12_said_73 rfl ?_
      refine zs_goto (tgt := 78) dX12_said_74 (by decide) ?_
      have hm60 : m = 60 := by omega
      subst hm60
      exact zs_iret dX12_said_78 rfl (hP _ _ ⟨by rw [pSd_n (hW.trans hG.symm), if_pos c_2], pl, hpl, rfl⟩)
  | succ q ih =>
    intro m pl hm hpl hG
    refine zs_iload_n dX12_said_28 rfl ?_
    refine zs_bipush (v := nI 60) dX12_said_29 (by decide) ?_
    refine zs_icmp_ge (tgt := 68) dX12_said_31 (by decide) (fun c_1 => (nI_ge (show m < 60 by omega) (by omega) c_1 : False).elim) (fun c_1 => ?_)
    refine zs_aload_n dX12_said_34 rfl rfl ?_
    refine zs_get 0 dX12_said_35 zf_RX12_23 rfl (v := .ref (a 4)) rfl ?_
    refine zs_get 1 dX12_said_38 zf_RX12_136 rfl (v := .ref s) rfl ?_
    refine zs_aload_n dX12_said_41 rfl rfl ?_
    refine zs_get 0 dX12_said_42 zf_RX12_75 rfl (v := .ref (a 14)) rfl ?_
    refine zs_iload_n dX12_said_45 rfl ?_
    refine zs_callV (M := mX7_holds) (As := [.ref (a 14), .int (nI m)]) (st := []) (Kc := [(s, .inr (6, fSen as S.1 S.2.1)), (as 1, .inl (0, 40, .inl (nF S.2.2.1))), (as 2, .inl (0, 40, .inl (nF S.2.2.2.1))), (as 3, .inl (0, 40, .inl (nF S.2.2.2.2))), (as 4, .inl (1, 20, .inl (nF pl))), ((a 14), .inr (2, fNi an wk aim wv)), ((an 1), .inl (0, 60, .inl o1)), ((an 2), .inl (0, 60, .inl o2)), ((an 3), .inl (0, 60, .inl o3)), ((an 4), .inl (0, 60, .inl o4))]) (Kr := [(z, .inr (10, fPR a sz fa 1 oo be ho)), ((a 4), .inr (7, fSta y p s))]) [7, 8, 9, 10, 11, 2, 3, 4, 5, 6] [0, 1] 0 dX12_said_46 zl_RX12_374 kX7_holds rfl rfl rfl rfl rfl (by decide) rfl rfl (show dd - 1 + 1 ≤ dd by omega) (Nat.zero_le _) (Nat.zero_le _) (Nat.le_of_ble_eq_true rfl) (s_holds l (dd - 1) s as S (a 14) an wk aim wv o1 o2 o3 o4 m pl (by omega) hV (by omega) h40 hpl) (fun r K1 hr => ?_)
    rw [hHo_e] at hr
    obtain ⟨rfl, pl2, hpl2, rfl⟩ := hr
    refine zs_K (K' := [(z, .inr (10, fPR a sz fa 1 oo be ho)), ((a 4), .inr (7, fSta y p s)), ((a 14), .inr (2, fNi an wk aim wv)), ((an 1), .inl (0, 60, .inl o1)), ((an 2), .inl (0, 60, .inl o2)), ((an 3), .inl (0, 60, .inl o3)), ((an 4), .inl (0, 60, .inl o4)), (s, .inr (6, fSen as S.1 S.2.1)), (as 1, .inl (0, 40, .inl (nF S.2.2.1))), (as 2, .inl (0, 40, .inl (nF S.2.2.2.1))), (as 3, .inl (0, 40, .inl (nF S.2.2.2.2))), (as 4, .inl (1, 20, .inl (nF pl2)))]) [0, 1, 7, 8, 9, 10, 11, 2, 3, 4, 5, 6] rfl (by decide) ?_
    have hbn := bN_1 ((hHo o1 o2 o3 o4 S) m)
    have hct := sCt_le (f := (hHo o1 o2 o3 o4 S)) m
    refine zs_if_eq (tgt := 62) dX12_said_49 (by decide) (fun c_2 => ?_) (fun c_2 => ?_)
    · have c_2 : (bN ((hHo o1 o2 o3 o4 S) m)) = 0 := by have hc := c_2; rw [show (0 : Int32) = nI 0 from rfl] at hc; rw [nI_eq' (by omega) (by omega)] at hc; exact hc
      refine zs_iinc (v := (nI (m + 1))) (lv' := [(3, .int (nI (m + 1))), (0, .ref z), (1, .int x), (2, .int (nI (sCt (hHo o1 o2 o3 o4 S) m)))]) dX12_said_62 rfl (nI_add _ 1) (Nat.le_of_ble_eq_true rfl) rfl ?_
      refine zs_goto (tgt := 28) dX12_said_65 (by decide) ?_
      refine zs_lv [1, 2, 3, 0] rfl ?_
      have hr := ih (m + 1) pl2 (by omega) hpl2 (by rw [← hG, sdL, if_neg (fun h => absurd h.1 (bN_f0 c_2))])
      rw [show sCt (hHo o1 o2 o3 o4 S) (m + 1) = sCt (hHo o1 o2 o3 o4 S) m from by rw [sCt, c_2]; rfl] at hr
      exact hr
    · have c_2 : ¬ ((bN ((hHo o1 o2 o3 o4 S) m)) = 0) := by have hc := c_2; rw [show (0 : Int32) = nI 0 from rfl] at hc; rw [nI_eq' (by omega) (by omega)] at hc; exact hc
      have hb1 : bN ((hHo o1 o2 o3 o4 S) m) = 1 := by have h := bN_1 ((hHo o1 o2 o3 o4 S) m); omega
      refine zs_iload_n dX12_said_52 rfl ?_
      refine zs_iload_n dX12_said_53 rfl ?_
      refine zs_icmp_ne (tgt := 59) dX12_said_54 (by decide) (fun c_3 => ?_) (fun c_3 => ?_)
      · refine zs_iinc (v := (nI ((sCt (hHo o1 o2 o3 o4 S) m) + 1))) (lv' := [(2, .int (nI ((sCt (hHo o1 o2 o3 o4 S) m) + 1))), (0, .ref z), (1, .int x), (3, .int (nI m))]) dX12_said_59 rfl (nI_add _ 1) (Nat.le_of_ble_eq_true rfl) rfl ?_
        refine zs_iinc (v := (nI (m + 1))) (lv' := [(3, .int (nI (m + 1))), (2, .int (nI ((sCt (hHo o1 o2 o3 o4 S) m) + 1))), (0, .ref z), (1, .int x)]) dX12_said_62 rfl (nI_add _ 1) (Nat.le_of_ble_eq_true rfl) rfl ?_
        refine zs_goto (tgt := 28) dX12_said_65 (by decide) ?_
        refine zs_lv [2, 3, 1, 0] rfl ?_
        have hr := ih (m + 1) pl2 (by omega) hpl2 (by rw [← hG, sdL, if_neg (fun h => c_3 h.2)])
        rw [show sCt (hHo o1 o2 o3 o4 S) (m + 1) = sCt (hHo o1 o2 o3 o4 S) m + 1 from by rw [sCt, hb1]] at hr
        exact hr
      · refine zs_iload_n dX12_said_57 rfl ?_
        exact zs_iret dX12_said_58 rfl (hP _ _ ⟨by rw [pSd_s (hW.trans (hG.symm.trans (by rw [sdL, if_pos ⟨bN_e (by rw [hb1]; decide), c_3⟩])))], pl2, hpl2, rfl⟩)
