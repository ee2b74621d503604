/-! ===== the reference: spend ===== -/
theorem mg_70 {g : Nat → Int32} {s : Nat → Nat} {v : Int32} : upd (mg g s) 70 v = mg (upd g 70 v) s := by
  funext j
  simp only [upd, mg]
  by_cases h : j = 70
  · rw [if_pos h, if_neg (by omega), if_pos h]
  · rw [if_neg h, if_neg h]
theorem fK_le {m V W : Nat} {s : zFs} (h : fK m V s) (hVW : V ≤ W) : fK m W s := ⟨h.1, fun k hk => (h.2 k hk).elim fun x hx => ⟨x, by omega, hx.2⟩⟩
theorem nWrk_a (Y pww : Nat → Nat) (N : zNi) : (nWrk Y pww N).2.2.1 = N.2.1 ∧ (nWrk Y pww N).2.1 = N.1 := by
  unfold nWrk
  split
  · exact ⟨rfl, rfl⟩
  · split <;> exact ⟨rfl, rfl⟩
theorem nB_F (Y pww : Nat → Nat) (C R : Nat) (wi : Int32) (N : zNi) : (nBrn C R wi (nWrk Y pww N)).2.2.2.2.2 = f1 C R wi N.2.2.2.2.2 (mAim C R wi N.2.2.2.2.2.1 (nI N.2.1)) (nWrk Y pww N).1 := by
  show f1 C R wi (nWrk Y pww N).2.2.2.2.2.2 (mAim C R wi (nWrk Y pww N).2.2.2.2.2.2.1 (nI (nWrk Y pww N).2.2.1)) (nWrk Y pww N).1 = _
  rw [nWrk_F, (nWrk_a Y pww N).1]
/-- a minute's four numbers -/
def n4 (f : Nat → Int32) (i : Nat) (a b c d : Int32) : Nat → Int32 := upd (upd (upd (upd f (4 * i) a) (4 * i + 1) b) (4 * i + 2) c) (4 * i + 3) d
theorem n4_o {f : Nat → Int32} {i j : Nat} {a b c d : Int32} (h : j < 4 * i) : n4 f i a b c d j = f j := by
  unfold n4 upd
  rw [if_neg (by omega), if_neg (by omega), if_neg (by omega), if_neg (by omega)]
theorem n4_0 {f : Nat → Int32} {i : Nat} {a b c d : Int32} : n4 f i a b c d (4 * i) = a ∧ n4 f i a b c d (4 * i + 1) = b ∧ n4 f i a b c d (4 * i + 2) = c ∧ n4 f i a b c d (4 * i + 3) = d := by
  unfold n4 upd
  refine ⟨?_, ?_, ?_, ?_⟩
  · rw [if_neg (by omega), if_neg (by omega), if_neg (by omega), if_pos rfl]
  · rw [if_neg (by omega), if_neg (by omega), if_pos rfl]
  · rw [if_neg (by omega), if_pos rfl]
  · rw [if_pos rfl]
theorem s_mAimedF (l : Launch) (dd : Nat) (mo : Nat) (e : Nat → Nat) (g : Nat → Int32) (w : Int64) (nw : Nat → Int32) (D : zYd) (s : zFs) (x : Int32) (hd : 3 ≤ dd) (hR : yR D nw) (hC : D.1 14 ≤ 8) (hRo : D.1 15 ≤ 8) (hbb : fBk (D.1 14 * D.1 15) s.1 s.2.2) (hx : x = nI 0 ∨ x = nI 1 ∨ x = nI 2 ∨ x = nI 3 ∨ nI 100 ≤ x) : zSp l mX13_aimed dd 0 0 [.ref mo, .int x, .ref (e 64), .ref (e 65), .int (nI 0)] [(mo, .inr (11, fMo e g w)), ((e 14), .inl (0, 800, .inl nw)), ((e 64), .inl (0, 64, .inl s.1)), ((e 65), .inl (0, 64, .inl s.2.2))] (fun r K' => r = some (.int (mAim (D.1 14) (D.1 15) D.2.1 s x)) ∧ K' = [(mo, .inr (11, fMo e g w)), ((e 14), .inl (0, 800, .inl nw)), ((e 64), .inl (0, 64, .inl s.1)), ((e 65), .inl (0, 64, .inl s.2.2))]) := by
  have h := s_mAimed l dd mo e g w nw D (e 64) (e 65) 64 0 s.1 s.2.2 x hd hR hC hRo (by omega) (by omega) (by simp only [Nat.zero_add]; exact hbb) hx
  simp only [Nat.zero_add] at h
  exact h
set_option maxRecDepth 100000 in
theorem mm_211 {l : Launch} {dd : Nat} {Po : zPo} {K0 : zK} {h0 : List va_E} {Xo : zK → Prop} {Gc : zG → Prop} (mo : Nat) (e : Nat → Nat) (g : Nat → Int32) (w : Int64) (nw : Nat → Int32) (D : zYd) (P : zPl) (N : zNi) (M : zRs) (S : zFs) (he nt : Nat → Int32) (k mi V : Nat) (hd : 7 ≤ dd) (hR : yR D nw) (hC : D.1 14 ≤ 8) (hRo : D.1 15 ≤ 8) (hD : yI D) (hmi : mi < 60) (hV : V + 9999 < 2147483648) (hs : sE D P mi V k N M g S) (hm1 : ∀ j, k ≤ j → j < P.1 → mi + 1 ≤ P.2.1 j) (hk2 : ∀ (M' : zRs) (g' : Nat → Int32) (S' : zFs) (he' nt' : Nat → Int32), mFr [70] g g' → sE D P (mi + 1) (V + 9999) k (nBrn (D.1 14) (D.1 15) D.2.1 (nWrk D.1 D.2.2.2.2.2.1 N)) M' g' S' → nt' = n4 nt mi (nWrk D.1 D.2.2.2.2.2.1 N).1 (nBrn (D.1 14) (D.1 15) D.2.1 (nWrk D.1 D.2.2.2.2.2.1 N)).2.2.2.2.2.2.1 (nBrn (D.1 14) (D.1 15) D.2.1 (nWrk D.1 D.2.2.2.2.2.1 N)).2.2.2.2.2.2.2 (nI (nBrn (D.1 14) (D.1 15) D.2.1 (nWrk D.1 D.2.2.2.2.2.1 N)).2.2.1) → zS (l, mX13_spend, dd, Po, K0, h0, Xo, Gc) 0 0 30 [(0, .ref mo), (1, .int (nI N.2.1)), (2, .int (nI k)), (3, .int (nI (mi + 1)))] [] [(mo, .inr (11, fMo e (mg g' M'.1) w)), ((e 14), .inl (0, 800, .inl nw)), ((e 24), .inl (0, 12, .inl (nF (M'.2 24)))), ((e 25), .inl (0, 12, .inl (nF (M'.2 25)))), ((e 26), .inl (0, 12, .inl (nF (M'.2 26)))), ((e 27), .inl (0, 12, .inl (nF (M'.2 27)))), ((e 28), .inl (0, 360, .inl (nF (M'.2 28)))), ((e 29), .inl (0, 12, .inl (nF (M'.2 29)))), ((e 30), .inl (0, 12, .inl (nF (M'.2 30)))), ((e 31), .inl (0, 30, .inl (nF (M'.2 31)))), ((e 32), .inl (0, 12, .inl (nF (M'.2 32)))), ((e 64), .inl (0, 64, .inl (S'.1))), ((e 65), .inl (0, 64, .inl (S'.2.2))), ((e 66), .inl (0, 64, .inl (S'.2.1))), ((e 67), .inl (0, 64, .inl (he'))), ((e 85), .inl (0, 240, .inl (nt')))]) : zS (l, mX13_spend, dd, Po, K0, h0, Xo, Gc) 0 0 211 [(0, .ref mo), (1, .int (nI N.2.1)), (2, .int (nI k)), (3, .int (nI mi))] [] [(mo, .inr (11, fMo e (mg g M.1) w)), ((e 14), .inl (0, 800, .inl nw)), ((e 24), .inl (0, 12, .inl (nF (M.2 24)))), ((e 25), .inl (0, 12, .inl (nF (M.2 25)))), ((e 26), .inl (0, 12, .inl (nF (M.2 26)))), ((e 27), .inl (0, 12, .inl (nF (M.2 27)))), ((e 28), .inl (0, 360, .inl (nF (M.2 28)))), ((e 29), .inl (0, 12, .inl (nF (M.2 29)))), ((e 30), .inl (0, 12, .inl (nF (M.2 30)))), ((e 31), .inl (0, 30, .inl (nF (M.2 31)))), ((e 32), .inl (0, 12, .inl (nF (M.2 32)))), ((e 64), .inl (0, 64, .inl (S.1))), ((e 65), .inl (0, 64, .inl (S.2.2))), ((e 66), .inl (0, 64, .inl (S.2.1))), ((e 67), .inl (0, 64, .inl he)), ((e 85), .inl (0, 240, .inl nt))] := by
  have h64 : D.1 14 * D.1 15 ≤ 64 := Nat.mul_le_mul hC hRo
  refine zs_aload_n dX13_spend_211 rfl rfl ?_
  refine zs_get 0 dX13_spend_212 zf_RX13_316 rfl (v := .int (nI (M.1 39))) rfl ?_
  refine zs_istore (lv' := [(4, .int (nI (M.1 39))), (0, .ref mo), (1, .int (nI N.2.1)), (2, .int (nI k)), (3, .int (nI mi))]) dX13_spend_215 (Nat.le_of_ble_eq_true rfl) rfl ?_
  refine zs_aload_n dX13_spend_217 rfl rfl ?_
  refine zs_iload_n dX13_spend_218 rfl ?_
  refine zs_aload_n dX13_spend_219 rfl rfl ?_
  refine zs_get 0 dX13_spend_220 zf_RX13_105 rfl (v := .ref (e 64)) rfl ?_
  refine zs_aload_n dX13_spend_223 rfl rfl ?_
  refine zs_get 0 dX13_spend_224 zf_RX13_108 rfl (v := .ref (e 65)) rfl ?_
  refine zs_iconst (v := nI 0) dX13_spend_227 (by decide) ?_
  refine zs_callV (M := mX13_aimed) (As := [.int (nI N.2.1), .ref (e 64), .ref (e 65), .int (nI 0)]) (st := []) (Kc := [(mo, .inr (11, fMo e (mg g M.1) w)), ((e 14), .inl (0, 800, .inl nw)), ((e 64), .inl (0, 64, .inl (S.1))), ((e 65), .inl (0, 64, .inl (S.2.2)))]) (Kr := [((e 24), .inl (0, 12, .inl (nF (M.2 24)))), ((e 25), .inl (0, 12, .inl (nF (M.2 25)))), ((e 26), .inl (0, 12, .inl (nF (M.2 26)))), ((e 27), .inl (0, 12, .inl (nF (M.2 27)))), ((e 28), .inl (0, 360, .inl (nF (M.2 28)))), ((e 29), .inl (0, 12, .inl (nF (M.2 29)))), ((e 30), .inl (0, 12, .inl (nF (M.2 30)))), ((e 31), .inl (0, 30, .inl (nF (M.2 31)))), ((e 32), .inl (0, 12, .inl (nF (M.2 32)))), ((e 66), .inl (0, 64, .inl (S.2.1))), ((e 67), .inl (0, 64, .inl he)), ((e 85), .inl (0, 240, .inl nt))]) [0, 1, 11, 12] [2, 3, 4, 5, 6, 7, 8, 9, 10, 13, 14, 15] 0 dX13_spend_228 zl_RX13_442 kX13_aimed rfl rfl rfl rfl rfl (by decide) rfl rfl (show dd - 1 + 1 ≤ dd by omega) (Nat.zero_le _) (Nat.zero_le _) (Nat.le_of_ble_eq_true rfl) (s_mAimedF l (dd - 1) mo e (mg g M.1) w nw D S (nI N.2.1) (by omega) hR hC hRo hs.2.2.2.2.2.1.1 hs.2.2.2.1.1) (fun r K1 hr => ?_)
  obtain ⟨rfl, rfl⟩ := hr
  refine zs_K (K' := [(mo, .inr (11, fMo e (mg g M.1) w)), ((e 14), .inl (0, 800, .inl nw)), ((e 24), .inl (0, 12, .inl (nF (M.2 24)))), ((e 25), .inl (0, 12, .inl (nF (M.2 25)))), ((e 26), .inl (0, 12, .inl (nF (M.2 26)))), ((e 27), .inl (0, 12, .inl (nF (M.2 27)))), ((e 28), .inl (0, 360, .inl (nF (M.2 28)))), ((e 29), .inl (0, 12, .inl (nF (M.2 29)))), ((e 30), .inl (0, 12, .inl (nF (M.2 30)))), ((e 31), .inl (0, 30, .inl (nF (M.2 31)))), ((e 32), .inl (0, 12, .inl (nF (M.2 32)))), ((e 64), .inl (0, 64, .inl (S.1))), ((e 65), .inl (0, 64, .inl (S.2.2))), ((e 66), .inl (0, 64, .inl (S.2.1))), ((e 67), .inl (0, 64, .inl he)), ((e 85), .inl (0, 240, .inl nt))]) [12, 13, 0, 1, 2, 3, 4, 5, 6, 7, 8, 14, 15, 9, 10, 11] rfl (by decide) ?_
  refine zs_as (y := (mAim (D.1 14) (D.1 15) D.2.1 N.2.2.2.2.2.1 (nI N.2.1))) (mAim_ag hs.2.2.2.2.1) ?_
  refine zs_istore (lv' := [(5, .int (mAim (D.1 14) (D.1 15) D.2.1 N.2.2.2.2.2.1 (nI N.2.1))), (4, .int (nI (M.1 39))), (0, .ref mo), (1, .int (nI N.2.1)), (2, .int (nI k)), (3, .int (nI mi))]) dX13_spend_231 (Nat.le_of_ble_eq_true rfl) rfl ?_
  refine zs_iconst (v := nI 0) dX13_spend_233 (by decide) ?_
  refine zs_istore (lv' := [(6, .int (nI 0)), (5, .int (mAim (D.1 14) (D.1 15) D.2.1 N.2.2.2.2.2.1 (nI N.2.1))), (4, .int (nI (M.1 39))), (0, .ref mo), (1, .int (nI N.2.1)), (2, .int (nI k)), (3, .int (nI mi))]) dX13_spend_234 (Nat.le_of_ble_eq_true rfl) rfl ?_
  refine zs_lv [3, 4, 5, 6, 2, 1, 0] rfl ?_
  refine lp_mticks mo e g w nw D S he nt N.2.1 k mi (M.1 39) (mAim (D.1 14) (D.1 15) D.2.1 N.2.2.2.2.2.1 (nI N.2.1)) N M (60 * mi) (by omega) hR hC hRo hD hs.2.1 hs.1 (by omega) (fun M' hT => ?_)
  obtain ⟨u, hu, h39, hwu, hQ2⟩ := sTk_60 (yI_t hD) hs.1 (by omega) hT
  have hwu : (nWrk D.1 D.2.2.2.2.2.1 N).1 = nI u := hwu
  have hQ2 : sQ (yT D (fun _ => 12)) (60 * mi + 60) (nWrk D.1 D.2.2.2.2.2.1 N).2 M' := hQ2
  have hcc : aC (D.1 14 * D.1 15) (mAim (D.1 14) (D.1 15) D.2.1 N.2.2.2.2.2.1 (nI N.2.1)) := pAim_c hs.2.2.2.1.1 hs.2.2.2.1.2
  have hk2S := fK_le (W := V + 9999) (fK_min (u := u) (wi := D.2.1) hs.2.2.2.2.2.1 h64 hcc) (by omega)
  refine zs_aload_n dX13_spend_253 rfl rfl ?_
  refine zs_iload dX13_spend_254 rfl ?_
  refine zs_aload_n dX13_spend_256 rfl rfl ?_
  refine zs_get 0 dX13_spend_257 zf_RX13_316 rfl (v := .int (nI (M'.1 39))) rfl ?_
  refine zs_iload dX13_spend_260 rfl ?_
  refine zs_isub dX13_spend_262 ?_
  refine zs_as (y := nI u) (by rw [h39, nI_sub (Nat.le_add_right _ _), Nat.add_sub_cancel_left]) ?_
  have hob : upd (mg g M'.1) 70 ((mg g M'.1) 70 + mLs (D.1 14) (D.1 15) S (mAim (D.1 14) (D.1 15) D.2.1 N.2.2.2.2.2.1 (nI N.2.1)) (nI u)) = mg (upd g 70 (f1 (D.1 14) (D.1 15) D.2.1 N.2.2.2.2.2 (mAim (D.1 14) (D.1 15) D.2.1 N.2.2.2.2.2.1 (nI N.2.1)) (nI u)).2.1) M'.1 := by
    rw [mg_70, mLs_ag h64 hs.2.2.2.2.1]
    exact congrArg (fun z => mg (upd g 70 (z + mLs (D.1 14) (D.1 15) N.2.2.2.2.2.1 (mAim (D.1 14) (D.1 15) D.2.1 N.2.2.2.2.2.1 (nI N.2.1)) (nI u))) M'.1) hs.2.2.1
  refine zs_callV (M := mX13_minute) (As := [.int (mAim (D.1 14) (D.1 15) D.2.1 N.2.2.2.2.2.1 (nI N.2.1)), .int (nI u)]) (st := []) (Kc := [(mo, .inr (11, fMo e (mg g M'.1) w)), ((e 14), .inl (0, 800, .inl nw)), ((e 64), .inl (0, 64, .inl (S.1))), ((e 65), .inl (0, 64, .inl (S.2.2))), ((e 66), .inl (0, 64, .inl (S.2.1))), ((e 67), .inl (0, 64, .inl he))]) (Kr := [((e 24), .inl (0, 12, .inl (nF (M'.2 24)))), ((e 25), .inl (0, 12, .inl (nF (M'.2 25)))), ((e 26), .inl (0, 12, .inl (nF (M'.2 26)))), ((e 27), .inl (0, 12, .inl (nF (M'.2 27)))), ((e 28), .inl (0, 360, .inl (nF (M'.2 28)))), ((e 29), .inl (0, 12, .inl (nF (M'.2 29)))), ((e 30), .inl (0, 12, .inl (nF (M'.2 30)))), ((e 31), .inl (0, 30, .inl (nF (M'.2 31)))), ((e 32), .inl (0, 12, .inl (nF (M'.2 32)))), ((e 85), .inl (0, 240, .inl nt))]) [0, 1, 11, 12, 13, 14] [2, 3, 4, 5, 6, 7, 8, 9, 10, 15] 0 dX13_spend_263 zl_RX13_445 kX13_minute rfl rfl rfl rfl rfl (by decide) rfl rfl (show dd - 1 + 1 ≤ dd by omega) (Nat.zero_le _) (Nat.zero_le _) (Nat.le_of_ble_eq_true rfl) (s_mMinute l (dd - 1) mo e (mg g M'.1) w nw D S he V u (mAim (D.1 14) (D.1 15) D.2.1 N.2.2.2.2.2.1 (nI N.2.1)) (by omega) hR hC hRo hs.2.2.2.2.2.1 (by omega) hcc) (fun r K1 hr => ?_)
  obtain ⟨rfl, he2, rfl⟩ := hr
  rw [hob]
  refine zs_K (K' := [(mo, .inr (11, fMo e (mg (upd g 70 ((f1 (D.1 14) (D.1 15) D.2.1 N.2.2.2.2.2 (mAim (D.1 14) (D.1 15) D.2.1 N.2.2.2.2.2.1 (nI N.2.1)) (nI u)).2.1)) M'.1) w)), ((e 14), .inl (0, 800, .inl nw)), ((e 24), .inl (0, 12, .inl (nF (M'.2 24)))), ((e 25), .inl (0, 12, .inl (nF (M'.2 25)))), ((e 26), .inl (0, 12, .inl (nF (M'.2 26)))), ((e 27), .inl (0, 12, .inl (nF (M'.2 27)))), ((e 28), .inl (0, 360, .inl (nF (M'.2 28)))), ((e 29), .inl (0, 12, .inl (nF (M'.2 29)))), ((e 30), .inl (0, 12, .inl (nF (M'.2 30)))), ((e 31), .inl (0, 30, .inl (nF (M'.2 31)))), ((e 32), .inl (0, 12, .inl (nF (M'.2 32)))), ((e 64), .inl (0, 64, .inl ((mMin (D.1 14) (D.1 15) D.2.1 S (mAim (D.1 14) (D.1 15) D.2.1 N.2.2.2.2.2.1 (nI N.2.1)) (nI u)).1))), ((e 65), .inl (0, 64, .inl ((mMin (D.1 14) (D.1 15) D.2.1 S (mAim (D.1 14) (D.1 15) D.2.1 N.2.2.2.2.2.1 (nI N.2.1)) (nI u)).2.2))), ((e 66), .inl (0, 64, .inl ((mMin (D.1 14) (D.1 15) D.2.1 S (mAim (D.1 14) (D.1 15) D.2.1 N.2.2.2.2.2.1 (nI N.2.1)) (nI u)).2.1))), ((e 67), .inl (0, 64, .inl he2)), ((e 85), .inl (0, 240, .inl nt))]) [10, 11, 0, 1, 2, 3, 4, 5, 6, 7, 8, 12, 13, 14, 15, 9] rfl (by decide) ?_
  refine zs_aload_n dX13_spend_266 rfl rfl ?_
  refine zs_get 0 dX13_spend_267 zf_RX13_142 rfl (v := .ref (e 85)) rfl ?_
  refine zs_iconst (v := nI 4) dX13_spend_270 (by decide) ?_
  refine zs_iload_n dX13_spend_271 rfl ?_
  refine zs_imul dX13_spend_272 ?_
  refine zs_as (y := nI (4 * mi)) (nI_mul _ _) ?_
  refine zs_aload_n dX13_spend_273 rfl rfl ?_
  refine zs_get 0 dX13_spend_274 zf_RX13_316 rfl (v := .int (nI (M'.1 39))) rfl ?_
  refine zs_iload dX13_spend_277 rfl ?_
  refine zs_isub dX13_spend_279 ?_
  refine zs_as (y := nI u) (by rw [h39, nI_sub (Nat.le_add_right _ _), Nat.add_sub_cancel_left]) ?_
  refine zs_iast 15 dX13_spend_280 rfl (vp_in_nI (by omega) (by omega)) ?_
  rw [nI_c (n := 4 * mi) (by omega)]
  show zS _ _ _ _ _ _ [(mo, .inr (11, fMo e (mg (upd g 70 ((f1 (D.1 14) (D.1 15) D.2.1 N.2.2.2.2.2 (mAim (D.1 14) (D.1 15) D.2.1 N.2.2.2.2.2.1 (nI N.2.1)) (nI u)).2.1)) M'.1) w)), ((e 14), .inl (0, 800, .inl nw)), ((e 24), .inl (0, 12, .inl (nF (M'.2 24)))), ((e 25), .inl (0, 12, .inl (nF (M'.2 25)))), ((e 26), .inl (0, 12, .inl (nF (M'.2 26)))), ((e 27), .inl (0, 12, .inl (nF (M'.2 27)))), ((e 28), .inl (0, 360, .inl (nF (M'.2 28)))), ((e 29), .inl (0, 12, .inl (nF (M'.2 29)))), ((e 30), .inl (0, 12, .inl (nF (M'.2 30)))), ((e 31), .inl (0, 30, .inl (nF (M'.2 31)))), ((e 32), .inl (0, 12, .inl (nF (M'.2 32)))), ((e 64), .inl (0, 64, .inl ((mMin (D.1 14) (D.1 15) D.2.1 S (mAim (D.1 14) (D.1 15) D.2.1 N.2.2.2.2.2.1 (nI N.2.1)) (nI u)).1))), ((e 65), .inl (0, 64, .inl ((mMin (D.1 14) (D.1 15) D.2.1 S (mAim (D.1 14) (D.1 15) D.2.1 N.2.2.2.2.2.1 (nI N.2.1)) (nI u)).2.2))), ((e 66), .inl (0, 64, .inl ((mMin (D.1 14) (D.1 15) D.2.1 S (mAim (D.1 14) (D.1 15) D.2.1 N.2.2.2.2.2.1 (nI N.2.1)) (nI u)).2.1))), ((e 67), .inl (0, 64, .inl he2)), ((e 85), .inl (0, 240, .inl (upd nt (4 * mi) (nI u))))]
  refine zs_aload_n dX13_spend_281 rfl rfl ?_
  refine zs_get 0 dX13_spend_282 zf_RX13_142 rfl (v := .ref (e 85)) rfl ?_
  refine zs_iconst (v := nI 4) dX13_spend_285 (by decide) ?_
  refine zs_iload_n dX13_spend_286 rfl ?_
  refine zs_imul dX13_spend_287 ?_
  refine zs_as (y := nI (4 * mi)) (nI_mul _ _) ?_
  refine zs_iconst (v := nI 1) dX13_spend_288 (by decide) ?_
  refine zs_iadd dX13_spend_289 ?_
  refine zs_as (y := nI ((4 * mi) + 1)) (nI_add _ _) ?_
  refine zs_aload_n dX13_spend_290 rfl rfl ?_
  refine zs_get 0 dX13_spend_291 zf_RX13_423 rfl (v := .int ((f1 (D.1 14) (D.1 15) D.2.1 N.2.2.2.2.2 (mAim (D.1 14) (D.1 15) D.2.1 N.2.2.2.2.2.1 (nI N.2.1)) (nI u)).2.1)) rfl ?_
  refine zs_iast 15 dX13_spend_294 rfl (vp_in_nI (by omega) (by omega)) ?_
  rw [nI_c (n := (4 * mi) + 1) (by omega)]
  show zS _ _ _ _ _ _ [(mo, .inr (11, fMo e (mg (upd g 70 ((f1 (D.1 14) (D.1 15) D.2.1 N.2.2.2.2.2 (mAim (D.1 14) (D.1 15) D.2.1 N.2.2.2.2.2.1 (nI N.2.1)) (nI u)).2.1)) M'.1) w)), ((e 14), .inl (0, 800, .inl nw)), ((e 24), .inl (0, 12, .inl (nF (M'.2 24)))), ((e 25), .inl (0, 12, .inl (nF (M'.2 25)))), ((e 26), .inl (0, 12, .inl (nF (M'.2 26)))), ((e 27), .inl (0, 12, .inl (nF (M'.2 27)))), ((e 28), .inl (0, 360, .inl (nF (M'.2 28)))), ((e 29), .inl (0, 12, .inl (nF (M'.2 29)))), ((e 30), .inl (0, 12, .inl (nF (M'.2 30)))), ((e 31), .inl (0, 30, .inl (nF (M'.2 31)))), ((e 32), .inl (0, 12, .inl (nF (M'.2 32)))), ((e 64), .inl (0, 64, .inl ((mMin (D.1 14) (D.1 15) D.2.1 S (mAim (D.1 14) (D.1 15) D.2.1 N.2.2.2.2.2.1 (nI N.2.1)) (nI u)).1))), ((e 65), .inl (0, 64, .inl ((mMin (D.1 14) (D.1 15) D.2.1 S (mAim (D.1 14) (D.1 15) D.2.1 N.2.2.2.2.2.1 (nI N.2.1)) (nI u)).2.2))), ((e 66), .inl (0, 64, .inl ((mMin (D.1 14) (D.1 15) D.2.1 S (mAim (D.1 14) (D.1 15) D.2.1 N.2.2.2.2.2.1 (nI N.2.1)) (nI u)).2.1))), ((e 67), .inl (0, 64, .inl he2)), ((e 85), .inl (0, 240, .inl (upd (upd nt (4 * mi) (nI u)) ((4 * mi) + 1) ((f1 (D.1 14) (D.1 15) D.2.1 N.2.2.2.2.2 (mAim (D.1 14) (D.1 15) D.2.1 N.2.2.2.2.2.1 (nI N.2.1)) (nI u)).2.1))))]
  refine zs_aload_n dX13_spend_295 rfl rfl ?_
  refine zs_get 0 dX13_spend_296 zf_RX13_142 rfl (v := .ref (e 85)) rfl ?_
  refine zs_iconst (v := nI 4) dX13_spend_299 (by decide) ?_
  refine zs_iload_n dX13_spend_300 rfl ?_
  refine zs_imul dX13_spend_301 ?_
  refine zs_as (y := nI (4 * mi)) (nI_mul _ _) ?_
  refine zs_iconst (v := nI 2) dX13_spend_302 (by decide) ?_
  refine zs_iadd dX13_spend_303 ?_
  refine zs_as (y := nI ((4 * mi) + 2)) (nI_add _ _) ?_
  refine zs_aload_n dX13_spend_304 rfl rfl ?_
  refine zs_callV (M := mX13_burning) (As := []) (st := [.int (nI ((4 * mi) + 2)), .ref (e 85)]) (Kc := [(mo, .inr (11, fMo e (mg (upd g 70 ((f1 (D.1 14) (D.1 15) D.2.1 N.2.2.2.2.2 (mAim (D.1 14) (D.1 15) D.2.1 N.2.2.2.2.2.1 (nI N.2.1)) (nI u)).2.1)) M'.1) w)), ((e 14), .inl (0, 800, .inl nw)), ((e 65), .inl (0, 64, .inl ((mMin (D.1 14) (D.1 15) D.2.1 S (mAim (D.1 14) (D.1 15) D.2.1 N.2.2.2.2.2.1 (nI N.2.1)) (nI u)).2.2)))]) (Kr := [((e 24), .inl (0, 12, .inl (nF (M'.2 24)))), ((e 25), .inl (0, 12, .inl (nF (M'.2 25)))), ((e 26), .inl (0, 12, .inl (nF (M'.2 26)))), ((e 27), .inl (0, 12, .inl (nF (M'.2 27)))), ((e 28), .inl (0, 360, .inl (nF (M'.2 28)))), ((e 29), .inl (0, 12, .inl (nF (M'.2 29)))), ((e 30), .inl (0, 12, .inl (nF (M'.2 30)))), ((e 31), .inl (0, 30, .inl (nF (M'.2 31)))), ((e 32), .inl (0, 12, .inl (nF (M'.2 32)))), ((e 64), .inl (0, 64, .inl ((mMin (D.1 14) (D.1 15) D.2.1 S (mAim (D.1 14) (D.1 15) D.2.1 N.2.2.2.2.2.1 (nI N.2.1)) (nI u)).1))), ((e 66), .inl (0, 64, .inl ((mMin (D.1 14) (D.1 15) D.2.1 S (mAim (D.1 14) (D.1 15) D.2.1 N.2.2.2.2.2.1 (nI N.2.1)) (nI u)).2.1))), ((e 67), .inl (0, 64, .inl he2)), ((e 85), .inl (0, 240, .inl (upd (upd nt (4 * mi) (nI u)) ((4 * mi) + 1) ((f1 (D.1 14) (D.1 15) D.2.1 N.2.2.2.2.2 (mAim (D.1 14) (D.1 15) D.2.1 N.2.2.2.2.2.1 (nI N.2.1)) (nI u)).2.1))))]) [0, 1, 12] [2, 3, 4, 5, 6, 7, 8, 9, 10, 11, 13, 14, 15] 0 dX13_spend_305 zl_RX13_436 kX13_burning rfl rfl rfl rfl rfl (by decide) rfl rfl (show dd - 1 + 1 ≤ dd by omega) (Nat.zero_le _) (Nat.zero_le _) (Nat.le_of_ble_eq_true rfl) (s_mBurning l (dd - 1) mo e (mg (upd g 70 ((f1 (D.1 14) (D.1 15) D.2.1 N.2.2.2.2.2 (mAim (D.1 14) (D.1 15) D.2.1 N.2.2.2.2.2.1 (nI N.2.1)) (nI u)).2.1)) M'.1) w nw D ((mMin (D.1 14) (D.1 15) D.2.1 S (mAim (D.1 14) (D.1 15) D.2.1 N.2.2.2.2.2.1 (nI N.2.1)) (nI u)).2.2) (by omega) hR hC hRo (fun j hj => (hk2S.1 j hj).1)) (fun r K1 hr => ?_)
  obtain ⟨rfl, rfl⟩ := hr
  refine zs_K (K' := [(mo, .inr (11, fMo e (mg (upd g 70 ((f1 (D.1 14) (D.1 15) D.2.1 N.2.2.2.2.2 (mAim (D.1 14) (D.1 15) D.2.1 N.2.2.2.2.2.1 (nI N.2.1)) (nI u)).2.1)) M'.1) w)), ((e 14), .inl (0, 800, .inl nw)), ((e 24), .inl (0, 12, .inl (nF (M'.2 24)))), ((e 25), .inl (0, 12, .inl (nF (M'.2 25)))), ((e 26), .inl (0, 12, .inl (nF (M'.2 26)))), ((e 27), .inl (0, 12, .inl (nF (M'.2 27)))), ((e 28), .inl (0, 360, .inl (nF (M'.2 28)))), ((e 29), .inl (0, 12, .inl (nF (M'.2 29)))), ((e 30), .inl (0, 12, .inl (nF (M'.2 30)))), ((e 31), .inl (0, 30, .inl (nF (M'.2 31)))), ((e 32), .inl (0, 12, .inl (nF (M'.2 32)))), ((e 64), .inl (0, 64, .inl ((mMin (D.1 14) (D.1 15) D.2.1 S (mAim (D.1 14) (D.1 15) D.2.1 N.2.2.2.2.2.1 (nI N.2.1)) (nI u)).1))), ((e 65), .inl (0, 64, .inl ((mMin (D.1 14) (D.1 15) D.2.1 S (mAim (D.1 14) (D.1 15) D.2.1 N.2.2.2.2.2.1 (nI N.2.1)) (nI u)).2.2))), ((e 66), .inl (0, 64, .inl ((mMin (D.1 14) (D.1 15) D.2.1 S (mAim (D.1 14) (D.1 15) D.2.1 N.2.2.2.2.2.1 (nI N.2.1)) (nI u)).2.1))), ((e 67), .inl (0, 64, .inl he2)), ((e 85), .inl (0, 240, .inl (upd (upd nt (4 * mi) (nI u)) ((4 * mi) + 1) ((f1 (D.1 14) (D.1 15) D.2.1 N.2.2.2.2.2 (mAim (D.1 14) (D.1 15) D.2.1 N.2.2.2.2.2.1 (nI N.2.1)) (nI u)).2.1))))]) [13, 14, 0, 1, 2, 3, 4, 5, 6, 7, 8, 9, 15, 10, 11, 12] rfl (by decide) ?_
  refine zs_as (y := (f1 (D.1 14) (D.1 15) D.2.1 N.2.2.2.2.2 (mAim (D.1 14) (D.1 15) D.2.1 N.2.2.2.2.2.1 (nI N.2.1)) (nI u)).2.2) ((mBn_e S (mAim (D.1 14) (D.1 15) D.2.1 N.2.2.2.2.2.1 (nI N.2.1)) (nI u)).trans (mBn_ag h64 hs.2.2.2.2.1)) ?_
  refine zs_iast 15 dX13_spend_308 rfl (vp_in_nI (by omega) (by omega)) ?_
  rw [nI_c (n := (4 * mi) + 2) (by omega)]
  show zS _ _ _ _ _ _ [(mo, .inr (11, fMo e (mg (upd g 70 ((f1 (D.1 14) (D.1 15) D.2.1 N.2.2.2.2.2 (mAim (D.1 14) (D.1 15) D.2.1 N.2.2.2.2.2.1 (nI N.2.1)) (nI u)).2.1)) M'.1) w)), ((e 14), .inl (0, 800, .inl nw)), ((e 24), .inl (0, 12, .inl (nF (M'.2 24)))), ((e 25), .inl (0, 12, .inl (nF (M'.2 25)))), ((e 26), .inl (0, 12, .inl (nF (M'.2 26)))), ((e 27), .inl (0, 12, .inl (nF (M'.2 27)))), ((e 28), .inl (0, 360, .inl (nF (M'.2 28)))), ((e 29), .inl (0, 12, .inl (nF (M'.2 29)))), ((e 30), .inl (0, 12, .inl (nF (M'.2 30)))), ((e 31), .inl (0, 30, .inl (nF (M'.2 31)))), ((e 32), .inl (0, 12, .inl (nF (M'.2 32)))), ((e 64), .inl (0, 64, .inl ((mMin (D.1 14) (D.1 15) D.2.1 S (mAim (D.1 14) (D.1 15) D.2.1 N.2.2.2.2.2.1 (nI N.2.1)) (nI u)).1))), ((e 65), .inl (0, 64, .inl ((mMin (D.1 14) (D.1 15) D.2.1 S (mAim (D.1 14) (D.1 15) D.2.1 N.2.2.2.2.2.1 (nI N.2.1)) (nI u)).2.2))), ((e 66), .inl (0, 64, .inl ((mMin (D.1 14) (D.1 15) D.2.1 S (mAim (D.1 14) (D.1 15) D.2.1 N.2.2.2.2.2.1 (nI N.2.1)) (nI u)).2.1))), ((e 67), .inl (0, 64, .inl he2)), ((e 85), .inl (0, 240, .inl (upd (upd (upd nt (4 * mi) (nI u)) ((4 * mi) + 1) ((f1 (D.1 14) (D.1 15) D.2.1 N.2.2.2.2.2 (mAim (D.1 14) (D.1 15) D.2.1 N.2.2.2.2.2.1 (nI N.2.1)) (nI u)).2.1)) ((4 * mi) + 2) ((f1 (D.1 14) (D.1 15) D.2.1 N.2.2.2.2.2 (mAim (D.1 14) (D.1 15) D.2.1 N.2.2.2.2.2.1 (nI N.2.1)) (nI u)).2.2))))]
  refine zs_aload_n dX13_spend_309 rfl rfl ?_
  refine zs_get 0 dX13_spend_310 zf_RX13_142 rfl (v := .ref (e 85)) rfl ?_
  refine zs_iconst (v := nI 4) dX13_spend_313 (by decide) ?_
  refine zs_iload_n dX13_spend_314 rfl ?_
  refine zs_imul dX13_spend_315 ?_
  refine zs_as (y := nI (4 * mi)) (nI_mul _ _) ?_
  refine zs_iconst (v := nI 3) dX13_spend_316 (by decide) ?_
  refine zs_iadd dX13_spend_317 ?_
  refine zs_as (y := nI ((4 * mi) + 3)) (nI_add _ _) ?_
  refine zs_aload_n dX13_spend_318 rfl rfl ?_
  refine zs_get 0 dX13_spend_319 zf_RX13_334 rfl (v := .int (nI (M'.1 35))) rfl ?_
  refine zs_as (y := nI (nWrk D.1 D.2.2.2.2.2.1 N).2.2.2.1) (congrArg nI hQ2.1.1) ?_
  refine zs_iast 15 dX13_spend_322 rfl (vp_in_nI (by omega) (by omega)) ?_
  rw [nI_c (n := (4 * mi) + 3) (by omega)]
  show zS _ _ _ _ _ _ [(mo, .inr (11, fMo e (mg (upd g 70 ((f1 (D.1 14) (D.1 15) D.2.1 N.2.2.2.2.2 (mAim (D.1 14) (D.1 15) D.2.1 N.2.2.2.2.2.1 (nI N.2.1)) (nI u)).2.1)) M'.1) w)), ((e 14), .inl (0, 800, .inl nw)), ((e 24), .inl (0, 12, .inl (nF (M'.2 24)))), ((e 25), .inl (0, 12, .inl (nF (M'.2 25)))), ((e 26), .inl (0, 12, .inl (nF (M'.2 26)))), ((e 27), .inl (0, 12, .inl (nF (M'.2 27)))), ((e 28), .inl (0, 360, .inl (nF (M'.2 28)))), ((e 29), .inl (0, 12, .inl (nF (M'.2 29)))), ((e 30), .inl (0, 12, .inl (nF (M'.2 30)))), ((e 31), .inl (0, 30, .inl (nF (M'.2 31)))), ((e 32), .inl (0, 12, .inl (nF (M'.2 32)))), ((e 64), .inl (0, 64, .inl ((mMin (D.1 14) (D.1 15) D.2.1 S (mAim (D.1 14) (D.1 15) D.2.1 N.2.2.2.2.2.1 (nI N.2.1)) (nI u)).1))), ((e 65), .inl (0, 64, .inl ((mMin (D.1 14) (D.1 15) D.2.1 S (mAim (D.1 14) (D.1 15) D.2.1 N.2.2.2.2.2.1 (nI N.2.1)) (nI u)).2.2))), ((e 66), .inl (0, 64, .inl ((mMin (D.1 14) (D.1 15) D.2.1 S (mAim (D.1 14) (D.1 15) D.2.1 N.2.2.2.2.2.1 (nI N.2.1)) (nI u)).2.1))), ((e 67), .inl (0, 64, .inl he2)), ((e 85), .inl (0, 240, .inl (upd (upd (upd (upd nt (4 * mi) (nI u)) ((4 * mi) + 1) ((f1 (D.1 14) (D.1 15) D.2.1 N.2.2.2.2.2 (mAim (D.1 14) (D.1 15) D.2.1 N.2.2.2.2.2.1 (nI N.2.1)) (nI u)).2.1)) ((4 * mi) + 2) ((f1 (D.1 14) (D.1 15) D.2.1 N.2.2.2.2.2 (mAim (D.1 14) (D.1 15) D.2.1 N.2.2.2.2.2.1 (nI N.2.1)) (nI u)).2.2)) ((4 * mi) + 3) (nI (nWrk D.1 D.2.2.2.2.2.1 N).2.2.2.1))))]
  refine zs_iinc (v := (nI (mi + 1))) (lv' := [(3, .int (nI (mi + 1))), (0, .ref mo), (1, .int (nI N.2.1)), (2, .int (nI k)), (4, .int (nI (M.1 39))), (5, .int (mAim (D.1 14) (D.1 15) D.2.1 N.2.2.2.2.2.1 (nI N.2.1)))]) dX13_spend_323 rfl (nI_add _ 1) (Nat.le_of_ble_eq_true rfl) rfl ?_
  refine zs_goto (tgt := 30) dX13_spend_326 (by decide) ?_
  have hnB : (nBrn (D.1 14) (D.1 15) D.2.1 (nWrk D.1 D.2.2.2.2.2.1 N)).2.2.2.2.2 = (f1 (D.1 14) (D.1 15) D.2.1 N.2.2.2.2.2 (mAim (D.1 14) (D.1 15) D.2.1 N.2.2.2.2.2.1 (nI N.2.1)) (nI u)) := (nB_F D.1 D.2.2.2.2.2.1 (D.1 14) (D.1 15) D.2.1 N).trans (by rw [hwu])
  have ha := nWrk_a D.1 D.2.2.2.2.2.1 N
  have hs2 : sE D P (mi + 1) (V + 9999) k (nBrn (D.1 14) (D.1 15) D.2.1 (nWrk D.1 D.2.2.2.2.2.1 N)) M' (upd g 70 (f1 (D.1 14) (D.1 15) D.2.1 N.2.2.2.2.2 (mAim (D.1 14) (D.1 15) D.2.1 N.2.2.2.2.2.1 (nI N.2.1)) (nI u)).2.1) (mMin (D.1 14) (D.1 15) D.2.1 S (mAim (D.1 14) (D.1 15) D.2.1 N.2.2.2.2.2.1 (nI N.2.1)) (nI u)) := ⟨hQ2, hs.2.1.trans (congrArg nI ha.2.symm), (by rw [hnB]; rfl), (by show aO (D.1 14) (D.1 15) (nI (nWrk D.1 D.2.2.2.2.2.1 N).2.2.1); rw [ha.1]; exact hs.2.2.2.1), (by rw [hnB]; exact mMin_ag h64 hs.2.2.2.2.1), hk2S, hm1⟩
  refine zs_lv [1, 2, 3, 0] rfl ?_
  exact hk2 M' (upd g 70 (f1 (D.1 14) (D.1 15) D.2.1 N.2.2.2.2.2 (mAim (D.1 14) (D.1 15) D.2.1 N.2.2.2.2.2.1 (nI N.2.1)) (nI u)).2.1) (mMin (D.1 14) (D.1 15) D.2.1 S (mAim (D.1 14) (D.1 15) D.2.1 N.2.2.2.2.2.1 (nI N.2.1)) (nI u)) he2 (n4 nt mi (nI u) (f1 (D.1 14) (D.1 15) D.2.1 N.2.2.2.2.2 (mAim (D.1 14) (D.1 15) D.2.1 N.2.2.2.2.2.1 (nI N.2.1)) (nI u)).2.1 (f1 (D.1 14) (D.1 15) D.2.1 N.2.2.2.2.2 (mAim (D.1 14) (D.1 15) D.2.1 N.2.2.2.2.2.1 (nI N.2.1)) (nI u)).2.2 (nI (nWrk D.1 D.2.2.2.2.2.1 N).2.2.2.1)) (mFr_u mFr_r (by decide)) hs2 (by rw [hwu, hnB]; rfl)
