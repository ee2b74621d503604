/-! ===== the reference: go ===== -/
theorem mFr_r {S : List Nat} {g : Nat → Int32} : mFr S g g := fun _ _ => rfl
theorem mFr_u {S : List Nat} {g g' : Nat → Int32} {k : Nat} {v : Int32} (h : mFr S g g') (hk : k ∈ S) : mFr S g (upd g' k v) := fun j hj => by
  show (if j = k then v else g' j) = g j
  rw [if_neg (fun e => hj (by rw [e]; exact hk))]
  exact h j hj
section
variable {b : Nat → Nat} {n L p q : Nat}
theorem mQ_1 (hp : p ≤ n) (hq : lSk b n (n - p) p = q) (hqn : q < n) (h : ¬ (L < n ∧ L ≤ q)) : lSk b (min n L) (min n L - p) p = q ∧ q < min n L := by
  by_cases hL : L < n
  · have h1 := (lSk_n (b := b) (n := n) (L := L) (by omega) (n - p) p (by omega)).1 (by rw [hq]; omega)
    rw [Nat.min_eq_right (by omega)]
    exact ⟨h1.trans hq, by omega⟩
  · rw [Nat.min_eq_left (by omega)]
    exact ⟨hq, hqn⟩
theorem mQ_2 (hp : p ≤ n) (hq : lSk b n (n - p) p = q) (hL : L < n) (h : L ≤ q) (v : Nat) : lAt b n (min n L) (lSk b (min n L) (min n L - p) p) v = (0, L, L, v, none) := by
  have h1 := (lSk_n (b := b) (n := n) (L := L) (by omega) (n - p) p (by omega)).2 (by rw [hq]; exact h)
  rw [Nat.min_eq_right (by omega), lAt, if_pos h1]
theorem mQ_3 (hp : p ≤ n) (hq : lSk b n (n - p) p = q) (hqn : n ≤ q) (h : ¬ (L < n ∧ L ≤ q)) (v : Nat) : lAt b n (min n L) (lSk b (min n L) (min n L - p) p) v = (0, n, n, v, none) ∧ n ≤ L ∧ q = n := by
  have h2 := (lSk_le (b := b) (st := n) (n - p) p).1
  rw [hq] at h2
  have hnL : n ≤ L := by omega
  rw [Nat.min_eq_left hnL, lAt, hq, if_pos hqn]
  exact ⟨rfl, hnL, by omega⟩
theorem lTk_w {K : Nat} (hl : ∀ j, j < K → isL (b (q + j)) = true) (h6 : K ≤ 6) : lTk b q (q + K) = (2, q, q + K, lSp b q K, wOf (nI (lSp b q K))) := by
  have h1 := lDg_0 K hl
  have h2 := lLt_le b q K
  rw [lTk, show q + K - q = K by omega, if_pos h1, if_neg (by omega)]
theorem lTk_n {K : Nat} (hK : 1 ≤ K) (hl : ∀ j, j < K → isL (b (q + j)) = false) (h8 : K ≤ 8) : lTk b q (q + K) = (3, q, q + K, lNm b q K, none) := by
  have h1 := lLt_0 K hl
  have h2 := lLt_le b q K
  rw [lTk, show q + K - q = K by omega, if_neg (by omega), if_pos h1, if_neg (by omega)]
theorem lTk_1 {K : Nat} (hK : 1 ≤ K) (h : mGd b q K = false ∨ (mGd b q K = true ∧ isL (b q) = true ∧ 6 < K) ∨ (mGd b q K = true ∧ isL (b q) = false ∧ 8 < K)) : lTk b q (q + K) = (1, q, q + K, lNm b q K, none) := by
  have h2 := lLt_le b q K
  rw [lTk, show q + K - q = K by omega]
  rcases h with h | h | h
  · obtain ⟨j, hj, e⟩ := mGd_f K h
    have a1 : ¬ lDg b q K = 0 := fun hz => by
      have e1 := lDg_L b q K hz j hj
      have e2 := lDg_L b q K hz 0 (by omega)
      rw [Nat.add_zero] at e2
      exact e (by rw [e1, e2])
    have a2 : ¬ lLt b q K = 0 := fun hz => by
      have e1 := lLt_D b q K hz j hj
      have e2 := lLt_D b q K hz 0 (by omega)
      rw [Nat.add_zero] at e2
      exact e (by rw [Bool.eq_false_iff.mpr e1, Bool.eq_false_iff.mpr e2])
    rw [if_neg a1, if_neg a2]
  · have h1 := lDg_0 K (fun j hj => (mGd_t K h.1 j hj).trans h.2.1)
    rw [if_pos h1, if_pos (by omega)]
  · have h1 := lLt_0 K (fun j hj => (mGd_t K h.1 j hj).trans h.2.1)
    rw [if_neg (by omega), if_pos h1, if_pos (by omega)]
end
theorem zbI_i {a c : Bool} (h : bI a = bI c) : a = c := by
  cases a <;> cases c <;> first | rfl | exact absurd h (by decide)
set_option maxRecDepth 100000 in
theorem lp_mrun {l : Launch} {dd : Nat} {Po : zPo} {K0 : zK} {h0 : List va_E} {Xo : zK → Prop} {Gc : zG → Prop} (mo : Nat) (e : Nat → Nat) (g : Nat → Int32) (w : Int64) (n L : Nat) (bt : Nat → Nat) (q : Nat) (hd : 1 ≤ dd) (hn : n ≤ 740) (hL : L ≤ 740) (hbt : ∀ j, bt j < 256) (h3 : g 3 = nI n) (h4 : g 4 = nI L) (hq : q < n) (E : Nat) (hk : ∀ k, q + k = E → zS (l, mX13_go, dd, Po, K0, h0, Xo, Gc) 0 0 351 [(0, .ref mo), (1, .int (nI (bt q))), (2, .int (bI (isL (bt q)))), (3, .int (bI (mGd bt q k)))] [] [(mo, .inr (11, fMo e (upd (upd (upd g 5 (nI (q + k))) 6 (nI q)) 8 (mNb bt q k)) (mWd bt q k))), ((e 1), .inl (0, 740, .inl (nF bt)))]) : ∀ (m k : Nat), q + k + m = n → lRun bt n m (q + k) = E → zS (l, mX13_go, dd, Po, K0, h0, Xo, Gc) 0 0 215 [(0, .ref mo), (1, .int (nI (bt q))), (2, .int (bI (isL (bt q)))), (3, .int (bI (mGd bt q k)))] [] [(mo, .inr (11, fMo e (upd (upd (upd g 5 (nI (q + k))) 6 (nI q)) 8 (mNb bt q k)) (mWd bt q k))), ((e 1), .inl (0, 740, .inl (nF bt)))] := by
  intro m
  induction m with
  | zero =>
    intro k hm hE
    have hE : q + k = E := hE
    have hm0 : mBy bt n (q + k) = 0 := if_neg (by omega)
    refine zs_aload_n dX13_go_215 rfl rfl ?_
    refine zs_aload_n dX13_go_216 rfl rfl ?_
    refine zs_get 0 dX13_go_217 zf_RX13_161 rfl (v := .int (nI (q + k))) rfl ?_
    refine zs_callV (M := mX13_byteAt) (As := [.int (nI (q + k))]) (st := []) (Kc := [(mo, .inr (11, fMo e (upd (upd (upd g 5 (nI (q + k))) 6 (nI q)) 8 (mNb bt q k)) (mWd bt q k))), ((e 1), .inl (0, 740, .inl (nF bt)))]) (Kr := []) [0, 1] [] 0 dX13_go_220 zl_RX13_190 kX13_byteAt rfl rfl rfl rfl rfl (by decide) rfl rfl (show dd - 1 + 1 ≤ dd by omega) (Nat.zero_le _) (Nat.zero_le _) (Nat.le_of_ble_eq_true rfl) (s_mByteAt l (dd - 1) mo e (upd (upd (upd g 5 (nI (q + k))) 6 (nI q)) 8 (mNb bt q k)) (mWd bt q k) n (q + k) bt hn (by omega) h3) (fun r K1 hr => ?_)
    obtain ⟨rfl, rfl⟩ := hr
    refine zs_K (K' := [(mo, .inr (11, fMo e (upd (upd (upd g 5 (nI (q + k))) 6 (nI q)) 8 (mNb bt q k)) (mWd bt q k))), ((e 1), .inl (0, 740, .inl (nF bt)))]) [0, 1] rfl (by decide) ?_
    refine zs_callS (M := mX13_isLetter) (As := [.int (nI (mBy bt n (q + k)))]) (st := []) (Kc := []) (Kr := [(mo, .inr (11, fMo e (upd (upd (upd g 5 (nI (q + k))) 6 (nI q)) 8 (mNb bt q k)) (mWd bt q k))), ((e 1), .inl (0, 740, .inl (nF bt)))]) [] [0, 1] dX13_go_223 zl_RX13_173 kX13_isLetter rfl rfl rfl rfl rfl (by decide) (show dd - 1 + 1 ≤ dd by omega) (Nat.zero_le _) (Nat.zero_le _) (Nat.le_of_ble_eq_true rfl) (s_mIsL l (dd - 1) (mBy bt n (q + k)) (mBy_lt hbt)) (fun r K1 hr => ?_)
    obtain ⟨rfl, rfl⟩ := hr
    refine zs_K (K' := [(mo, .inr (11, fMo e (upd (upd (upd g 5 (nI (q + k))) 6 (nI q)) 8 (mNb bt q k)) (mWd bt q k))), ((e 1), .inl (0, 740, .inl (nF bt)))]) [0, 1] rfl (by decide) ?_
    refine zs_if_ne (tgt := 243) dX13_go_226 (by decide) (fun c_1 => ((c_1 (by rw [hm0]; rfl)) : False).elim) (fun c_1 => ?_)
    refine zs_aload_n dX13_go_229 rfl rfl ?_
    refine zs_aload_n dX13_go_230 rfl rfl ?_
    refine zs_get 0 dX13_go_231 zf_RX13_161 rfl (v := .int (nI (q + k))) rfl ?_
    refine zs_callV (M := mX13_byteAt) (As := [.int (nI (q + k))]) (st := []) (Kc := [(mo, .inr (11, fMo e (upd (upd (upd g 5 (nI (q + k))) 6 (nI q)) 8 (mNb bt q k)) (mWd bt q k))), ((e 1), .inl (0, 740, .inl (nF bt)))]) (Kr := []) [0, 1] [] 0 dX13_go_234 zl_RX13_190 kX13_byteAt rfl rfl rfl rfl rfl (by decide) rfl rfl (show dd - 1 + 1 ≤ dd by omega) (Nat.zero_le _) (Nat.zero_le _) (Nat.le_of_ble_eq_true rfl) (s_mByteAt l (dd - 1) mo e (upd (upd (upd g 5 (nI (q + k))) 6 (nI q)) 8 (mNb bt q k)) (mWd bt q k) n (q + k) bt hn (by omega) h3) (fun r K1 hr => ?_)
    obtain ⟨rfl, rfl⟩ := hr
    refine zs_K (K' := [(mo, .inr (11, fMo e (upd (upd (upd g 5 (nI (q + k))) 6 (nI q)) 8 (mNb bt q k)) (mWd bt q k))), ((e 1), .inl (0, 740, .inl (nF bt)))]) [0, 1] rfl (by decide) ?_
    refine zs_callS (M := mX13_isDigit) (As := [.int (nI (mBy bt n (q + k)))]) (st := []) (Kc := []) (Kr := [(mo, .inr (11, fMo e (upd (upd (upd g 5 (nI (q + k))) 6 (nI q)) 8 (mNb bt q k)) (mWd bt q k))), ((e 1), .inl (0, 740, .inl (nF bt)))]) [] [0, 1] dX13_go_237 zl_RX13_177 kX13_isDigit rfl rfl rfl rfl rfl (by decide) (show dd - 1 + 1 ≤ dd by omega) (Nat.zero_le _) (Nat.zero_le _) (Nat.le_of_ble_eq_true rfl) (s_mIsD l (dd - 1) (mBy bt n (q + k)) (mBy_lt hbt)) (fun r K1 hr => ?_)
    obtain ⟨rfl, rfl⟩ := hr
    refine zs_K (K' := [(mo, .inr (11, fMo e (upd (upd (upd g 5 (nI (q + k))) 6 (nI q)) 8 (mNb bt q k)) (mWd bt q k))), ((e 1), .inl (0, 740, .inl (nF bt)))]) [0, 1] rfl (by decide) ?_
    refine zs_if_eq (tgt := 351) dX13_go_240 (by decide) (fun c_2 => ?_) (fun c_2 => ((c_2 (by rw [hm0]; rfl)) : False).elim)
    refine zs_lv [0, 1, 2, 3] rfl ?_
    exact hk k hE
  | succ m ih =>
    intro k hm hE
    have hmb : mBy bt n (q + k) = bt (q + k) := if_pos (by omega)
    have hbk := hbt (q + k)
    refine zs_aload_n dX13_go_215 rfl rfl ?_
    refine zs_aload_n dX13_go_216 rfl rfl ?_
    refine zs_get 0 dX13_go_217 zf_RX13_161 rfl (v := .int (nI (q + k))) rfl ?_
    refine zs_callV (M := mX13_byteAt) (As := [.int (nI (q + k))]) (st := []) (Kc := [(mo, .inr (11, fMo e (upd (upd (upd g 5 (nI (q + k))) 6 (nI q)) 8 (mNb bt q k)) (mWd bt q k))), ((e 1), .inl (0, 740, .inl (nF bt)))]) (Kr := []) [0, 1] [] 0 dX13_go_220 zl_RX13_190 kX13_byteAt rfl rfl rfl rfl rfl (by decide) rfl rfl (show dd - 1 + 1 ≤ dd by omega) (Nat.zero_le _) (Nat.zero_le _) (Nat.le_of_ble_eq_true rfl) (s_mByteAt l (dd - 1) mo e (upd (upd (upd g 5 (nI (q + k))) 6 (nI q)) 8 (mNb bt q k)) (mWd bt q k) n (q + k) bt hn (by omega) h3) (fun r K1 hr => ?_)
    obtain ⟨rfl, rfl⟩ := hr
    refine zs_K (K' := [(mo, .inr (11, fMo e (upd (upd (upd g 5 (nI (q + k))) 6 (nI q)) 8 (mNb bt q k)) (mWd bt q k))), ((e 1), .inl (0, 740, .inl (nF bt)))]) [0, 1] rfl (by decide) ?_
    refine zs_callS (M := mX13_isLetter) (As := [.int (nI (mBy bt n (q + k)))]) (st := []) (Kc := []) (Kr := [(mo, .inr (11, fMo e (upd (upd (upd g 5 (nI (q + k))) 6 (nI q)) 8 (mNb bt q k)) (mWd bt q k))), ((e 1), .inl (0, 740, .inl (nF bt)))]) [] [0, 1] dX13_go_223 zl_RX13_173 kX13_isLetter rfl rfl rfl rfl rfl (by decide) (show dd - 1 + 1 ≤ dd by omega) (Nat.zero_le _) (Nat.zero_le _) (Nat.le_of_ble_eq_true rfl) (s_mIsL l (dd - 1) (mBy bt n (q + k)) (mBy_lt hbt)) (fun r K1 hr => ?_)
    obtain ⟨rfl, rfl⟩ := hr
    refine zs_K (K' := [(mo, .inr (11, fMo e (upd (upd (upd g 5 (nI (q + k))) 6 (nI q)) 8 (mNb bt q k)) (mWd bt q k))), ((e 1), .inl (0, 740, .inl (nF bt)))]) [0, 1] rfl (by decide) ?_
    refine zs_if_ne (tgt := 243) dX13_go_226 (by decide) (fun c_1 => ?_) (fun c_1 => ?_)
    · refine zs_aload_n dX13_go_243 rfl rfl ?_
      refine zs_get 0 dX13_go_244 zf_RX13_7 rfl (v := .ref (e 1)) rfl ?_
      refine zs_aload_n dX13_go_247 rfl rfl ?_
      refine zs_get 0 dX13_go_248 zf_RX13_161 rfl (v := .int (nI (q + k))) rfl ?_
      refine zs_iald 1 dX13_go_251 rfl (vp_in_nI (by omega) (by omega)) ?_
      refine zs_as (y := nI (bt (q + k))) (by rw [nI_c (n := q + k) (by omega)]; rfl) ?_
      refine zs_istore (lv' := [(4, .int (nI (bt (q + k)))), (0, .ref mo), (1, .int (nI (bt q))), (2, .int (bI (isL (bt q)))), (3, .int (bI (mGd bt q k)))]) dX13_go_252 (Nat.le_of_ble_eq_true rfl) rfl ?_
      refine zs_iload_n dX13_go_254 rfl ?_
      refine zs_if_eq (tgt := 271) dX13_go_255 (by decide) (fun c_2 => ?_) (fun c_2 => ?_)
      · refine zs_iconst (v := nI 0) dX13_go_271 (by decide) ?_
        refine zs_istore_n (lv' := [(3, .int (nI 0)), (4, .int (nI (bt (q + k)))), (0, .ref mo), (1, .int (nI (bt q))), (2, .int (bI (isL (bt q))))]) dX13_go_272 (Nat.le_of_ble_eq_true rfl) rfl ?_
        refine zs_aload_n dX13_go_273 rfl rfl ?_
        refine zs_get 0 dX13_go_274 zf_RX13_161 rfl (v := .int (nI (q + k))) rfl ?_
        refine zs_aload_n dX13_go_277 rfl rfl ?_
        refine zs_get 0 dX13_go_278 zf_RX13_164 rfl (v := .int (nI q)) rfl ?_
        refine zs_isub dX13_go_281 ?_
        refine zs_as (y := nI k) (by rw [nI_sub (by omega)]; exact congrArg nI (by omega)) ?_
        refine zs_bipush (v := nI 6) dX13_go_282 (by decide) ?_
        refine zs_icmp_ge (tgt := 307) dX13_go_284 (by decide) (fun c_3 => ?_) (fun c_3 => ?_)
        · have c_3 : 6 ≤ k := by have hc := c_3; rw [nI_le' (by omega) (by omega)] at hc; exact hc
          refine zs_aload_n dX13_go_307 rfl rfl ?_
          refine zs_get 0 dX13_go_308 zf_RX13_161 rfl (v := .int (nI (q + k))) rfl ?_
          refine zs_aload_n dX13_go_311 rfl rfl ?_
          refine zs_get 0 dX13_go_312 zf_RX13_164 rfl (v := .int (nI q)) rfl ?_
          refine zs_isub dX13_go_315 ?_
          refine zs_as (y := nI k) (by rw [nI_sub (by omega)]; exact congrArg nI (by omega)) ?_
          refine zs_bipush (v := nI 8) dX13_go_316 (by decide) ?_
          refine zs_icmp_ge (tgt := 338) dX13_go_318 (by decide) (fun c_4 => ?_) (fun c_4 => ?_)
          · have c_4 : 8 ≤ k := by have hc := c_4; rw [nI_le' (by omega) (by omega)] at hc; exact hc
            refine zs_aload_n dX13_go_338 rfl rfl ?_
            refine zs_dup dX13_go_339 rfl ?_
            refine zs_get 0 dX13_go_340 zf_RX13_161 rfl (v := .int (nI (q + k))) rfl ?_
            refine zs_iconst (v := nI 1) dX13_go_343 (by decide) ?_
            refine zs_iadd dX13_go_344 ?_
            refine zs_as (y := nI ((q + k) + 1)) (nI_add _ _) ?_
            refine zs_put 0 dX13_go_345 zf_RX13_161 rfl (Nat.le_of_ble_eq_true rfl) (zPv_i _) ?_
            show zS _ _ _ _ _ _ [(mo, .inr (11, fMo e (upd (upd (upd g 5 (nI ((q + k) + 1))) 6 (nI q)) 8 (mNb bt q k)) (mWd bt q k))), ((e 1), .inl (0, 740, .inl (nF bt)))]
            refine zs_goto (tgt := 215) dX13_go_348 (by decide) ?_
            refine zs_lv [2, 3, 4, 0] rfl ?_
            have hr := ih (k + 1) (by omega) (by rw [← hE, lRun, if_pos ⟨by omega, (by rw [← hmb, bI_t c_1]; rfl)⟩]; rfl)
            rw [show mWd bt q (k + 1) = _ from if_neg (show ¬ k < 6 by omega), show mNb bt q (k + 1) = _ from if_neg (show ¬ k < 8 by omega), show mGd bt q (k + 1) = false from by rw [mGd, bI_f c_2]; rfl] at hr
            exact hr
          · have c_4 : ¬ (8 ≤ k) := by have hc := c_4; rw [nI_le' (by omega) (by omega)] at hc; exact hc
            refine zs_aload_n dX13_go_321 rfl rfl ?_
            refine zs_bipush (v := nI 10) dX13_go_322 (by decide) ?_
            refine zs_aload_n dX13_go_324 rfl rfl ?_
            refine zs_get 0 dX13_go_325 zf_RX13_187 rfl (v := .int (mNb bt q k)) rfl ?_
            refine zs_imul dX13_go_328 ?_
            refine zs_iload dX13_go_329 rfl ?_
            refine zs_iadd dX13_go_331 ?_
            refine zs_bipush (v := nI 48) dX13_go_332 (by decide) ?_
            refine zs_isub dX13_go_334 ?_
            refine zs_put 0 dX13_go_335 zf_RX13_187 rfl (Nat.le_of_ble_eq_true rfl) (zPv_i _) ?_
            show zS _ _ _ _ _ _ [(mo, .inr (11, fMo e (upd (upd (upd g 5 (nI (q + k))) 6 (nI q)) 8 ((((nI 10) * (mNb bt q k)) + (nI (bt (q + k)))) - (nI 48))) (mWd bt q k))), ((e 1), .inl (0, 740, .inl (nF bt)))]
            refine zs_aload_n dX13_go_338 rfl rfl ?_
            refine zs_dup dX13_go_339 rfl ?_
            refine zs_get 0 dX13_go_340 zf_RX13_161 rfl (v := .int (nI (q + k))) rfl ?_
            refine zs_iconst (v := nI 1) dX13_go_343 (by decide) ?_
            refine zs_iadd dX13_go_344 ?_
            refine zs_as (y := nI ((q + k) + 1)) (nI_add _ _) ?_
            refine zs_put 0 dX13_go_345 zf_RX13_161 rfl (Nat.le_of_ble_eq_true rfl) (zPv_i _) ?_
            show zS _ _ _ _ _ _ [(mo, .inr (11, fMo e (upd (upd (upd g 5 (nI ((q + k) + 1))) 6 (nI q)) 8 ((((nI 10) * (mNb bt q k)) + (nI (bt (q + k)))) - (nI 48))) (mWd bt q k))), ((e 1), .inl (0, 740, .inl (nF bt)))]
            refine zs_goto (tgt := 215) dX13_go_348 (by decide) ?_
            refine zs_lv [2, 3, 4, 0] rfl ?_
            have hr := ih (k + 1) (by omega) (by rw [← hE, lRun, if_pos ⟨by omega, (by rw [← hmb, bI_t c_1]; rfl)⟩]; rfl)
            rw [show mWd bt q (k + 1) = _ from if_neg (show ¬ k < 6 by omega), show mNb bt q (k + 1) = _ from if_pos (show k < 8 by omega), show mGd bt q (k + 1) = false from by rw [mGd, bI_f c_2]; rfl] at hr
            exact hr
        · have c_3 : ¬ (6 ≤ k) := by have hc := c_3; rw [nI_le' (by omega) (by omega)] at hc; exact hc
          refine zs_aload_n dX13_go_287 rfl rfl ?_
          refine zs_ldc2 (v := 27) dX13_go_288 zkl_RX13_194 ?_
          refine zs_aload_n dX13_go_291 rfl rfl ?_
          refine zs_get 0 dX13_go_292 zf_RX13_183 rfl (v := .long (mWd bt q k)) rfl ?_
          refine zs_lmul dX13_go_295 ?_
          refine zs_iload dX13_go_296 rfl ?_
          refine zs_i2l (v := (nI (bt (q + k))).toInt64) dX13_go_298 rfl ?_
          refine zs_ladd dX13_go_299 ?_
          refine zs_ldc2 (v := 96) dX13_go_300 zkl_RX13_196 ?_
          refine zs_lsub dX13_go_303 ?_
          refine zs_put 0 dX13_go_304 zf_RX13_183 rfl (Nat.le_of_ble_eq_true rfl) (zPv_j _) ?_
          show zS _ _ _ _ _ _ [(mo, .inr (11, fMo e (upd (upd (upd g 5 (nI (q + k))) 6 (nI q)) 8 (mNb bt q k)) (((27 * (mWd bt q k)) + ((nI (bt (q + k))).toInt64)) - 96))), ((e 1), .inl (0, 740, .inl (nF bt)))]
          refine zs_aload_n dX13_go_307 rfl rfl ?_
          refine zs_get 0 dX13_go_308 zf_RX13_161 rfl (v := .int (nI (q + k))) rfl ?_
          refine zs_aload_n dX13_go_311 rfl rfl ?_
          refine zs_get 0 dX13_go_312 zf_RX13_164 rfl (v := .int (nI q)) rfl ?_
          refine zs_isub dX13_go_315 ?_
          refine zs_as (y := nI k) (by rw [nI_sub (by omega)]; exact congrArg nI (by omega)) ?_
          refine zs_bipush (v := nI 8) dX13_go_316 (by decide) ?_
          refine zs_icmp_ge (tgt := 338) dX13_go_318 (by decide) (fun c_5 => ?_) (fun c_5 => ?_)
          · have c_5 : 8 ≤ k := by have hc := c_5; rw [nI_le' (by omega) (by omega)] at hc; exact hc
            refine zs_aload_n dX13_go_338 rfl rfl ?_
            refine zs_dup dX13_go_339 rfl ?_
            refine zs_get 0 dX13_go_340 zf_RX13_161 rfl (v := .int (nI (q + k))) rfl ?_
            refine zs_iconst (v := nI 1) dX13_go_343 (by decide) ?_
            refine zs_iadd dX13_go_344 ?_
            refine zs_as (y := nI ((q + k) + 1)) (nI_add _ _) ?_
            refine zs_put 0 dX13_go_345 zf_RX13_161 rfl (Nat.le_of_ble_eq_true rfl) (zPv_i _) ?_
            show zS _ _ _ _ _ _ [(mo, .inr (11, fMo e (upd (upd (upd g 5 (nI ((q + k) + 1))) 6 (nI q)) 8 (mNb bt q k)) (((27 * (mWd bt q k)) + ((nI (bt (q + k))).toInt64)) - 96))), ((e 1), .inl (0, 740, .inl (nF bt)))]
            refine zs_goto (tgt := 215) dX13_go_348 (by decide) ?_
            refine zs_lv [2, 3, 4, 0] rfl ?_
            have hr := ih (k + 1) (by omega) (by rw [← hE, lRun, if_pos ⟨by omega, (by rw [← hmb, bI_t c_1]; rfl)⟩]; rfl)
            rw [show mWd bt q (k + 1) = _ from if_pos (show k < 6 by omega), show mNb bt q (k + 1) = _ from if_neg (show ¬ k < 8 by omega), show mGd bt q (k + 1) = false from by rw [mGd, bI_f c_2]; rfl] at hr
            exact hr
          · have c_5 : ¬ (8 ≤ k) := by have hc := c_5; rw [nI_le' (by omega) (by omega)] at hc; exact hc
            refine zs_aload_n dX13_go_321 rfl rfl ?_
            refine zs_bipush (v := nI 10) dX13_go_322 (by decide) ?_
            refine zs_aload_n dX13_go_324 rfl rfl ?_
            refine zs_get 0 dX13_go_325 zf_RX13_187 rfl (v := .int (mNb bt q k)) rfl ?_
            refine zs_imul dX13_go_328 ?_
            refine zs_iload dX13_go_329 rfl ?_
            refine zs_iadd dX13_go_331 ?_
            refine zs_bipush (v := nI 48) dX13_go_332 (by decide) ?_
            refine zs_isub dX13_go_334 ?_
            refine zs_put 0 dX13_go_335 zf_RX13_187 rfl (Nat.le_of_ble_eq_true rfl) (zPv_i _) ?_
            show zS _ _ _ _ _ _ [(mo, .inr (11, fMo e (upd (upd (upd g 5 (nI (q + k))) 6 (nI q)) 8 ((((nI 10) * (mNb bt q k)) + (nI (bt (q + k)))) - (nI 48))) (((27 * (mWd bt q k)) + ((nI (bt (q + k))).toInt64)) - 96))), ((e 1), .inl (0, 740, .inl (nF bt)))]
            refine zs_aload_n dX13_go_338 rfl rfl ?_
            refine zs_dup dX13_go_339 rfl ?_
            refine zs_get 0 dX13_go_340 zf_RX13_161 rfl (v := .int (nI (q + k))) rfl ?_
            refine zs_iconst (v := nI 1) dX13_go_343 (by decide) ?_
            refine zs_iadd dX13_go_344 ?_
            refine zs_as (y := nI ((q + k) + 1)) (nI_add _ _) ?_
            refine zs_put 0 dX13_go_345 zf_RX13_161 rfl (Nat.le_of_ble_eq_true rfl) (zPv_i _) ?_
            show zS _ _ _ _ _ _ [(mo, .inr (11, fMo e (upd (upd (upd g 5 (nI ((q + k) + 1))) 6 (nI q)) 8 ((((nI 10) * (mNb bt q k)) + (nI (bt (q + k)))) - (nI 48))) (((27 * (mWd bt q k)) + ((nI (bt (q + k))).toInt64)) - 96))), ((e 1), .inl (0, 740, .inl (nF bt)))]
            refine zs_goto (tgt := 215) dX13_go_348 (by decide) ?_
            refine zs_lv [2, 3, 4, 0] rfl ?_
            have hr := ih (k + 1) (by omega) (by rw [← hE, lRun, if_pos ⟨by omega, (by rw [← hmb, bI_t c_1]; rfl)⟩]; rfl)
            rw [show mWd bt q (k + 1) = _ from if_pos (show k < 6 by omega), show mNb bt q (k + 1) = _ from if_pos (show k < 8 by omega), show mGd bt q (k + 1) = false from by rw [mGd, bI_f c_2]; rfl] at hr
            exact hr
      · refine zs_iload dX13_go_258 rfl ?_
        refine zs_callS (M := mX13_isLetter) (As := [.int (nI (bt (q + k)))]) (st := []) (Kc := []) (Kr := [(mo, .inr (11, fMo e (upd (upd (upd g 5 (nI (q + k))) 6 (nI q)) 8 (mNb bt q k)) (mWd bt q k))), ((e 1), .inl (0, 740, .inl (nF bt)))]) [] [0, 1] dX13_go_260 zl_RX13_173 kX13_isLetter rfl rfl rfl rfl rfl (by decide) (show dd - 1 + 1 ≤ dd by omega) (Nat.zero_le _) (Nat.zero_le _) (Nat.le_of_ble_eq_true rfl) (s_mIsL l (dd - 1) (bt (q + k)) (hbt _)) (fun r K1 hr => ?_)
        obtain ⟨rfl, rfl⟩ := hr
        refine zs_K (K' := [(mo, .inr (11, fMo e (upd (upd (upd g 5 (nI (q + k))) 6 (nI q)) 8 (mNb bt q k)) (mWd bt q k))), ((e 1), .inl (0, 740, .inl (nF bt)))]) [0, 1] rfl (by decide) ?_
        refine zs_iload_n dX13_go_263 rfl ?_
        refine zs_icmp_ne (tgt := 271) dX13_go_264 (by decide) (fun c_6 => ?_) (fun c_6 => ?_)
        · refine zs_iconst (v := nI 0) dX13_go_271 (by decide) ?_
          refine zs_istore_n (lv' := [(3, .int (nI 0)), (4, .int (nI (bt (q + k)))), (0, .ref mo), (1, .int (nI (bt q))), (2, .int (bI (isL (bt q))))]) dX13_go_272 (Nat.le_of_ble_eq_true rfl) rfl ?_
          refine zs_aload_n dX13_go_273 rfl rfl ?_
          refine zs_get 0 dX13_go_274 zf_RX13_161 rfl (v := .int (nI (q + k))) rfl ?_
          refine zs_aload_n dX13_go_277 rfl rfl ?_
          refine zs_get 0 dX13_go_278 zf_RX13_164 rfl (v := .int (nI q)) rfl ?_
          refine zs_isub dX13_go_281 ?_
          refine zs_as (y := nI k) (by rw [nI_sub (by omega)]; exact congrArg nI (by omega)) ?_
          refine zs_bipush (v := nI 6) dX13_go_282 (by decide) ?_
          refine zs_icmp_ge (tgt := 307) dX13_go_284 (by decide) (fun c_7 => ?_) (fun c_7 => ?_)
          · have c_7 : 6 ≤ k := by have hc := c_7; rw [nI_le' (by omega) (by omega)] at hc; exact hc
            refine zs_aload_n dX13_go_307 rfl rfl ?_
            refine zs_get 0 dX13_go_308 zf_RX13_161 rfl (v := .int (nI (q + k))) rfl ?_
            refine zs_aload_n dX13_go_311 rfl rfl ?_
            refine zs_get 0 dX13_go_312 zf_RX13_164 rfl (v := .int (nI q)) rfl ?_
            refine zs_isub dX13_go_315 ?_
            refine zs_as (y := nI k) (by rw [nI_sub (by omega)]; exact congrArg nI (by omega)) ?_
            refine zs_bipush (v := nI 8) dX13_go_316 (by decide) ?_
            refine zs_icmp_ge (tgt := 338) dX13_go_318 (by decide) (fun c_8 => ?_) (fun c_8 => ?_)
            · have c_8 : 8 ≤ k := by have hc := c_8; rw [nI_le' (by omega) (by omega)] at hc; exact hc
              refine zs_aload_n dX13_go_338 rfl rfl ?_
              refine zs_dup dX13_go_339 rfl ?_
              refine zs_get 0 dX13_go_340 zf_RX13_161 rfl (v := .int (nI (q + k))) rfl ?_
              refine zs_iconst (v := nI 1) dX13_go_343 (by decide) ?_
              refine zs_iadd dX13_go_344 ?_
              refine zs_as (y := nI ((q + k) + 1)) (nI_add _ _) ?_
              refine zs_put 0 dX13_go_345 zf_RX13_161 rfl (Nat.le_of_ble_eq_true rfl) (zPv_i _) ?_
              show zS _ _ _ _ _ _ [(mo, .inr (11, fMo e (upd (upd (upd g 5 (nI ((q + k) + 1))) 6 (nI q)) 8 (mNb bt q k)) (mWd bt q k))), ((e 1), .inl (0, 740, .inl (nF bt)))]
              refine zs_goto (tgt := 215) dX13_go_348 (by decide) ?_
              refine zs_lv [2, 3, 4, 0] rfl ?_
              have hr := ih (k + 1) (by omega) (by rw [← hE, lRun, if_pos ⟨by omega, (by rw [← hmb, bI_t c_1]; rfl)⟩]; rfl)
              rw [show mWd bt q (k + 1) = _ from if_neg (show ¬ k < 6 by omega), show mNb bt q (k + 1) = _ from if_neg (show ¬ k < 8 by omega), show mGd bt q (k + 1) = false from by rw [mGd, show (isL (bt (q + k)) == isL (bt q)) = false from beq_false_of_ne (fun h => c_6 (by rw [h]))]; exact Bool.and_false _] at hr
              exact hr
            · have c_8 : ¬ (8 ≤ k) := by have hc := c_8; rw [nI_le' (by omega) (by omega)] at hc; exact hc
              refine zs_aload_n dX13_go_321 rfl rfl ?_
              refine zs_bipush (v := nI 10) dX13_go_322 (by decide) ?_
              refine zs_aload_n dX13_go_324 rfl rfl ?_
              refine zs_get 0 dX13_go_325 zf_RX13_187 rfl (v := .int (mNb bt q k)) rfl ?_
              refine zs_imul dX13_go_328 ?_
              refine zs_iload dX13_go_329 rfl ?_
              refine zs_iadd dX13_go_331 ?_
              refine zs_bipush (v := nI 48) dX13_go_332 (by decide) ?_
              refine zs_isub dX13_go_334 ?_
              refine zs_put 0 dX13_go_335 zf_RX13_187 rfl (Nat.le_of_ble_eq_true rfl) (zPv_i _) ?_
              show zS _ _ _ _ _ _ [(mo, .inr (11, fMo e (upd (upd (upd g 5 (nI (q + k))) 6 (nI q)) 8 ((((nI 10) * (mNb bt q k)) + (nI (bt (q + k)))) - (nI 48))) (mWd bt q k))), ((e 1), .inl (0, 740, .inl (nF bt)))]
              refine zs_aload_n dX13_go_338 rfl rfl ?_
              refine zs_dup dX13_go_339 rfl ?_
              refine zs_get 0 dX13_go_340 zf_RX13_161 rfl (v := .int (nI (q + k))) rfl ?_
              refine zs_iconst (v := nI 1) dX13_go_343 (by decide) ?_
              refine zs_iadd dX13_go_344 ?_
              refine zs_as (y := nI ((q + k) + 1)) (nI_add _ _) ?_
              refine zs_put 0 dX13_go_345 zf_RX13_161 rfl (Nat.le_of_ble_eq_true rfl) (zPv_i _) ?_
              show zS _ _ _ _ _ _ [(mo, .inr (11, fMo e (upd (upd (upd g 5 (nI ((q + k) + 1))) 6 (nI q)) 8 ((((nI 10) * (mNb bt q k)) + (nI (bt (q + k)))) - (nI 48))) (mWd bt q k))), ((e 1), .inl (0, 740, .inl (nF bt)))]
              refine zs_goto (tgt := 215) dX13_go_348 (by decide) ?_
              refine zs_lv [2, 3, 4, 0] rfl ?_
              have hr := ih (k + 1) (by omega) (by rw [← hE, lRun, if_pos ⟨by omega, (by rw [← hmb, bI_t c_1]; rfl)⟩]; rfl)
              rw [show mWd bt q (k + 1) = _ from if_neg (show ¬ k < 6 by omega), show mNb bt q (k + 1) = _ from if_pos (show k < 8 by omega), show mGd bt q (k + 1) = false from by rw [mGd, show (isL (bt (q + k)) == isL (bt q)) = false from beq_false_of_ne (fun h => c_6 (by rw [h]))]; exact Bool.and_false _] at hr
              exact hr
          · have c_7 : ¬ (6 ≤ k) := by have hc := c_7; rw [nI_le' (by omega) (by omega)] at hc; exact hc
            refine zs_aload_n dX13_go_287 rfl rfl ?_
            refine zs_ldc2 (v := 27) dX13_go_288 zkl_RX13_194 ?_
            refine zs_aload_n dX13_go_291 rfl rfl ?_
            refine zs_get 0 dX13_go_292 zf_RX13_183 rfl (v := .long (mWd bt q k)) rfl ?_
            refine zs_lmul dX13_go_295 ?_
            refine zs_iload dX13_go_296 rfl ?_
            refine zs_i2l (v := (nI (bt (q + k))).toInt64) dX13_go_298 rfl ?_
            refine zs_ladd dX13_go_299 ?_
            refine zs_ldc2 (v := 96) dX13_go_300 zkl_RX13_196 ?_
            refine zs_lsub dX13_go_303 ?_
            refine zs_put 0 dX13_go_304 zf_RX13_183 rfl (Nat.le_of_ble_eq_true rfl) (zPv_j _) ?_
            show zS _ _ _ _ _ _ [(mo, .inr (11, fMo e (upd (upd (upd g 5 (nI (q + k))) 6 (nI q)) 8 (mNb bt q k)) (((27 * (mWd bt q k)) + ((nI (bt (q + k))).toInt64)) - 96))), ((e 1), .inl (0, 740, .inl (nF bt)))]
            refine zs_aload_n dX13_go_307 rfl rfl ?_
            refine zs_get 0 dX13_go_308 zf_RX13_161 rfl (v := .int (nI (q + k))) rfl ?_
            refine zs_aload_n dX13_go_311 rfl rfl ?_
            refine zs_get 0 dX13_go_312 zf_RX13_164 rfl (v := .int (nI q)) rfl ?_
            refine zs_isub dX13_go_315 ?_
            refine zs_as (y := nI k) (by rw [nI_sub (by omega)]; exact congrArg nI (by omega)) ?_
            refine zs_bipush (v := nI 8) dX13_go_316 (by decide) ?_
            refine zs_icmp_ge (tgt := 338) dX13_go_318 (by decide) (fun c_9 => ?_) (fun c_9 => ?_)
            · have c_9 : 8 ≤ k := by have hc := c_9; rw [nI_le' (by omega) (by omega)] at hc; exact hc
              refine zs_aload_n dX13_go_338 rfl rfl ?_
              refine zs_dup dX13_go_339 rfl ?_
              refine zs_get 0 dX13_go_340 zf_RX13_161 rfl (v := .int (nI (q + k))) rfl ?_
              refine zs_iconst (v := nI 1) dX13_go_343 (by decide) ?_
              refine zs_iadd dX13_go_344 ?_
              refine zs_as (y := nI ((q + k) + 1)) (nI_add _ _) ?_
              refine zs_put 0 dX13_go_345 zf_RX13_161 rfl (Nat.le_of_ble_eq_true rfl) (zPv_i _) ?_
              show zS _ _ _ _ _ _ [(mo, .inr (11, fMo e (upd (upd (upd g 5 (nI ((q + k) + 1))) 6 (nI q)) 8 (mNb bt q k)) (((27 * (mWd bt q k)) + ((nI (bt (q + k))).toInt64)) - 96))), ((e 1), .inl (0, 740, .inl (nF bt)))]
              refine zs_goto (tgt := 215) dX13_go_348 (by decide) ?_
              refine zs_lv [2, 3, 4, 0] rfl ?_
              have hr := ih (k + 1) (by omega) (by rw [← hE, lRun, if_pos ⟨by omega, (by rw [← hmb, bI_t c_1]; rfl)⟩]; rfl)
              rw [show mWd bt q (k + 1) = _ from if_pos (show k < 6 by omega), show mNb bt q (k + 1) = _ from if_neg (show ¬ k < 8 by omega), show mGd bt q (k + 1) = false from by rw [mGd, show (isL (bt (q + k)) == isL (bt q)) = false from beq_false_of_ne (fun h => c_6 (by rw [h]))]; exact Bool.and_false _] at hr
              exact hr
            · have c_9 : ¬ (8 ≤ k) := by have hc := c_9; rw [nI_le' (by omega) (by omega)] at hc; exact hc
              refine zs_aload_n dX13_go_321 rfl rfl ?_
              refine zs_bipush (v := nI 10) dX13_go_322 (by decide) ?_
              refine zs_aload_n dX13_go_324 rfl rfl ?_
              refine zs_get 0 dX13_go_325 zf_RX13_187 rfl (v := .int (mNb bt q k)) rfl ?_
              refine zs_imul dX13_go_328 ?_
              refine zs_iload dX13_go_329 rfl ?_
              refine zs_iadd dX13_go_331 ?_
              refine zs_bipush (v := nI 48) dX13_go_332 (by decide) ?_
              refine zs_isub dX13_go_334 ?_
              refine zs_put 0 dX13_go_335 zf_RX13_187 rfl (Nat.le_of_ble_eq_true rfl) (zPv_i _) ?_
              show zS _ _ _ _ _ _ [(mo, .inr (11, fMo e (upd (upd (upd g 5 (nI (q + k))) 6 (nI q)) 8 ((((nI 10) * (mNb bt q k)) + (nI (bt (q + k)))) - (nI 48))) (((27 * (mWd bt q k)) + ((nI (bt (q + k))).toInt64)) - 96))), ((e 1), .inl (0, 740, .inl (nF bt)))]
              refine zs_aload_n dX13_go_338 rfl rfl ?_
              refine zs_dup dX13_go_339 rfl ?_
              refine zs_get 0 dX13_go_340 zf_RX13_161 rfl (v := .int (nI (q + k))) rfl ?_
              refine zs_iconst (v := nI 1) dX13_go_343 (by decide) ?_
              refine zs_iadd dX13_go_344 ?_
              refine zs_as (y := nI ((q + k) + 1)) (nI_add _ _) ?_
              refine zs_put 0 dX13_go_345 zf_RX13_161 rfl (Nat.le_of_ble_eq_true rfl) (zPv_i _) ?_
              show zS _ _ _ _ _ _ [(mo, .inr (11, fMo e (upd (upd (upd g 5 (nI ((q + k) + 1))) 6 (nI q)) 8 ((((nI 10) * (mNb bt q k)) + (nI (bt (q + k)))) - (nI 48))) (((27 * (mWd bt q k)) + ((nI (bt (q + k))).toInt64)) - 96))), ((e 1), .inl (0, 740, .inl (nF bt)))]
              refine zs_goto (tgt := 215) dX13_go_348 (by decide) ?_
              refine zs_lv [2, 3, 4, 0] rfl ?_
              have hr := ih (k + 1) (by omega) (by rw [← hE, lRun, if_pos ⟨by omega, (by rw [← hmb, bI_t c_1]; rfl)⟩]; rfl)
              rw [show mWd bt q (k + 1) = _ from if_pos (show k < 6 by omega), show mNb bt q (k + 1) = _ from if_pos (show k < 8 by omega), show mGd bt q (k + 1) = false from by rw [mGd, show (isL (bt (q + k)) == isL (bt q)) = false from beq_false_of_ne (fun h => c_6 (by rw [h]))]; exact Bool.and_false _] at hr
              exact hr
        · refine zs_iconst (v := nI 1) dX13_go_267 (by decide) ?_
          refine zs_goto (tgt := 272) dX13_go_268 (by decide) ?_
          refine zs_istore_n (lv' := [(3, .int (nI 1)), (4, .int (nI (bt (q + k)))), (0, .ref mo), (1, .int (nI (bt q))), (2, .int (bI (isL (bt q))))]) dX13_go_272 (Nat.le_of_ble_eq_true rfl) rfl ?_
          refine zs_aload_n dX13_go_273 rfl rfl ?_
          refine zs_get 0 dX13_go_274 zf_RX13_161 rfl (v := .int (nI (q + k))) rfl ?_
          refine zs_aload_n dX13_go_277 rfl rfl ?_
          refine zs_get 0 dX13_go_278 zf_RX13_164 rfl (v := .int (nI q)) rfl ?_
          refine zs_isub dX13_go_281 ?_
          refine zs_as (y := nI k) (by rw [nI_sub (by omega)]; exact congrArg nI (by omega)) ?_
          refine zs_bipush (v := nI 6) dX13_go_282 (by decide) ?_
          refine zs_icmp_ge (tgt := 307) dX13_go_284 (by decide) (fun c_10 => ?_) (fun c_10 => ?_)
          · have c_10 : 6 ≤ k := by have hc := c_10; rw [nI_le' (by omega) (by omega)] at hc; exact hc
            refine zs_aload_n dX13_go_307 rfl rfl ?_
            refine zs_get 0 dX13_go_308 zf_RX13_161 rfl (v := .int (nI (q + k))) rfl ?_
            refine zs_aload_n dX13_go_311 rfl rfl ?_
            refine zs_get 0 dX13_go_312 zf_RX13_164 rfl (v := .int (nI q)) rfl ?_
            refine zs_isub dX13_go_315 ?_
            refine zs_as (y := nI k) (by rw [nI_sub (by omega)]; exact congrArg nI (by omega)) ?_
            refine zs_bipush (v := nI 8) dX13_go_316 (by decide) ?_
            refine zs_icmp_ge (tgt := 338) dX13_go_318 (by decide) (fun c_11 => ?_) (fun c_11 => ?_)
            · have c_11 : 8 ≤ k := by have hc := c_11; rw [nI_le' (by omega) (by omega)] at hc; exact hc
              refine zs_aload_n dX13_go_338 rfl rfl ?_
              refine zs_dup dX13_go_339 rfl ?_
              refine zs_get 0 dX13_go_340 zf_RX13_161 rfl (v := .int (nI (q + k))) rfl ?_
              refine zs_iconst (v := nI 1) dX13_go_343 (by decide) ?_
              refine zs_iadd dX13_go_344 ?_
              refine zs_as (y := nI ((q + k) + 1)) (nI_add _ _) ?_
              refine zs_put 0 dX13_go_345 zf_RX13_161 rfl (Nat.le_of_ble_eq_true rfl) (zPv_i _) ?_
              show zS _ _ _ _ _ _ [(mo, .inr (11, fMo e (upd (upd (upd g 5 (nI ((q + k) + 1))) 6 (nI q)) 8 (mNb bt q k)) (mWd bt q k))), ((e 1), .inl (0, 740, .inl (nF bt)))]
              refine zs_goto (tgt := 215) dX13_go_348 (by decide) ?_
              refine zs_lv [2, 3, 4, 0] rfl ?_
              have hr := ih (k + 1) (by omega) (by rw [← hE, lRun, if_pos ⟨by omega, (by rw [← hmb, bI_t c_1]; rfl)⟩]; rfl)
              rw [show mWd bt q (k + 1) = _ from if_neg (show ¬ k < 6 by omega), show mNb bt q (k + 1) = _ from if_neg (show ¬ k < 8 by omega), show mGd bt q (k + 1) = true from by rw [mGd, bI_t c_2, zbI_i c_6, beq_self_eq_true]; rfl] at hr
              exact hr
            · have c_11 : ¬ (8 ≤ k) := by have hc := c_11; rw [nI_le' (by omega) (by omega)] at hc; exact hc
              refine zs_aload_n dX13_go_321 rfl rfl ?_
              refine zs_bipush (v := nI 10) dX13_go_322 (by decide) ?_
              refine zs_aload_n dX13_go_324 rfl rfl ?_
              refine zs_get 0 dX13_go_325 zf_RX13_187 rfl (v := .int (mNb bt q k)) rfl ?_
              refine zs_imul dX13_go_328 ?_
              refine zs_iload dX13_go_329 rfl ?_
              refine zs_iadd dX13_go_331 ?_
              refine zs_bipush (v := nI 48) dX13_go_332 (by decide) ?_
              refine zs_isub dX13_go_334 ?_
              refine zs_put 0 dX13_go_335 zf_RX13_187 rfl (Nat.le_of_ble_eq_true rfl) (zPv_i _) ?_
              show zS _ _ _ _ _ _ [(mo, .inr (11, fMo e (upd (upd (upd g 5 (nI (q + k))) 6 (nI q)) 8 ((((nI 10) * (mNb bt q k)) + (nI (bt (q + k)))) - (nI 48))) (mWd bt q k))), ((e 1), .inl (0, 740, .inl (nF bt)))]
              refine zs_aload_n dX13_go_338 rfl rfl ?_
              refine zs_dup dX13_go_339 rfl ?_
              refine zs_get 0 dX13_go_340 zf_RX13_161 rfl (v := .int (nI (q + k))) rfl ?_
              refine zs_iconst (v := nI 1) dX13_go_343 (by decide) ?_
              refine zs_iadd dX13_go_344 ?_
              refine zs_as (y := nI ((q + k) + 1)) (nI_add _ _) ?_
              refine zs_put 0 dX13_go_345 zf_RX13_161 rfl (Nat.le_of_ble_eq_true rfl) (zPv_i _) ?_
              show zS _ _ _ _ _ _ [(mo, .inr (11, fMo e (upd (upd (upd g 5 (nI ((q + k) + 1))) 6 (nI q)) 8 ((((nI 10) * (mNb bt q k)) + (nI (bt (q + k)))) - (nI 48))) (mWd bt q k))), ((e 1), .inl (0, 740, .inl (nF bt)))]
              refine zs_goto (tgt := 215) dX13_go_348 (by decide) ?_
              refine zs_lv [2, 3, 4, 0] rfl ?_
              have hr := ih (k + 1) (by omega) (by rw [← hE, lRun, if_pos ⟨by omega, (by rw [← hmb, bI_t c_1]; rfl)⟩]; rfl)
              rw [show mWd bt q (k + 1) = _ from if_neg (show ¬ k < 6 by omega), show mNb bt q (k + 1) = _ from if_pos (show k < 8 by omega), show mGd bt q (k + 1) = true from by rw [mGd, bI_t c_2, zbI_i c_6, beq_self_eq_true]; rfl] at hr
              exact hr
          · have c_10 : ¬ (6 ≤ k) := by have hc := c_10; rw [nI_le' (by omega) (by omega)] at hc; exact hc
            refine zs_aload_n dX13_go_287 rfl rfl ?_
            refine zs_ldc2 (v := 27) dX13_go_288 zkl_RX13_194 ?_
            refine zs_aload_n dX13_go_291 rfl rfl ?_
            refine zs_get 0 dX13_go_292 zf_RX13_183 rfl (v := .long (mWd bt q k)) rfl ?_
            refine zs_lmul dX13_go_295 ?_
            refine zs_iload dX13_go_296 rfl ?_
            refine zs_i2l (v := (nI (bt (q + k))).toInt64) dX13_go_298 rfl ?_
            refine zs_ladd dX13_go_299 ?_
            refine zs_ldc2 (v := 96) dX13_go_300 zkl_RX13_196 ?_
            refine zs_lsub dX13_go_303 ?_
            refine zs_put 0 dX13_go_304 zf_RX13_183 rfl (Nat.le_of_ble_eq_true rfl) (zPv_j _) ?_
            show zS _ _ _ _ _ _ [(mo, .inr (11, fMo e (upd (upd (upd g 5 (nI (q + k))) 6 (nI q)) 8 (mNb bt q k)) (((27 * (mWd bt q k)) + ((nI (bt (q + k))).toInt64)) - 96))), ((e 1), .inl (0, 740, .inl (nF bt)))]
            refine zs_aload_n dX13_go_307 rfl rfl ?_
            refine zs_get 0 dX13_go_308 zf_RX13_161 rfl (v := .int (nI (q + k))) rfl ?_
            refine zs_aload_n dX13_go_311 rfl rfl ?_
            refine zs_get 0 dX13_go_312 zf_RX13_164 rfl (v := .int (nI q)) rfl ?_
            refine zs_isub dX13_go_315 ?_
            refine zs_as (y := nI k) (by rw [nI_sub (by omega)]; exact congrArg nI (by omega)) ?_
            refine zs_bipush (v := nI 8) dX13_go_316 (by decide) ?_
            refine zs_icmp_ge (tgt := 338) dX13_go_318 (by decide) (fun c_12 => ?_) (fun c_12 => ?_)
            · have c_12 : 8 ≤ k := by have hc := c_12; rw [nI_le' (by omega) (by omega)] at hc; exact hc
              refine zs_aload_n dX13_go_338 rfl rfl ?_
              refine zs_dup dX13_go_339 rfl ?_
              refine zs_get 0 dX13_go_340 zf_RX13_161 rfl (v := .int (nI (q + k))) rfl ?_
              refine zs_iconst (v := nI 1) dX13_go_343 (by decide) ?_
              refine zs_iadd dX13_go_344 ?_
              refine zs_as (y := nI ((q + k) + 1)) (nI_add _ _) ?_
              refine zs_put 0 dX13_go_345 zf_RX13_161 rfl (Nat.le_of_ble_eq_true rfl) (zPv_i _) ?_
              show zS _ _ _ _ _ _ [(mo, .inr (11, fMo e (upd (upd (upd g 5 (nI ((q + k) + 1))) 6 (nI q)) 8 (mNb bt q k)) (((27 * (mWd bt q k)) + ((nI (bt (q + k))).toInt64)) - 96))), ((e 1), .inl (0, 740, .inl (nF bt)))]
              refine zs_goto (tgt := 215) dX13_go_348 (by decide) ?_
              refine zs_lv [2, 3, 4, 0] rfl ?_
              have hr := ih (k + 1) (by omega) (by rw [← hE, lRun, if_pos ⟨by omega, (by rw [← hmb, bI_t c_1]; rfl)⟩]; rfl)
              rw [show mWd bt q (k + 1) = _ from if_pos (show k < 6 by omega), show mNb bt q (k + 1) = _ from if_neg (show ¬ k < 8 by omega), show mGd bt q (k + 1) = true from by rw [mGd, bI_t c_2, zbI_i c_6, beq_self_eq_true]; rfl] at hr
              exact hr
            · have c_12 : ¬ (8 ≤ k) := by have hc := c_12; rw [nI_le' (by omega) (by omega)] at hc; exact hc
              refine zs_aload_n dX13_go_321 rfl rfl ?_
              refine zs_bipush (v := nI 10) dX13_go_322 (by decide) ?_
              refine zs_aload_n dX13_go_324 rfl rfl ?_
              refine zs_get 0 dX13_go_325 zf_RX13_187 rfl (v := .int (mNb bt q k)) rfl ?_
              refine zs_imul dX13_go_328 ?_
              refine zs_iload dX13_go_329 rfl ?_
              refine zs_iadd dX13_go_331 ?_
              refine zs_bipush (v := nI 48) dX13_go_332 (by decide) ?_
              refine zs_isub dX13_go_334 ?_
              refine zs_put 0 dX13_go_335 zf_RX13_187 rfl (Nat.le_of_ble_eq_true rfl) (zPv_i _) ?_
              show zS _ _ _ _ _ _ [(mo, .inr (11, fMo e (upd (upd (upd g 5 (nI (q + k))) 6 (nI q)) 8 ((((nI 10) * (mNb bt q k)) + (nI (bt (q + k)))) - (nI 48))) (((27 * (mWd bt q k)) + ((nI (bt (q + k))).toInt64)) - 96))), ((e 1), .inl (0, 740, .inl (nF bt)))]
              refine zs_aload_n dX13_go_338 rfl rfl ?_
              refine zs_dup dX13_go_339 rfl ?_
              refine zs_get 0 dX13_go_340 zf_RX13_161 rfl (v := .int (nI (q + k))) rfl ?_
              refine zs_iconst (v := nI 1) dX13_go_343 (by decide) ?_
              refine zs_iadd dX13_go_344 ?_
              refine zs_as (y := nI ((q + k) + 1)) (nI_add _ _) ?_
              refine zs_put 0 dX13_go_345 zf_RX13_161 rfl (Nat.le_of_ble_eq_true rfl) (zPv_i _) ?_
              show zS _ _ _ _ _ _ [(mo, .inr (11, fMo e (upd (upd (upd g 5 (nI ((q + k) + 1))) 6 (nI q)) 8 ((((nI 10) * (mNb bt q k)) + (nI (bt (q + k)))) - (nI 48))) (((27 * (mWd bt q k)) + ((nI (bt (q + k))).toInt64)) - 96))), ((e 1), .inl (0, 740, .inl (nF bt)))]
              refine zs_goto (tgt := 215) dX13_go_348 (by decide) ?_
              refine zs_lv [2, 3, 4, 0] rfl ?_
              have hr := ih (k + 1) (by omega) (by rw [← hE, lRun, if_pos ⟨by omega, (by rw [← hmb, bI_t c_1]; rfl)⟩]; rfl)
              rw [show mWd bt q (k + 1) = _ from if_pos (show k < 6 by omega), show mNb bt q (k + 1) = _ from if_pos (show k < 8 by omega), show mGd bt q (k + 1) = true from by rw [mGd, bI_t c_2, zbI_i c_6, beq_self_eq_true]; rfl] at hr
              exact hr
    · refine zs_aload_n dX13_go_229 rfl rfl ?_
      refine zs_aload_n dX13_go_230 rfl rfl ?_
      refine zs_get 0 dX13_go_231 zf_RX13_161 rfl (v := .int (nI (q + k))) rfl ?_
      refine zs_callV (M := mX13_byteAt) (As := [.int (nI (q + k))]) (st := []) (Kc := [(mo, .inr (11, fMo e (upd (upd (upd g 5 (nI (q + k))) 6 (nI q)) 8 (mNb bt q k)) (mWd bt q k))), ((e 1), .inl (0, 740, .inl (nF bt)))]) (Kr := []) [0, 1] [] 0 dX13_go_234 zl_RX13_190 kX13_byteAt rfl rfl rfl rfl rfl (by decide) rfl rfl (show dd - 1 + 1 ≤ dd by omega) (Nat.zero_le _) (Nat.zero_le _) (Nat.le_of_ble_eq_true rfl) (s_mByteAt l (dd - 1) mo e (upd (upd (upd g 5 (nI (q + k))) 6 (nI q)) 8 (mNb bt q k)) (mWd bt q k) n (q + k) bt hn (by omega) h3) (fun r K1 hr => ?_)
      obtain ⟨rfl, rfl⟩ := hr
      refine zs_K (K' := [(mo, .inr (11, fMo e (upd (upd (upd g 5 (nI (q + k))) 6 (nI q)) 8 (mNb bt q k)) (mWd bt q k))), ((e 1), .inl (0, 740, .inl (nF bt)))]) [0, 1] rfl (by decide) ?_
      refine zs_callS (M := mX13_isDigit) (As := [.int (nI (mBy bt n (q + k)))]) (st := []) (Kc := []) (Kr := [(mo, .inr (11, fMo e (upd (upd (upd g 5 (nI (q + k))) 6 (nI q)) 8 (mNb bt q k)) (mWd bt q k))), ((e 1), .inl (0, 740, .inl (nF bt)))]) [] [0, 1] dX13_go_237 zl_RX13_177 kX13_isDigit rfl rfl rfl rfl rfl (by decide) (show dd - 1 + 1 ≤ dd by omega) (Nat.zero_le _) (Nat.zero_le _) (Nat.le_of_ble_eq_true rfl) (s_mIsD l (dd - 1) (mBy bt n (q + k)) (mBy_lt hbt)) (fun r K1 hr => ?_)
      obtain ⟨rfl, rfl⟩ := hr
      refine zs_K (K' := [(mo, .inr (11, fMo e (upd (upd (upd g 5 (nI (q + k))) 6 (nI q)) 8 (mNb bt q k)) (mWd bt q k))), ((e 1), .inl (0, 740, .inl (nF bt)))]) [0, 1] rfl (by decide) ?_
      refine zs_if_eq (tgt := 351) dX13_go_240 (by decide) (fun c_13 => ?_) (fun c_13 => ?_)
      · refine zs_lv [0, 1, 2, 3] rfl ?_
        exact hk k (by rw [← hE, lRun, if_neg (fun h => by have h2 := h.2; rw [hmb] at c_1 c_13; rw [bI_f c_1, bI_f c_13] at h2; exact absurd h2 (by decide))])
      · refine zs_aload_n dX13_go_243 rfl rfl ?_
        refine zs_get 0 dX13_go_244 zf_RX13_7 rfl (v := .ref (e 1)) rfl ?_
        refine zs_aload_n dX13_go_247 rfl rfl ?_
        refine zs_get 0 dX13_go_248 zf_RX13_161 rfl (v := .int (nI (q + k))) rfl ?_
        refine zs_iald 1 dX13_go_251 rfl (vp_in_nI (by omega) (by omega)) ?_
        refine zs_as (y := nI (bt (q + k))) (by rw [nI_c (n := q + k) (by omega)]; rfl) ?_
        refine zs_istore (lv' := [(4, .int (nI (bt (q + k)))), (0, .ref mo), (1, .int (nI (bt q))), (2, .int (bI (isL (bt q)))), (3, .int (bI (mGd bt q k)))]) dX13_go_252 (Nat.le_of_ble_eq_true rfl) rfl ?_
        refine zs_iload_n dX13_go_254 rfl ?_
        refine zs_if_eq (tgt := 271) dX13_go_255 (by decide) (fun c_14 => ?_) (fun c_14 => ?_)
        · refine zs_iconst (v := nI 0) dX13_go_271 (by decide) ?_
          refine zs_istore_n (lv' := [(3, .int (nI 0)), (4, .int (nI (bt (q + k)))), (0, .ref mo), (1, .int (nI (bt q))), (2, .int (bI (isL (bt q))))]) dX13_go_272 (Nat.le_of_ble_eq_true rfl) rfl ?_
          refine zs_aload_n dX13_go_273 rfl rfl ?_
          refine zs_get 0 dX13_go_274 zf_RX13_161 rfl (v := .int (nI (q + k))) rfl ?_
          refine zs_aload_n dX13_go_277 rfl rfl ?_
          refine zs_get 0 dX13_go_278 zf_RX13_164 rfl (v := .int (nI q)) rfl ?_
          refine zs_isub dX13_go_281 ?_
          refine zs_as (y := nI k) (by rw [nI_sub (by omega)]; exact congrArg nI (by omega)) ?_
          refine zs_bipush (v := nI 6) dX13_go_282 (by decide) ?_
          refine zs_icmp_ge (tgt := 307) dX13_go_284 (by decide) (fun c_15 => ?_) (fun c_15 => ?_)
          · have c_15 : 6 ≤ k := by have hc := c_15; rw [nI_le' (by omega) (by omega)] at hc; exact hc
            refine zs_aload_n dX13_go_307 rfl rfl ?_
            refine zs_get 0 dX13_go_308 zf_RX13_161 rfl (v := .int (nI (q + k))) rfl ?_
            refine zs_aload_n dX13_go_311 rfl rfl ?_
            refine zs_get 0 dX13_go_312 zf_RX13_164 rfl (v := .int (nI q)) rfl ?_
            refine zs_isub dX13_go_315 ?_
            refine zs_as (y := nI k) (by rw [nI_sub (by omega)]; exact congrArg nI (by omega)) ?_
            refine zs_bipush (v := nI 8) dX13_go_316 (by decide) ?_
            refine zs_icmp_ge (tgt := 338) dX13_go_318 (by decide) (fun c_16 => ?_) (fun c_16 => ?_)
            · have c_16 : 8 ≤ k := by have hc := c_16; rw [nI_le' (by omega) (by omega)] at hc; exact hc
              refine zs_aload_n dX13_go_338 rfl rfl ?_
              refine zs_dup dX13_go_339 rfl ?_
              refine zs_get 0 dX13_go_340 zf_RX13_161 rfl (v := .int (nI (q + k))) rfl ?_
              refine zs_iconst (v := nI 1) dX13_go_343 (by decide) ?_
              refine zs_iadd dX13_go_344 ?_
              refine zs_as (y := nI ((q + k) + 1)) (nI_add _ _) ?_
              refine zs_put 0 dX13_go_345 zf_RX13_161 rfl (Nat.le_of_ble_eq_true rfl) (zPv_i _) ?_
              show zS _ _ _ _ _ _ [(mo, .inr (11, fMo e (upd (upd (upd g 5 (nI ((q + k) + 1))) 6 (nI q)) 8 (mNb bt q k)) (mWd bt q k))), ((e 1), .inl (0, 740, .inl (nF bt)))]
              refine zs_goto (tgt := 215) dX13_go_348 (by decide) ?_
              refine zs_lv [2, 3, 4, 0] rfl ?_
              have hr := ih (k + 1) (by omega) (by rw [← hE, lRun, if_pos ⟨by omega, (by rw [← hmb, bI_t c_13, Bool.or_true])⟩]; rfl)
              rw [show mWd bt q (k + 1) = _ from if_neg (show ¬ k < 6 by omega), show mNb bt q (k + 1) = _ from if_neg (show ¬ k < 8 by omega), show mGd bt q (k + 1) = false from by rw [mGd, bI_f c_14]; rfl] at hr
              exact hr
            · have c_16 : ¬ (8 ≤ k) := by have hc := c_16; rw [nI_le' (by omega) (by omega)] at hc; exact hc
              refine zs_aload_n dX13_go_321 rfl rfl ?_
              refine zs_bipush (v := nI 10) dX13_go_322 (by decide) ?_
              refine zs_aload_n dX13_go_324 rfl rfl ?_
              refine zs_get 0 dX13_go_325 zf_RX13_187 rfl (v := .int (mNb bt q k)) rfl ?_
              refine zs_imul dX13_go_328 ?_
              refine zs_iload dX13_go_329 rfl ?_
              refine zs_iadd dX13_go_331 ?_
              refine zs_bipush (v := nI 48) dX13_go_332 (by decide) ?_
              refine zs_isub dX13_go_334 ?_
              refine zs_put 0 dX13_go_335 zf_RX13_187 rfl (Nat.le_of_ble_eq_true rfl) (zPv_i _) ?_
              show zS _ _ _ _ _ _ [(mo, .inr (11, fMo e (upd (upd (upd g 5 (nI (q + k))) 6 (nI q)) 8 ((((nI 10) * (mNb bt q k)) + (nI (bt (q + k)))) - (nI 48))) (mWd bt q k))), ((e 1), .inl (0, 740, .inl (nF bt)))]
              refine zs_aload_n dX13_go_338 rfl rfl ?_
              refine zs_dup dX13_go_339 rfl ?_
              refine zs_get 0 dX13_go_340 zf_RX13_161 rfl (v := .int (nI (q + k))) rfl ?_
              refine zs_iconst (v := nI 1) dX13_go_343 (by decide) ?_
              refine zs_iadd dX13_go_344 ?_
              refine zs_as (y := nI ((q + k) + 1)) (nI_add _ _) ?_
              refine zs_put 0 dX13_go_345 zf_RX13_161 rfl (Nat.le_of_ble_eq_true rfl) (zPv_i _) ?_
              show zS _ _ _ _ _ _ [(mo, .inr (11, fMo e (upd (upd (upd g 5 (nI ((q + k) + 1))) 6 (nI q)) 8 ((((nI 10) * (mNb bt q k)) + (nI (bt (q + k)))) - (nI 48))) (mWd bt q k))), ((e 1), .inl (0, 740, .inl (nF bt)))]
              refine zs_goto (tgt := 215) dX13_go_348 (by decide) ?_
              refine zs_lv [2, 3, 4, 0] rfl ?_
              have hr := ih (k + 1) (by omega) (by rw [← hE, lRun, if_pos ⟨by omega, (by rw [← hmb, bI_t c_13, Bool.or_true])⟩]; rfl)
              rw [show mWd bt q (k + 1) = _ from if_neg (show ¬ k < 6 by omega), show mNb bt q (k + 1) = _ from if_pos (show k < 8 by omega), show mGd bt q (k + 1) = false from by rw [mGd, bI_f c_14]; rfl] at hr
              exact hr
          · have c_15 : ¬ (6 ≤ k) := by have hc := c_15; rw [nI_le' (by omega) (by omega)] at hc; exact hc
            refine zs_aload_n dX13_go_287 rfl rfl ?_
            refine zs_ldc2 (v := 27) dX13_go_288 zkl_RX13_194 ?_
            refine zs_aload_n dX13_go_291 rfl rfl ?_
            refine zs_get 0 dX13_go_292 zf_RX13_183 rfl (v := .long (mWd bt q k)) rfl ?_
            refine zs_lmul dX13_go_295 ?_
            refine zs_iload dX13_go_296 rfl ?_
            refine zs_i2l (v := (nI (bt (q + k))).toInt64) dX13_go_298 rfl ?_
            refine zs_ladd dX13_go_299 ?_
            refine zs_ldc2 (v := 96) dX13_go_300 zkl_RX13_196 ?_
            refine zs_lsub dX13_go_303 ?_
            refine zs_put 0 dX13_go_304 zf_RX13_183 rfl (Nat.le_of_ble_eq_true rfl) (zPv_j _) ?_
            show zS _ _ _ _ _ _ [(mo, .inr (11, fMo e (upd (upd (upd g 5 (nI (q + k))) 6 (nI q)) 8 (mNb bt q k)) (((27 * (mWd bt q k)) + ((nI (bt (q + k))).toInt64)) - 96))), ((e 1), .inl (0, 740, .inl (nF bt)))]
            refine zs_aload_n dX13_go_307 rfl rfl ?_
            refine zs_get 0 dX13_go_308 zf_RX13_161 rfl (v := .int (nI (q + k))) rfl ?_
            refine zs_aload_n dX13_go_311 rfl rfl ?_
            refine zs_get 0 dX13_go_312 zf_RX13_164 rfl (v := .int (nI q)) rfl ?_
            refine zs_isub dX13_go_315 ?_
            refine zs_as (y := nI k) (by rw [nI_sub (by omega)]; exact congrArg nI (by omega)) ?_
            refine zs_bipush (v := nI 8) dX13_go_316 (by decide) ?_
            refine zs_icmp_ge (tgt := 338) dX13_go_318 (by decide) (fun c_17 => ?_) (fun c_17 => ?_)
            · have c_17 : 8 ≤ k := by have hc := c_17; rw [nI_le' (by omega) (by omega)] at hc; exact hc
              refine zs_aload_n dX13_go_338 rfl rfl ?_
              refine zs_dup dX13_go_339 rfl ?_
              refine zs_get 0 dX13_go_340 zf_RX13_161 rfl (v := .int (nI (q + k))) rfl ?_
              refine zs_iconst (v := nI 1) dX13_go_343 (by decide) ?_
              refine zs_iadd dX13_go_344 ?_
              refine zs_as (y := nI ((q + k) + 1)) (nI_add _ _) ?_
              refine zs_put 0 dX13_go_345 zf_RX13_161 rfl (Nat.le_of_ble_eq_true rfl) (zPv_i _) ?_
              show zS _ _ _ _ _ _ [(mo, .inr (11, fMo e (upd (upd (upd g 5 (nI ((q + k) + 1))) 6 (nI q)) 8 (mNb bt q k)) (((27 * (mWd bt q k)) + ((nI (bt (q + k))).toInt64)) - 96))), ((e 1), .inl (0, 740, .inl (nF bt)))]
              refine zs_goto (tgt := 215) dX13_go_348 (by decide) ?_
              refine zs_lv [2, 3, 4, 0] rfl ?_
              have hr := ih (k + 1) (by omega) (by rw [← hE, lRun, if_pos ⟨by omega, (by rw [← hmb, bI_t c_13, Bool.or_true])⟩]; rfl)
              rw [show mWd bt q (k + 1) = _ from if_pos (show k < 6 by omega), show mNb bt q (k + 1) = _ from if_neg (show ¬ k < 8 by omega), show mGd bt q (k + 1) = false from by rw [mGd, bI_f c_14]; rfl] at hr
              exact hr
            · have c_17 : ¬ (8 ≤ k) := by have hc := c_17; rw [nI_le' (by omega) (by omega)] at hc; exact hc
              refine zs_aload_n dX13_go_321 rfl rfl ?_
              refine zs_bipush (v := nI 10) dX13_go_322 (by decide) ?_
              refine zs_aload_n dX13_go_324 rfl rfl ?_
              refine zs_get 0 dX13_go_325 zf_RX13_187 rfl (v := .int (mNb bt q k)) rfl ?_
              refine zs_imul dX13_go_328 ?_
              refine zs_iload dX13_go_329 rfl ?_
              refine zs_iadd dX13_go_331 ?_
              refine zs_bipush (v := nI 48) dX13_go_332 (by decide) ?_
              refine zs_isub dX13_go_334 ?_
              refine zs_put 0 dX13_go_335 zf_RX13_187 rfl (Nat.le_of_ble_eq_true rfl) (zPv_i _) ?_
              show zS _ _ _ _ _ _ [(mo, .inr (11, fMo e (upd (upd (upd g 5 (nI (q + k))) 6 (nI q)) 8 ((((nI 10) * (mNb bt q k)) + (nI (bt (q + k)))) - (nI 48))) (((27 * (mWd bt q k)) + ((nI (bt (q + k))).toInt64)) - 96))), ((e 1), .inl (0, 740, .inl (nF bt)))]
              refine zs_aload_n dX13_go_338 rfl rfl ?_
              refine zs_dup dX13_go_339 rfl ?_
              refine zs_get 0 dX13_go_340 zf_RX13_161 rfl (v := .int (nI (q + k))) rfl ?_
              refine zs_iconst (v := nI 1) dX13_go_343 (by decide) ?_
              refine zs_iadd dX13_go_344 ?_
              refine zs_as (y := nI ((q + k) + 1)) (nI_add _ _) ?_
              refine zs_put 0 dX13_go_345 zf_RX13_161 rfl (Nat.le_of_ble_eq_true rfl) (zPv_i _) ?_
              show zS _ _ _ _ _ _ [(mo, .inr (11, fMo e (upd (upd (upd g 5 (nI ((q + k) + 1))) 6 (nI q)) 8 ((((nI 10) * (mNb bt q k)) + (nI (bt (q + k)))) - (nI 48))) (((27 * (mWd bt q k)) + ((nI (bt (q + k))).toInt64)) - 96))), ((e 1), .inl (0, 740, .inl (nF bt)))]
              refine zs_goto (tgt := 215) dX13_go_348 (by decide) ?_
              refine zs_lv [2, 3, 4, 0] rfl ?_
              have hr := ih (k + 1) (by omega) (by rw [← hE, lRun, if_pos ⟨by omega, (by rw [← hmb, bI_t c_13, Bool.or_true])⟩]; rfl)
              rw [show mWd bt q (k + 1) = _ from if_pos (show k < 6 by omega), show mNb bt q (k + 1) = _ from if_pos (show k < 8 by omega), show mGd bt q (k + 1) = false from by rw [mGd, bI_f c_14]; rfl] at hr
              exact hr
        · refine zs_iload dX13_go_258 rfl ?_
          refine zs_callS (M := mX13_isLetter) (As := [.int (nI (bt (q + k)))]) (st := []) (Kc := []) (Kr := [(mo, .inr (11, fMo e (upd (upd (upd g 5 (nI (q + k))) 6 (nI q)) 8 (mNb bt q k)) (mWd bt q k))), ((e 1), .inl (0, 740, .inl (nF bt)))]) [] [0, 1] dX13_go_260 zl_RX13_173 kX13_isLetter rfl rfl rfl rfl rfl (by decide) (show dd - 1 + 1 ≤ dd by omega) (Nat.zero_le _) (Nat.zero_le _) (Nat.le_of_ble_eq_true rfl) (s_mIsL l (dd - 1) (bt (q + k)) (hbt _)) (fun r K1 hr => ?_)
          obtain ⟨rfl, rfl⟩ := hr
          refine zs_K (K' := [(mo, .inr (11, fMo e (upd (upd (upd g 5 (nI (q + k))) 6 (nI q)) 8 (mNb bt q k)) (mWd bt q k))), ((e 1), .inl (0, 740, .inl (nF bt)))]) [0, 1] rfl (by decide) ?_
          refine zs_iload_n dX13_go_263 rfl ?_
          refine zs_icmp_ne (tgt := 271) dX13_go_264 (by decide) (fun c_18 => ?_) (fun c_18 => ?_)
          · refine zs_iconst (v := nI 0) dX13_go_271 (by decide) ?_
            refine zs_istore_n (lv' := [(3, .int (nI 0)), (4, .int (nI (bt (q + k)))), (0, .ref mo), (1, .int (nI (bt q))), (2, .int (bI (isL (bt q))))]) dX13_go_272 (Nat.le_of_ble_eq_true rfl) rfl ?_
            refine zs_aload_n dX13_go_273 rfl rfl ?_
            refine zs_get 0 dX13_go_274 zf_RX13_161 rfl (v := .int (nI (q + k))) rfl ?_
            refine zs_aload_n dX13_go_277 rfl rfl ?_
            refine zs_get 0 dX13_go_278 zf_RX13_164 rfl (v := .int (nI q)) rfl ?_
            refine zs_isub dX13_go_281 ?_
            refine zs_as (y := nI k) (by rw [nI_sub (by omega)]; exact congrArg nI (by omega)) ?_
            refine zs_bipush (v := nI 6) dX13_go_282 (by decide) ?_
            refine zs_icmp_ge (tgt := 307) dX13_go_284 (by decide) (fun c_19 => ?_) (fun c_19 => ?_)
            · have c_19 : 6 ≤ k := by have hc := c_19; rw [nI_le' (by omega) (by omega)] at hc; exact hc
              refine zs_aload_n dX13_go_307 rfl rfl ?_
              refine zs_get 0 dX13_go_308 zf_RX13_161 rfl (v := .int (nI (q + k))) rfl ?_
              refine zs_aload_n dX13_go_311 rfl rfl ?_
              refine zs_get 0 dX13_go_312 zf_RX13_164 rfl (v := .int (nI q)) rfl ?_
              refine zs_isub dX13_go_315 ?_
              refine zs_as (y := nI k) (by rw [nI_sub (by omega)]; exact congrArg nI (by omega)) ?_
              refine zs_bipush (v := nI 8) dX13_go_316 (by decide) ?_
              refine zs_icmp_ge (tgt := 338) dX13_go_318 (by decide) (fun c_20 => ?_) (fun c_20 => ?_)
              · have c_20 : 8 ≤ k := by have hc := c_20; rw [nI_le' (by omega) (by omega)] at hc; exact hc
                refine zs_aload_n dX13_go_338 rfl rfl ?_
                refine zs_dup dX13_go_339 rfl ?_
                refine zs_get 0 dX13_go_340 zf_RX13_161 rfl (v := .int (nI (q + k))) rfl ?_
                refine zs_iconst (v := nI 1) dX13_go_343 (by decide) ?_
                refine zs_iadd dX13_go_344 ?_
                refine zs_as (y := nI ((q + k) + 1)) (nI_add _ _) ?_
                refine zs_put 0 dX13_go_345 zf_RX13_161 rfl (Nat.le_of_ble_eq_true rfl) (zPv_i _) ?_
                show zS _ _ _ _ _ _ [(mo, .inr (11, fMo e (upd (upd (upd g 5 (nI ((q + k) + 1))) 6 (nI q)) 8 (mNb bt q k)) (mWd bt q k))), ((e 1), .inl (0, 740, .inl (nF bt)))]
                refine zs_goto (tgt := 215) dX13_go_348 (by decide) ?_
                refine zs_lv [2, 3, 4, 0] rfl ?_
                have hr := ih (k + 1) (by omega) (by rw [← hE, lRun, if_pos ⟨by omega, (by rw [← hmb, bI_t c_13, Bool.or_true])⟩]; rfl)
                rw [show mWd bt q (k + 1) = _ from if_neg (show ¬ k < 6 by omega), show mNb bt q (k + 1) = _ from if_neg (show ¬ k < 8 by omega), show mGd bt q (k + 1) = false from by rw [mGd, show (isL (bt (q + k)) == isL (bt q)) = false from beq_false_of_ne (fun h => c_18 (by rw [h]))]; exact Bool.and_false _] at hr
                exact hr
              · have c_20 : ¬ (8 ≤ k) := by have hc := c_20; rw [nI_le' (by omega) (by omega)] at hc; exact hc
                refine zs_aload_n dX13_go_321 rfl rfl ?_
                refine zs_bipush (v := nI 10) dX13_go_322 (by decide) ?_
                refine zs_aload_n dX13_go_324 rfl rfl ?_
                refine zs_get 0 dX13_go_325 zf_RX13_187 rfl (v := .int (mNb bt q k)) rfl ?_
                refine zs_imul dX13_go_328 ?_
                refine zs_iload dX13_go_329 rfl ?_
                refine zs_iadd dX13_go_331 ?_
                refine zs_bipush (v := nI 48) dX13_go_332 (by decide) ?_
                refine zs_isub dX13_go_334 ?_
                refine zs_put 0 dX13_go_335 zf_RX13_187 rfl (Nat.le_of_ble_eq_true rfl) (zPv_i _) ?_
                show zS _ _ _ _ _ _ [(mo, .inr (11, fMo e (upd (upd (upd g 5 (nI (q + k))) 6 (nI q)) 8 ((((nI 10) * (mNb bt q k)) + (nI (bt (q + k)))) - (nI 48))) (mWd bt q k))), ((e 1), .inl (0, 740, .inl (nF bt)))]
                refine zs_aload_n dX13_go_338 rfl rfl ?_
                refine zs_dup dX13_go_339 rfl ?_
                refine zs_get 0 dX13_go_340 zf_RX13_161 rfl (v := .int (nI (q + k))) rfl ?_
                refine zs_iconst (v := nI 1) dX13_go_343 (by decide) ?_
                refine zs_iadd dX13_go_344 ?_
                refine zs_as (y := nI ((q + k) + 1)) (nI_add _ _) ?_
                refine zs_put 0 dX13_go_345 zf_RX13_161 rfl (Nat.le_of_ble_eq_true rfl) (zPv_i _) ?_
                show zS _ _ _ _ _ _ [(mo, .inr (11, fMo e (upd (upd (upd g 5 (nI ((q + k) + 1))) 6 (nI q)) 8 ((((nI 10) * (mNb bt q k)) + (nI (bt (q + k)))) - (nI 48))) (mWd bt q k))), ((e 1), .inl (0, 740, .inl (nF bt)))]
                refine zs_goto (tgt := 215) dX13_go_348 (by decide) ?_
                refine zs_lv [2, 3, 4, 0] rfl ?_
                have hr := ih (k + 1) (by omega) (by rw [← hE, lRun, if_pos ⟨by omega, (by rw [← hmb, bI_t c_13, Bool.or_true])⟩]; rfl)
                rw [show mWd bt q (k + 1) = _ from if_neg (show ¬ k < 6 by omega), show mNb bt q (k + 1) = _ from if_pos (show k < 8 by omega), show mGd bt q (k + 1) = false from by rw [mGd, show (isL (bt (q + k)) == isL (bt q)) = false from beq_false_of_ne (fun h => c_18 (by rw [h]))]; exact Bool.and_false _] at hr
                exact hr
            · have c_19 : ¬ (6 ≤ k) := by have hc := c_19; rw [nI_le' (by omega) (by omega)] at hc; exact hc
              refine zs_aload_n dX13_go_287 rfl rfl ?_
              refine zs_ldc2 (v := 27) dX13_go_288 zkl_RX13_194 ?_
              refine zs_aload_n dX13_go_291 rfl rfl ?_
              refine zs_get 0 dX13_go_292 zf_RX13_183 rfl (v := .long (mWd bt q k)) rfl ?_
              refine zs_lmul dX13_go_295 ?_
              refine zs_iload dX13_go_296 rfl ?_
              refine zs_i2l (v := (nI (bt (q + k))).toInt64) dX13_go_298 rfl ?_
              refine zs_ladd dX13_go_299 ?_
              refine zs_ldc2 (v := 96) dX13_go_300 zkl_RX13_196 ?_
              refine zs_lsub dX13_go_303 ?_
              refine zs_put 0 dX13_go_304 zf_RX13_183 rfl (Nat.le_of_ble_eq_true rfl) (zPv_j _) ?_
              show zS _ _ _ _ _ _ [(mo, .inr (11, fMo e (upd (upd (upd g 5 (nI (q + k))) 6 (nI q)) 8 (mNb bt q k)) (((27 * (mWd bt q k)) + ((nI (bt (q + k))).toInt64)) - 96))), ((e 1), .inl (0, 740, .inl (nF bt)))]
              refine zs_aload_n dX13_go_307 rfl rfl ?_
              refine zs_get 0 dX13_go_308 zf_RX13_161 rfl (v := .int (nI (q + k))) rfl ?_
              refine zs_aload_n dX13_go_311 rfl rfl ?_
              refine zs_get 0 dX13_go_312 zf_RX13_164 rfl (v := .int (nI q)) rfl ?_
              refine zs_isub dX13_go_315 ?_
              refine zs_as (y := nI k) (by rw [nI_sub (by omega)]; exact congrArg nI (by omega)) ?_
              refine zs_bipush (v := nI 8) dX13_go_316 (by decide) ?_
              refine zs_icmp_ge (tgt := 338) dX13_go_318 (by decide) (fun c_21 => ?_) (fun c_21 => ?_)
              · have c_21 : 8 ≤ k := by have hc := c_21; rw [nI_le' (by omega) (by omega)] at hc; exact hc
                refine zs_aload_n dX13_go_338 rfl rfl ?_
                refine zs_dup dX13_go_339 rfl ?_
                refine zs_get 0 dX13_go_340 zf_RX13_161 rfl (v := .int (nI (q + k))) rfl ?_
                refine zs_iconst (v := nI 1) dX13_go_343 (by decide) ?_
                refine zs_iadd dX13_go_344 ?_
                refine zs_as (y := nI ((q + k) + 1)) (nI_add _ _) ?_
                refine zs_put 0 dX13_go_345 zf_RX13_161 rfl (Nat.le_of_ble_eq_true rfl) (zPv_i _) ?_
                show zS _ _ _ _ _ _ [(mo, .inr (11, fMo e (upd (upd (upd g 5 (nI ((q + k) + 1))) 6 (nI q)) 8 (mNb bt q k)) (((27 * (mWd bt q k)) + ((nI (bt (q + k))).toInt64)) - 96))), ((e 1), .inl (0, 740, .inl (nF bt)))]
                refine zs_goto (tgt := 215) dX13_go_348 (by decide) ?_
                refine zs_lv [2, 3, 4, 0] rfl ?_
                have hr := ih (k + 1) (by omega) (by rw [← hE, lRun, if_pos ⟨by omega, (by rw [← hmb, bI_t c_13, Bool.or_true])⟩]; rfl)
                rw [show mWd bt q (k + 1) = _ from if_pos (show k < 6 by omega), show mNb bt q (k + 1) = _ from if_neg (show ¬ k < 8 by omega), show mGd bt q (k + 1) = false from by rw [mGd, show (isL (bt (q + k)) == isL (bt q)) = false from beq_false_of_ne (fun h => c_18 (by rw [h]))]; exact Bool.and_false _] at hr
                exact hr
              · have c_21 : ¬ (8 ≤ k) := by have hc := c_21; rw [nI_le' (by omega) (by omega)] at hc; exact hc
                refine zs_aload_n dX13_go_321 rfl rfl ?_
                refine zs_bipush (v := nI 10) dX13_go_322 (by decide) ?_
                refine zs_aload_n dX13_go_324 rfl rfl ?_
                refine zs_get 0 dX13_go_325 zf_RX13_187 rfl (v := .int (mNb bt q k)) rfl ?_
                refine zs_imul dX13_go_328 ?_
                refine zs_iload dX13_go_329 rfl ?_
                refine zs_iadd dX13_go_331 ?_
                refine zs_bipush (v := nI 48) dX13_go_332 (by decide) ?_
                refine zs_isub dX13_go_334 ?_
                refine zs_put 0 dX13_go_335 zf_RX13_187 rfl (Nat.le_of_ble_eq_true rfl) (zPv_i _) ?_
                show zS _ _ _ _ _ _ [(mo, .inr (11, fMo e (upd (upd (upd g 5 (nI (q + k))) 6 (nI q)) 8 ((((nI 10) * (mNb bt q k)) + (nI (bt (q + k)))) - (nI 48))) (((27 * (mWd bt q k)) + ((nI (bt (q + k))).toInt64)) - 96))), ((e 1), .inl (0, 740, .inl (nF bt)))]
                refine zs_aload_n dX13_go_338 rfl rfl ?_
                refine zs_dup dX13_go_339 rfl ?_
                refine zs_get 0 dX13_go_340 zf_RX13_161 rfl (v := .int (nI (q + k))) rfl ?_
                refine zs_iconst (v := nI 1) dX13_go_343 (by decide) ?_
                refine zs_iadd dX13_go_344 ?_
                refine zs_as (y := nI ((q + k) + 1)) (nI_add _ _) ?_
                refine zs_put 0 dX13_go_345 zf_RX13_161 rfl (Nat.le_of_ble_eq_true rfl) (zPv_i _) ?_
                show zS _ _ _ _ _ _ [(mo, .inr (11, fMo e (upd (upd (upd g 5 (nI ((q + k) + 1))) 6 (nI q)) 8 ((((nI 10) * (mNb bt q k)) + (nI (bt (q + k)))) - (nI 48))) (((27 * (mWd bt q k)) + ((nI (bt (q + k))).toInt64)) - 96))), ((e 1), .inl (0, 740, .inl (nF bt)))]
                refine zs_goto (tgt := 215) dX13_go_348 (by decide) ?_
                refine zs_lv [2, 3, 4, 0] rfl ?_
                have hr := ih (k + 1) (by omega) (by rw [← hE, lRun, if_pos ⟨by omega, (by rw [← hmb, bI_t c_13, Bool.or_true])⟩]; rfl)
                rw [show mWd bt q (k + 1) = _ from if_pos (show k < 6 by omega), show mNb bt q (k + 1) = _ from if_pos (show k < 8 by omega), show mGd bt q (k + 1) = false from by rw [mGd, show (isL (bt (q + k)) == isL (bt q)) = false from beq_false_of_ne (fun h => c_18 (by rw [h]))]; exact Bool.and_false _] at hr
                exact hr
          · refine zs_iconst (v := nI 1) dX13_go_267 (by decide) ?_
            refine zs_goto (tgt := 272) dX13_go_268 (by decide) ?_
            refine zs_istore_n (lv' := [(3, .int (nI 1)), (4, .int (nI (bt (q + k)))), (0, .ref mo), (1, .int (nI (bt q))), (2, .int (bI (isL (bt q))))]) dX13_go_272 (Nat.le_of_ble_eq_true rfl) rfl ?_
            refine zs_aload_n dX13_go_273 rfl rfl ?_
            refine zs_get 0 dX13_go_274 zf_RX13_161 rfl (v := .int (nI (q + k))) rfl ?_
            refine zs_aload_n dX13_go_277 rfl rfl ?_
            refine zs_get 0 dX13_go_278 zf_RX13_164 rfl (v := .int (nI q)) rfl ?_
            refine zs_isub dX13_go_281 ?_
            refine zs_as (y := nI k) (by rw [nI_sub (by omega)]; exact congrArg nI (by omega)) ?_
            refine zs_bipush (v := nI 6) dX13_go_282 (by decide) ?_
            refine zs_icmp_ge (tgt := 307) dX13_go_284 (by decide) (fun c_22 => ?_) (fun c_22 => ?_)
            · have c_22 : 6 ≤ k := by have hc := c_22; rw [nI_le' (by omega) (by omega)] at hc; exact hc
              refine zs_aload_n dX13_go_307 rfl rfl ?_
              refine zs_get 0 dX13_go_308 zf_RX13_161 rfl (v := .int (nI (q + k))) rfl ?_
              refine zs_aload_n dX13_go_311 rfl rfl ?_
              refine zs_get 0 dX13_go_312 zf_RX13_164 rfl (v := .int (nI q)) rfl ?_
              refine zs_isub dX13_go_315 ?_
              refine zs_as (y := nI k) (by rw [nI_sub (by omega)]; exact congrArg nI (by omega)) ?_
              refine zs_bipush (v := nI 8) dX13_go_316 (by decide) ?_
              refine zs_icmp_ge (tgt := 338) dX13_go_318 (by decide) (fun c_23 => ?_) (fun c_23 => ?_)
              · have c_23 : 8 ≤ k := by have hc := c_23; rw [nI_le' (by omega) (by omega)] at hc; exact hc
                refine zs_aload_n dX13_go_338 rfl rfl ?_
                refine zs_dup dX13_go_339 rfl ?_
                refine zs_get 0 dX13_go_340 zf_RX13_161 rfl (v := .int (nI (q + k))) rfl ?_
                refine zs_iconst (v := nI 1) dX13_go_343 (by decide) ?_
                refine zs_iadd dX13_go_344 ?_
                refine zs_as (y := nI ((q + k) + 1)) (nI_add _ _) ?_
                refine zs_put 0 dX13_go_345 zf_RX13_161 rfl (Nat.le_of_ble_eq_true rfl) (zPv_i _) ?_
                show zS _ _ _ _ _ _ [(mo, .inr (11, fMo e (upd (upd (upd g 5 (nI ((q + k) + 1))) 6 (nI q)) 8 (mNb bt q k)) (mWd bt q k))), ((e 1), .inl (0, 740, .inl (nF bt)))]
                refine zs_goto (tgt := 215) dX13_go_348 (by decide) ?_
                refine zs_lv [2, 3, 4, 0] rfl ?_
                have hr := ih (k + 1) (by omega) (by rw [← hE, lRun, if_pos ⟨by omega, (by rw [← hmb, bI_t c_13, Bool.or_true])⟩]; rfl)
                rw [show mWd bt q (k + 1) = _ from if_neg (show ¬ k < 6 by omega), show mNb bt q (k + 1) = _ from if_neg (show ¬ k < 8 by omega), show mGd bt q (k + 1) = true from by rw [mGd, bI_t c_14, zbI_i c_18, beq_self_eq_true]; rfl] at hr
                exact hr
              · have c_23 : ¬ (8 ≤ k) := by have hc := c_23; rw [nI_le' (by omega) (by omega)] at hc; exact hc
                refine zs_aload_n dX13_go_321 rfl rfl ?_
                refine zs_bipush (v := nI 10) dX13_go_322 (by decide) ?_
                refine zs_aload_n dX13_go_324 rfl rfl ?_
                refine zs_get 0 dX13_go_325 zf_RX13_187 rfl (v := .int (mNb bt q k)) rfl ?_
                refine zs_imul dX13_go_328 ?_
                refine zs_iload dX13_go_329 rfl ?_
                refine zs_iadd dX13_go_331 ?_
                refine zs_bipush (v := nI 48) dX13_go_332 (by decide) ?_
                refine zs_isub dX13_go_334 ?_
                refine zs_put 0 dX13_go_335 zf_RX13_187 rfl (Nat.le_of_ble_eq_true rfl) (zPv_i _) ?_
                show zS _ _ _ _ _ _ [(mo, .inr (11, fMo e (upd (upd (upd g 5 (nI (q + k))) 6 (nI q)) 8 ((((nI 10) * (mNb bt q k)) + (nI (bt (q + k)))) - (nI 48))) (mWd bt q k))), ((e 1), .inl (0, 740, .inl (nF bt)))]
                refine zs_aload_n dX13_go_338 rfl rfl ?_
                refine zs_dup dX13_go_339 rfl ?_
                refine zs_get 0 dX13_go_340 zf_RX13_161 rfl (v := .int (nI (q + k))) rfl ?_
                refine zs_iconst (v := nI 1) dX13_go_343 (by decide) ?_
                refine zs_iadd dX13_go_344 ?_
                refine zs_as (y := nI ((q + k) + 1)) (nI_add _ _) ?_
                refine zs_put 0 dX13_go_345 zf_RX13_161 rfl (Nat.le_of_ble_eq_true rfl) (zPv_i _) ?_
                show zS _ _ _ _ _ _ [(mo, .inr (11, fMo e (upd (upd (upd g 5 (nI ((q + k) + 1))) 6 (nI q)) 8 ((((nI 10) * (mNb bt q k)) + (nI (bt (q + k)))) - (nI 48))) (mWd bt q k))), ((e 1), .inl (0, 740, .inl (nF bt)))]
                refine zs_goto (tgt := 215) dX13_go_348 (by decide) ?_
                refine zs_lv [2, 3, 4, 0] rfl ?_
                have hr := ih (k + 1) (by omega) (by rw [← hE, lRun, if_pos ⟨by omega, (by rw [← hmb, bI_t c_13, Bool.or_true])⟩]; rfl)
                rw [show mWd bt q (k + 1) = _ from if_neg (show ¬ k < 6 by omega), show mNb bt q (k + 1) = _ from if_pos (show k < 8 by omega), show mGd bt q (k + 1) = true from by rw [mGd, bI_t c_14, zbI_i c_18, beq_self_eq_true]; rfl] at hr
                exact hr
            · have c_22 : ¬ (6 ≤ k) := by have hc := c_22; rw [nI_le' (by omega) (by omega)] at hc; exact hc
              refine zs_aload_n dX13_go_287 rfl rfl ?_
              refine zs_ldc2 (v := 27) dX13_go_288 zkl_RX13_194 ?_
              refine zs_aload_n dX13_go_291 rfl rfl ?_
              refine zs_get 0 dX13_go_292 zf_RX13_183 rfl (v := .long (mWd bt q k)) rfl ?_
              refine zs_lmul dX13_go_295 ?_
              refine zs_iload dX13_go_296 rfl ?_
              refine zs_i2l (v := (nI (bt (q + k))).toInt64) dX13_go_298 rfl ?_
              refine zs_ladd dX13_go_299 ?_
              refine zs_ldc2 (v := 96) dX13_go_300 zkl_RX13_196 ?_
              refine zs_lsub dX13_go_303 ?_
              refine zs_put 0 dX13_go_304 zf_RX13_183 rfl (Nat.le_of_ble_eq_true rfl) (zPv_j _) ?_
              show zS _ _ _ _ _ _ [(mo, .inr (11, fMo e (upd (upd (upd g 5 (nI (q + k))) 6 (nI q)) 8 (mNb bt q k)) (((27 * (mWd bt q k)) + ((nI (bt (q + k))).toInt64)) - 96))), ((e 1), .inl (0, 740, .inl (nF bt)))]
              refine zs_aload_n dX13_go_307 rfl rfl ?_
              refine zs_get 0 dX13_go_308 zf_RX13_161 rfl (v := .int (nI (q + k))) rfl ?_
              refine zs_aload_n dX13_go_311 rfl rfl ?_
              refine zs_get 0 dX13_go_312 zf_RX13_164 rfl (v := .int (nI q)) rfl ?_
              refine zs_isub dX13_go_315 ?_
              refine zs_as (y := nI k) (by rw [nI_sub (by omega)]; exact congrArg nI (by omega)) ?_
              refine zs_bipush (v := nI 8) dX13_go_316 (by decide) ?_
              refine zs_icmp_ge (tgt := 338) dX13_go_318 (by decide) (fun c_24 => ?_) (fun c_24 => ?_)
              · have c_24 : 8 ≤ k := by have hc := c_24; rw [nI_le' (by omega) (by omega)] at hc; exact hc
                refine zs_aload_n dX13_go_338 rfl rfl ?_
                refine zs_dup dX13_go_339 rfl ?_
                refine zs_get 0 dX13_go_340 zf_RX13_161 rfl (v := .int (nI (q + k))) rfl ?_
                refine zs_iconst (v := nI 1) dX13_go_343 (by decide) ?_
                refine zs_iadd dX13_go_344 ?_
                refine zs_as (y := nI ((q + k) + 1)) (nI_add _ _) ?_
                refine zs_put 0 dX13_go_345 zf_RX13_161 rfl (Nat.le_of_ble_eq_true rfl) (zPv_i _) ?_
                show zS _ _ _ _ _ _ [(mo, .inr (11, fMo e (upd (upd (upd g 5 (nI ((q + k) + 1))) 6 (nI q)) 8 (mNb bt q k)) (((27 * (mWd bt q k)) + ((nI (bt (q + k))).toInt64)) - 96))), ((e 1), .inl (0, 740, .inl (nF bt)))]
                refine zs_goto (tgt := 215) dX13_go_348 (by decide) ?_
                refine zs_lv [2, 3, 4, 0] rfl ?_
                have hr := ih (k + 1) (by omega) (by rw [← hE, lRun, if_pos ⟨by omega, (by rw [← hmb, bI_t c_13, Bool.or_true])⟩]; rfl)
                rw [show mWd bt q (k + 1) = _ from if_pos (show k < 6 by omega), show mNb bt q (k + 1) = _ from if_neg (show ¬ k < 8 by omega), show mGd bt q (k + 1) = true from by rw [mGd, bI_t c_14, zbI_i c_18, beq_self_eq_true]; rfl] at hr
                exact hr
              · have c_24 : ¬ (8 ≤ k) := by have hc := c_24; rw [nI_le' (by omega) (by omega)] at hc; exact hc
                refine zs_aload_n dX13_go_321 rfl rfl ?_
                refine zs_bipush (v := nI 10) dX13_go_322 (by decide) ?_
                refine zs_aload_n dX13_go_324 rfl rfl ?_
                refine zs_get 0 dX13_go_325 zf_RX13_187 rfl (v := .int (mNb bt q k)) rfl ?_
                refine zs_imul dX13_go_328 ?_
                refine zs_iload dX13_go_329 rfl ?_
                refine zs_iadd dX13_go_331 ?_
                refine zs_bipush (v := nI 48) dX13_go_332 (by decide) ?_
                refine zs_isub dX13_go_334 ?_
                refine zs_put 0 dX13_go_335 zf_RX13_187 rfl (Nat.le_of_ble_eq_true rfl) (zPv_i _) ?_
                show zS _ _ _ _ _ _ [(mo, .inr (11, fMo e (upd (upd (upd g 5 (nI (q + k))) 6 (nI q)) 8 ((((nI 10) * (mNb bt q k)) + (nI (bt (q + k)))) - (nI 48))) (((27 * (mWd bt q k)) + ((nI (bt (q + k))).toInt64)) - 96))), ((e 1), .inl (0, 740, .inl (nF bt)))]
                refine zs_aload_n dX13_go_338 rfl rfl ?_
                refine zs_dup dX13_go_339 rfl ?_
                refine zs_get 0 dX13_go_340 zf_RX13_161 rfl (v := .int (nI (q + k))) rfl ?_
                refine zs_iconst (v := nI 1) dX13_go_343 (by decide) ?_
                refine zs_iadd dX13_go_344 ?_
                refine zs_as (y := nI ((q + k) + 1)) (nI_add _ _) ?_
                refine zs_put 0 dX13_go_345 zf_RX13_161 rfl (Nat.le_of_ble_eq_true rfl) (zPv_i _) ?_
                show zS _ _ _ _ _ _ [(mo, .inr (11, fMo e (upd (upd (upd g 5 (nI ((q + k) + 1))) 6 (nI q)) 8 ((((nI 10) * (mNb bt q k)) + (nI (bt (q + k)))) - (nI 48))) (((27 * (mWd bt q k)) + ((nI (bt (q + k))).toInt64)) - 96))), ((e 1), .inl (0, 740, .inl (nF bt)))]
                refine zs_goto (tgt := 215) dX13_go_348 (by decide) ?_
                refine zs_lv [2, 3, 4, 0] rfl ?_
                have hr := ih (k + 1) (by omega) (by rw [← hE, lRun, if_pos ⟨by omega, (by rw [← hmb, bI_t c_13, Bool.or_true])⟩]; rfl)
                rw [show mWd bt q (k + 1) = _ from if_pos (show k < 6 by omega), show mNb bt q (k + 1) = _ from if_pos (show k < 8 by omega), show mGd bt q (k + 1) = true from by rw [mGd, bI_t c_14, zbI_i c_18, beq_self_eq_true]; rfl] at hr
                exact hr
