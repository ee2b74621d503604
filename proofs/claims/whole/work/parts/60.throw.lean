/-! ===== a throw ===== -/
abbrev zNm2 : List String := ["java/lang/RuntimeException", "java/lang/Exception"]
theorem zTh_in : ∀ w ∈ (vx_at0 RX12 165 zNse zNm2).filter goodWord, w ∈ lw_tbl := by decide +kernel
abbrev zThL : List Cond := [Cond.castable zNse zNse, Cond.declares (Bundle.init0 "java/lang/RuntimeException"), Cond.declares (Bundle.init0 "java/lang/Exception"), Cond.declares (Bundle.init0 Bundle.tN)]
theorem zTh_B : ∀ w ∈ (vx_at0 RX12 165 zNse zNm2).filter (fun w => !goodWord w), w ∈ zThL := by decide +kernel
theorem zTh_Bt : ∀ w ∈ zThL, w ∈ lw_tbl := by decide +kernel
theorem zTh_ot : ∀ w ∈ Cond.classLink RX12 163 zNse :: Cond.initialized zNse :: vx_at0 RX12 165 zNse zNm2, vx_ot w = true := by decide +kernel
theorem zTh_k : Cond.classLink RX12 163 zNse ∈ zTs := List.mem_filter.mpr ⟨by decide +kernel, by decide +kernel⟩
theorem zTh_i : Cond.initialized zNse ∈ zTs := List.mem_filter.mpr ⟨by decide +kernel, by decide +kernel⟩
section ZRT
variable {E : zEv} {kc ks pc : Nat} {lv : List (Nat × Value)} {st : List Value} {h : List va_E}
theorem zr_throw0 (hl : E.1.stackTraces = false) (hown : E.2.1.1.cls = RX12) (d0 : decode E.2.1.2.1 pc = .ok (.new 163, 3)) (d3 : decode E.2.1.2.1 (pc + 3) = .ok (.dup, 1)) (d4 : decode E.2.1.2.1 (pc + 4) = .ok (.invokespecial 165, 3)) (d7 : decode E.2.1.2.1 (pc + 7) = .ok (.athrow, 1)) (hd : 6 ≤ E.2.2.1) (hst : (st.map fun v => v.category).sum ≤ 8) (hk : 1 ≤ kc) (hs : 6 ≤ ks) (q : E.2.2.2.2.1 h) : zR E kc ks pc lv st h := by
  intro G p e s m args below meth c A ad0 n0 mc ms Z F H locs cells slots ad ls D
  have hS := D.2.2.2.1
  have hc := D.2.2.2.2.2.2.2.2.2.1
  have hsl := D.2.2.2.2.2.2.2.2.2.2
  have hx2 := F.kn.2.2.2.2.1.2
  have hst2 : ((st.map (zV G.2.2.1 ad)).map fun v => v.category).sum ≤ 8 := by
    rw [List.map_map]
    have : ((fun v => v.category) ∘ zV G.2.2.1 ad : Value → Nat) = fun v => v.category := funext fun v => zV_cat _ _ v
    rw [this]
    exact hst
  refine W.mono (vx_throw0 (Qc := fun _ _ _ _ => False) (XC := zX G ad0 n0 A E.2.2.2.2.1) (free := A) (mc := mc) (ms := ms) (cls := zNse) (names := zNm2) (own := RX12) F.ex F.cd hl (by rw [← hown]; exact F.own) (by decide +kernel) (by decide +kernel) (F.ws _ zTh_k) (F.ws _ zTh_i)
    (vx_hat (fun w hw => F.ws w (List.mem_filter.mpr ⟨zTh_in w hw, (List.mem_filter.mp hw).2⟩)) zTh_B (vx_c (va_Nw.use rfl hx2.1) (vx_c (va_Nw.use rfl hx2.2.1) (vx_c (va_Nw.use rfl hx2.2.2.1) (vx_c (va_Nw.use rfl hx2.2.2.2) vx_n)))))
    zTh_ot F.kn.2.1.2.2.2.2.2.2.1 F.kn.2.1.2.2.2.2.2.2.2 hS (by rw [F.ml]; exact D.2.2.2.2.2.2.1.1) d0 d3 d4 d7 (fun x hx => absurd (hown.symm.trans (F.2.2.2.2.2.2.2.2.2.2.1 x hx)) (by decide +kernel)) (by show 2 + 3 < E.2.2.1; omega) (by show _ + (13 * (2 + 1) + 42) ≤ 60 * E.2.2.1 + 60; omega) (by show cells + 1 ≤ mc; omega) (by show slots + 6 ≤ ms; omega) F.lk ?_ hS.2.2 (by omega) (by omega)) F.2.2.2.2.2.2.2.2.2.2.2.2.1
  intro t hW hsz hq
  exact ⟨rfl, ⟨h, ad, q, D.2.2.2.2.1, D.2.2.2.2.2.1, va_P.kept D.1 (fun k x hk => hq _ (vx_lt D.1 hk)), va_K.moved hW F.kn.1, D.2.1, D.2.2.1⟩, Nat.le_trans hS.1 hsz, fun x hx hn => (hq x (Nat.lt_of_lt_of_le hx hS.1)).trans (hS.2.1 x hx hn)⟩
end ZRT
abbrev zQx (Xo : zK → Prop) (K0 : zK) (h0 : List va_E) : zXt := zXp Xo K0 h0
/-- a method's contract that may throw: what it answers, or what stands when it throws -/
def zSpX (l : Launch) (M : zM) (dd kc ks : Nat) (as : List Value) (K : zK) (Po : zPo) (Xo : zK → Prop) : Prop := ∀ h : List va_E, zHas h K → zDj K → zCallX l M dd kc ks as h (zQp Po K h) (zXp Xo K h)
theorem zSpX.of {l : Launch} {M : zM} {dd kc ks : Nat} {as : List Value} {K : zK} {Po : zPo} {Xo : zK → Prop} (hy : plainName M.1.cls = true) (hL : (lg_sl as).length ≤ M.2.2.1) (k : ∀ h0 : List va_E, zS (l, M, dd, Po, K, h0, Xo, (fun _ => True)) kc ks 0 (lv_args 0 as) [] K) : zSpX l M dd kc ks as K Po Xo := by
  intro h H D
  refine zCallX.of hy hL ?_
  exact k h h H D ⟨Nat.le_refl _, fun _ _ _ => rfl⟩ (fun i q hq => Or.inl (List.mem_map.mpr ⟨q, List.mem_of_getElem? hq, rfl⟩))
theorem zs_throw0 {B : zB} {kc ks pc : Nat} {lv : List (Nat × Value)} {st : List Value} {K : zK} (hl : B.1.stackTraces = false) (hown : B.2.1.1.cls = RX12) (d0 : decode B.2.1.2.1 pc = .ok (.new 163, 3)) (d3 : decode B.2.1.2.1 (pc + 3) = .ok (.dup, 1)) (d4 : decode B.2.1.2.1 (pc + 4) = .ok (.invokespecial 165, 3)) (d7 : decode B.2.1.2.1 (pc + 7) = .ok (.athrow, 1)) (hd : 6 ≤ B.2.2.1) (hst : (st.map fun v => v.category).sum ≤ 8) (hk : 1 ≤ kc) (hs : 6 ≤ ks) (q : B.2.2.2.2.2.2.1 K) : zS B kc ks pc lv st K :=
  fun h H D F L => zr_throw0 hl hown d0 d3 d4 d7 hd hst hk hs ⟨K, q, H, D, F, L⟩
