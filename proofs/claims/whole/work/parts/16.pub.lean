def okC (g : Gl) (ad : Ix → Nat) (cd : Nat) (v : Option Value) (σ : St) : Option Value → Wd → Prop := fun r w => cd = 0 ∧ r = v ∧ ∃ ad' x', RepC g ad' x' σ w ∧ ad' .main = ad .main
def exC (g : Gl) (ad : Ix → Nat) (cd : Nat) (es : List String) (σ : St) : String → Wd → Prop := fun E w => ¬ cd = 0 ∧ es[cd - 1]? = some E ∧ ∃ ad' x', RepC g ad' x' σ w ∧ ad' .main = ad .main
theorem okC_mk {g : Gl} {ad ad' : Ix → Nat} {cd : Nat} {v r : Option Value} {σ σ1 : St} {x' : Ex} {w : Wd} (h1 : cd = 0) (h2 : r = v) (hR : RepC g ad' x' σ1 w) (hm : ad' .main = ad .main) (hs : σ1 = σ) : okC g ad cd v σ r w := ⟨h1, h2, ad', x', hs ▸ hR, hm⟩
theorem exC_mk {g : Gl} {ad ad' : Ix → Nat} {cd : Nat} {es : List String} {E : String} {σ : St} {x' : Ex} {w : Wd} (h1 : ¬ cd = 0) (h2 : es[cd - 1]? = some E) (hR : RepC g ad' x' σ w) (hm : ad' .main = ad .main) : exC g ad cd es σ E w := ⟨h1, h2, ad', x', hR, hm⟩
theorem inL_t {n j : Nat} (hn : n < 2 ^ 31) (hj : j < n) : inL n (nI j) = true := by
  simp [inL, nI_pos' (show j < 2 ^ 31 by omega), nI_nle2 hj hn]
theorem isStr_spec {f t : Int32} (h : isStr f t = true) : ∃ x y, f = nI x ∧ t = nI y ∧ x ≤ y ∧ y < 200 := by
  simp only [isStr, inR, Bool.and_eq_true, decide_eq_true_eq] at h
  obtain ⟨⟨⟨h1, h2⟩, h3, h4⟩, h5⟩ := h
  obtain ⟨x, hx, rfl⟩ := nI_of (Int32.not_lt.mpr h1)
  obtain ⟨y, hy, rfl⟩ := nI_of (Int32.not_lt.mpr h3)
  have h6 := (nI_leI hy (by decide : 199 < 2 ^ 31)).mp h4
  exact ⟨x, y, rfl, rfl, (nI_leI hx hy).mp h5, by omega⟩
def fcF (f0 : Nat → Int32) (f t v : Int32) : Int32 := nI (cntN f0 v f.toNatClampNeg (t.toNatClampNeg + 1 - f.toNatClampNeg))
def fwF (f0 : Nat → Int32) (f t v : Int32) : Nat → Int32 := fillN f0 f.toNatClampNeg (t.toNatClampNeg + 1 - f.toNatClampNeg) v
theorem ct_fillS (l : Launch) (g : Gl) (ω : Wd) (a : Nat) (f0 : Nat → Int32) (f t v : Int32) (ha : ω a = some (.inl (g.2.1 0, 200, .inl f0))) (h : isStr f t = true) : CT l g yX9_fill cX9_fill 6 (some .int) 1 21 0 0 [.ref a, .int f, .int t, .int v] ω (dv (some (.int (fcF f0 f t v))) (wup ω a (.inl (g.2.1 0, 200, .inl (fwF f0 f t v))))) nox := by
  obtain ⟨x, y, rfl, rfl, h1, h2⟩ := isStr_spec h
  have h3 := ct_X9_fill l g ω a 200 x y f0 v ha (by decide) h1 h2
  rw [fcF, fwF, nI_clamp (by omega), nI_clamp (by omega)]
  exact h3
theorem kd_ch : ∀ j, narrow .char (.int (stF [99, 115, 114, 98] j)) = .int (stF [99, 115, 114, 98] j) := by
  intro j
  rcases j with _ | _ | _ | _ | j <;> rfl
theorem atC_ch (i : Int32) : narrow .char (.int (atC 4 (stF [99, 115, 114, 98]) i)) = .int (atC 4 (stF [99, 115, 114, 98]) i) := by
  unfold atC
  split
  · split
    · rfl
    · exact kd_ch _
  · rfl
theorem bar_ch (σ : St) (t : Int32) : narrow .char (.int (barF σ t)) = .int (barF σ t) := by
  unfold barF
  repeat' split
  all_goals rfl
theorem col_ch (h : Hs) : narrow .char (.int (colF h)) = .int (colF h) := by
  unfold colF
  repeat' split
  all_goals rfl
theorem putW_in {g : Gl} {ω : Wd} {a : Nat} {f : Nat → Int32} {c v : Int32} (h : inR c 0 7 = true) : putW g ω a 8 f c v = wup ω a (.inl (g.2.1 0, 8, .inl (upd f c.toNatClampNeg v))) := by
  simp only [inR, Bool.and_eq_true, decide_eq_true_eq] at h
  obtain ⟨y, hy, rfl⟩ := nI_of (Int32.not_lt.mpr h.1)
  have h6 := (nI_leI hy (by decide : 7 < 2 ^ 31)).mp h.2
  rw [putW, if_pos h.1, if_neg (nI_nle2 (by omega) (by decide))]
theorem ixF_pos {f : Nat → Int32} {c : Int32} {n k : Nat} (h : 0 ≤ ixF f c n k) : ∃ q, q < n ∧ ixF f c n k = nI (k + q) ∧ f (k + q) = c := by
  induction n generalizing k with
  | zero => exact absurd (show (0 : Int32) ≤ -1 from h) (by decide)
  | succ n ih =>
    rw [ixF] at h ⊢
    by_cases hz : f k = c
    · rw [if_pos hz]
      exact ⟨0, by omega, rfl, hz⟩
    · rw [if_neg hz] at h ⊢
      obtain ⟨q, h1, h2, h3⟩ := ih h
      refine ⟨q + 1, by omega, ?_, ?_⟩
      · rw [h2, show k + 1 + q = k + (q + 1) by omega]
      · rw [show k + (q + 1) = k + 1 + q by omega]; exact h3
theorem inR13 {r : Int32} (h : inR r 1 3 = true) : ∃ m, r = nI m ∧ m ≤ 3 := by
  simp only [inR, Bool.and_eq_true, decide_eq_true_eq] at h
  obtain ⟨y, hy, rfl⟩ := nI_of (Int32.not_lt.mpr (Int32.le_trans (by decide) h.1))
  have h6 := (nI_leI hy (by decide : 3 < 2 ^ 31)).mp h.2
  exact ⟨y, rfl, h6⟩
def cd_tellKind_kinds (σ : St) (f9 : Int32) (t9 : Int32) (c9 : Int32) : Nat := if isStr f9 t9 = true then (if 0 ≤ ixF (stF [99, 115, 114, 98]) c9 4 0 then (if nI σ.n ≤ f9 then 0 else 2) else 1) else 1
def vl_tellKind_kinds (σ : St) (f9 : Int32) (t9 : Int32) (c9 : Int32) : Int32 := fcF σ.kinds f9 t9 (ixF (stF [99, 115, 114, 98]) c9 4 0)
def nx_tellKind_kinds (σ : St) (f9 : Int32) (t9 : Int32) (c9 : Int32) : St := σ.w_kinds (fwF σ.kinds f9 t9 (ixF (stF [99, 115, 114, 98]) c9 4 0))
set_option maxHeartbeats 1000000 in
set_option maxRecDepth 100000 in
theorem ct_X9_tellKind_kinds (l : Launch) (g : Gl) (hst : l.stackTraces = false) (ω : Wd) (ad : Ix → Nat) (x : Ex) (σ : St) (hR : RepC g ad x σ ω) (f9 : Int32) (t9 : Int32) (c9 : Int32) : CT l g yX9_tellKind cX9_tellKind 6 (some .int) 7 111 1 6 [.ref (ad .main), .ref (ad .kinds), .int f9, .int t9, .int c9] ω (okC g ad (cd_tellKind_kinds σ f9 t9 c9) (some (.int (vl_tellKind_kinds σ f9 t9 c9))) (nx_tellKind_kinds σ f9 t9 c9)) (exC g ad (cd_tellKind_kinds σ f9 t9 c9) ["java/lang/IllegalArgumentException", "java/lang/UnsupportedOperationException"] σ) := by
  refine CT.of (own := "Boringhead") rfl rfl (le_b rfl) rfl ?_
  intro p e s m args below meth c sz0 hC hr htab hin
  refine s_gets hC 0 rfl tw_436 dX9_tellKind_0 rfl ?_
  refine s_iload hC dX9_tellKind_3 rfl 4 rfl ?_
  refine s_callS hC (ct_X9_indexIn l g _ _ 4 _ _ (ar_sc g _ 0 rfl) (by decide)) ce_X9_indexIn tw_438 rfl rfl ⟨⟨le_b rfl, le_b rfl⟩, le_b rfl, le_b rfl⟩ (le_b rfl) dX9_tellKind_5 rfl (dvk1 ?_) nokx
  refine s_istore hC (L' := [(5, _), (0, _), (1, _), (2, _), (3, _), (4, _)]) dX9_tellKind_8 rfl (le_b rfl) rfl ?_
  refine s_iload_n hC dX9_tellKind_10 rfl rfl 3 rfl ?_
  refine s_iload_n hC dX9_tellKind_11 rfl rfl 4 rfl ?_
  refine s_callS hC (ct_X9_isStretch l g _ _ _) ce_X9_isStretch tw_441 rfl rfl ⟨⟨le_b rfl, le_b rfl⟩, le_b rfl, le_b rfl⟩ (le_b rfl) dX9_tellKind_12 rfl (dvk1 ?_) nokx
  refine z_if_eqB hC (tgt := 23) dX9_tellKind_15 rfl (by decide) (fun c_1 => ?_) (fun c_1 => ?_)
  · refine s_throwSW hC htab hst (cls := "java/lang/IllegalArgumentException") (names := ["java/lang/RuntimeException", "java/lang/Exception"]) (i := 0) fit_IllegalArgumentException tw_450 tw_15 rfl at_X9_97 at_X9_97_ot dX9_tellKind_23 dX9_tellKind_26 dX9_tellKind_27 dX9_tellKind_30 dX9_tellKind_33 ⟨le_b rfl, le_b rfl, le_b rfl, le_b rfl⟩ ⟨le_b rfl, le_b rfl⟩ ?_
    exact exC_mk (by simp [cd_tellKind_kinds, c_1]) (by simp [cd_tellKind_kinds, c_1]) hR rfl
  · refine s_iload hC dX9_tellKind_18 rfl 0 rfl ?_
    refine z_if_ge hC (tgt := 34) dX9_tellKind_20 rfl (by decide) (fun c_2 => ?_) (fun c_2 => ?_)
    · refine s_aload_n hC dX9_tellKind_34 rfl rfl 1 rfl ?_
      refine s_iload_n hC dX9_tellKind_35 rfl rfl 3 rfl ?_
      refine s_callV hC (ct_X9_refuseBuilt l g hst _ _ _ _ hR _) ce_X9_refuseBuilt cs_X9 (RepC.f_main hR) tw_521 rfl rfl ⟨⟨le_b rfl, le_b rfl⟩, le_b rfl, le_b rfl⟩ (le_b rfl) dX9_tellKind_36 rfl (fun r w h9 => ?_) (outk hC htab (le_b rfl) (le_b rfl) (fun E w h9 => by obtain ⟨rfl, h8, rfl⟩ := h9; exact exC_mk (by simp [cd_tellKind_kinds, c_1, c_2, h8]) (by simp [cd_tellKind_kinds, c_1, c_2, h8]) hR rfl))
      obtain ⟨c9_36, rfl, rfl⟩ := h9
      refine s_aload_n hC dX9_tellKind_39 rfl rfl 2 rfl ?_
      refine s_iload_n hC dX9_tellKind_40 rfl rfl 3 rfl ?_
      refine s_iload_n hC dX9_tellKind_41 rfl rfl 4 rfl ?_
      refine s_iload hC dX9_tellKind_42 rfl 0 rfl ?_
      refine s_callS hC (ct_fillS l g _ _ _ _ _ _ (RepC.f_kinds hR) c_1) ce_X9_fill tw_541 rfl rfl ⟨⟨le_b rfl, le_b rfl⟩, le_b rfl, le_b rfl⟩ (le_b rfl) dX9_tellKind_44 rfl (dvk1 ?_) nokx
      refine WP.rc (RepC.w_kinds hR _) (fun hR_44 => ?_)
      refine s_iret hC hr dX9_tellKind_47 (le_b rfl) (le_b rfl) ?_
      exact okC_mk (by simp [cd_tellKind_kinds, c_1, c_2, c9_36]) (by first | (simp [vl_tellKind_kinds, c_1, c_2, c9_36]; done) | rfl) hR_44 rfl (by first | rfl | (simp [nx_tellKind_kinds, c_1, c_2, c9_36]; done))
    · refine s_throwSW hC htab hst (cls := "java/lang/IllegalArgumentException") (names := ["java/lang/RuntimeException", "java/lang/Exception"]) (i := 0) fit_IllegalArgumentException tw_450 tw_15 rfl at_X9_97 at_X9_97_ot dX9_tellKind_23 dX9_tellKind_26 dX9_tellKind_27 dX9_tellKind_30 dX9_tellKind_33 ⟨le_b rfl, le_b rfl, le_b rfl, le_b rfl⟩ ⟨le_b rfl, le_b rfl⟩ ?_
      exact exC_mk (by simp [cd_tellKind_kinds, c_1, c_2]) (by simp [cd_tellKind_kinds, c_1, c_2]) hR rfl
def cd_tellKind_refs (σ : St) (f9 : Int32) (t9 : Int32) (c9 : Int32) : Nat := if isStr f9 t9 = true then (if 0 ≤ ixF (stF [99, 115, 114, 98]) c9 4 0 then (if nI σ.n ≤ f9 then 0 else 2) else 1) else 1
def vl_tellKind_refs (σ : St) (f9 : Int32) (t9 : Int32) (c9 : Int32) : Int32 := fcF σ.refs f9 t9 (ixF (stF [99, 115, 114, 98]) c9 4 0)
def nx_tellKind_refs (σ : St) (f9 : Int32) (t9 : Int32) (c9 : Int32) : St := σ.w_refs (fwF σ.refs f9 t9 (ixF (stF [99, 115, 114, 98]) c9 4 0))
set_option maxHeartbeats 1000000 in
set_option maxRecDepth 100000 in
theorem ct_X9_tellKind_refs (l : Launch) (g : Gl) (hst : l.stackTraces = false) (ω : Wd) (ad : Ix → Nat) (x : Ex) (σ : St) (hR : RepC g ad x σ ω) (f9 : Int32) (t9 : Int32) (c9 : Int32) : CT l g yX9_tellKind cX9_tellKind 6 (some .int) 7 111 1 6 [.ref (ad .main), .ref (ad .refs), .int f9, .int t9, .int c9] ω (okC g ad (cd_tellKind_refs σ f9 t9 c9) (some (.int (vl_tellKind_refs σ f9 t9 c9))) (nx_tellKind_refs σ f9 t9 c9)) (exC g ad (cd_tellKind_refs σ f9 t9 c9) ["java/lang/IllegalArgumentException", "java/lang/UnsupportedOperationException"] σ) := by
  refine CT.of (own := "Boringhead") rfl rfl (le_b rfl) rfl ?_
  intro p e s m args below meth c sz0 hC hr htab hin
  refine s_gets hC 0 rfl tw_436 dX9_tellKind_0 rfl ?_
  refine s_iload hC dX9_tellKind_3 rfl 4 rfl ?_
  refine s_callS hC (ct_X9_indexIn l g _ _ 4 _ _ (ar_sc g _ 0 rfl) (by decide)) ce_X9_indexIn tw_438 rfl rfl ⟨⟨le_b rfl, le_b rfl⟩, le_b rfl, le_b rfl⟩ (le_b rfl) dX9_tellKind_5 rfl (dvk1 ?_) nokx
  refine s_istore hC (L' := [(5, _), (0, _), (1, _), (2, _), (3, _), (4, _)]) dX9_tellKind_8 rfl (le_b rfl) rfl ?_
  refine s_iload_n hC dX9_tellKind_10 rfl rfl 3 rfl ?_
  refine s_iload_n hC dX9_tellKind_11 rfl rfl 4 rfl ?_
  refine s_callS hC (ct_X9_isStretch l g _ _ _) ce_X9_isStretch tw_441 rfl rfl ⟨⟨le_b rfl, le_b rfl⟩, le_b rfl, le_b rfl⟩ (le_b rfl) dX9_tellKind_12 rfl (dvk1 ?_) nokx
  refine z_if_eqB hC (tgt := 23) dX9_tellKind_15 rfl (by decide) (fun c_1 => ?_) (fun c_1 => ?_)
  · refine s_throwSW hC htab hst (cls := "java/lang/IllegalArgumentException") (names := ["java/lang/RuntimeException", "java/lang/Exception"]) (i := 0) fit_IllegalArgumentException tw_450 tw_15 rfl at_X9_97 at_X9_97_ot dX9_tellKind_23 dX9_tellKind_26 dX9_tellKind_27 dX9_tellKind_30 dX9_tellKind_33 ⟨le_b rfl, le_b rfl, le_b rfl, le_b rfl⟩ ⟨le_b rfl, le_b rfl⟩ ?_
    exact exC_mk (by simp [cd_tellKind_refs, c_1]) (by simp [cd_tellKind_refs, c_1]) hR rfl
  · refine s_iload hC dX9_tellKind_18 rfl 0 rfl ?_
    refine z_if_ge hC (tgt := 34) dX9_tellKind_20 rfl (by decide) (fun c_2 => ?_) (fun c_2 => ?_)
    · refine s_aload_n hC dX9_tellKind_34 rfl rfl 1 rfl ?_
      refine s_iload_n hC dX9_tellKind_35 rfl rfl 3 rfl ?_
      refine s_callV hC (ct_X9_refuseBuilt l g hst _ _ _ _ hR _) ce_X9_refuseBuilt cs_X9 (RepC.f_main hR) tw_521 rfl rfl ⟨⟨le_b rfl, le_b rfl⟩, le_b rfl, le_b rfl⟩ (le_b rfl) dX9_tellKind_36 rfl (fun r w h9 => ?_) (outk hC htab (le_b rfl) (le_b rfl) (fun E w h9 => by obtain ⟨rfl, h8, rfl⟩ := h9; exact exC_mk (by simp [cd_tellKind_refs, c_1, c_2, h8]) (by simp [cd_tellKind_refs, c_1, c_2, h8]) hR rfl))
      obtain ⟨c9_36, rfl, rfl⟩ := h9
      refine s_aload_n hC dX9_tellKind_39 rfl rfl 2 rfl ?_
      refine s_iload_n hC dX9_tellKind_40 rfl rfl 3 rfl ?_
      refine s_iload_n hC dX9_tellKind_41 rfl rfl 4 rfl ?_
      refine s_iload hC dX9_tellKind_42 rfl 0 rfl ?_
      refine s_callS hC (ct_fillS l g _ _ _ _ _ _ (RepC.f_refs hR) c_1) ce_X9_fill tw_541 rfl rfl ⟨⟨le_b rfl, le_b rfl⟩, le_b rfl, le_b rfl⟩ (le_b rfl) dX9_tellKind_44 rfl (dvk1 ?_) nokx
      refine WP.rc (RepC.w_refs hR _) (fun hR_44 => ?_)
      refine s_iret hC hr dX9_tellKind_47 (le_b rfl) (le_b rfl) ?_
      exact okC_mk (by simp [cd_tellKind_refs, c_1, c_2, c9_36]) (by first | (simp [vl_tellKind_refs, c_1, c_2, c9_36]; done) | rfl) hR_44 rfl (by first | rfl | (simp [nx_tellKind_refs, c_1, c_2, c9_36]; done))
    · refine s_throwSW hC htab hst (cls := "java/lang/IllegalArgumentException") (names := ["java/lang/RuntimeException", "java/lang/Exception"]) (i := 0) fit_IllegalArgumentException tw_450 tw_15 rfl at_X9_97 at_X9_97_ot dX9_tellKind_23 dX9_tellKind_26 dX9_tellKind_27 dX9_tellKind_30 dX9_tellKind_33 ⟨le_b rfl, le_b rfl, le_b rfl, le_b rfl⟩ ⟨le_b rfl, le_b rfl⟩ ?_
      exact exC_mk (by simp [cd_tellKind_refs, c_1, c_2]) (by simp [cd_tellKind_refs, c_1, c_2]) hR rfl
def cd_tellNumber_depths (σ : St) (f9 : Int32) (t9 : Int32) (v9 : Int32) (lo9 : Int32) (hi9 : Int32) : Nat := if isStr f9 t9 = true then (if inR v9 lo9 hi9 = true then (if nI σ.n ≤ f9 then 0 else 2) else 1) else 1
def vl_tellNumber_depths (σ : St) (f9 : Int32) (t9 : Int32) (v9 : Int32) (lo9 : Int32) (hi9 : Int32) : Int32 := atF 200 σ.depths f9
def nx_tellNumber_depths (σ : St) (f9 : Int32) (t9 : Int32) (v9 : Int32) (lo9 : Int32) (hi9 : Int32) : St := σ.w_depths (fwF σ.depths f9 t9 v9)
set_option maxHeartbeats 1000000 in
set_option maxRecDepth 100000 in
theorem ct_X9_tellNumber_depths (l : Launch) (g : Gl) (hst : l.stackTraces = false) (ω : Wd) (ad : Ix → Nat) (x : Ex) (σ : St) (hR : RepC g ad x σ ω) (f9 : Int32) (t9 : Int32) (v9 : Int32) (lo9 : Int32) (hi9 : Int32) : CT l g yX9_tellNumber cX9_tellNumber 8 (some .int) 7 111 1 6 [.ref (ad .main), .ref (ad .depths), .int f9, .int t9, .int v9, .int lo9, .int hi9] ω (okC g ad (cd_tellNumber_depths σ f9 t9 v9 lo9 hi9) (some (.int (vl_tellNumber_depths σ f9 t9 v9 lo9 hi9))) (nx_tellNumber_depths σ f9 t9 v9 lo9 hi9)) (exC g ad (cd_tellNumber_depths σ f9 t9 v9 lo9 hi9) ["java/lang/IllegalArgumentException", "java/lang/UnsupportedOperationException"] σ) := by
  refine CT.of (own := "Boringhead") rfl rfl (le_b rfl) rfl ?_
  intro p e s m args below meth c sz0 hC hr htab hin
  refine s_iload_n hC dX9_tellNumber_0 rfl rfl 2 rfl ?_
  refine s_iload_n hC dX9_tellNumber_1 rfl rfl 3 rfl ?_
  refine s_callS hC (ct_X9_isStretch l g _ _ _) ce_X9_isStretch tw_441 rfl rfl ⟨⟨le_b rfl, le_b rfl⟩, le_b rfl, le_b rfl⟩ (le_b rfl) dX9_tellNumber_2 rfl (dvk1 ?_) nokx
  refine z_if_eqB hC (tgt := 20) dX9_tellNumber_5 rfl (by decide) (fun c_1 => ?_) (fun c_1 => ?_)
  · refine s_throwSW hC htab hst (cls := "java/lang/IllegalArgumentException") (names := ["java/lang/RuntimeException", "java/lang/Exception"]) (i := 2) fit_IllegalArgumentException tw_450 tw_15 rfl at_X9_97 at_X9_97_ot dX9_tellNumber_20 dX9_tellNumber_23 dX9_tellNumber_24 dX9_tellNumber_27 dX9_tellNumber_30 ⟨le_b rfl, le_b rfl, le_b rfl, le_b rfl⟩ ⟨le_b rfl, le_b rfl⟩ ?_
    exact exC_mk (by simp [cd_tellNumber_depths, c_1]) (by simp [cd_tellNumber_depths, c_1]) hR rfl
  · refine s_iload hC dX9_tellNumber_8 rfl 4 rfl ?_
    refine s_iload hC dX9_tellNumber_10 rfl 5 rfl ?_
    refine s_iload hC dX9_tellNumber_12 rfl 6 rfl ?_
    refine s_callS hC (ct_X9_isWithin l g _ _ _ _) ce_X9_isWithin tw_447 rfl rfl ⟨⟨le_b rfl, le_b rfl⟩, le_b rfl, le_b rfl⟩ (le_b rfl) dX9_tellNumber_14 rfl (dvk1 ?_) nokx
    refine z_if_neB hC (tgt := 31) dX9_tellNumber_17 rfl (by decide) (fun c_2 => ?_) (fun c_2 => ?_)
    · refine s_aload_n hC dX9_tellNumber_31 rfl rfl 0 rfl ?_
      refine s_iload_n hC dX9_tellNumber_32 rfl rfl 2 rfl ?_
      refine s_callV hC (ct_X9_refuseBuilt l g hst _ _ _ _ hR _) ce_X9_refuseBuilt cs_X9 (RepC.f_main hR) tw_521 rfl rfl ⟨⟨le_b rfl, le_b rfl⟩, le_b rfl, le_b rfl⟩ (le_b rfl) dX9_tellNumber_33 rfl (fun r w h9 => ?_) (outk hC htab (le_b rfl) (le_b rfl) (fun E w h9 => by obtain ⟨rfl, h8, rfl⟩ := h9; exact exC_mk (by simp [cd_tellNumber_depths, c_1, c_2, h8]) (by simp [cd_tellNumber_depths, c_1, c_2, h8]) hR rfl))
      obtain ⟨c9_33, rfl, rfl⟩ := h9
      refine s_aload_n hC dX9_tellNumber_36 rfl rfl 1 rfl ?_
      refine s_iload_n hC dX9_tellNumber_37 rfl rfl 2 rfl ?_
      refine s_callS hC (ct_X9_at l g _ _ _ _ _ (Or.inl (RepC.f_depths hR)) (by first | decide | assumption)) ce_X9_at tw_367 rfl rfl ⟨⟨le_b rfl, le_b rfl⟩, le_b rfl, le_b rfl⟩ (le_b rfl) dX9_tellNumber_38 rfl (dvk1 ?_) nokx
      refine s_istore hC (L' := [(7, _), (0, _), (1, _), (2, _), (3, _), (4, _), (5, _), (6, _)]) dX9_tellNumber_41 rfl (le_b rfl) rfl ?_
      refine s_aload_n hC dX9_tellNumber_43 rfl rfl 2 rfl ?_
      refine s_iload_n hC dX9_tellNumber_44 rfl rfl 3 rfl ?_
      refine s_iload_n hC dX9_tellNumber_45 rfl rfl 4 rfl ?_
      refine s_iload hC dX9_tellNumber_46 rfl 5 rfl ?_
      refine s_callS hC (ct_fillS l g _ _ _ _ _ _ (RepC.f_depths hR) c_1) ce_X9_fill tw_541 rfl rfl ⟨⟨le_b rfl, le_b rfl⟩, le_b rfl, le_b rfl⟩ (le_b rfl) dX9_tellNumber_48 rfl (dvk1 ?_) nokx
      refine WP.rc (RepC.w_depths hR _) (fun hR_48 => ?_)
      refine s_pop hC dX9_tellNumber_51 rfl rfl ?_
      refine s_iload hC dX9_tellNumber_52 rfl 0 rfl ?_
      refine s_iret hC hr dX9_tellNumber_54 (le_b rfl) (le_b rfl) ?_
      exact okC_mk (by simp [cd_tellNumber_depths, c_1, c_2, c9_33]) (by first | (simp [vl_tellNumber_depths, c_1, c_2, c9_33]; done) | rfl) hR_48 rfl (by first | rfl | (simp [nx_tellNumber_depths, c_1, c_2, c9_33]; done))
    · refine s_throwSW hC htab hst (cls := "java/lang/IllegalArgumentException") (names := ["java/lang/RuntimeException", "java/lang/Exception"]) (i := 2) fit_IllegalArgumentException tw_450 tw_15 rfl at_X9_97 at_X9_97_ot dX9_tellNumber_20 dX9_tellNumber_23 dX9_tellNumber_24 dX9_tellNumber_27 dX9_tellNumber_30 ⟨le_b rfl, le_b rfl, le_b rfl, le_b rfl⟩ ⟨le_b rfl, le_b rfl⟩ ?_
      exact exC_mk (by simp [cd_tellNumber_depths, c_1, c_2]) (by simp [cd_tellNumber_depths, c_1, c_2]) hR rfl
def cd_tellNumber_waters (σ : St) (f9 : Int32) (t9 : Int32) (v9 : Int32) (lo9 : Int32) (hi9 : Int32) : Nat := if isStr f9 t9 = true then (if inR v9 lo9 hi9 = true then (if nI σ.n ≤ f9 then 0 else 2) else 1) else 1
def vl_tellNumber_waters (σ : St) (f9 : Int32) (t9 : Int32) (v9 : Int32) (lo9 : Int32) (hi9 : Int32) : Int32 := atF 200 σ.waters f9
def nx_tellNumber_waters (σ : St) (f9 : Int32) (t9 : Int32) (v9 : Int32) (lo9 : Int32) (hi9 : Int32) : St := σ.w_waters (fwF σ.waters f9 t9 v9)
set_option maxHeartbeats 1000000 in
set_option maxRecDepth 100000 in
theorem ct_X9_tellNumber_waters (l : Launch) (g : Gl) (hst : l.stackTraces = false) (ω : Wd) (ad : Ix → Nat) (x : Ex) (σ : St) (hR : RepC g ad x σ ω) (f9 : Int32) (t9 : Int32) (v9 : Int32) (lo9 : Int32) (hi9 : Int32) : CT l g yX9_tellNumber cX9_tellNumber 8 (some .int) 7 111 1 6 [.ref (ad .main), .ref (ad .waters), .int f9, .int t9, .int v9, .int lo9, .int hi9] ω (okC g ad (cd_tellNumber_waters σ f9 t9 v9 lo9 hi9) (some (.int (vl_tellNumber_waters σ f9 t9 v9 lo9 hi9))) (nx_tellNumber_waters σ f9 t9 v9 lo9 hi9)) (exC g ad (cd_tellNumber_waters σ f9 t9 v9 lo9 hi9) ["java/lang/IllegalArgumentException", "java/lang/UnsupportedOperationException"] σ) := by
  refine CT.of (own := "Boringhead") rfl rfl (le_b rfl) rfl ?_
  intro p e s m args below meth c sz0 hC hr htab hin
  refine s_iload_n hC dX9_tellNumber_0 rfl rfl 2 rfl ?_
  refine s_iload_n hC dX9_tellNumber_1 rfl rfl 3 rfl ?_
  refine s_callS hC (ct_X9_isStretch l g _ _ _) ce_X9_isStretch tw_441 rfl rfl ⟨⟨le_b rfl, le_b rfl⟩, le_b rfl, le_b rfl⟩ (le_b rfl) dX9_tellNumber_2 rfl (dvk1 ?_) nokx
  refine z_if_eqB hC (tgt := 20) dX9_tellNumber_5 rfl (by decide) (fun c_1 => ?_) (fun c_1 => ?_)
  · refine s_throwSW hC htab hst (cls := "java/lang/IllegalArgumentException") (names := ["java/lang/RuntimeException", "java/lang/Exception"]) (i := 2) fit_IllegalArgumentException tw_450 tw_15 rfl at_X9_97 at_X9_97_ot dX9_tellNumber_20 dX9_tellNumber_23 dX9_tellNumber_24 dX9_tellNumber_27 dX9_tellNumber_30 ⟨le_b rfl, le_b rfl, le_b rfl, le_b rfl⟩ ⟨le_b rfl, le_b rfl⟩ ?_
    exact exC_mk (by simp [cd_tellNumber_waters, c_1]) (by simp [cd_tellNumber_waters, c_1]) hR rfl
  · refine s_iload hC dX9_tellNumber_8 rfl 4 rfl ?_
    refine s_iload hC dX9_tellNumber_10 rfl 5 rfl ?_
    refine s_iload hC dX9_tellNumber_12 rfl 6 rfl ?_
    refine s_callS hC (ct_X9_isWithin l g _ _ _ _) ce_X9_isWithin tw_447 rfl rfl ⟨⟨le_b rfl, le_b rfl⟩, le_b rfl, le_b rfl⟩ (le_b rfl) dX9_tellNumber_14 rfl (dvk1 ?_) nokx
    refine z_if_neB hC (tgt := 31) dX9_tellNumber_17 rfl (by decide) (fun c_2 => ?_) (fun c_2 => ?_)
    · refine s_aload_n hC dX9_tellNumber_31 rfl rfl 0 rfl ?_
      refine s_iload_n hC dX9_tellNumber_32 rfl rfl 2 rfl ?_
      refine s_callV hC (ct_X9_refuseBuilt l g hst _ _ _ _ hR _) ce_X9_refuseBuilt cs_X9 (RepC.f_main hR) tw_521 rfl rfl ⟨⟨le_b rfl, le_b rfl⟩, le_b rfl, le_b rfl⟩ (le_b rfl) dX9_tellNumber_33 rfl (fun r w h9 => ?_) (outk hC htab (le_b rfl) (le_b rfl) (fun E w h9 => by obtain ⟨rfl, h8, rfl⟩ := h9; exact exC_mk (by simp [cd_tellNumber_waters, c_1, c_2, h8]) (by simp [cd_tellNumber_waters, c_1, c_2, h8]) hR rfl))
      obtain ⟨c9_33, rfl, rfl⟩ := h9
      refine s_aload_n hC dX9_tellNumber_36 rfl rfl 1 rfl ?_
      refine s_iload_n hC dX9_tellNumber_37 rfl rfl 2 rfl ?_
      refine s_callS hC (ct_X9_at l g _ _ _ _ _ (Or.inl (RepC.f_waters hR)) (by first | decide | assumption)) ce_X9_at tw_367 rfl rfl ⟨⟨le_b rfl, le_b rfl⟩, le_b rfl, le_b rfl⟩ (le_b rfl) dX9_tellNumber_38 rfl (dvk1 ?_) nokx
      refine s_istore hC (L' := [(7, _), (0, _), (1, _), (2, _), (3, _), (4, _), (5, _), (6, _)]) dX9_tellNumber_41 rfl (le_b rfl) rfl ?_
      refine s_aload_n hC dX9_tellNumber_43 rfl rfl 2 rfl ?_
      refine s_iload_n hC dX9_tellNumber_44 rfl rfl 3 rfl ?_
      refine s_iload_n hC dX9_tellNumber_45 rfl rfl 4 rfl ?_
      refine s_iload hC dX9_tellNumber_46 rfl 5 rfl ?_
      refine s_callS hC (ct_fillS l g _ _ _ _ _ _ (RepC.f_waters hR) c_1) ce_X9_fill tw_541 rfl rfl ⟨⟨le_b rfl, le_b rfl⟩, le_b rfl, le_b rfl⟩ (le_b rfl) dX9_tellNumber_48 rfl (dvk1 ?_) nokx
      refine WP.rc (RepC.w_waters hR _) (fun hR_48 => ?_)
      refine s_pop hC dX9_tellNumber_51 rfl rfl ?_
      refine s_iload hC dX9_tellNumber_52 rfl 0 rfl ?_
      refine s_iret hC hr dX9_tellNumber_54 (le_b rfl) (le_b rfl) ?_
      exact okC_mk (by simp [cd_tellNumber_waters, c_1, c_2, c9_33]) (by first | (simp [vl_tellNumber_waters, c_1, c_2, c9_33]; done) | rfl) hR_48 rfl (by first | rfl | (simp [nx_tellNumber_waters, c_1, c_2, c9_33]; done))
    · refine s_throwSW hC htab hst (cls := "java/lang/IllegalArgumentException") (names := ["java/lang/RuntimeException", "java/lang/Exception"]) (i := 2) fit_IllegalArgumentException tw_450 tw_15 rfl at_X9_97 at_X9_97_ot dX9_tellNumber_20 dX9_tellNumber_23 dX9_tellNumber_24 dX9_tellNumber_27 dX9_tellNumber_30 ⟨le_b rfl, le_b rfl, le_b rfl, le_b rfl⟩ ⟨le_b rfl, le_b rfl⟩ ?_
      exact exC_mk (by simp [cd_tellNumber_waters, c_1, c_2]) (by simp [cd_tellNumber_waters, c_1, c_2]) hR rfl
def cd_ground (σ : St) (f9 : Int32) (t9 : Int32) (c9 : Int32) : Nat := cd_tellKind_kinds σ f9 t9 c9
def vl_ground (σ : St) (f9 : Int32) (t9 : Int32) (c9 : Int32) : Int32 := vl_tellKind_kinds σ f9 t9 c9
def nx_ground (σ : St) (f9 : Int32) (t9 : Int32) (c9 : Int32) : St := nx_tellKind_kinds σ f9 t9 c9
set_option maxHeartbeats 1000000 in
set_option maxRecDepth 100000 in
theorem ct_X9_ground (l : Launch) (g : Gl) (hst : l.stackTraces = false) (ω : Wd) (ad : Ix → Nat) (x : Ex) (σ : St) (hR : RepC g ad x σ ω) (f9 : Int32) (t9 : Int32) (c9 : Int32) : CT l g yX9_ground cX9_ground 4 (some .int) 8 136 1 6 [.ref (ad .main), .int f9, .int t9, .int c9] ω (okC g ad (cd_ground σ f9 t9 c9) (some (.int (vl_ground σ f9 t9 c9))) (nx_ground σ f9 t9 c9)) (exC g ad (cd_ground σ f9 t9 c9) ["java/lang/IllegalArgumentException", "java/lang/UnsupportedOperationException"] σ) := by
  refine CT.of (own := "Boringhead") rfl rfl (le_b rfl) rfl ?_
  intro p e s m args below meth c sz0 hC hr htab hin
  refine s_aload_n hC dX9_ground_0 rfl rfl 0 rfl ?_
  refine s_aload_n hC dX9_ground_1 rfl rfl 0 rfl ?_
  refine s_getf hC cs_X9 0 tw_237 (le_b rfl) (RepC.f_main hR) rfl dX9_ground_2 rfl ?_
  refine s_getfN hC cs_X7 0 tw_85 (le_b rfl) (RepC.f_soil hR) rfl dX9_ground_5 rfl ?_
  refine s_iload_n hC dX9_ground_8 rfl rfl 1 rfl ?_
  refine s_iload_n hC dX9_ground_9 rfl rfl 2 rfl ?_
  refine s_iload_n hC dX9_ground_10 rfl rfl 3 rfl ?_
  refine s_callV hC (ct_X9_tellKind_kinds l g hst _ _ _ _ hR _ _ _) ce_X9_tellKind cs_X9 (RepC.f_main hR) tw_432 rfl rfl ⟨⟨le_b rfl, le_b rfl⟩, le_b rfl, le_b rfl⟩ (le_b rfl) dX9_ground_11 rfl (fun r w h9 => ?_) (outk hC htab (le_b rfl) (le_b rfl) (fun E w h9 => h9))
  obtain ⟨h7, rfl, h8⟩ := h9
  refine s_iret hC hr dX9_ground_14 (le_b rfl) (le_b rfl) ?_
  exact ⟨h7, rfl, h8⟩
def cd_reference (σ : St) (f9 : Int32) (t9 : Int32) (c9 : Int32) : Nat := cd_tellKind_refs σ f9 t9 c9
def vl_reference (σ : St) (f9 : Int32) (t9 : Int32) (c9 : Int32) : Int32 := vl_tellKind_refs σ f9 t9 c9
def nx_reference (σ : St) (f9 : Int32) (t9 : Int32) (c9 : Int32) : St := nx_tellKind_refs σ f9 t9 c9
set_option maxHeartbeats 1000000 in
set_option maxRecDepth 100000 in
theorem ct_X9_reference (l : Launch) (g : Gl) (hst : l.stackTraces = false) (ω : Wd) (ad : Ix → Nat) (x : Ex) (σ : St) (hR : RepC g ad x σ ω) (f9 : Int32) (t9 : Int32) (c9 : Int32) : CT l g yX9_reference cX9_reference 4 (some .int) 8 136 1 6 [.ref (ad .main), .int f9, .int t9, .int c9] ω (okC g ad (cd_reference σ f9 t9 c9) (some (.int (vl_reference σ f9 t9 c9))) (nx_reference σ f9 t9 c9)) (exC g ad (cd_reference σ f9 t9 c9) ["java/lang/IllegalArgumentException", "java/lang/UnsupportedOperationException"] σ) := by
  refine CT.of (own := "Boringhead") rfl rfl (le_b rfl) rfl ?_
  intro p e s m args below meth c sz0 hC hr htab hin
  refine s_aload_n hC dX9_reference_0 rfl rfl 0 rfl ?_
  refine s_aload_n hC dX9_reference_1 rfl rfl 0 rfl ?_
  refine s_getf hC cs_X9 0 tw_237 (le_b rfl) (RepC.f_main hR) rfl dX9_reference_2 rfl ?_
  refine s_getfN hC cs_X7 1 tw_87 (le_b rfl) (RepC.f_soil hR) rfl dX9_reference_5 rfl ?_
  refine s_iload_n hC dX9_reference_8 rfl rfl 1 rfl ?_
  refine s_iload_n hC dX9_reference_9 rfl rfl 2 rfl ?_
  refine s_iload_n hC dX9_reference_10 rfl rfl 3 rfl ?_
  refine s_callV hC (ct_X9_tellKind_refs l g hst _ _ _ _ hR _ _ _) ce_X9_tellKind cs_X9 (RepC.f_main hR) tw_432 rfl rfl ⟨⟨le_b rfl, le_b rfl⟩, le_b rfl, le_b rfl⟩ (le_b rfl) dX9_reference_11 rfl (fun r w h9 => ?_) (outk hC htab (le_b rfl) (le_b rfl) (fun E w h9 => h9))
  obtain ⟨h7, rfl, h8⟩ := h9
  refine s_iret hC hr dX9_reference_14 (le_b rfl) (le_b rfl) ?_
  exact ⟨h7, rfl, h8⟩
def cd_depth (σ : St) (f9 : Int32) (t9 : Int32) (v9 : Int32) : Nat := cd_tellNumber_depths σ f9 t9 v9 10 60
def vl_depth (σ : St) (f9 : Int32) (t9 : Int32) (v9 : Int32) : Int32 := vl_tellNumber_depths σ f9 t9 v9 10 60
def nx_depth (σ : St) (f9 : Int32) (t9 : Int32) (v9 : Int32) : St := nx_tellNumber_depths σ f9 t9 v9 10 60
set_option maxHeartbeats 1000000 in
set_option maxRecDepth 100000 in
theorem ct_X9_depth (l : Launch) (g : Gl) (hst : l.stackTraces = false) (ω : Wd) (ad : Ix → Nat) (x : Ex) (σ : St) (hR : RepC g ad x σ ω) (f9 : Int32) (t9 : Int32) (v9 : Int32) : CT l g yX9_depth cX9_depth 4 (some .int) 8 138 1 6 [.ref (ad .main), .int f9, .int t9, .int v9] ω (okC g ad (cd_depth σ f9 t9 v9) (some (.int (vl_depth σ f9 t9 v9))) (nx_depth σ f9 t9 v9)) (exC g ad (cd_depth σ f9 t9 v9) ["java/lang/IllegalArgumentException", "java/lang/UnsupportedOperationException"] σ) := by
  refine CT.of (own := "Boringhead") rfl rfl (le_b rfl) rfl ?_
  intro p e s m args below meth c sz0 hC hr htab hin
  refine s_aload_n hC dX9_depth_0 rfl rfl 0 rfl ?_
  refine s_aload_n hC dX9_depth_1 rfl rfl 0 rfl ?_
  refine s_getf hC cs_X9 0 tw_237 (le_b rfl) (RepC.f_main hR) rfl dX9_depth_2 rfl ?_
  refine s_getfN hC cs_X7 2 tw_89 (le_b rfl) (RepC.f_soil hR) rfl dX9_depth_5 rfl ?_
  refine s_iload_n hC dX9_depth_8 rfl rfl 1 rfl ?_
  refine s_iload_n hC dX9_depth_9 rfl rfl 2 rfl ?_
  refine s_iload_n hC dX9_depth_10 rfl rfl 3 rfl ?_
  refine s_bipush hC (v := 10) dX9_depth_11 rfl (by decide) ?_
  refine s_bipush hC (v := 60) dX9_depth_13 rfl (by decide) ?_
  refine s_callV hC (ct_X9_tellNumber_depths l g hst _ _ _ _ hR _ _ _ _ _) ce_X9_tellNumber cs_X9 (RepC.f_main hR) tw_559 rfl rfl ⟨⟨le_b rfl, le_b rfl⟩, le_b rfl, le_b rfl⟩ (le_b rfl) dX9_depth_15 rfl (fun r w h9 => ?_) (outk hC htab (le_b rfl) (le_b rfl) (fun E w h9 => h9))
  obtain ⟨h7, rfl, h8⟩ := h9
  refine s_iret hC hr dX9_depth_18 (le_b rfl) (le_b rfl) ?_
  exact ⟨h7, rfl, h8⟩
def cd_water (σ : St) (f9 : Int32) (t9 : Int32) (v9 : Int32) : Nat := cd_tellNumber_waters σ f9 t9 v9 0 40
def vl_water (σ : St) (f9 : Int32) (t9 : Int32) (v9 : Int32) : Int32 := vl_tellNumber_waters σ f9 t9 v9 0 40
def nx_water (σ : St) (f9 : Int32) (t9 : Int32) (v9 : Int32) : St := nx_tellNumber_waters σ f9 t9 v9 0 40
set_option maxHeartbeats 1000000 in
set_option maxRecDepth 100000 in
theorem ct_X9_water (l : Launch) (g : Gl) (hst : l.stackTraces = false) (ω : Wd) (ad : Ix → Nat) (x : Ex) (σ : St) (hR : RepC g ad x σ ω) (f9 : Int32) (t9 : Int32) (v9 : Int32) : CT l g yX9_water cX9_water 4 (some .int) 8 138 1 6 [.ref (ad .main), .int f9, .int t9, .int v9] ω (okC g ad (cd_water σ f9 t9 v9) (some (.int (vl_water σ f9 t9 v9))) (nx_water σ f9 t9 v9)) (exC g ad (cd_water σ f9 t9 v9) ["java/lang/IllegalArgumentException", "java/lang/UnsupportedOperationException"] σ) := by
  refine CT.of (own := "Boringhead") rfl rfl (le_b rfl) rfl ?_
  intro p e s m args below meth c sz0 hC hr htab hin
  refine s_aload_n hC dX9_water_0 rfl rfl 0 rfl ?_
  refine s_aload_n hC dX9_water_1 rfl rfl 0 rfl ?_
  refine s_getf hC cs_X9 0 tw_237 (le_b rfl) (RepC.f_main hR) rfl dX9_water_2 rfl ?_
  refine s_getfN hC cs_X7 3 tw_91 (le_b rfl) (RepC.f_soil hR) rfl dX9_water_5 rfl ?_
  refine s_iload_n hC dX9_water_8 rfl rfl 1 rfl ?_
  refine s_iload_n hC dX9_water_9 rfl rfl 2 rfl ?_
  refine s_iload_n hC dX9_water_10 rfl rfl 3 rfl ?_
  refine s_iconst hC (v := 0) dX9_water_11 rfl (by decide) ?_
  refine s_bipush hC (v := 40) dX9_water_12 rfl (by decide) ?_
  refine s_callV hC (ct_X9_tellNumber_waters l g hst _ _ _ _ hR _ _ _ _ _) ce_X9_tellNumber cs_X9 (RepC.f_main hR) tw_559 rfl rfl ⟨⟨le_b rfl, le_b rfl⟩, le_b rfl, le_b rfl⟩ (le_b rfl) dX9_water_14 rfl (fun r w h9 => ?_) (outk hC htab (le_b rfl) (le_b rfl) (fun E w h9 => h9))
  obtain ⟨h7, rfl, h8⟩ := h9
  refine s_iret hC hr dX9_water_17 (le_b rfl) (le_b rfl) ?_
  exact ⟨h7, rfl, h8⟩
def cd_bend (σ : St) (f9 : Int32) (t9 : Int32) (r9 : Int32) (u9 : Int32) : Nat := if isStr f9 t9 = true then (if inR r9 (-20) 20 = true then (if inR u9 (-20) 20 = true then (if nI σ.n ≤ f9 then 0 else 2) else 1) else 1) else 1
def vl_bend (σ : St) (f9 : Int32) (t9 : Int32) (r9 : Int32) (u9 : Int32) : Int32 := t9 - f9 + 1
def nx_bend (σ : St) (f9 : Int32) (t9 : Int32) (r9 : Int32) (u9 : Int32) : St := (σ.w_bR (fwF σ.bR f9 t9 r9)).w_bU (fwF σ.bU f9 t9 u9)
set_option maxHeartbeats 1000000 in
set_option maxRecDepth 100000 in
theorem ct_X9_bend (l : Launch) (g : Gl) (hst : l.stackTraces = false) (ω : Wd) (ad : Ix → Nat) (x : Ex) (σ : St) (hR : RepC g ad x σ ω) (f9 : Int32) (t9 : Int32) (r9 : Int32) (u9 : Int32) : CT l g yX9_bend cX9_bend 5 (some .int) 7 111 1 6 [.ref (ad .main), .int f9, .int t9, .int r9, .int u9] ω (okC g ad (cd_bend σ f9 t9 r9 u9) (some (.int (vl_bend σ f9 t9 r9 u9))) (nx_bend σ f9 t9 r9 u9)) (exC g ad (cd_bend σ f9 t9 r9 u9) ["java/lang/IllegalArgumentException", "java/lang/UnsupportedOperationException"] σ) := by
  refine CT.of (own := "Boringhead") rfl rfl (le_b rfl) rfl ?_
  intro p e s m args below meth c sz0 hC hr htab hin
  refine s_iload_n hC dX9_bend_0 rfl rfl 1 rfl ?_
  refine s_iload_n hC dX9_bend_1 rfl rfl 2 rfl ?_
  refine s_callS hC (ct_X9_isStretch l g _ _ _) ce_X9_isStretch tw_441 rfl rfl ⟨⟨le_b rfl, le_b rfl⟩, le_b rfl, le_b rfl⟩ (le_b rfl) dX9_bend_2 rfl (dvk1 ?_) nokx
  refine z_if_eqB hC (tgt := 31) dX9_bend_5 rfl (by decide) (fun c_1 => ?_) (fun c_1 => ?_)
  · refine s_throwS hC htab hst (cls := "java/lang/IllegalArgumentException") (names := ["java/lang/RuntimeException", "java/lang/Exception"]) (i := 3) fit_IllegalArgumentException tw_450 tw_15 rfl at_X9_97 at_X9_97_ot dX9_bend_31 dX9_bend_34 dX9_bend_35 dX9_bend_37 dX9_bend_40 ⟨le_b rfl, le_b rfl, le_b rfl, le_b rfl⟩ ⟨le_b rfl, le_b rfl⟩ ?_
    exact exC_mk (by simp [cd_bend, c_1]) (by simp [cd_bend, c_1]) hR rfl
  · refine s_iload_n hC dX9_bend_8 rfl rfl 3 rfl ?_
    refine s_bipush hC (v := (-20)) dX9_bend_9 rfl (by decide) ?_
    refine s_bipush hC (v := 20) dX9_bend_11 rfl (by decide) ?_
    refine s_callS hC (ct_X9_isWithin l g _ _ _ _) ce_X9_isWithin tw_447 rfl rfl ⟨⟨le_b rfl, le_b rfl⟩, le_b rfl, le_b rfl⟩ (le_b rfl) dX9_bend_13 rfl (dvk1 ?_) nokx
    refine z_if_eqB hC (tgt := 31) dX9_bend_16 rfl (by decide) (fun c_2 => ?_) (fun c_2 => ?_)
    · refine s_throwS hC htab hst (cls := "java/lang/IllegalArgumentException") (names := ["java/lang/RuntimeException", "java/lang/Exception"]) (i := 3) fit_IllegalArgumentException tw_450 tw_15 rfl at_X9_97 at_X9_97_ot dX9_bend_31 dX9_bend_34 dX9_bend_35 dX9_bend_37 dX9_bend_40 ⟨le_b rfl, le_b rfl, le_b rfl, le_b rfl⟩ ⟨le_b rfl, le_b rfl⟩ ?_
      exact exC_mk (by simp [cd_bend, c_1, c_2]) (by simp [cd_bend, c_1, c_2]) hR rfl
    · refine s_iload hC dX9_bend_19 rfl 4 rfl ?_
      refine s_bipush hC (v := (-20)) dX9_bend_21 rfl (by decide) ?_
      refine s_bipush hC (v := 20) dX9_bend_23 rfl (by decide) ?_
      refine s_callS hC (ct_X9_isWithin l g _ _ _ _) ce_X9_isWithin tw_447 rfl rfl ⟨⟨le_b rfl, le_b rfl⟩, le_b rfl, le_b rfl⟩ (le_b rfl) dX9_bend_25 rfl (dvk1 ?_) nokx
      refine z_if_neB hC (tgt := 41) dX9_bend_28 rfl (by decide) (fun c_3 => ?_) (fun c_3 => ?_)
      · refine s_aload_n hC dX9_bend_41 rfl rfl 0 rfl ?_
        refine s_iload_n hC dX9_bend_42 rfl rfl 1 rfl ?_
        refine s_callV hC (ct_X9_refuseBuilt l g hst _ _ _ _ hR _) ce_X9_refuseBuilt cs_X9 (RepC.f_main hR) tw_521 rfl rfl ⟨⟨le_b rfl, le_b rfl⟩, le_b rfl, le_b rfl⟩ (le_b rfl) dX9_bend_43 rfl (fun r w h9 => ?_) (outk hC htab (le_b rfl) (le_b rfl) (fun E w h9 => by obtain ⟨rfl, h8, rfl⟩ := h9; exact exC_mk (by simp [cd_bend, c_1, c_2, c_3, h8]) (by simp [cd_bend, c_1, c_2, c_3, h8]) hR rfl))
        obtain ⟨c9_43, rfl, rfl⟩ := h9
        refine s_aload_n hC dX9_bend_46 rfl rfl 0 rfl ?_
        refine s_getf hC cs_X9 0 tw_237 (le_b rfl) (RepC.f_main hR) rfl dX9_bend_47 rfl ?_
        refine s_getfN hC cs_X7 4 tw_93 (le_b rfl) (RepC.f_soil hR) rfl dX9_bend_50 rfl ?_
        refine s_iload_n hC dX9_bend_53 rfl rfl 1 rfl ?_
        refine s_iload_n hC dX9_bend_54 rfl rfl 2 rfl ?_
        refine s_iload_n hC dX9_bend_55 rfl rfl 3 rfl ?_
        refine s_callS hC (ct_fillS l g _ _ _ _ _ _ (RepC.f_bR hR) c_1) ce_X9_fill tw_541 rfl rfl ⟨⟨le_b rfl, le_b rfl⟩, le_b rfl, le_b rfl⟩ (le_b rfl) dX9_bend_56 rfl (dvk1 ?_) nokx
        refine WP.rc (RepC.w_bR hR _) (fun hR_56 => ?_)
        refine s_pop hC dX9_bend_59 rfl rfl ?_
        refine s_aload_n hC dX9_bend_60 rfl rfl 0 rfl ?_
        refine s_getf hC cs_X9 0 tw_237 (le_b rfl) (RepC.f_main hR_56) rfl dX9_bend_61 rfl ?_
        refine s_getfN hC cs_X7 5 tw_95 (le_b rfl) (RepC.f_soil hR_56) rfl dX9_bend_64 rfl ?_
        refine s_iload_n hC dX9_bend_67 rfl rfl 1 rfl ?_
        refine s_iload_n hC dX9_bend_68 rfl rfl 2 rfl ?_
        refine s_iload hC dX9_bend_69 rfl 4 rfl ?_
        refine s_callS hC (ct_fillS l g _ _ _ _ _ _ (RepC.f_bU hR_56) c_1) ce_X9_fill tw_541 rfl rfl ⟨⟨le_b rfl, le_b rfl⟩, le_b rfl, le_b rfl⟩ (le_b rfl) dX9_bend_71 rfl (dvk1 ?_) nokx
        refine WP.rc (RepC.w_bU hR_56 _) (fun hR_71 => ?_)
        refine s_pop hC dX9_bend_74 rfl rfl ?_
        refine s_iload_n hC dX9_bend_75 rfl rfl 2 rfl ?_
        refine s_iload_n hC dX9_bend_76 rfl rfl 1 rfl ?_
        refine s_isub hC dX9_bend_77 rfl ?_
        refine s_iconst hC (v := 1) dX9_bend_78 rfl (by decide) ?_
        refine s_iadd hC dX9_bend_79 rfl ?_
        refine s_iret hC hr dX9_bend_80 (le_b rfl) (le_b rfl) ?_
        exact okC_mk (by simp [cd_bend, c_1, c_2, c_3, c9_43]) (by first | (simp [vl_bend, c_1, c_2, c_3, c9_43]; done) | rfl) hR_71 rfl (by first | rfl | (simp [nx_bend, c_1, c_2, c_3, c9_43]; done))
      · refine s_throwS hC htab hst (cls := "java/lang/IllegalArgumentException") (names := ["java/lang/RuntimeException", "java/lang/Exception"]) (i := 3) fit_IllegalArgumentException tw_450 tw_15 rfl at_X9_97 at_X9_97_ot dX9_bend_31 dX9_bend_34 dX9_bend_35 dX9_bend_37 dX9_bend_40 ⟨le_b rfl, le_b rfl, le_b rfl, le_b rfl⟩ ⟨le_b rfl, le_b rfl⟩ ?_
        exact exC_mk (by simp [cd_bend, c_1, c_2, c_3]) (by simp [cd_bend, c_1, c_2, c_3]) hR rfl
def cd_guess (σ : St) (p9 : Int32) : Nat := if inR p9 0 199 = true then 0 else 1
def vl_guess (σ : St) (p9 : Int32) : Int32 := if nI σ.n ≤ p9 then (if 0 ≤ (lkF σ p9 4).1 then atC 4 (stF [99, 115, 114, 98]) (lkF σ p9 4).1 else 63) else atC 4 (stF [99, 115, 114, 98]) (atF 200 σ.kinds p9)
set_option maxHeartbeats 1000000 in
set_option maxRecDepth 100000 in
theorem ct_X9_guess (l : Launch) (g : Gl) (hst : l.stackTraces = false) (ω : Wd) (ad : Ix → Nat) (x : Ex) (σ : St) (hR : RepC g ad x σ ω) (p9 : Int32) : CT l g yX9_guess cX9_guess 3 (some .char) 6 115 1 6 [.ref (ad .main), .int p9] ω (okC g ad (cd_guess σ p9) (some (.int (vl_guess σ p9))) σ) (exC g ad (cd_guess σ p9) ["java/lang/IllegalArgumentException"] σ) := by
  refine CT.of (own := "Boringhead") rfl rfl (le_b rfl) rfl ?_
  intro p e s m args below meth c sz0 hC hr htab hin
  refine s_iload_n hC dX9_guess_0 rfl rfl 1 rfl ?_
  refine s_callS hC (ct_X9_isPlace l g _ _) ce_X9_isPlace tw_444 rfl rfl ⟨⟨le_b rfl, le_b rfl⟩, le_b rfl, le_b rfl⟩ (le_b rfl) dX9_guess_1 rfl (dvk1 ?_) nokx
  refine z_if_neB hC (tgt := 17) dX9_guess_4 rfl (by decide) (fun c_1 => ?_) (fun c_1 => ?_)
  · refine s_iload_n hC dX9_guess_17 rfl rfl 1 rfl ?_
    refine s_aload_n hC dX9_guess_18 rfl rfl 0 rfl ?_
    refine s_getf hC cs_X9 7 tw_244 (le_b rfl) (RepC.f_main hR) rfl dX9_guess_19 rfl ?_
    refine s_callV hC (ct_Jx4a65c_size_8abf5 l g _ _ _ _ _ (RepC.f_built hR)) ce_Jx4a65c_size_8abf5 cs_Jx4a65c (RepC.f_built hR) tw_273 rfl rfl ⟨⟨le_b rfl, le_b rfl⟩, le_b rfl, le_b rfl⟩ (le_b rfl) dX9_guess_22 rfl (dvk1 ?_) nokx
    refine z_icmp_ge hC (tgt := 46) dX9_guess_25 rfl (by decide) (fun c_2 => ?_) (fun c_2 => ?_)
    · refine s_aload_n hC dX9_guess_46 rfl rfl 0 rfl ?_
      refine s_getf hC cs_X9 0 tw_237 (le_b rfl) (RepC.f_main hR) rfl dX9_guess_47 rfl ?_
      refine s_iload_n hC dX9_guess_50 rfl rfl 1 rfl ?_
      refine s_callV hC (ct_X7_likeliest l g _ _ _ _ hR _) ce_X7_likeliest cs_X7 (RepC.f_soil hR) tw_697 rfl rfl ⟨⟨le_b rfl, le_b rfl⟩, le_b rfl, le_b rfl⟩ (le_b rfl) dX9_guess_51 rfl (dvk1 ?_) nokx
      refine s_istore_n hC (L' := [(2, _), (0, _), (1, _)]) dX9_guess_54 rfl rfl (le_b rfl) rfl ?_
      refine s_iload_n hC dX9_guess_55 rfl rfl 0 rfl ?_
      refine z_if_ge hC (tgt := 64) dX9_guess_56 rfl (by decide) (fun c_3 => ?_) (fun c_3 => ?_)
      · refine s_gets hC 0 rfl tw_436 dX9_guess_64 rfl ?_
        refine s_iload_n hC dX9_guess_67 rfl rfl 0 rfl ?_
        refine s_callS hC (ct_X9_letterAt l g _ _ 4 _ _ (ar_sc g _ 0 rfl) (by decide) kd_ch) ce_X9_letterAt tw_694 rfl rfl ⟨⟨le_b rfl, le_b rfl⟩, le_b rfl, le_b rfl⟩ (le_b rfl) dX9_guess_68 rfl (dvk1 ?_) nokx
        refine s_zret hC hr dX9_guess_71 (atC_ch _) (le_b rfl) (le_b rfl) ?_
        exact okC_mk (by simp [cd_guess, c_1, c_2, c_3]) (by first | (simp [vl_guess, c_1, c_2, c_3]; done) | rfl) hR rfl (rfl)
      · refine s_bipush hC (v := 63) dX9_guess_59 rfl (by decide) ?_
        refine s_goto hC (tgt := 71) dX9_guess_61 (by decide) ?_
        refine s_zret hC hr dX9_guess_71 rfl (le_b rfl) (le_b rfl) ?_
        exact okC_mk (by simp [cd_guess, c_1, c_2, c_3]) (by first | (simp [vl_guess, c_1, c_2, c_3]; done) | rfl) hR rfl (rfl)
    · refine s_gets hC 0 rfl tw_436 dX9_guess_28 rfl ?_
      refine s_aload_n hC dX9_guess_31 rfl rfl 0 rfl ?_
      refine s_getf hC cs_X9 0 tw_237 (le_b rfl) (RepC.f_main hR) rfl dX9_guess_32 rfl ?_
      refine s_getfN hC cs_X7 0 tw_85 (le_b rfl) (RepC.f_soil hR) rfl dX9_guess_35 rfl ?_
      refine s_iload_n hC dX9_guess_38 rfl rfl 1 rfl ?_
      refine s_callS hC (ct_X9_at l g _ _ _ _ _ (Or.inl (RepC.f_kinds hR)) (by first | decide | assumption)) ce_X9_at tw_367 rfl rfl ⟨⟨le_b rfl, le_b rfl⟩, le_b rfl, le_b rfl⟩ (le_b rfl) dX9_guess_39 rfl (dvk1 ?_) nokx
      refine s_callS hC (ct_X9_letterAt l g _ _ 4 _ _ (ar_sc g _ 0 rfl) (by decide) kd_ch) ce_X9_letterAt tw_694 rfl rfl ⟨⟨le_b rfl, le_b rfl⟩, le_b rfl, le_b rfl⟩ (le_b rfl) dX9_guess_42 rfl (dvk1 ?_) nokx
      refine s_zret hC hr dX9_guess_45 (atC_ch _) (le_b rfl) (le_b rfl) ?_
      exact okC_mk (by simp [cd_guess, c_1, c_2]) (by first | (simp [vl_guess, c_1, c_2]; done) | rfl) hR rfl (rfl)
  · refine s_throwS hC htab hst (cls := "java/lang/IllegalArgumentException") (names := ["java/lang/RuntimeException", "java/lang/Exception"]) (i := 6) fit_IllegalArgumentException tw_450 tw_15 rfl at_X9_97 at_X9_97_ot dX9_guess_7 dX9_guess_10 dX9_guess_11 dX9_guess_13 dX9_guess_16 ⟨le_b rfl, le_b rfl, le_b rfl, le_b rfl⟩ ⟨le_b rfl, le_b rfl⟩ ?_
    exact exC_mk (by simp [cd_guess, c_1]) (by simp [cd_guess, c_1]) hR rfl
def cd_doubt (σ : St) (p9 : Int32) : Nat := if inR p9 0 199 = true then 0 else 1
def vl_doubt (σ : St) (p9 : Int32) : Int32 := if nI σ.n ≤ p9 then (if waF σ p9 4 ≤ 0 then 1000 else 1000 - 1000 * wtF σ p9 (lkF σ p9 4).1 σ.nb / waF σ p9 4) else 0
set_option maxHeartbeats 1000000 in
set_option maxRecDepth 100000 in
theorem ct_X9_doubt (l : Launch) (g : Gl) (hst : l.stackTraces = false) (ω : Wd) (ad : Ix → Nat) (x : Ex) (σ : St) (hR : RepC g ad x σ ω) (p9 : Int32) : CT l g yX9_doubt cX9_doubt 3 (some .int) 6 115 1 6 [.ref (ad .main), .int p9] ω (okC g ad (cd_doubt σ p9) (some (.int (vl_doubt σ p9))) σ) (exC g ad (cd_doubt σ p9) ["java/lang/IllegalArgumentException"] σ) := by
  refine CT.of (own := "Boringhead") rfl rfl (le_b rfl) rfl ?_
  intro p e s m args below meth c sz0 hC hr htab hin
  refine s_iload_n hC dX9_doubt_0 rfl rfl 1 rfl ?_
  refine s_callS hC (ct_X9_isPlace l g _ _) ce_X9_isPlace tw_444 rfl rfl ⟨⟨le_b rfl, le_b rfl⟩, le_b rfl, le_b rfl⟩ (le_b rfl) dX9_doubt_1 rfl (dvk1 ?_) nokx
  refine z_if_neB hC (tgt := 17) dX9_doubt_4 rfl (by decide) (fun c_1 => ?_) (fun c_1 => ?_)
  · refine s_iload_n hC dX9_doubt_17 rfl rfl 1 rfl ?_
    refine s_aload_n hC dX9_doubt_18 rfl rfl 0 rfl ?_
    refine s_getf hC cs_X9 7 tw_244 (le_b rfl) (RepC.f_main hR) rfl dX9_doubt_19 rfl ?_
    refine s_callV hC (ct_Jx4a65c_size_8abf5 l g _ _ _ _ _ (RepC.f_built hR)) ce_Jx4a65c_size_8abf5 cs_Jx4a65c (RepC.f_built hR) tw_273 rfl rfl ⟨⟨le_b rfl, le_b rfl⟩, le_b rfl, le_b rfl⟩ (le_b rfl) dX9_doubt_22 rfl (dvk1 ?_) nokx
    refine z_icmp_ge hC (tgt := 30) dX9_doubt_25 rfl (by decide) (fun c_2 => ?_) (fun c_2 => ?_)
    · refine s_aload_n hC dX9_doubt_30 rfl rfl 0 rfl ?_
      refine s_getf hC cs_X9 0 tw_237 (le_b rfl) (RepC.f_main hR) rfl dX9_doubt_31 rfl ?_
      refine s_iload_n hC dX9_doubt_34 rfl rfl 1 rfl ?_
      refine s_callV hC (ct_X7_weightOfAll l g _ _ _ _ hR _) ce_X7_weightOfAll cs_X7 (RepC.f_soil hR) tw_717 rfl rfl ⟨⟨le_b rfl, le_b rfl⟩, le_b rfl, le_b rfl⟩ (le_b rfl) dX9_doubt_35 rfl (dvk1 ?_) nokx
      refine s_istore_n hC (L' := [(2, _), (0, _), (1, _)]) dX9_doubt_38 rfl rfl (le_b rfl) rfl ?_
      refine s_iload_n hC dX9_doubt_39 rfl rfl 0 rfl ?_
      refine z_if_gt hC (tgt := 47) dX9_doubt_40 rfl (by decide) (fun c_3 => ?_) (fun c_3 => ?_)
      · refine s_sipush hC (v := 1000) dX9_doubt_47 rfl (by decide) ?_
        refine s_sipush hC (v := 1000) dX9_doubt_50 rfl (by decide) ?_
        refine s_aload_n hC dX9_doubt_53 rfl rfl 1 rfl ?_
        refine s_getf hC cs_X9 0 tw_237 (le_b rfl) (RepC.f_main hR) rfl dX9_doubt_54 rfl ?_
        refine s_iload_n hC dX9_doubt_57 rfl rfl 2 rfl ?_
        refine s_aload_n hC dX9_doubt_58 rfl rfl 1 rfl ?_
        refine s_getf hC cs_X9 0 tw_237 (le_b rfl) (RepC.f_main hR) rfl dX9_doubt_59 rfl ?_
        refine s_iload_n hC dX9_doubt_62 rfl rfl 2 rfl ?_
        refine s_callV hC (ct_X7_likeliest l g _ _ _ _ hR _) ce_X7_likeliest cs_X7 (RepC.f_soil hR) tw_697 rfl rfl ⟨⟨le_b rfl, le_b rfl⟩, le_b rfl, le_b rfl⟩ (le_b rfl) dX9_doubt_63 rfl (dvk1 ?_) nokx
        refine s_callV hC (ct_X7_weight l g _ _ _ _ hR _ _) ce_X7_weight cs_X7 (RepC.f_soil hR) tw_721 rfl rfl ⟨⟨le_b rfl, le_b rfl⟩, le_b rfl, le_b rfl⟩ (le_b rfl) dX9_doubt_66 rfl (dvk1 ?_) nokx
        refine s_imul hC dX9_doubt_69 rfl ?_
        refine s_iload_n hC dX9_doubt_70 rfl rfl 0 rfl ?_
        refine s_idiv hC dX9_doubt_71 rfl (fun z9 => c_3 (by rw [z9]; decide)) ?_
        refine s_isub hC dX9_doubt_72 rfl ?_
        refine s_iret hC hr dX9_doubt_73 (le_b rfl) (le_b rfl) ?_
        exact okC_mk (by simp [cd_doubt, c_1, c_2, c_3]) (by first | (simp [vl_doubt, c_1, c_2, c_3]; done) | rfl) hR rfl (rfl)
      · refine s_sipush hC (v := 1000) dX9_doubt_43 rfl (by decide) ?_
        refine s_iret hC hr dX9_doubt_46 (le_b rfl) (le_b rfl) ?_
        exact okC_mk (by simp [cd_doubt, c_1, c_2, c_3]) (by first | (simp [vl_doubt, c_1, c_2, c_3]; done) | rfl) hR rfl (rfl)
    · refine s_iconst hC (v := 0) dX9_doubt_28 rfl (by decide) ?_
      refine s_iret hC hr dX9_doubt_29 (le_b rfl) (le_b rfl) ?_
      exact okC_mk (by simp [cd_doubt, c_1, c_2]) (by first | (simp [vl_doubt, c_1, c_2]; done) | rfl) hR rfl (rfl)
  · refine s_throwS hC htab hst (cls := "java/lang/IllegalArgumentException") (names := ["java/lang/RuntimeException", "java/lang/Exception"]) (i := 6) fit_IllegalArgumentException tw_450 tw_15 rfl at_X9_97 at_X9_97_ot dX9_doubt_7 dX9_doubt_10 dX9_doubt_11 dX9_doubt_13 dX9_doubt_16 ⟨le_b rfl, le_b rfl, le_b rfl, le_b rfl⟩ ⟨le_b rfl, le_b rfl⟩ ?_
    exact exC_mk (by simp [cd_doubt, c_1]) (by simp [cd_doubt, c_1]) hR rfl
def cd_pressure (σ : St) (p9 : Int32) : Nat := if inR p9 0 2000 = true then 0 else 1
def vl_pressure (σ : St) (p9 : Int32) : Int32 := σ.press
def nx_pressure (σ : St) (p9 : Int32) : St := σ.w_press p9
set_option maxHeartbeats 1000000 in
set_option maxRecDepth 100000 in
theorem ct_X9_pressure (l : Launch) (g : Gl) (hst : l.stackTraces = false) (ω : Wd) (ad : Ix → Nat) (x : Ex) (σ : St) (hR : RepC g ad x σ ω) (p9 : Int32) : CT l g yX9_pressure cX9_pressure 3 (some .int) 6 90 1 6 [.ref (ad .main), .int p9] ω (okC g ad (cd_pressure σ p9) (some (.int (vl_pressure σ p9))) (nx_pressure σ p9)) (exC g ad (cd_pressure σ p9) ["java/lang/IllegalArgumentException"] σ) := by
  refine CT.of (own := "Boringhead") rfl rfl (le_b rfl) rfl ?_
  intro p e s m args below meth c sz0 hC hr htab hin
  refine s_iload_n hC dX9_pressure_0 rfl rfl 1 rfl ?_
  refine s_iconst hC (v := 0) dX9_pressure_1 rfl (by decide) ?_
  refine s_sipush hC (v := 2000) dX9_pressure_2 rfl (by decide) ?_
  refine s_callS hC (ct_X9_isWithin l g _ _ _ _) ce_X9_isWithin tw_447 rfl rfl ⟨⟨le_b rfl, le_b rfl⟩, le_b rfl, le_b rfl⟩ (le_b rfl) dX9_pressure_5 rfl (dvk1 ?_) nokx
  refine z_if_neB hC (tgt := 21) dX9_pressure_8 rfl (by decide) (fun c_1 => ?_) (fun c_1 => ?_)
  · refine s_aload_n hC dX9_pressure_21 rfl rfl 0 rfl ?_
    refine s_getf hC cs_X9 1 tw_238 (le_b rfl) (RepC.f_main hR) rfl dX9_pressure_22 rfl ?_
    refine s_getfN hC cs_X6 1 tw_122 (le_b rfl) (RepC.f_shield hR) rfl dX9_pressure_25 rfl ?_
    refine s_istore_n hC (L' := [(2, _), (0, _), (1, _)]) dX9_pressure_28 rfl rfl (le_b rfl) rfl ?_
    refine s_aload_n hC dX9_pressure_29 rfl rfl 1 rfl ?_
    refine s_getf hC cs_X9 1 tw_238 (le_b rfl) (RepC.f_main hR) rfl dX9_pressure_30 rfl ?_
    refine s_iload_n hC dX9_pressure_33 rfl rfl 2 rfl ?_
    refine s_putfN hC cs_X6 1 tw_122 (le_b rfl) rfl rfl rfl (RepC.f_shield hR) (le_b rfl) dX9_pressure_34 rfl ?_
    refine WP.rc (RepC.s_shield_1 hR _) (fun hR_34 => ?_)
    refine s_iload_n hC dX9_pressure_37 rfl rfl 0 rfl ?_
    refine s_iret hC hr dX9_pressure_38 (le_b rfl) (le_b rfl) ?_
    exact okC_mk (by simp [cd_pressure, c_1]) (by first | (simp [vl_pressure, c_1]; done) | rfl) hR_34 rfl (by first | rfl | (simp [nx_pressure, c_1]; done))
  · refine s_throwS hC htab hst (cls := "java/lang/IllegalArgumentException") (names := ["java/lang/RuntimeException", "java/lang/Exception"]) (i := 7) fit_IllegalArgumentException tw_450 tw_15 rfl at_X9_97 at_X9_97_ot dX9_pressure_11 dX9_pressure_14 dX9_pressure_15 dX9_pressure_17 dX9_pressure_20 ⟨le_b rfl, le_b rfl, le_b rfl, le_b rfl⟩ ⟨le_b rfl, le_b rfl⟩ ?_
    exact exC_mk (by simp [cd_pressure, c_1]) (by simp [cd_pressure, c_1]) hR rfl
def cd_lower (σ : St) (p9 : Int32) : Nat := if inR p9 0 199 = true then 0 else 1
def vl_lower (σ : St) (p9 : Int32) : Int32 := bdF σ 4 (stF [2, 4, 0, 3]) p9
set_option maxHeartbeats 1000000 in
set_option maxRecDepth 100000 in
theorem ct_X9_lower (l : Launch) (g : Gl) (hst : l.stackTraces = false) (ω : Wd) (ad : Ix → Nat) (x : Ex) (σ : St) (hR : RepC g ad x σ ω) (p9 : Int32) : CT l g yX9_lower cX9_lower 2 (some .int) 6 90 1 6 [.ref (ad .main), .int p9] ω (okC g ad (cd_lower σ p9) (some (.int (vl_lower σ p9))) σ) (exC g ad (cd_lower σ p9) ["java/lang/IllegalArgumentException"] σ) := by
  refine CT.of (own := "Boringhead") rfl rfl (le_b rfl) rfl ?_
  intro p e s m args below meth c sz0 hC hr htab hin
  refine s_iload_n hC dX9_lower_0 rfl rfl 1 rfl ?_
  refine s_callS hC (ct_X9_isPlace l g _ _) ce_X9_isPlace tw_444 rfl rfl ⟨⟨le_b rfl, le_b rfl⟩, le_b rfl, le_b rfl⟩ (le_b rfl) dX9_lower_1 rfl (dvk1 ?_) nokx
  refine z_if_neB hC (tgt := 17) dX9_lower_4 rfl (by decide) (fun c_1 => ?_) (fun c_1 => ?_)
  · refine s_aload_n hC dX9_lower_17 rfl rfl 0 rfl ?_
    refine s_getf hC cs_X9 0 tw_237 (le_b rfl) (RepC.f_main hR) rfl dX9_lower_18 rfl ?_
    refine s_iload_n hC dX9_lower_21 rfl rfl 1 rfl ?_
    refine s_gets hC 1 rfl tw_737 dX9_lower_22 rfl ?_
    refine s_callV hC (ct_X7_bound l g _ _ _ _ hR _ _ 4 _ (ar_st g _ 1 rfl) (by decide)) ce_X7_bound cs_X7 (RepC.f_soil hR) tw_739 rfl rfl ⟨⟨le_b rfl, le_b rfl⟩, le_b rfl, le_b rfl⟩ (le_b rfl) dX9_lower_25 rfl (dvk1 ?_) nokx
    refine s_iret hC hr dX9_lower_28 (le_b rfl) (le_b rfl) ?_
    exact okC_mk (by simp [cd_lower, c_1]) (by first | (simp [vl_lower, c_1]; done) | rfl) hR rfl (rfl)
  · refine s_throwS hC htab hst (cls := "java/lang/IllegalArgumentException") (names := ["java/lang/RuntimeException", "java/lang/Exception"]) (i := 6) fit_IllegalArgumentException tw_450 tw_15 rfl at_X9_97 at_X9_97_ot dX9_lower_7 dX9_lower_10 dX9_lower_11 dX9_lower_13 dX9_lower_16 ⟨le_b rfl, le_b rfl, le_b rfl, le_b rfl⟩ ⟨le_b rfl, le_b rfl⟩ ?_
    exact exC_mk (by simp [cd_lower, c_1]) (by simp [cd_lower, c_1]) hR rfl
def cd_upper (σ : St) (p9 : Int32) : Nat := if inR p9 0 199 = true then 0 else 1
def vl_upper (σ : St) (p9 : Int32) : Int32 := bdF σ 4 (stF [8, 5, 20, 7]) p9
set_option maxHeartbeats 1000000 in
set_option maxRecDepth 100000 in
theorem ct_X9_upper (l : Launch) (g : Gl) (hst : l.stackTraces = false) (ω : Wd) (ad : Ix → Nat) (x : Ex) (σ : St) (hR : RepC g ad x σ ω) (p9 : Int32) : CT l g yX9_upper cX9_upper 2 (some .int) 6 90 1 6 [.ref (ad .main), .int p9] ω (okC g ad (cd_upper σ p9) (some (.int (vl_upper σ p9))) σ) (exC g ad (cd_upper σ p9) ["java/lang/IllegalArgumentException"] σ) := by
  refine CT.of (own := "Boringhead") rfl rfl (le_b rfl) rfl ?_
  intro p e s m args below meth c sz0 hC hr htab hin
  refine s_iload_n hC dX9_upper_0 rfl rfl 1 rfl ?_
  refine s_callS hC (ct_X9_isPlace l g _ _) ce_X9_isPlace tw_444 rfl rfl ⟨⟨le_b rfl, le_b rfl⟩, le_b rfl, le_b rfl⟩ (le_b rfl) dX9_upper_1 rfl (dvk1 ?_) nokx
  refine z_if_neB hC (tgt := 17) dX9_upper_4 rfl (by decide) (fun c_1 => ?_) (fun c_1 => ?_)
  · refine s_aload_n hC dX9_upper_17 rfl rfl 0 rfl ?_
    refine s_getf hC cs_X9 0 tw_237 (le_b rfl) (RepC.f_main hR) rfl dX9_upper_18 rfl ?_
    refine s_iload_n hC dX9_upper_21 rfl rfl 1 rfl ?_
    refine s_gets hC 2 rfl tw_750 dX9_upper_22 rfl ?_
    refine s_callV hC (ct_X7_bound l g _ _ _ _ hR _ _ 4 _ (ar_st g _ 2 rfl) (by decide)) ce_X7_bound cs_X7 (RepC.f_soil hR) tw_739 rfl rfl ⟨⟨le_b rfl, le_b rfl⟩, le_b rfl, le_b rfl⟩ (le_b rfl) dX9_upper_25 rfl (dvk1 ?_) nokx
    refine s_iret hC hr dX9_upper_28 (le_b rfl) (le_b rfl) ?_
    exact okC_mk (by simp [cd_upper, c_1]) (by first | (simp [vl_upper, c_1]; done) | rfl) hR rfl (rfl)
  · refine s_throwS hC htab hst (cls := "java/lang/IllegalArgumentException") (names := ["java/lang/RuntimeException", "java/lang/Exception"]) (i := 6) fit_IllegalArgumentException tw_450 tw_15 rfl at_X9_97 at_X9_97_ot dX9_upper_7 dX9_upper_10 dX9_upper_11 dX9_upper_13 dX9_upper_16 ⟨le_b rfl, le_b rfl, le_b rfl, le_b rfl⟩ ⟨le_b rfl, le_b rfl⟩ ?_
    exact exC_mk (by simp [cd_upper, c_1]) (by simp [cd_upper, c_1]) hR rfl
def vl_foam (σ : St) (b9 : Bool) : Bool := σ.foam
def nx_foam (σ : St) (b9 : Bool) : St := σ.w_foam b9
set_option maxHeartbeats 1000000 in
set_option maxRecDepth 100000 in
theorem ct_X9_foam (l : Launch) (g : Gl) (ω : Wd) (ad : Ix → Nat) (x : Ex) (σ : St) (hR : RepC g ad x σ ω) (b9 : Bool) : CT l g yX9_foam cX9_foam 3 (some .boolean) 0 0 0 0 [.ref (ad .main), .int (bI b9)] ω (okC g ad 0 (some (.int (bI (vl_foam σ b9)))) (nx_foam σ b9)) (nox) := by
  refine CT.of (own := "Boringhead") rfl rfl (le_b rfl) rfl ?_
  intro p e s m args below meth c sz0 hC hr htab hin
  refine s_aload_n hC dX9_foam_0 rfl rfl 0 rfl ?_
  refine s_getf hC cs_X9 1 tw_238 (le_b rfl) (RepC.f_main hR) rfl dX9_foam_1 rfl ?_
  refine s_getfN hC cs_X6 2 tw_125 (le_b rfl) (RepC.f_shield hR) rfl dX9_foam_4 rfl ?_
  refine s_istore_n hC (L' := [(2, _), (0, _), (1, _)]) dX9_foam_7 rfl rfl (le_b rfl) rfl ?_
  refine s_aload_n hC dX9_foam_8 rfl rfl 1 rfl ?_
  refine s_getf hC cs_X9 1 tw_238 (le_b rfl) (RepC.f_main hR) rfl dX9_foam_9 rfl ?_
  refine s_iload_n hC dX9_foam_12 rfl rfl 2 rfl ?_
  refine s_putfN hC cs_X6 2 tw_125 (le_b rfl) rfl (by first | rfl | exact bI_nz _) (by first | rfl | exact bI_ft _) (RepC.f_shield hR) (le_b rfl) dX9_foam_13 rfl ?_
  refine WP.rc (RepC.s_shield_2 hR _) (fun hR_13 => ?_)
  refine s_iload_n hC dX9_foam_16 rfl rfl 0 rfl ?_
  refine s_zret hC hr dX9_foam_17 (bI_nz _) (le_b rfl) (le_b rfl) ?_
  exact okC_mk (rfl) (by first | (simp [vl_foam, bI, if_true]; done) | rfl) hR_13 rfl (by first | rfl | (simp [nx_foam, if_true]; done))
def cd_worn (σ : St) (c9 : Int32) : Nat := if inR c9 0 7 = true then 0 else 1
def vl_worn (σ : St) (c9 : Int32) : Int32 := atF 8 σ.wears c9
set_option maxHeartbeats 1000000 in
set_option maxRecDepth 100000 in
theorem ct_X9_worn (l : Launch) (g : Gl) (hst : l.stackTraces = false) (ω : Wd) (ad : Ix → Nat) (x : Ex) (σ : St) (hR : RepC g ad x σ ω) (c9 : Int32) : CT l g yX9_worn cX9_worn 2 (some .int) 6 90 1 6 [.ref (ad .main), .int c9] ω (okC g ad (cd_worn σ c9) (some (.int (vl_worn σ c9))) σ) (exC g ad (cd_worn σ c9) ["java/lang/IndexOutOfBoundsException"] σ) := by
  refine CT.of (own := "Boringhead") rfl rfl (le_b rfl) rfl ?_
  intro p e s m args below meth c sz0 hC hr htab hin
  refine s_iload_n hC dX9_worn_0 rfl rfl 1 rfl ?_
  refine s_iconst hC (v := 0) dX9_worn_1 rfl (by decide) ?_
  refine s_bipush hC (v := 7) dX9_worn_2 rfl (by decide) ?_
  refine s_callS hC (ct_X9_isWithin l g _ _ _ _) ce_X9_isWithin tw_447 rfl rfl ⟨⟨le_b rfl, le_b rfl⟩, le_b rfl, le_b rfl⟩ (le_b rfl) dX9_worn_4 rfl (dvk1 ?_) nokx
  refine z_if_neB hC (tgt := 20) dX9_worn_7 rfl (by decide) (fun c_1 => ?_) (fun c_1 => ?_)
  · refine s_aload_n hC dX9_worn_20 rfl rfl 0 rfl ?_
    refine s_getf hC cs_X9 1 tw_238 (le_b rfl) (RepC.f_main hR) rfl dX9_worn_21 rfl ?_
    refine s_getfN hC cs_X6 0 tw_120 (le_b rfl) (RepC.f_shield hR) rfl dX9_worn_24 rfl ?_
    refine s_iload_n hC dX9_worn_27 rfl rfl 1 rfl ?_
    refine s_callS hC (ct_X9_at l g _ _ _ _ _ (Or.inl (RepC.f_wears hR)) (by first | decide | assumption)) ce_X9_at tw_367 rfl rfl ⟨⟨le_b rfl, le_b rfl⟩, le_b rfl, le_b rfl⟩ (le_b rfl) dX9_worn_28 rfl (dvk1 ?_) nokx
    refine s_iret hC hr dX9_worn_31 (le_b rfl) (le_b rfl) ?_
    exact okC_mk (by simp [cd_worn, c_1]) (by first | (simp [vl_worn, c_1]; done) | rfl) hR rfl (rfl)
  · refine s_throwS hC htab hst (cls := "java/lang/IndexOutOfBoundsException") (names := ["java/lang/RuntimeException", "java/lang/Exception"]) (i := 8) fit_IndexOutOfBoundsException tw_783 tw_30 rfl at_X9_194 at_X9_194_ot dX9_worn_10 dX9_worn_13 dX9_worn_14 dX9_worn_16 dX9_worn_19 ⟨le_b rfl, le_b rfl, le_b rfl, le_b rfl⟩ ⟨le_b rfl, le_b rfl⟩ ?_
    exact exC_mk (by simp [cd_worn, c_1]) (by simp [cd_worn, c_1]) hR rfl
def cd_change (σ : St) (c9 : Int32) : Nat := if inR c9 0 7 = true then (if atF 8 σ.wears c9 = 0 then 2 else if σ.mn + (if atF 200 σ.waters (nI σ.n) ≤ 10 then 20 else if atF 200 σ.waters (nI σ.n) ≤ 20 then 50 else if atF 200 σ.waters (nI σ.n) ≤ 30 then 80 else 140) ≤ 99999 then 0 else 3) else 1
def vl_change (σ : St) (c9 : Int32) : Int32 := (if atF 200 σ.waters (nI σ.n) ≤ 10 then 20 else if atF 200 σ.waters (nI σ.n) ≤ 20 then 50 else if atF 200 σ.waters (nI σ.n) ≤ 30 then 80 else 140)
def nx_change (σ : St) (c9 : Int32) : St := ((σ.w_wears (upd σ.wears c9.toNatClampNeg 0)).w_mn (σ.mn + (if atF 200 σ.waters (nI σ.n) ≤ 10 then 20 else if atF 200 σ.waters (nI σ.n) ≤ 20 then 50 else if atF 200 σ.waters (nI σ.n) ≤ 30 then 80 else 140))).w_fc (σ.fc + (if atF 200 σ.waters (nI σ.n) ≤ 10 then 20 else if atF 200 σ.waters (nI σ.n) ≤ 20 then 50 else if atF 200 σ.waters (nI σ.n) ≤ 30 then 80 else 140))
set_option maxHeartbeats 1000000 in
set_option maxRecDepth 100000 in
theorem ct_X9_change (l : Launch) (g : Gl) (hst : l.stackTraces = false) (ω : Wd) (ad : Ix → Nat) (x : Ex) (σ : St) (hR : RepC g ad x σ ω) (c9 : Int32) : CT l g yX9_change cX9_change 3 (some .int) 7 111 1 6 [.ref (ad .main), .int c9] ω (okC g ad (cd_change σ c9) (some (.int (vl_change σ c9))) (nx_change σ c9)) (exC g ad (cd_change σ c9) ["java/lang/IndexOutOfBoundsException", "java/lang/UnsupportedOperationException", "java/lang/IllegalStateException"] σ) := by
  refine CT.of (own := "Boringhead") rfl rfl (le_b rfl) rfl ?_
  intro p e s m args below meth c sz0 hC hr htab hin
  refine s_iload_n hC dX9_change_0 rfl rfl 1 rfl ?_
  refine s_iconst hC (v := 0) dX9_change_1 rfl (by decide) ?_
  refine s_bipush hC (v := 7) dX9_change_2 rfl (by decide) ?_
  refine s_callS hC (ct_X9_isWithin l g _ _ _ _) ce_X9_isWithin tw_447 rfl rfl ⟨⟨le_b rfl, le_b rfl⟩, le_b rfl, le_b rfl⟩ (le_b rfl) dX9_change_4 rfl (dvk1 ?_) nokx
  refine z_if_neB hC (tgt := 20) dX9_change_7 rfl (by decide) (fun c_1 => ?_) (fun c_1 => ?_)
  · refine s_aload_n hC dX9_change_20 rfl rfl 0 rfl ?_
    refine s_getf hC cs_X9 1 tw_238 (le_b rfl) (RepC.f_main hR) rfl dX9_change_21 rfl ?_
    refine s_getfN hC cs_X6 0 tw_120 (le_b rfl) (RepC.f_shield hR) rfl dX9_change_24 rfl ?_
    refine s_iload_n hC dX9_change_27 rfl rfl 1 rfl ?_
    refine s_callS hC (ct_X9_at l g _ _ _ _ _ (Or.inl (RepC.f_wears hR)) (by first | decide | assumption)) ce_X9_at tw_367 rfl rfl ⟨⟨le_b rfl, le_b rfl⟩, le_b rfl, le_b rfl⟩ (le_b rfl) dX9_change_28 rfl (dvk1 ?_) nokx
    refine z_if_ne hC (tgt := 44) dX9_change_31 rfl (by decide) (fun c_2 => ?_) (fun c_2 => ?_)
    · refine s_aload_n hC dX9_change_44 rfl rfl 0 rfl ?_
      refine s_getf hC cs_X9 0 tw_237 (le_b rfl) (RepC.f_main hR) rfl dX9_change_45 rfl ?_
      refine s_getfN hC cs_X7 3 tw_91 (le_b rfl) (RepC.f_soil hR) rfl dX9_change_48 rfl ?_
      refine s_aload_n hC dX9_change_51 rfl rfl 0 rfl ?_
      refine s_getf hC cs_X9 7 tw_244 (le_b rfl) (RepC.f_main hR) rfl dX9_change_52 rfl ?_
      refine s_callV hC (ct_Jx4a65c_size_8abf5 l g _ _ _ _ _ (RepC.f_built hR)) ce_Jx4a65c_size_8abf5 cs_Jx4a65c (RepC.f_built hR) tw_273 rfl rfl ⟨⟨le_b rfl, le_b rfl⟩, le_b rfl, le_b rfl⟩ (le_b rfl) dX9_change_55 rfl (dvk1 ?_) nokx
      refine s_callS hC (ct_X9_at l g _ _ _ _ _ (Or.inl (RepC.f_waters hR)) (by first | decide | assumption)) ce_X9_at tw_367 rfl rfl ⟨⟨le_b rfl, le_b rfl⟩, le_b rfl, le_b rfl⟩ (le_b rfl) dX9_change_58 rfl (dvk1 ?_) nokx
      refine s_callS hC (ct_X9_changeMinutes l g _ _) ce_X9_changeMinutes tw_804 rfl rfl ⟨⟨le_b rfl, le_b rfl⟩, le_b rfl, le_b rfl⟩ (le_b rfl) dX9_change_61 rfl (dvk1 ?_) nokx
      refine s_istore_n hC (L' := [(2, _), (0, _), (1, _)]) dX9_change_64 rfl rfl (le_b rfl) rfl ?_
      refine s_aload_n hC dX9_change_65 rfl rfl 1 rfl ?_
      refine s_iload_n hC dX9_change_66 rfl rfl 0 rfl ?_
      refine s_callV hC (ct_X9_refuseLate l g hst _ _ _ _ hR _) ce_X9_refuseLate cs_X9 (RepC.f_main hR) tw_807 rfl rfl ⟨⟨le_b rfl, le_b rfl⟩, le_b rfl, le_b rfl⟩ (le_b rfl) dX9_change_67 rfl (fun r w h9 => ?_) (outk hC htab (le_b rfl) (le_b rfl) (fun E w h9 => by obtain ⟨rfl, h8, rfl⟩ := h9; exact exC_mk (by simp [cd_change, c_1, c_2, h8]) (by simp [cd_change, c_1, c_2, h8]) hR rfl))
      obtain ⟨c9_67, rfl, rfl⟩ := h9
      refine s_aload_n hC dX9_change_70 rfl rfl 1 rfl ?_
      refine s_getf hC cs_X9 1 tw_238 (le_b rfl) (RepC.f_main hR) rfl dX9_change_71 rfl ?_
      refine s_getfN hC cs_X6 0 tw_120 (le_b rfl) (RepC.f_shield hR) rfl dX9_change_74 rfl ?_
      refine s_iload_n hC dX9_change_77 rfl rfl 2 rfl ?_
      refine s_iconst hC (v := 0) dX9_change_78 rfl (by decide) ?_
      refine s_callS hC (ct_X9_put l g _ _ _ _ _ _ (RepC.f_wears hR) (by decide)) ce_X9_put tw_813 rfl rfl ⟨⟨le_b rfl, le_b rfl⟩, le_b rfl, le_b rfl⟩ (le_b rfl) dX9_change_79 rfl (dvk0 ?_) nokx
      rw [putW_in c_1]
      refine WP.rc (RepC.w_wears hR _) (fun hR_79 => ?_)
      refine s_aload_n hC dX9_change_82 rfl rfl 1 rfl ?_
      refine s_getf hC cs_X9 5 tw_242 (le_b rfl) (RepC.f_main hR_79) rfl dX9_change_83 rfl ?_
      refine s_dup hC dX9_change_86 rfl rfl ?_
      refine s_getfN hC cs_X1 0 tw_192 (le_b rfl) (RepC.f_clock hR_79) rfl dX9_change_87 rfl ?_
      refine s_iload_n hC dX9_change_90 rfl rfl 0 rfl ?_
      refine s_iadd hC dX9_change_91 rfl ?_
      refine s_putfN hC cs_X1 0 tw_192 (le_b rfl) rfl rfl rfl (RepC.f_clock hR_79) (le_b rfl) dX9_change_92 rfl ?_
      refine WP.rc (RepC.s_clock_0 hR_79 _) (fun hR_92 => ?_)
      refine s_aload_n hC dX9_change_95 rfl rfl 1 rfl ?_
      refine s_getf hC cs_X9 5 tw_242 (le_b rfl) (RepC.f_main hR_92) rfl dX9_change_96 rfl ?_
      refine s_dup hC dX9_change_99 rfl rfl ?_
      refine s_getfN hC cs_X1 1 tw_194 (le_b rfl) (RepC.f_clock hR_92) rfl dX9_change_100 rfl ?_
      refine s_iload_n hC dX9_change_103 rfl rfl 0 rfl ?_
      refine s_iadd hC dX9_change_104 rfl ?_
      refine s_putfN hC cs_X1 1 tw_194 (le_b rfl) rfl rfl rfl (RepC.f_clock hR_92) (le_b rfl) dX9_change_105 rfl ?_
      refine WP.rc (RepC.s_clock_1 hR_92 _) (fun hR_105 => ?_)
      refine s_iload_n hC dX9_change_108 rfl rfl 0 rfl ?_
      refine s_iret hC hr dX9_change_109 (le_b rfl) (le_b rfl) ?_
      exact okC_mk (by simp [cd_change, c_1, c_2, c9_67]) (by first | (simp [vl_change, c_1, c_2, c9_67]; done) | rfl) hR_105 rfl (by first | rfl | (simp [nx_change, c_1, c_2, c9_67]; done))
    · refine s_throwS hC htab hst (cls := "java/lang/UnsupportedOperationException") (names := ["java/lang/RuntimeException", "java/lang/Exception"]) (i := 9) fit_UnsupportedOperationException tw_525 tw_16 rfl at_X9_202 at_X9_202_ot dX9_change_34 dX9_change_37 dX9_change_38 dX9_change_40 dX9_change_43 ⟨le_b rfl, le_b rfl, le_b rfl, le_b rfl⟩ ⟨le_b rfl, le_b rfl⟩ ?_
      exact exC_mk (by simp [cd_change, c_1, c_2]) (by simp [cd_change, c_1, c_2]) hR rfl
  · refine s_throwS hC htab hst (cls := "java/lang/IndexOutOfBoundsException") (names := ["java/lang/RuntimeException", "java/lang/Exception"]) (i := 8) fit_IndexOutOfBoundsException tw_783 tw_30 rfl at_X9_194 at_X9_194_ot dX9_change_10 dX9_change_13 dX9_change_14 dX9_change_16 dX9_change_19 ⟨le_b rfl, le_b rfl, le_b rfl, le_b rfl⟩ ⟨le_b rfl, le_b rfl⟩ ?_
    exact exC_mk (by simp [cd_change, c_1]) (by simp [cd_change, c_1]) hR rfl
def cd_steer (σ : St) (r9 : Int32) (u9 : Int32) : Nat := if inR r9 (-5) 5 = true then (if inR u9 (-5) 5 = true then 0 else 1) else 1
def vl_steer (σ : St) (r9 : Int32) (u9 : Int32) : Int32 := 10 * σ.pR + σ.pU
def nx_steer (σ : St) (r9 : Int32) (u9 : Int32) : St := (σ.w_pR r9).w_pU u9
set_option maxHeartbeats 1000000 in
set_option maxRecDepth 100000 in
theorem ct_X9_steer (l : Launch) (g : Gl) (hst : l.stackTraces = false) (ω : Wd) (ad : Ix → Nat) (x : Ex) (σ : St) (hR : RepC g ad x σ ω) (r9 : Int32) (u9 : Int32) : CT l g yX9_steer cX9_steer 4 (some .int) 6 90 1 6 [.ref (ad .main), .int r9, .int u9] ω (okC g ad (cd_steer σ r9 u9) (some (.int (vl_steer σ r9 u9))) (nx_steer σ r9 u9)) (exC g ad (cd_steer σ r9 u9) ["java/lang/IllegalArgumentException"] σ) := by
  refine CT.of (own := "Boringhead") rfl rfl (le_b rfl) rfl ?_
  intro p e s m args below meth c sz0 hC hr htab hin
  refine s_iload_n hC dX9_steer_0 rfl rfl 1 rfl ?_
  refine s_bipush hC (v := (-5)) dX9_steer_1 rfl (by decide) ?_
  refine s_iconst hC (v := 5) dX9_steer_3 rfl (by decide) ?_
  refine s_callS hC (ct_X9_isWithin l g _ _ _ _) ce_X9_isWithin tw_447 rfl rfl ⟨⟨le_b rfl, le_b rfl⟩, le_b rfl, le_b rfl⟩ (le_b rfl) dX9_steer_4 rfl (dvk1 ?_) nokx
  refine z_if_eqB hC (tgt := 20) dX9_steer_7 rfl (by decide) (fun c_1 => ?_) (fun c_1 => ?_)
  · refine s_throwS hC htab hst (cls := "java/lang/IllegalArgumentException") (names := ["java/lang/RuntimeException", "java/lang/Exception"]) (i := 11) fit_IllegalArgumentException tw_450 tw_15 rfl at_X9_97 at_X9_97_ot dX9_steer_20 dX9_steer_23 dX9_steer_24 dX9_steer_26 dX9_steer_29 ⟨le_b rfl, le_b rfl, le_b rfl, le_b rfl⟩ ⟨le_b rfl, le_b rfl⟩ ?_
    exact exC_mk (by simp [cd_steer, c_1]) (by simp [cd_steer, c_1]) hR rfl
  · refine s_iload_n hC dX9_steer_10 rfl rfl 2 rfl ?_
    refine s_bipush hC (v := (-5)) dX9_steer_11 rfl (by decide) ?_
    refine s_iconst hC (v := 5) dX9_steer_13 rfl (by decide) ?_
    refine s_callS hC (ct_X9_isWithin l g _ _ _ _) ce_X9_isWithin tw_447 rfl rfl ⟨⟨le_b rfl, le_b rfl⟩, le_b rfl, le_b rfl⟩ (le_b rfl) dX9_steer_14 rfl (dvk1 ?_) nokx
    refine z_if_neB hC (tgt := 30) dX9_steer_17 rfl (by decide) (fun c_2 => ?_) (fun c_2 => ?_)
    · refine s_bipush hC (v := 10) dX9_steer_30 rfl (by decide) ?_
      refine s_aload_n hC dX9_steer_32 rfl rfl 0 rfl ?_
      refine s_getf hC cs_X9 1 tw_238 (le_b rfl) (RepC.f_main hR) rfl dX9_steer_33 rfl ?_
      refine s_getfN hC cs_X6 3 tw_128 (le_b rfl) (RepC.f_shield hR) rfl dX9_steer_36 rfl ?_
      refine s_imul hC dX9_steer_39 rfl ?_
      refine s_aload_n hC dX9_steer_40 rfl rfl 0 rfl ?_
      refine s_getf hC cs_X9 1 tw_238 (le_b rfl) (RepC.f_main hR) rfl dX9_steer_41 rfl ?_
      refine s_getfN hC cs_X6 4 tw_131 (le_b rfl) (RepC.f_shield hR) rfl dX9_steer_44 rfl ?_
      refine s_iadd hC dX9_steer_47 rfl ?_
      refine s_istore_n hC (L' := [(3, _), (0, _), (1, _), (2, _)]) dX9_steer_48 rfl rfl (le_b rfl) rfl ?_
      refine s_aload_n hC dX9_steer_49 rfl rfl 1 rfl ?_
      refine s_getf hC cs_X9 1 tw_238 (le_b rfl) (RepC.f_main hR) rfl dX9_steer_50 rfl ?_
      refine s_iload_n hC dX9_steer_53 rfl rfl 2 rfl ?_
      refine s_putfN hC cs_X6 3 tw_128 (le_b rfl) rfl rfl rfl (RepC.f_shield hR) (le_b rfl) dX9_steer_54 rfl ?_
      refine WP.rc (RepC.s_shield_3 hR _) (fun hR_54 => ?_)
      refine s_aload_n hC dX9_steer_57 rfl rfl 1 rfl ?_
      refine s_getf hC cs_X9 1 tw_238 (le_b rfl) (RepC.f_main hR_54) rfl dX9_steer_58 rfl ?_
      refine s_iload_n hC dX9_steer_61 rfl rfl 3 rfl ?_
      refine s_putfN hC cs_X6 4 tw_131 (le_b rfl) rfl rfl rfl (RepC.f_shield hR_54) (le_b rfl) dX9_steer_62 rfl ?_
      refine WP.rc (RepC.s_shield_4 hR_54 _) (fun hR_62 => ?_)
      refine s_iload_n hC dX9_steer_65 rfl rfl 0 rfl ?_
      refine s_iret hC hr dX9_steer_66 (le_b rfl) (le_b rfl) ?_
      exact okC_mk (by simp [cd_steer, c_1, c_2]) (by first | (simp [vl_steer, c_1, c_2]; done) | rfl) hR_62 rfl (by first | rfl | (simp [nx_steer, c_1, c_2]; done))
    · refine s_throwS hC htab hst (cls := "java/lang/IllegalArgumentException") (names := ["java/lang/RuntimeException", "java/lang/Exception"]) (i := 11) fit_IllegalArgumentException tw_450 tw_15 rfl at_X9_97 at_X9_97_ot dX9_steer_20 dX9_steer_23 dX9_steer_24 dX9_steer_26 dX9_steer_29 ⟨le_b rfl, le_b rfl, le_b rfl, le_b rfl⟩ ⟨le_b rfl, le_b rfl⟩ ?_
      exact exC_mk (by simp [cd_steer, c_1, c_2]) (by simp [cd_steer, c_1, c_2]) hR rfl
def cd_bars (σ : St) (t9 : Int32) : Nat := if inR t9 0 7 = true then 0 else 1
def vl_bars (σ : St) (t9 : Int32) : Int32 := barF σ t9
set_option maxHeartbeats 1000000 in
set_option maxRecDepth 100000 in
theorem ct_X9_bars (l : Launch) (g : Gl) (hst : l.stackTraces = false) (ω : Wd) (ad : Ix → Nat) (x : Ex) (σ : St) (hR : RepC g ad x σ ω) (t9 : Int32) : CT l g yX9_bars cX9_bars 2 (some .char) 6 109 1 6 [.ref (ad .main), .int t9] ω (okC g ad (cd_bars σ t9) (some (.int (vl_bars σ t9))) σ) (exC g ad (cd_bars σ t9) ["java/lang/IllegalArgumentException"] σ) := by
  refine CT.of (own := "Boringhead") rfl rfl (le_b rfl) rfl ?_
  intro p e s m args below meth c sz0 hC hr htab hin
  refine s_iload_n hC dX9_bars_0 rfl rfl 1 rfl ?_
  refine s_iconst hC (v := 0) dX9_bars_1 rfl (by decide) ?_
  refine s_bipush hC (v := 7) dX9_bars_2 rfl (by decide) ?_
  refine s_callS hC (ct_X9_isWithin l g _ _ _ _) ce_X9_isWithin tw_447 rfl rfl ⟨⟨le_b rfl, le_b rfl⟩, le_b rfl, le_b rfl⟩ (le_b rfl) dX9_bars_4 rfl (dvk1 ?_) nokx
  refine z_if_neB hC (tgt := 20) dX9_bars_7 rfl (by decide) (fun c_1 => ?_) (fun c_1 => ?_)
  · refine s_aload_n hC dX9_bars_20 rfl rfl 0 rfl ?_
    refine s_iload_n hC dX9_bars_21 rfl rfl 1 rfl ?_
    refine s_callV hC (ct_X9_barOf l g _ _ _ _ hR _) ce_X9_barOf cs_X9 (RepC.f_main hR) tw_832 rfl rfl ⟨⟨le_b rfl, le_b rfl⟩, le_b rfl, le_b rfl⟩ (le_b rfl) dX9_bars_22 rfl (dvk1 ?_) nokx
    refine s_zret hC hr dX9_bars_25 (bar_ch _ _) (le_b rfl) (le_b rfl) ?_
    exact okC_mk (by simp [cd_bars, c_1]) (by first | (simp [vl_bars, c_1]; done) | rfl) hR rfl (rfl)
  · refine s_throwS hC htab hst (cls := "java/lang/IllegalArgumentException") (names := ["java/lang/RuntimeException", "java/lang/Exception"]) (i := 12) fit_IllegalArgumentException tw_450 tw_15 rfl at_X9_97 at_X9_97_ot dX9_bars_10 dX9_bars_13 dX9_bars_14 dX9_bars_16 dX9_bars_19 ⟨le_b rfl, le_b rfl, le_b rfl, le_b rfl⟩ ⟨le_b rfl, le_b rfl⟩ ?_
    exact exC_mk (by simp [cd_bars, c_1]) (by simp [cd_bars, c_1]) hR rfl
def vl_rings (σ : St)  : Int32 := nI σ.n
set_option maxHeartbeats 1000000 in
set_option maxRecDepth 100000 in
theorem ct_X9_rings (l : Launch) (g : Gl) (ω : Wd) (ad : Ix → Nat) (x : Ex) (σ : St) (hR : RepC g ad x σ ω) : CT l g yX9_rings cX9_rings 1 (some .int) 1 20 0 0 [.ref (ad .main)] ω (okC g ad 0 (some (.int (vl_rings σ))) σ) (nox) := by
  refine CT.of (own := "Boringhead") rfl rfl (le_b rfl) rfl ?_
  intro p e s m args below meth c sz0 hC hr htab hin
  refine s_aload_n hC dX9_rings_0 rfl rfl 0 rfl ?_
  refine s_getf hC cs_X9 7 tw_244 (le_b rfl) (RepC.f_main hR) rfl dX9_rings_1 rfl ?_
  refine s_callV hC (ct_Jx4a65c_size_8abf5 l g _ _ _ _ _ (RepC.f_built hR)) ce_Jx4a65c_size_8abf5 cs_Jx4a65c (RepC.f_built hR) tw_273 rfl rfl ⟨⟨le_b rfl, le_b rfl⟩, le_b rfl, le_b rfl⟩ (le_b rfl) dX9_rings_4 rfl (dvk1 ?_) nokx
  refine s_iret hC hr dX9_rings_7 (le_b rfl) (le_b rfl) ?_
  exact okC_mk (rfl) (by first | (simp [vl_rings, if_true]; done) | rfl) hR rfl (rfl)
def cd_off (σ : St) (r9 : Int32) (b9 : Bool) : Nat := if inL σ.n r9 = true then 0 else 1
def vl_off (σ : St) (r9 : Int32) (b9 : Bool) : Int32 := if b9 = true then (σ.ring r9.toNatClampNeg).oU else (σ.ring r9.toNatClampNeg).oR
set_option maxHeartbeats 1000000 in
set_option maxRecDepth 100000 in
theorem ct_X9_off (l : Launch) (g : Gl) (hst : l.stackTraces = false) (ω : Wd) (ad : Ix → Nat) (x : Ex) (σ : St) (hR : RepC g ad x σ ω) (r9 : Int32) (b9 : Bool) : CT l g yX9_off cX9_off 4 (some .int) 7 111 1 6 [.ref (ad .main), .int r9, .int (bI b9)] ω (okC g ad (cd_off σ r9 b9) (some (.int (vl_off σ r9 b9))) σ) (exC g ad (cd_off σ r9 b9) ["java/lang/IndexOutOfBoundsException"] σ) := by
  refine CT.of (own := "Boringhead") rfl rfl (le_b rfl) rfl ?_
  intro p e s m args below meth c sz0 hC hr htab hin
  refine s_aload_n hC dX9_off_0 rfl rfl 0 rfl ?_
  refine s_iload_n hC dX9_off_1 rfl rfl 1 rfl ?_
  refine s_callV hC (ct_X9_ringAt l g hst _ _ _ _ hR _) ce_X9_ringAt cs_X9 (RepC.f_main hR) tw_956 rfl rfl ⟨⟨le_b rfl, le_b rfl⟩, le_b rfl, le_b rfl⟩ (le_b rfl) dX9_off_2 rfl (fun r w h9 => ?_) (outk hC htab (le_b rfl) (le_b rfl) (fun E w h9 => by obtain ⟨rfl, h8, rfl⟩ := h9; exact exC_mk (by simp [cd_off, if_true, h8]) (by simp [cd_off, if_true, h8]) hR rfl))
  obtain ⟨j, rfl, hj, rfl, rfl⟩ := h9
  have hcl : (nI j).toNatClampNeg = j := nI_clamp (by have := RepC.b_ring hR; omega)
  have hil : inL σ.n (nI j) = true := inL_t (by have := RepC.b_ring hR; omega) hj
  refine s_astore_n hC (L' := [(3, _), (0, _), (1, _), (2, _)]) dX9_off_5 rfl rfl (le_b rfl) rfl ?_
  refine s_iload_n hC dX9_off_6 rfl rfl 3 rfl ?_
  refine z_if_eqB hC (tgt := 17) dX9_off_7 rfl (by decide) (fun c_1 => ?_) (fun c_1 => ?_)
  · refine s_aload_n hC dX9_off_17 rfl rfl 0 rfl ?_
    refine s_getfN hC cs_X5 5 tw_896 (le_b rfl) (RepC.f_ring hR hj) rfl dX9_off_18 rfl ?_
    refine s_iret hC hr dX9_off_21 (le_b rfl) (le_b rfl) ?_
    exact okC_mk (by simp [cd_off, hcl, hil, c_1]) (by first | (simp [vl_off, hcl, hil, c_1]; done) | rfl) hR rfl (rfl)
  · refine s_aload_n hC dX9_off_10 rfl rfl 0 rfl ?_
    refine s_getfN hC cs_X5 6 tw_898 (le_b rfl) (RepC.f_ring hR hj) rfl dX9_off_11 rfl ?_
    refine s_goto hC (tgt := 21) dX9_off_14 (by decide) ?_
    refine s_iret hC hr dX9_off_21 (le_b rfl) (le_b rfl) ?_
    exact okC_mk (by simp [cd_off, hcl, hil, c_1]) (by first | (simp [vl_off, hcl, hil, c_1]; done) | rfl) hR rfl (rfl)
def vl_heading (σ : St) (b9 : Bool) : Int32 := if b9 = true then σ.hU else σ.hR
set_option maxHeartbeats 1000000 in
set_option maxRecDepth 100000 in
theorem ct_X9_heading (l : Launch) (g : Gl) (ω : Wd) (ad : Ix → Nat) (x : Ex) (σ : St) (hR : RepC g ad x σ ω) (b9 : Bool) : CT l g yX9_heading cX9_heading 2 (some .int) 0 0 0 0 [.ref (ad .main), .int (bI b9)] ω (okC g ad 0 (some (.int (vl_heading σ b9))) σ) (nox) := by
  refine CT.of (own := "Boringhead") rfl rfl (le_b rfl) rfl ?_
  intro p e s m args below meth c sz0 hC hr htab hin
  refine s_iload_n hC dX9_heading_0 rfl rfl 1 rfl ?_
  refine z_if_eqB hC (tgt := 14) dX9_heading_1 rfl (by decide) (fun c_1 => ?_) (fun c_1 => ?_)
  · refine s_aload_n hC dX9_heading_14 rfl rfl 0 rfl ?_
    refine s_getf hC cs_X9 2 tw_239 (le_b rfl) (RepC.f_main hR) rfl dX9_heading_15 rfl ?_
    refine s_getfN hC cs_X3 0 tw_150 (le_b rfl) (RepC.f_course hR) rfl dX9_heading_18 rfl ?_
    refine s_iret hC hr dX9_heading_21 (le_b rfl) (le_b rfl) ?_
    exact okC_mk (rfl) (by first | (simp [vl_heading, c_1]; done) | rfl) hR rfl (rfl)
  · refine s_aload_n hC dX9_heading_4 rfl rfl 0 rfl ?_
    refine s_getf hC cs_X9 2 tw_239 (le_b rfl) (RepC.f_main hR) rfl dX9_heading_5 rfl ?_
    refine s_getfN hC cs_X3 1 tw_152 (le_b rfl) (RepC.f_course hR) rfl dX9_heading_8 rfl ?_
    refine s_goto hC (tgt := 21) dX9_heading_11 (by decide) ?_
    refine s_iret hC hr dX9_heading_21 (le_b rfl) (le_b rfl) ?_
    exact okC_mk (rfl) (by first | (simp [vl_heading, c_1]; done) | rfl) hR rfl (rfl)
def cd_rotation (σ : St) (r9 : Int32) : Nat := if inL σ.n r9 = true then 0 else 1
def vl_rotation (σ : St) (r9 : Int32) : Int32 := (σ.ring r9.toNatClampNeg).turn
set_option maxHeartbeats 1000000 in
set_option maxRecDepth 100000 in
theorem ct_X9_rotation (l : Launch) (g : Gl) (hst : l.stackTraces = false) (ω : Wd) (ad : Ix → Nat) (x : Ex) (σ : St) (hR : RepC g ad x σ ω) (r9 : Int32) : CT l g yX9_rotation cX9_rotation 2 (some .int) 7 111 1 6 [.ref (ad .main), .int r9] ω (okC g ad (cd_rotation σ r9) (some (.int (vl_rotation σ r9))) σ) (exC g ad (cd_rotation σ r9) ["java/lang/IndexOutOfBoundsException"] σ) := by
  refine CT.of (own := "Boringhead") rfl rfl (le_b rfl) rfl ?_
  intro p e s m args below meth c sz0 hC hr htab hin
  refine s_aload_n hC dX9_rotation_0 rfl rfl 0 rfl ?_
  refine s_iload_n hC dX9_rotation_1 rfl rfl 1 rfl ?_
  refine s_callV hC (ct_X9_ringAt l g hst _ _ _ _ hR _) ce_X9_ringAt cs_X9 (RepC.f_main hR) tw_956 rfl rfl ⟨⟨le_b rfl, le_b rfl⟩, le_b rfl, le_b rfl⟩ (le_b rfl) dX9_rotation_2 rfl (fun r w h9 => ?_) (outk hC htab (le_b rfl) (le_b rfl) (fun E w h9 => by obtain ⟨rfl, h8, rfl⟩ := h9; exact exC_mk (by simp [cd_rotation, if_true, h8]) (by simp [cd_rotation, if_true, h8]) hR rfl))
  obtain ⟨j, rfl, hj, rfl, rfl⟩ := h9
  have hcl : (nI j).toNatClampNeg = j := nI_clamp (by have := RepC.b_ring hR; omega)
  have hil : inL σ.n (nI j) = true := inL_t (by have := RepC.b_ring hR; omega) hj
  refine s_getfN hC cs_X5 0 tw_886 (le_b rfl) (RepC.f_ring hR hj) rfl dX9_rotation_5 rfl ?_
  refine s_iret hC hr dX9_rotation_8 (le_b rfl) (le_b rfl) ?_
  exact okC_mk (by simp [cd_rotation, hcl, hil]) (by first | (simp [vl_rotation, hcl, hil]; done) | rfl) hR rfl (rfl)
def orF (σ : St) : Nat → Int32
  | 0 => 0
  | j + 1 => if offF (σ.ring j) = true then orF σ j + 1 else orF σ j
def enF (σ : St) : Nat → Int32
  | 0 => 0
  | j + 1 => if evtF (σ.ring j) = true then enF σ j + 1 else enF σ j
def clF (σ : St) : Nat → Int32
  | 0 => 0
  | j + 1 => if (σ.ring j).it = true then clF σ j + (σ.ring j).mo else clF σ j
def coF (σ : St) (k9 : Int32) : Nat → Int32
  | 0 => 0
  | j + 1 => if (σ.ring j).kind = k9 then coF σ k9 j + 1 else coF σ k9 j
def ckF (σ : St) : Nat → Int64
  | 0 => 7
  | j + 1 => 31 * (31 * (31 * (31 * ckF σ j + (σ.ring j).turn.toInt64) + (σ.ring j).oR.toInt64) + (σ.ring j).oU.toInt64) + (missF (σ.ring j)).toInt64
def vl_offRings (σ : St)  : Int32 := orF σ σ.n
set_option maxHeartbeats 1000000 in
set_option maxRecDepth 100000 in
theorem ct_X9_offRings (l : Launch) (g : Gl) (ω : Wd) (ad : Ix → Nat) (x : Ex) (σ : St) (hR : RepC g ad x σ ω) : CT l g yX9_offRings cX9_offRings 3 (some .int) 3 64 0 0 [.ref (ad .main)] ω (okC g ad 0 (some (.int (vl_offRings σ))) σ) (nox) := by
  refine CT.of (own := "Boringhead") rfl rfl (le_b rfl) rfl ?_
  intro p e s m args below meth c sz0 hC hr htab hin
  refine s_iconst hC (v := 0) dX9_offRings_0 rfl (by decide) ?_
  refine s_istore_n hC (L' := [(1, _), (0, _)]) dX9_offRings_1 rfl rfl (le_b rfl) rfl ?_
  refine s_iconst hC (v := 0) dX9_offRings_2 rfl (by decide) ?_
  refine s_istore_n hC (L' := [(2, _), (1, _), (0, _)]) dX9_offRings_3 rfl rfl (le_b rfl) rfl ?_
  refine WP.sub (L' := [(0, _), (1, _), (2, _)]) [2, 1, 0] rfl ?_
  refine wp_loop (σ := Int32 × Int32 × Nat) (I := fun (i, sm, j) => i = nI j ∧ j ≤ σ.n ∧ sm = orF σ j) (ωf := fun (i, sm, j) => ω) (Lf := fun (i, sm, j) => [(0, .ref (ad .main)), (1, .int sm), (2, .int i)]) (μ := fun (i, sm, j) => σ.n - j) (x0 := (_, _, 0)) ?_ ?_
  · exact ⟨rfl, Nat.zero_le _, rfl⟩
  · rintro ⟨i, sm, j⟩ hI ih
    dsimp only at hI ih ⊢
    obtain ⟨rfl, hj, rfl⟩ := hI
    have hin9 : ¬ nI (σ.n) ≤ nI j → j < σ.n := nI_ltc (Nat.lt_of_le_of_lt (RepC.b_ring hR) (by decide)) hj
    refine s_iload_n hC dX9_offRings_4 rfl rfl 2 rfl ?_
    refine s_aload_n hC dX9_offRings_5 rfl rfl 0 rfl ?_
    refine s_getf hC cs_X9 7 tw_244 (le_b rfl) (RepC.f_main hR) rfl dX9_offRings_6 rfl ?_
    refine s_callV hC (ct_Jx4a65c_size_8abf5 l g _ _ _ _ _ (RepC.f_built hR)) ce_Jx4a65c_size_8abf5 cs_Jx4a65c (RepC.f_built hR) tw_273 rfl rfl ⟨⟨le_b rfl, le_b rfl⟩, le_b rfl, le_b rfl⟩ (le_b rfl) dX9_offRings_9 rfl (dvk1 ?_) nokx
    refine z_icmp_ge hC (tgt := 41) dX9_offRings_12 rfl (by decide) (fun c_1 => ?_) (fun c_1 => ?_)
    · refine s_iload_n hC dX9_offRings_41 rfl rfl 1 rfl ?_
      refine s_iret hC hr dX9_offRings_42 (le_b rfl) (le_b rfl) ?_
      obtain rfl := nI_lec (Nat.lt_of_le_of_lt (RepC.b_ring hR) (by decide)) hj c_1
      exact okC_mk (by first | rfl | skip) rfl hR rfl rfl
    · refine s_aload_n hC dX9_offRings_15 rfl rfl 0 rfl ?_
      refine s_getf hC cs_X9 7 tw_244 (le_b rfl) (RepC.f_main hR) rfl dX9_offRings_16 rfl ?_
      refine s_iload_n hC dX9_offRings_19 rfl rfl 2 rfl ?_
      refine s_callV hC (ct_Jx4a65c_get_915e3 l g _ _ _ _ _ (RepC.f_built hR) _ _ (RepC.p_ring hR (hin9 c_1)).2.1 (RepC.p_ring hR (hin9 c_1)).2.2.1 _ _ (RepC.p_ring hR (hin9 c_1)).2.2.2.1 (hin9 c_1) (RepC.p_ring hR (hin9 c_1)).2.2.2.2) ce_Jx4a65c_get_915e3 cs_Jx4a65c (RepC.f_built hR) tw_285 rfl rfl ⟨⟨le_b rfl, le_b rfl⟩, le_b rfl, le_b rfl⟩ (le_b rfl) dX9_offRings_20 rfl (dvk1 ?_) nokx
      refine s_cast hC cs_X5 tw_299 (RepC.f_ring hR (hin9 c_1)) dX9_offRings_23 rfl ?_
      refine s_callV hC (ct_X5_isOff l g _ _ _ (RepC.f_ring hR (hin9 c_1))) ce_X5_isOff cs_X5 (RepC.f_ring hR (hin9 c_1)) tw_300 rfl rfl ⟨⟨le_b rfl, le_b rfl⟩, le_b rfl, le_b rfl⟩ (le_b rfl) dX9_offRings_26 rfl (dvk1 ?_) nokx
      refine z_if_eqB hC (tgt := 35) dX9_offRings_29 rfl (by decide) (fun c_2 => ?_) (fun c_2 => ?_)
      · refine s_iinc hC (v := _ + 1) (j9 := 2) (L' := [(2, _), (0, _), (1, _)]) dX9_offRings_35 rfl rfl rfl (le_b rfl) rfl ?_
        refine s_goto hC (tgt := 4) dX9_offRings_38 (by decide) ?_
        refine WP.sub (L' := [(0, _), (1, _), (2, _)]) [1, 2, 0] rfl ?_
        refine ih (_, _, j + 1) ?_ ?_
        · dsimp only
          have h9 := hin9 c_1
          refine ⟨nI_1 j, h9, ?_⟩
          all_goals first | (simp [orF, c_1, c_2]; done) | (simp [orF, c_1, c_2]; rfl)
        · dsimp only
          have h9 := hin9 c_1; omega
      · refine s_iinc hC (v := _ + 1) (j9 := 1) (L' := [(1, _), (0, _), (2, _)]) dX9_offRings_32 rfl rfl rfl (le_b rfl) rfl ?_
        refine s_iinc hC (v := _ + 1) (j9 := 2) (L' := [(2, _), (1, _), (0, _)]) dX9_offRings_35 rfl rfl rfl (le_b rfl) rfl ?_
        refine s_goto hC (tgt := 4) dX9_offRings_38 (by decide) ?_
        refine WP.sub (L' := [(0, _), (1, _), (2, _)]) [2, 1, 0] rfl ?_
        refine ih (_, _, j + 1) ?_ ?_
        · dsimp only
          have h9 := hin9 c_1
          refine ⟨nI_1 j, h9, ?_⟩
          all_goals first | (simp [orF, c_1, c_2]; done) | (simp [orF, c_1, c_2]; rfl)
        · dsimp only
          have h9 := hin9 c_1; omega
def vl_events (σ : St)  : Int32 := enF σ σ.n
set_option maxHeartbeats 1000000 in
set_option maxRecDepth 100000 in
theorem ct_X9_events (l : Launch) (g : Gl) (ω : Wd) (ad : Ix → Nat) (x : Ex) (σ : St) (hR : RepC g ad x σ ω) : CT l g yX9_events cX9_events 3 (some .int) 3 64 0 0 [.ref (ad .main)] ω (okC g ad 0 (some (.int (vl_events σ))) σ) (nox) := by
  refine CT.of (own := "Boringhead") rfl rfl (le_b rfl) rfl ?_
  intro p e s m args below meth c sz0 hC hr htab hin
  refine s_iconst hC (v := 0) dX9_events_0 rfl (by decide) ?_
  refine s_istore_n hC (L' := [(1, _), (0, _)]) dX9_events_1 rfl rfl (le_b rfl) rfl ?_
  refine s_iconst hC (v := 0) dX9_events_2 rfl (by decide) ?_
  refine s_istore_n hC (L' := [(2, _), (1, _), (0, _)]) dX9_events_3 rfl rfl (le_b rfl) rfl ?_
  refine WP.sub (L' := [(0, _), (1, _), (2, _)]) [2, 1, 0] rfl ?_
  refine wp_loop (σ := Int32 × Int32 × Nat) (I := fun (i, sm, j) => i = nI j ∧ j ≤ σ.n ∧ sm = enF σ j) (ωf := fun (i, sm, j) => ω) (Lf := fun (i, sm, j) => [(0, .ref (ad .main)), (1, .int sm), (2, .int i)]) (μ := fun (i, sm, j) => σ.n - j) (x0 := (_, _, 0)) ?_ ?_
  · exact ⟨rfl, Nat.zero_le _, rfl⟩
  · rintro ⟨i, sm, j⟩ hI ih
    dsimp only at hI ih ⊢
    obtain ⟨rfl, hj, rfl⟩ := hI
    have hin9 : ¬ nI (σ.n) ≤ nI j → j < σ.n := nI_ltc (Nat.lt_of_le_of_lt (RepC.b_ring hR) (by decide)) hj
    refine s_iload_n hC dX9_events_4 rfl rfl 2 rfl ?_
    refine s_aload_n hC dX9_events_5 rfl rfl 0 rfl ?_
    refine s_getf hC cs_X9 7 tw_244 (le_b rfl) (RepC.f_main hR) rfl dX9_events_6 rfl ?_
    refine s_callV hC (ct_Jx4a65c_size_8abf5 l g _ _ _ _ _ (RepC.f_built hR)) ce_Jx4a65c_size_8abf5 cs_Jx4a65c (RepC.f_built hR) tw_273 rfl rfl ⟨⟨le_b rfl, le_b rfl⟩, le_b rfl, le_b rfl⟩ (le_b rfl) dX9_events_9 rfl (dvk1 ?_) nokx
    refine z_icmp_ge hC (tgt := 41) dX9_events_12 rfl (by decide) (fun c_1 => ?_) (fun c_1 => ?_)
    · refine s_iload_n hC dX9_events_41 rfl rfl 1 rfl ?_
      refine s_iret hC hr dX9_events_42 (le_b rfl) (le_b rfl) ?_
      obtain rfl := nI_lec (Nat.lt_of_le_of_lt (RepC.b_ring hR) (by decide)) hj c_1
      exact okC_mk (by first | rfl | skip) rfl hR rfl rfl
    · refine s_aload_n hC dX9_events_15 rfl rfl 0 rfl ?_
      refine s_getf hC cs_X9 7 tw_244 (le_b rfl) (RepC.f_main hR) rfl dX9_events_16 rfl ?_
      refine s_iload_n hC dX9_events_19 rfl rfl 2 rfl ?_
      refine s_callV hC (ct_Jx4a65c_get_915e3 l g _ _ _ _ _ (RepC.f_built hR) _ _ (RepC.p_ring hR (hin9 c_1)).2.1 (RepC.p_ring hR (hin9 c_1)).2.2.1 _ _ (RepC.p_ring hR (hin9 c_1)).2.2.2.1 (hin9 c_1) (RepC.p_ring hR (hin9 c_1)).2.2.2.2) ce_Jx4a65c_get_915e3 cs_Jx4a65c (RepC.f_built hR) tw_285 rfl rfl ⟨⟨le_b rfl, le_b rfl⟩, le_b rfl, le_b rfl⟩ (le_b rfl) dX9_events_20 rfl (dvk1 ?_) nokx
      refine s_cast hC cs_X5 tw_299 (RepC.f_ring hR (hin9 c_1)) dX9_events_23 rfl ?_
      refine s_callV hC (ct_X5_isEvent l g _ _ _ (RepC.f_ring hR (hin9 c_1))) ce_X5_isEvent cs_X5 (RepC.f_ring hR (hin9 c_1)) tw_319 rfl rfl ⟨⟨le_b rfl, le_b rfl⟩, le_b rfl, le_b rfl⟩ (le_b rfl) dX9_events_26 rfl (dvk1 ?_) nokx
      refine z_if_eqB hC (tgt := 35) dX9_events_29 rfl (by decide) (fun c_2 => ?_) (fun c_2 => ?_)
      · refine s_iinc hC (v := _ + 1) (j9 := 2) (L' := [(2, _), (0, _), (1, _)]) dX9_events_35 rfl rfl rfl (le_b rfl) rfl ?_
        refine s_goto hC (tgt := 4) dX9_events_38 (by decide) ?_
        refine WP.sub (L' := [(0, _), (1, _), (2, _)]) [1, 2, 0] rfl ?_
        refine ih (_, _, j + 1) ?_ ?_
        · dsimp only
          have h9 := hin9 c_1
          refine ⟨nI_1 j, h9, ?_⟩
          all_goals first | (simp [enF, c_1, c_2]; done) | (simp [enF, c_1, c_2]; rfl)
        · dsimp only
          have h9 := hin9 c_1; omega
      · refine s_iinc hC (v := _ + 1) (j9 := 1) (L' := [(1, _), (0, _), (2, _)]) dX9_events_32 rfl rfl rfl (le_b rfl) rfl ?_
        refine s_iinc hC (v := _ + 1) (j9 := 2) (L' := [(2, _), (1, _), (0, _)]) dX9_events_35 rfl rfl rfl (le_b rfl) rfl ?_
        refine s_goto hC (tgt := 4) dX9_events_38 (by decide) ?_
        refine WP.sub (L' := [(0, _), (1, _), (2, _)]) [2, 1, 0] rfl ?_
        refine ih (_, _, j + 1) ?_ ?_
        · dsimp only
          have h9 := hin9 c_1
          refine ⟨nI_1 j, h9, ?_⟩
          all_goals first | (simp [enF, c_1, c_2]; done) | (simp [enF, c_1, c_2]; rfl)
        · dsimp only
          have h9 := hin9 c_1; omega
def cd_lost (σ : St) (r9 : Int32) : Nat := if inL σ.n r9 = true then 0 else 1
def vl_lost (σ : St) (r9 : Int32) : Int32 := missF (σ.ring r9.toNatClampNeg)
set_option maxHeartbeats 1000000 in
set_option maxRecDepth 100000 in
theorem ct_X9_lost (l : Launch) (g : Gl) (hst : l.stackTraces = false) (ω : Wd) (ad : Ix → Nat) (x : Ex) (σ : St) (hR : RepC g ad x σ ω) (r9 : Int32) : CT l g yX9_lost cX9_lost 2 (some .int) 7 111 1 6 [.ref (ad .main), .int r9] ω (okC g ad (cd_lost σ r9) (some (.int (vl_lost σ r9))) σ) (exC g ad (cd_lost σ r9) ["java/lang/IndexOutOfBoundsException"] σ) := by
  refine CT.of (own := "Boringhead") rfl rfl (le_b rfl) rfl ?_
  intro p e s m args below meth c sz0 hC hr htab hin
  refine s_aload_n hC dX9_lost_0 rfl rfl 0 rfl ?_
  refine s_iload_n hC dX9_lost_1 rfl rfl 1 rfl ?_
  refine s_callV hC (ct_X9_ringAt l g hst _ _ _ _ hR _) ce_X9_ringAt cs_X9 (RepC.f_main hR) tw_956 rfl rfl ⟨⟨le_b rfl, le_b rfl⟩, le_b rfl, le_b rfl⟩ (le_b rfl) dX9_lost_2 rfl (fun r w h9 => ?_) (outk hC htab (le_b rfl) (le_b rfl) (fun E w h9 => by obtain ⟨rfl, h8, rfl⟩ := h9; exact exC_mk (by simp [cd_lost, if_true, h8]) (by simp [cd_lost, if_true, h8]) hR rfl))
  obtain ⟨j, rfl, hj, rfl, rfl⟩ := h9
  have hcl : (nI j).toNatClampNeg = j := nI_clamp (by have := RepC.b_ring hR; omega)
  have hil : inL σ.n (nI j) = true := inL_t (by have := RepC.b_ring hR; omega) hj
  refine s_callV hC (ct_X5_missing l g _ _ _ (RepC.f_ring hR hj)) ce_X5_missing cs_X5 (RepC.f_ring hR hj) tw_333 rfl rfl ⟨⟨le_b rfl, le_b rfl⟩, le_b rfl, le_b rfl⟩ (le_b rfl) dX9_lost_5 rfl (dvk1 ?_) nokx
  refine s_iret hC hr dX9_lost_8 (le_b rfl) (le_b rfl) ?_
  exact okC_mk (by simp [cd_lost, hcl, hil]) (by first | (simp [vl_lost, hcl, hil]; done) | rfl) hR rfl (rfl)
def vl_muck (σ : St)  : Int32 := σ.pit
set_option maxHeartbeats 1000000 in
set_option maxRecDepth 100000 in
theorem ct_X9_muck (l : Launch) (g : Gl) (ω : Wd) (ad : Ix → Nat) (x : Ex) (σ : St) (hR : RepC g ad x σ ω) : CT l g yX9_muck cX9_muck 1 (some .int) 0 0 0 0 [.ref (ad .main)] ω (okC g ad 0 (some (.int (vl_muck σ))) σ) (nox) := by
  refine CT.of (own := "Boringhead") rfl rfl (le_b rfl) rfl ?_
  intro p e s m args below meth c sz0 hC hr htab hin
  refine s_aload_n hC dX9_muck_0 rfl rfl 0 rfl ?_
  refine s_getf hC cs_X9 4 tw_241 (le_b rfl) (RepC.f_main hR) rfl dX9_muck_1 rfl ?_
  refine s_getfN hC cs_X8 1 tw_175 (le_b rfl) (RepC.f_yard hR) rfl dX9_muck_4 rfl ?_
  refine s_iret hC hr dX9_muck_7 (le_b rfl) (le_b rfl) ?_
  exact okC_mk (rfl) (by first | (simp [vl_muck, if_true]; done) | rfl) hR rfl (rfl)
def vl_now (σ : St)  : Int32 := σ.mn
set_option maxHeartbeats 1000000 in
set_option maxRecDepth 100000 in
theorem ct_X9_now (l : Launch) (g : Gl) (ω : Wd) (ad : Ix → Nat) (x : Ex) (σ : St) (hR : RepC g ad x σ ω) : CT l g yX9_now cX9_now 1 (some .int) 0 0 0 0 [.ref (ad .main)] ω (okC g ad 0 (some (.int (vl_now σ))) σ) (nox) := by
  refine CT.of (own := "Boringhead") rfl rfl (le_b rfl) rfl ?_
  intro p e s m args below meth c sz0 hC hr htab hin
  refine s_aload_n hC dX9_now_0 rfl rfl 0 rfl ?_
  refine s_getf hC cs_X9 5 tw_242 (le_b rfl) (RepC.f_main hR) rfl dX9_now_1 rfl ?_
  refine s_getfN hC cs_X1 0 tw_192 (le_b rfl) (RepC.f_clock hR) rfl dX9_now_4 rfl ?_
  refine s_iret hC hr dX9_now_7 (le_b rfl) (le_b rfl) ?_
  exact okC_mk (rfl) (by first | (simp [vl_now, if_true]; done) | rfl) hR rfl (rfl)
def cd_settles (σ : St) (r9 : Int32) (b9 : Bool) : Nat := if inL σ.nh r9 = true then 0 else 1
def vl_settles (σ : St) (r9 : Int32) (b9 : Bool) : Int32 := smF σ (σ.hs r9.toNatClampNeg) b9
set_option maxHeartbeats 1000000 in
set_option maxRecDepth 100000 in
theorem ct_X9_settles (l : Launch) (g : Gl) (hst : l.stackTraces = false) (ω : Wd) (ad : Ix → Nat) (x : Ex) (σ : St) (hR : RepC g ad x σ ω) (r9 : Int32) (b9 : Bool) : CT l g yX9_settles cX9_settles 3 (some .int) 7 111 1 6 [.ref (ad .main), .int r9, .int (bI b9)] ω (okC g ad (cd_settles σ r9 b9) (some (.int (vl_settles σ r9 b9))) σ) (exC g ad (cd_settles σ r9 b9) ["java/lang/IndexOutOfBoundsException"] σ) := by
  refine CT.of (own := "Boringhead") rfl rfl (le_b rfl) rfl ?_
  intro p e s m args below meth c sz0 hC hr htab hin
  refine s_aload_n hC dX9_settles_0 rfl rfl 0 rfl ?_
  refine s_aload_n hC dX9_settles_1 rfl rfl 0 rfl ?_
  refine s_iload_n hC dX9_settles_2 rfl rfl 1 rfl ?_
  refine s_callV hC (ct_X9_houseAt l g hst _ _ _ _ hR _) ce_X9_houseAt cs_X9 (RepC.f_main hR) tw_1073 rfl rfl ⟨⟨le_b rfl, le_b rfl⟩, le_b rfl, le_b rfl⟩ (le_b rfl) dX9_settles_3 rfl (fun r w h9 => ?_) (outk hC htab (le_b rfl) (le_b rfl) (fun E w h9 => by obtain ⟨rfl, h8, rfl⟩ := h9; exact exC_mk (by simp [cd_settles, if_true, h8]) (by simp [cd_settles, if_true, h8]) hR rfl))
  obtain ⟨j, rfl, hj, rfl, rfl⟩ := h9
  have hcl : (nI j).toNatClampNeg = j := nI_clamp (by have := RepC.b_house hR; omega)
  have hil : inL σ.nh (nI j) = true := inL_t (by have := RepC.b_house hR; omega) hj
  refine s_iload_n hC dX9_settles_6 rfl rfl 2 rfl ?_
  refine s_callV hC (ct_X9_settlement l g _ _ _ _ hR _ hj _) ce_X9_settlement cs_X9 (RepC.f_main hR) tw_1078 rfl rfl ⟨⟨le_b rfl, le_b rfl⟩, le_b rfl, le_b rfl⟩ (le_b rfl) dX9_settles_7 rfl (dvk1 ?_) nokx
  refine s_iret hC hr dX9_settles_10 (le_b rfl) (le_b rfl) ?_
  exact okC_mk (by simp [cd_settles, hcl, hil]) (by first | (simp [vl_settles, hcl, hil]; done) | rfl) hR rfl (rfl)
def cd_tilt (σ : St) (r9 : Int32) : Nat := if inL σ.nh r9 = true then 0 else 1
def vl_tilt (σ : St) (r9 : Int32) : Int32 := iAbs (smF σ (σ.hs r9.toNatClampNeg) false - smF σ (σ.hs r9.toNatClampNeg) true)
set_option maxHeartbeats 1000000 in
set_option maxRecDepth 100000 in
theorem ct_X9_tilt (l : Launch) (g : Gl) (hst : l.stackTraces = false) (ω : Wd) (ad : Ix → Nat) (x : Ex) (σ : St) (hR : RepC g ad x σ ω) (r9 : Int32) : CT l g yX9_tilt cX9_tilt 2 (some .int) 7 111 1 6 [.ref (ad .main), .int r9] ω (okC g ad (cd_tilt σ r9) (some (.int (vl_tilt σ r9))) σ) (exC g ad (cd_tilt σ r9) ["java/lang/IndexOutOfBoundsException"] σ) := by
  refine CT.of (own := "Boringhead") rfl rfl (le_b rfl) rfl ?_
  intro p e s m args below meth c sz0 hC hr htab hin
  refine s_aload_n hC dX9_tilt_0 rfl rfl 0 rfl ?_
  refine s_aload_n hC dX9_tilt_1 rfl rfl 0 rfl ?_
  refine s_iload_n hC dX9_tilt_2 rfl rfl 1 rfl ?_
  refine s_callV hC (ct_X9_houseAt l g hst _ _ _ _ hR _) ce_X9_houseAt cs_X9 (RepC.f_main hR) tw_1073 rfl rfl ⟨⟨le_b rfl, le_b rfl⟩, le_b rfl, le_b rfl⟩ (le_b rfl) dX9_tilt_3 rfl (fun r w h9 => ?_) (outk hC htab (le_b rfl) (le_b rfl) (fun E w h9 => by obtain ⟨rfl, h8, rfl⟩ := h9; exact exC_mk (by simp [cd_tilt, if_true, h8]) (by simp [cd_tilt, if_true, h8]) hR rfl))
  obtain ⟨j, rfl, hj, rfl, rfl⟩ := h9
  have hcl : (nI j).toNatClampNeg = j := nI_clamp (by have := RepC.b_house hR; omega)
  have hil : inL σ.nh (nI j) = true := inL_t (by have := RepC.b_house hR; omega) hj
  refine s_callV hC (ct_X9_tiltOf l g _ _ _ _ hR _ hj) ce_X9_tiltOf cs_X9 (RepC.f_main hR) tw_1093 rfl rfl ⟨⟨le_b rfl, le_b rfl⟩, le_b rfl, le_b rfl⟩ (le_b rfl) dX9_tilt_6 rfl (dvk1 ?_) nokx
  refine s_iret hC hr dX9_tilt_9 (le_b rfl) (le_b rfl) ?_
  exact okC_mk (by simp [cd_tilt, hcl, hil]) (by first | (simp [vl_tilt, hcl, hil]; done) | rfl) hR rfl (rfl)
def cd_damage (σ : St) (r9 : Int32) : Nat := if inL σ.nh r9 = true then 0 else 1
def vl_damage (σ : St) (r9 : Int32) : Int32 := if 10 ≤ iAbs (smF σ (σ.hs r9.toNatClampNeg) false - smF σ (σ.hs r9.toNatClampNeg) true) then (if 30 ≤ iAbs (smF σ (σ.hs r9.toNatClampNeg) false - smF σ (σ.hs r9.toNatClampNeg) true) then (if 60 ≤ iAbs (smF σ (σ.hs r9.toNatClampNeg) false - smF σ (σ.hs r9.toNatClampNeg) true) then (if 100 ≤ iAbs (smF σ (σ.hs r9.toNatClampNeg) false - smF σ (σ.hs r9.toNatClampNeg) true) then 4 else 3) else 2) else 1) else 0
set_option maxHeartbeats 1000000 in
set_option maxRecDepth 100000 in
theorem ct_X9_damage (l : Launch) (g : Gl) (hst : l.stackTraces = false) (ω : Wd) (ad : Ix → Nat) (x : Ex) (σ : St) (hR : RepC g ad x σ ω) (r9 : Int32) : CT l g yX9_damage cX9_damage 3 (some .int) 7 111 1 6 [.ref (ad .main), .int r9] ω (okC g ad (cd_damage σ r9) (some (.int (vl_damage σ r9))) σ) (exC g ad (cd_damage σ r9) ["java/lang/IndexOutOfBoundsException"] σ) := by
  refine CT.of (own := "Boringhead") rfl rfl (le_b rfl) rfl ?_
  intro p e s m args below meth c sz0 hC hr htab hin
  refine s_aload_n hC dX9_damage_0 rfl rfl 0 rfl ?_
  refine s_aload_n hC dX9_damage_1 rfl rfl 0 rfl ?_
  refine s_iload_n hC dX9_damage_2 rfl rfl 1 rfl ?_
  refine s_callV hC (ct_X9_houseAt l g hst _ _ _ _ hR _) ce_X9_houseAt cs_X9 (RepC.f_main hR) tw_1073 rfl rfl ⟨⟨le_b rfl, le_b rfl⟩, le_b rfl, le_b rfl⟩ (le_b rfl) dX9_damage_3 rfl (fun r w h9 => ?_) (outk hC htab (le_b rfl) (le_b rfl) (fun E w h9 => by obtain ⟨rfl, h8, rfl⟩ := h9; exact exC_mk (by simp [cd_damage, if_true, h8]) (by simp [cd_damage, if_true, h8]) hR rfl))
  obtain ⟨j, rfl, hj, rfl, rfl⟩ := h9
  have hcl : (nI j).toNatClampNeg = j := nI_clamp (by have := RepC.b_house hR; omega)
  have hil : inL σ.nh (nI j) = true := inL_t (by have := RepC.b_house hR; omega) hj
  refine s_callV hC (ct_X9_tiltOf l g _ _ _ _ hR _ hj) ce_X9_tiltOf cs_X9 (RepC.f_main hR) tw_1093 rfl rfl ⟨⟨le_b rfl, le_b rfl⟩, le_b rfl, le_b rfl⟩ (le_b rfl) dX9_damage_6 rfl (dvk1 ?_) nokx
  refine s_istore_n hC (L' := [(2, _), (0, _), (1, _)]) dX9_damage_9 rfl rfl (le_b rfl) rfl ?_
  refine s_iload_n hC dX9_damage_10 rfl rfl 0 rfl ?_
  refine s_bipush hC (v := 10) dX9_damage_11 rfl (by decide) ?_
  refine z_icmp_ge hC (tgt := 18) dX9_damage_13 rfl (by decide) (fun c_1 => ?_) (fun c_1 => ?_)
  · refine s_iload_n hC dX9_damage_18 rfl rfl 0 rfl ?_
    refine s_bipush hC (v := 30) dX9_damage_19 rfl (by decide) ?_
    refine z_icmp_ge hC (tgt := 26) dX9_damage_21 rfl (by decide) (fun c_2 => ?_) (fun c_2 => ?_)
    · refine s_iload_n hC dX9_damage_26 rfl rfl 0 rfl ?_
      refine s_bipush hC (v := 60) dX9_damage_27 rfl (by decide) ?_
      refine z_icmp_ge hC (tgt := 34) dX9_damage_29 rfl (by decide) (fun c_3 => ?_) (fun c_3 => ?_)
      · refine s_iload_n hC dX9_damage_34 rfl rfl 0 rfl ?_
        refine s_bipush hC (v := 100) dX9_damage_35 rfl (by decide) ?_
        refine z_icmp_ge hC (tgt := 44) dX9_damage_37 rfl (by decide) (fun c_4 => ?_) (fun c_4 => ?_)
        · refine s_iconst hC (v := 4) dX9_damage_44 rfl (by decide) ?_
          refine s_iret hC hr dX9_damage_45 (le_b rfl) (le_b rfl) ?_
          exact okC_mk (by simp [cd_damage, hcl, hil, c_1, c_2, c_3, c_4]) (by first | (simp [vl_damage, hcl, hil, c_1, c_2, c_3, c_4]; done) | rfl) hR rfl (rfl)
        · refine s_iconst hC (v := 3) dX9_damage_40 rfl (by decide) ?_
          refine s_goto hC (tgt := 45) dX9_damage_41 (by decide) ?_
          refine s_iret hC hr dX9_damage_45 (le_b rfl) (le_b rfl) ?_
          exact okC_mk (by simp [cd_damage, hcl, hil, c_1, c_2, c_3, c_4]) (by first | (simp [vl_damage, hcl, hil, c_1, c_2, c_3, c_4]; done) | rfl) hR rfl (rfl)
      · refine s_iconst hC (v := 2) dX9_damage_32 rfl (by decide) ?_
        refine s_iret hC hr dX9_damage_33 (le_b rfl) (le_b rfl) ?_
        exact okC_mk (by simp [cd_damage, hcl, hil, c_1, c_2, c_3]) (by first | (simp [vl_damage, hcl, hil, c_1, c_2, c_3]; done) | rfl) hR rfl (rfl)
    · refine s_iconst hC (v := 1) dX9_damage_24 rfl (by decide) ?_
      refine s_iret hC hr dX9_damage_25 (le_b rfl) (le_b rfl) ?_
      exact okC_mk (by simp [cd_damage, hcl, hil, c_1, c_2]) (by first | (simp [vl_damage, hcl, hil, c_1, c_2]; done) | rfl) hR rfl (rfl)
  · refine s_iconst hC (v := 0) dX9_damage_16 rfl (by decide) ?_
    refine s_iret hC hr dX9_damage_17 (le_b rfl) (le_b rfl) ?_
    exact okC_mk (by simp [cd_damage, hcl, hil, c_1]) (by first | (simp [vl_damage, hcl, hil, c_1]; done) | rfl) hR rfl (rfl)
def cd_alarm (σ : St) (r9 : Int32) : Nat := if inL σ.nh r9 = true then 0 else 1
def vl_alarm (σ : St) (r9 : Int32) : Int32 := colF (σ.hs r9.toNatClampNeg)
set_option maxHeartbeats 1000000 in
set_option maxRecDepth 100000 in
theorem ct_X9_alarm (l : Launch) (g : Gl) (hst : l.stackTraces = false) (ω : Wd) (ad : Ix → Nat) (x : Ex) (σ : St) (hR : RepC g ad x σ ω) (r9 : Int32) : CT l g yX9_alarm cX9_alarm 2 (some .char) 7 111 1 6 [.ref (ad .main), .int r9] ω (okC g ad (cd_alarm σ r9) (some (.int (vl_alarm σ r9))) σ) (exC g ad (cd_alarm σ r9) ["java/lang/IndexOutOfBoundsException"] σ) := by
  refine CT.of (own := "Boringhead") rfl rfl (le_b rfl) rfl ?_
  intro p e s m args below meth c sz0 hC hr htab hin
  refine s_aload_n hC dX9_alarm_0 rfl rfl 0 rfl ?_
  refine s_iload_n hC dX9_alarm_1 rfl rfl 1 rfl ?_
  refine s_callV hC (ct_X9_houseAt l g hst _ _ _ _ hR _) ce_X9_houseAt cs_X9 (RepC.f_main hR) tw_1073 rfl rfl ⟨⟨le_b rfl, le_b rfl⟩, le_b rfl, le_b rfl⟩ (le_b rfl) dX9_alarm_2 rfl (fun r w h9 => ?_) (outk hC htab (le_b rfl) (le_b rfl) (fun E w h9 => by obtain ⟨rfl, h8, rfl⟩ := h9; exact exC_mk (by simp [cd_alarm, if_true, h8]) (by simp [cd_alarm, if_true, h8]) hR rfl))
  obtain ⟨j, rfl, hj, rfl, rfl⟩ := h9
  have hcl : (nI j).toNatClampNeg = j := nI_clamp (by have := RepC.b_house hR; omega)
  have hil : inL σ.nh (nI j) = true := inL_t (by have := RepC.b_house hR; omega) hj
  refine s_callV hC (ct_X4_colour l g _ _ _ (RepC.f_house hR hj)) ce_X4_colour cs_X4 (RepC.f_house hR hj) tw_858 rfl rfl ⟨⟨le_b rfl, le_b rfl⟩, le_b rfl, le_b rfl⟩ (le_b rfl) dX9_alarm_5 rfl (dvk1 ?_) nokx
  refine s_zret hC hr dX9_alarm_8 (col_ch _) (le_b rfl) (le_b rfl) ?_
  exact okC_mk (by simp [cd_alarm, hcl, hil]) (by first | (simp [vl_alarm, hcl, hil]; done) | rfl) hR rfl (rfl)
def cd_deliver (σ : St) (m9 : Int32) : Nat := if inR m9 1 40 = true then (if σ.seg + m9 ≤ 40 then 0 else 2) else 1
def vl_deliver (σ : St) (m9 : Int32) : Int32 := σ.seg + m9
def nx_deliver (σ : St) (m9 : Int32) : St := σ.w_seg (σ.seg + m9)
set_option maxHeartbeats 1000000 in
set_option maxRecDepth 100000 in
theorem ct_X9_deliver (l : Launch) (g : Gl) (hst : l.stackTraces = false) (ω : Wd) (ad : Ix → Nat) (x : Ex) (σ : St) (hR : RepC g ad x σ ω) (m9 : Int32) : CT l g yX9_deliver cX9_deliver 2 (some .int) 6 90 1 6 [.ref (ad .main), .int m9] ω (okC g ad (cd_deliver σ m9) (some (.int (vl_deliver σ m9))) (nx_deliver σ m9)) (exC g ad (cd_deliver σ m9) ["java/lang/IllegalArgumentException", "java/lang/UnsupportedOperationException"] σ) := by
  refine CT.of (own := "Boringhead") rfl rfl (le_b rfl) rfl ?_
  intro p e s m args below meth c sz0 hC hr htab hin
  refine s_iload_n hC dX9_deliver_0 rfl rfl 1 rfl ?_
  refine s_iconst hC (v := 1) dX9_deliver_1 rfl (by decide) ?_
  refine s_bipush hC (v := 40) dX9_deliver_2 rfl (by decide) ?_
  refine s_callS hC (ct_X9_isWithin l g _ _ _ _) ce_X9_isWithin tw_447 rfl rfl ⟨⟨le_b rfl, le_b rfl⟩, le_b rfl, le_b rfl⟩ (le_b rfl) dX9_deliver_4 rfl (dvk1 ?_) nokx
  refine z_if_neB hC (tgt := 21) dX9_deliver_7 rfl (by decide) (fun c_1 => ?_) (fun c_1 => ?_)
  · refine s_aload_n hC dX9_deliver_21 rfl rfl 0 rfl ?_
    refine s_getf hC cs_X9 4 tw_241 (le_b rfl) (RepC.f_main hR) rfl dX9_deliver_22 rfl ?_
    refine s_getfN hC cs_X8 0 tw_173 (le_b rfl) (RepC.f_yard hR) rfl dX9_deliver_25 rfl ?_
    refine s_iload_n hC dX9_deliver_28 rfl rfl 1 rfl ?_
    refine s_iadd hC dX9_deliver_29 rfl ?_
    refine s_bipush hC (v := 40) dX9_deliver_30 rfl (by decide) ?_
    refine z_icmp_le hC (tgt := 46) dX9_deliver_32 rfl (by decide) (fun c_2 => ?_) (fun c_2 => ?_)
    · refine s_aload_n hC dX9_deliver_46 rfl rfl 0 rfl ?_
      refine s_getf hC cs_X9 4 tw_241 (le_b rfl) (RepC.f_main hR) rfl dX9_deliver_47 rfl ?_
      refine s_dup hC dX9_deliver_50 rfl rfl ?_
      refine s_getfN hC cs_X8 0 tw_173 (le_b rfl) (RepC.f_yard hR) rfl dX9_deliver_51 rfl ?_
      refine s_iload_n hC dX9_deliver_54 rfl rfl 1 rfl ?_
      refine s_iadd hC dX9_deliver_55 rfl ?_
      refine s_putfN hC cs_X8 0 tw_173 (le_b rfl) rfl rfl rfl (RepC.f_yard hR) (le_b rfl) dX9_deliver_56 rfl ?_
      refine WP.rc (RepC.s_yard_0 hR _) (fun hR_56 => ?_)
      refine s_aload_n hC dX9_deliver_59 rfl rfl 0 rfl ?_
      refine s_getf hC cs_X9 4 tw_241 (le_b rfl) (RepC.f_main hR_56) rfl dX9_deliver_60 rfl ?_
      refine s_getfN hC cs_X8 0 tw_173 (le_b rfl) (RepC.f_yard hR_56) rfl dX9_deliver_63 rfl ?_
      refine s_iret hC hr dX9_deliver_66 (le_b rfl) (le_b rfl) ?_
      exact okC_mk (by simp [cd_deliver, c_1, c_2]) (by first | (simp [vl_deliver, c_1, c_2]; done) | rfl) hR_56 rfl (by first | rfl | (simp [nx_deliver, c_1, c_2]; done))
    · refine s_throwSW hC htab hst (cls := "java/lang/UnsupportedOperationException") (names := ["java/lang/RuntimeException", "java/lang/Exception"]) (i := 22) fit_UnsupportedOperationException tw_525 tw_16 rfl at_X9_202 at_X9_202_ot dX9_deliver_35 dX9_deliver_38 dX9_deliver_39 dX9_deliver_42 dX9_deliver_45 ⟨le_b rfl, le_b rfl, le_b rfl, le_b rfl⟩ ⟨le_b rfl, le_b rfl⟩ ?_
      exact exC_mk (by simp [cd_deliver, c_1, c_2]) (by simp [cd_deliver, c_1, c_2]) hR rfl
  · refine s_throwSW hC htab hst (cls := "java/lang/IllegalArgumentException") (names := ["java/lang/RuntimeException", "java/lang/Exception"]) (i := 21) fit_IllegalArgumentException tw_450 tw_15 rfl at_X9_97 at_X9_97_ot dX9_deliver_10 dX9_deliver_13 dX9_deliver_14 dX9_deliver_17 dX9_deliver_20 ⟨le_b rfl, le_b rfl, le_b rfl, le_b rfl⟩ ⟨le_b rfl, le_b rfl⟩ ?_
    exact exC_mk (by simp [cd_deliver, c_1]) (by simp [cd_deliver, c_1]) hR rfl
def cd_waited (σ : St) (c9 : Int32) : Nat := if 0 ≤ ixF (stF [98, 107, 110]) c9 3 0 then 0 else 1
def vl_waited (σ : St) (c9 : Int32) : Int32 := atF 3 σ.waits (ixF (stF [98, 107, 110]) c9 3 0)
set_option maxHeartbeats 1000000 in
set_option maxRecDepth 100000 in
theorem ct_X9_waited (l : Launch) (g : Gl) (hst : l.stackTraces = false) (ω : Wd) (ad : Ix → Nat) (x : Ex) (σ : St) (hR : RepC g ad x σ ω) (c9 : Int32) : CT l g yX9_waited cX9_waited 3 (some .int) 6 90 1 6 [.ref (ad .main), .int c9] ω (okC g ad (cd_waited σ c9) (some (.int (vl_waited σ c9))) σ) (exC g ad (cd_waited σ c9) ["java/lang/IllegalArgumentException"] σ) := by
  refine CT.of (own := "Boringhead") rfl rfl (le_b rfl) rfl ?_
  intro p e s m args below meth c sz0 hC hr htab hin
  refine s_gets hC 10 rfl tw_1186 dX9_waited_0 rfl ?_
  refine s_iload_n hC dX9_waited_3 rfl rfl 1 rfl ?_
  refine s_callS hC (ct_X9_indexIn l g _ _ 3 _ _ (ar_sc g _ 10 rfl) (by decide)) ce_X9_indexIn tw_438 rfl rfl ⟨⟨le_b rfl, le_b rfl⟩, le_b rfl, le_b rfl⟩ (le_b rfl) dX9_waited_4 rfl (dvk1 ?_) nokx
  refine s_istore_n hC (L' := [(2, _), (0, _), (1, _)]) dX9_waited_7 rfl rfl (le_b rfl) rfl ?_
  refine s_iload_n hC dX9_waited_8 rfl rfl 0 rfl ?_
  refine z_if_ge hC (tgt := 23) dX9_waited_9 rfl (by decide) (fun c_1 => ?_) (fun c_1 => ?_)
  · refine s_aload_n hC dX9_waited_23 rfl rfl 1 rfl ?_
    refine s_getf hC cs_X9 6 tw_243 (le_b rfl) (RepC.f_main hR) rfl dX9_waited_24 rfl ?_
    refine s_getfN hC cs_X2 1 tw_228 (le_b rfl) (RepC.f_contract hR) rfl dX9_waited_27 rfl ?_
    refine s_iload_n hC dX9_waited_30 rfl rfl 0 rfl ?_
    refine s_callS hC (ct_X9_at l g _ _ _ _ _ (Or.inl (RepC.f_waits hR)) (by first | decide | assumption)) ce_X9_at tw_367 rfl rfl ⟨⟨le_b rfl, le_b rfl⟩, le_b rfl, le_b rfl⟩ (le_b rfl) dX9_waited_31 rfl (dvk1 ?_) nokx
    refine s_iret hC hr dX9_waited_34 (le_b rfl) (le_b rfl) ?_
    exact okC_mk (by simp [cd_waited, c_1]) (by first | (simp [vl_waited, c_1]; done) | rfl) hR rfl (rfl)
  · refine s_throwSW hC htab hst (cls := "java/lang/IllegalArgumentException") (names := ["java/lang/RuntimeException", "java/lang/Exception"]) (i := 27) fit_IllegalArgumentException tw_450 tw_15 rfl at_X9_97 at_X9_97_ot dX9_waited_12 dX9_waited_15 dX9_waited_16 dX9_waited_19 dX9_waited_22 ⟨le_b rfl, le_b rfl, le_b rfl, le_b rfl⟩ ⟨le_b rfl, le_b rfl⟩ ?_
    exact exC_mk (by simp [cd_waited, c_1]) (by simp [cd_waited, c_1]) hR rfl
