set_option maxHeartbeats 1000000 in
set_option maxRecDepth 100000 in
theorem ct_X11_bound (l : Launch) (g : Gl) (ω : Wd) (ad : Iy → Nat) (y : Ey) (σ : St) (hR : RepM g ad y σ ω) (hk : kIn σ) (p9 : Nat) (hp : p9 < 200) (tb : Nat) (f : Nat → Int32) (ht : arI g ω tb 4 f) : CT l g yX11_bound cX11_bound 3 (some .int) 0 0 0 0 [.ref (ad .main), .int (nI p9), .ref tb] ω (dv (some (.int (bdF σ 4 f (nI p9)))) ω) (nox) := by
  obtain ⟨q, hq, hk9⟩ := hk p9 hp
  refine CT.of (own := "BoringheadModel") rfl rfl (le_b rfl) rfl ?_
  intro p e s m args below meth c sz0 hC hr htab hin
  refine s_bipush hC (v := 10) dX11_bound_0 rfl (by decide) ?_
  refine s_aload_n hC dX11_bound_2 rfl rfl 0 rfl ?_
  refine s_getf hC cs_X11 4 tw_1253 (le_b rfl) (RepM.f_main hR) rfl dX11_bound_3 rfl ?_
  refine s_iload_n hC dX11_bound_6 rfl rfl 1 rfl ?_
  refine s_ialdK hC (Or.inl (RepM.f_waters hR)) (vp_in_nI hp (by decide)) dX11_bound_7 rfl ?_
  refine s_imul hC dX11_bound_8 rfl ?_
  refine s_aload_n hC dX11_bound_9 rfl rfl 2 rfl ?_
  refine s_aload_n hC dX11_bound_10 rfl rfl 0 rfl ?_
  refine s_getf hC cs_X11 1 tw_1250 (le_b rfl) (RepM.f_main hR) rfl dX11_bound_11 rfl ?_
  refine s_iload_n hC dX11_bound_14 rfl rfl 1 rfl ?_
  refine s_ialdK hC (Or.inl (RepM.f_kinds hR)) (vp_in_nI hp (by decide)) dX11_bound_15 rfl ?_
  rw [nI_clamp (show p9 < 2 ^ 31 by omega), hk9]
  refine s_ialdK hC ht (vp_in_nI hq (by decide)) dX11_bound_16 rfl ?_
  refine s_aload_n hC dX11_bound_17 rfl rfl 0 rfl ?_
  refine s_getf hC cs_X11 3 tw_1252 (le_b rfl) (RepM.f_main hR) rfl dX11_bound_18 rfl ?_
  refine s_iload_n hC dX11_bound_21 rfl rfl 1 rfl ?_
  refine s_ialdK hC (Or.inl (RepM.f_depths hR)) (vp_in_nI hp (by decide)) dX11_bound_22 rfl ?_
  refine s_imul hC dX11_bound_23 rfl ?_
  refine s_iadd hC dX11_bound_24 rfl ?_
  refine s_iret hC hr dX11_bound_25 (le_b rfl) (le_b rfl) ?_
  refine ⟨?_, rfl⟩
  simp only [bdF, atF_in (show 200 < 2 ^ 31 by decide) hp, hk9, atF_in (show 4 < 2 ^ 31 by decide) hq, nI_clamp (show p9 < 2 ^ 31 by omega), nI_clamp (show q < 2 ^ 31 by omega)]
set_option maxHeartbeats 1000000 in
set_option maxRecDepth 100000 in
theorem ct_X11_lower (l : Launch) (g : Gl) (ω : Wd) (ad : Iy → Nat) (y : Ey) (σ : St) (hR : RepM g ad y σ ω) (p9 : Int32) (hgr : grOK σ y) (hk : kIn σ) : CT l g yX11_lower cX11_lower 2 (some .int) 2 45 0 0 [.ref (ad .main), .int p9] ω (okM g ad (cd_lower σ p9) Value.int (vl_lower σ p9) σ σ) (nox) := by
  refine CT.of (own := "BoringheadModel") rfl rfl (le_b rfl) rfl ?_
  intro p e s m args below meth c sz0 hC hr htab hin
  refine s_aload_n hC dX11_lower_0 rfl rfl 0 rfl ?_
  refine s_callV hC (ct_X11_begins l g _ _ _ _ hR) ce_X11_begins cs_X11 (RepM.f_main hR) tw_1324 rfl rfl ⟨⟨le_b rfl, le_b rfl⟩, le_b rfl, le_b rfl⟩ (le_b rfl) dX11_lower_1 rfl (dvk0 ?_) nokx
  refine WP.rm (RepM.s_main_0 hR 0) (fun hR_1 => ?_)
  refine s_aload_n hC dX11_lower_4 rfl rfl 0 rfl ?_
  refine s_iload_n hC dX11_lower_5 rfl rfl 1 rfl ?_
  refine s_callS hC (ct_X11_isPlace l g _ _) ce_X11_isPlace tw_1415 rfl rfl ⟨⟨le_b rfl, le_b rfl⟩, le_b rfl, le_b rfl⟩ (le_b rfl) dX11_lower_6 rfl (dvk1 ?_) nokx
  rw [isP_inR]
  refine z_if_neB hC (tgt := 16) dX11_lower_9 rfl (by decide) (fun c_1 => ?_) (fun c_1 => ?_)
  · refine s_iconst hC (v := 0) dX11_lower_16 rfl (by decide) ?_
    refine s_iconst hC (v := 1) dX11_lower_17 rfl (by decide) ?_
    refine s_callV hC (ct_X11_fails_f l g _ _ _ _ hR_1 (by first | rfl | exact hth) _) ce_X11_fails cs_X11 (RepM.f_main hR_1) tw_1422 rfl rfl ⟨⟨le_b rfl, le_b rfl⟩, le_b rfl, le_b rfl⟩ (le_b rfl) dX11_lower_18 rfl (dvk1 ?_) nokx
    refine z_if_eq hC (tgt := 28) dX11_lower_21 rfl (by decide) (fun c_2 => ?_) (fun c_2 => ((absurd c_2 (by decide) : False)).elim)
    obtain ⟨p8, hp8, rfl⟩ := inR_pl c_1
    refine s_aload_n hC dX11_lower_28 rfl rfl 0 rfl ?_
    refine s_iload_n hC dX11_lower_29 rfl rfl 1 rfl ?_
    refine s_gets hC 11 rfl tw_1563 dX11_lower_30 rfl ?_
    refine s_callV hC (ct_X11_bound l g _ _ _ _ hR_1 hk _ hp8 _ _ (ar_st g _ 11 rfl)) ce_X11_bound cs_X11 (RepM.f_main hR_1) tw_1565 rfl rfl ⟨⟨le_b rfl, le_b rfl⟩, le_b rfl, le_b rfl⟩ (le_b rfl) dX11_lower_33 rfl (dvk1 ?_) nokx
    refine s_iret hC hr dX11_lower_36 (le_b rfl) (le_b rfl) ?_
    first
      | exact okM_ok (by simp [cd_lower, c_1, c_2]) rfl (by first | (simp [vl_lower, c_1, c_2]; done) | rfl) hR_1 rfl rfl rfl hgr
      | exact okM_no 1 (by simp [cd_lower, c_1, c_2]) (by decide) (by rfl) hR_1 rfl rfl hgr
  · refine s_iconst hC (v := 1) dX11_lower_12 rfl (by decide) ?_
    refine s_goto hC (tgt := 17) dX11_lower_13 (by decide) ?_
    refine s_iconst hC (v := 1) dX11_lower_17 rfl (by decide) ?_
    refine s_callV hC (ct_X11_fails_t l g _ _ _ _ hR_1 (by first | rfl | exact hth) _ (by decide)) ce_X11_fails cs_X11 (RepM.f_main hR_1) tw_1422 rfl rfl ⟨⟨le_b rfl, le_b rfl⟩, le_b rfl, le_b rfl⟩ (le_b rfl) dX11_lower_18 rfl (dvk1 ?_) nokx
    refine WP.rm (RepM.s_main_0 hR_1 _) (fun hR_18 => ?_)
    refine z_if_eq hC (tgt := 28) dX11_lower_21 rfl (by decide) (fun c_3 => ((absurd c_3 (by decide) : False)).elim) (fun c_3 => ?_)
    refine s_iconst hC (v := (-1)) dX11_lower_24 rfl (by decide) ?_
    refine s_goto hC (tgt := 36) dX11_lower_25 (by decide) ?_
    refine s_iret hC hr dX11_lower_36 (le_b rfl) (le_b rfl) ?_
    first
      | exact okM_ok (by simp [cd_lower, c_1, c_3]) rfl (by first | (simp [vl_lower, c_1, c_3]; done) | rfl) hR_18 rfl rfl rfl hgr
      | exact okM_no 1 (by simp [cd_lower, c_1, c_3]) (by decide) (by rfl) hR_18 rfl rfl hgr
set_option maxHeartbeats 1000000 in
set_option maxRecDepth 100000 in
theorem ct_X11_upper (l : Launch) (g : Gl) (ω : Wd) (ad : Iy → Nat) (y : Ey) (σ : St) (hR : RepM g ad y σ ω) (p9 : Int32) (hgr : grOK σ y) (hk : kIn σ) : CT l g yX11_upper cX11_upper 2 (some .int) 2 45 0 0 [.ref (ad .main), .int p9] ω (okM g ad (cd_upper σ p9) Value.int (vl_upper σ p9) σ σ) (nox) := by
  refine CT.of (own := "BoringheadModel") rfl rfl (le_b rfl) rfl ?_
  intro p e s m args below meth c sz0 hC hr htab hin
  refine s_aload_n hC dX11_upper_0 rfl rfl 0 rfl ?_
  refine s_callV hC (ct_X11_begins l g _ _ _ _ hR) ce_X11_begins cs_X11 (RepM.f_main hR) tw_1324 rfl rfl ⟨⟨le_b rfl, le_b rfl⟩, le_b rfl, le_b rfl⟩ (le_b rfl) dX11_upper_1 rfl (dvk0 ?_) nokx
  refine WP.rm (RepM.s_main_0 hR 0) (fun hR_1 => ?_)
  refine s_aload_n hC dX11_upper_4 rfl rfl 0 rfl ?_
  refine s_iload_n hC dX11_upper_5 rfl rfl 1 rfl ?_
  refine s_callS hC (ct_X11_isPlace l g _ _) ce_X11_isPlace tw_1415 rfl rfl ⟨⟨le_b rfl, le_b rfl⟩, le_b rfl, le_b rfl⟩ (le_b rfl) dX11_upper_6 rfl (dvk1 ?_) nokx
  rw [isP_inR]
  refine z_if_neB hC (tgt := 16) dX11_upper_9 rfl (by decide) (fun c_1 => ?_) (fun c_1 => ?_)
  · refine s_iconst hC (v := 0) dX11_upper_16 rfl (by decide) ?_
    refine s_iconst hC (v := 1) dX11_upper_17 rfl (by decide) ?_
    refine s_callV hC (ct_X11_fails_f l g _ _ _ _ hR_1 (by first | rfl | exact hth) _) ce_X11_fails cs_X11 (RepM.f_main hR_1) tw_1422 rfl rfl ⟨⟨le_b rfl, le_b rfl⟩, le_b rfl, le_b rfl⟩ (le_b rfl) dX11_upper_18 rfl (dvk1 ?_) nokx
    refine z_if_eq hC (tgt := 28) dX11_upper_21 rfl (by decide) (fun c_2 => ?_) (fun c_2 => ((absurd c_2 (by decide) : False)).elim)
    obtain ⟨p8, hp8, rfl⟩ := inR_pl c_1
    refine s_aload_n hC dX11_upper_28 rfl rfl 0 rfl ?_
    refine s_iload_n hC dX11_upper_29 rfl rfl 1 rfl ?_
    refine s_gets hC 12 rfl tw_1573 dX11_upper_30 rfl ?_
    refine s_callV hC (ct_X11_bound l g _ _ _ _ hR_1 hk _ hp8 _ _ (ar_st g _ 12 rfl)) ce_X11_bound cs_X11 (RepM.f_main hR_1) tw_1565 rfl rfl ⟨⟨le_b rfl, le_b rfl⟩, le_b rfl, le_b rfl⟩ (le_b rfl) dX11_upper_33 rfl (dvk1 ?_) nokx
    refine s_iret hC hr dX11_upper_36 (le_b rfl) (le_b rfl) ?_
    first
      | exact okM_ok (by simp [cd_upper, c_1, c_2]) rfl (by first | (simp [vl_upper, c_1, c_2]; done) | rfl) hR_1 rfl rfl rfl hgr
      | exact okM_no 1 (by simp [cd_upper, c_1, c_2]) (by decide) (by rfl) hR_1 rfl rfl hgr
  · refine s_iconst hC (v := 1) dX11_upper_12 rfl (by decide) ?_
    refine s_goto hC (tgt := 17) dX11_upper_13 (by decide) ?_
    refine s_iconst hC (v := 1) dX11_upper_17 rfl (by decide) ?_
    refine s_callV hC (ct_X11_fails_t l g _ _ _ _ hR_1 (by first | rfl | exact hth) _ (by decide)) ce_X11_fails cs_X11 (RepM.f_main hR_1) tw_1422 rfl rfl ⟨⟨le_b rfl, le_b rfl⟩, le_b rfl, le_b rfl⟩ (le_b rfl) dX11_upper_18 rfl (dvk1 ?_) nokx
    refine WP.rm (RepM.s_main_0 hR_1 _) (fun hR_18 => ?_)
    refine z_if_eq hC (tgt := 28) dX11_upper_21 rfl (by decide) (fun c_3 => ((absurd c_3 (by decide) : False)).elim) (fun c_3 => ?_)
    refine s_iconst hC (v := (-1)) dX11_upper_24 rfl (by decide) ?_
    refine s_goto hC (tgt := 36) dX11_upper_25 (by decide) ?_
    refine s_iret hC hr dX11_upper_36 (le_b rfl) (le_b rfl) ?_
    first
      | exact okM_ok (by simp [cd_upper, c_1, c_3]) rfl (by first | (simp [vl_upper, c_1, c_3]; done) | rfl) hR_18 rfl rfl rfl hgr
      | exact okM_no 1 (by simp [cd_upper, c_1, c_3]) (by decide) (by rfl) hR_18 rfl rfl hgr
theorem inR_07 {c : Int32} (h : inR c 0 7 = true) : vp_in c 8 ∧ ∀ f, atF 8 f c = f c.toNatClampNeg := by
  simp only [inR, Bool.and_eq_true, decide_eq_true_eq] at h
  obtain ⟨q, hq, rfl⟩ := nI_of (Int32.not_lt.mpr h.1)
  have := (nI_leI hq (by decide : 7 < 2 ^ 31)).mp h.2
  exact ⟨vp_in_nI (by omega) (by decide), fun f => by rw [atF_in (by decide) (by omega), nI_clamp hq]⟩
set_option maxHeartbeats 1000000 in
set_option maxRecDepth 100000 in
theorem ct_X11_worn (l : Launch) (g : Gl) (ω : Wd) (ad : Iy → Nat) (y : Ey) (σ : St) (hR : RepM g ad y σ ω) (c9 : Int32) (hgr : grOK σ y) : CT l g yX11_worn cX11_worn 2 (some .int) 1 25 0 0 [.ref (ad .main), .int c9] ω (okM g ad (cd_worn σ c9) Value.int (vl_worn σ c9) σ σ) (nox) := by
  refine CT.of (own := "BoringheadModel") rfl rfl (le_b rfl) rfl ?_
  intro p e s m args below meth c sz0 hC hr htab hin
  refine s_aload_n hC dX11_worn_0 rfl rfl 0 rfl ?_
  refine s_callV hC (ct_X11_begins l g _ _ _ _ hR) ce_X11_begins cs_X11 (RepM.f_main hR) tw_1324 rfl rfl ⟨⟨le_b rfl, le_b rfl⟩, le_b rfl, le_b rfl⟩ (le_b rfl) dX11_worn_1 rfl (dvk0 ?_) nokx
  refine WP.rm (RepM.s_main_0 hR 0) (fun hR_1 => ?_)
  refine s_aload_n hC dX11_worn_4 rfl rfl 0 rfl ?_
  refine s_iload_n hC dX11_worn_5 rfl rfl 1 rfl ?_
  refine s_i2l hC dX11_worn_6 rfl rfl ?_
  refine s_lconst hC (v := 0) dX11_worn_7 rfl (by decide) ?_
  refine s_ldc2 hC tw_1583 dX11_worn_8 rfl ?_
  refine s_callS hC (ct_X11_in l g _ _ _ _) ce_X11_in tw_1419 rfl rfl ⟨⟨le_b rfl, le_b rfl⟩, le_b rfl, le_b rfl⟩ (le_b rfl) dX11_worn_11 rfl (dvk1 ?_) nokx
  rw [inJ_inR c9 0 7 (by first | rfl | decide) (by first | rfl | decide)]
  refine z_if_neB hC (tgt := 21) dX11_worn_14 rfl (by decide) (fun c_1 => ?_) (fun c_1 => ?_)
  · refine s_iconst hC (v := 0) dX11_worn_21 rfl (by decide) ?_
    refine s_iconst hC (v := 1) dX11_worn_22 rfl (by decide) ?_
    refine s_callV hC (ct_X11_fails_f l g _ _ _ _ hR_1 (by first | rfl | exact hth) _) ce_X11_fails cs_X11 (RepM.f_main hR_1) tw_1422 rfl rfl ⟨⟨le_b rfl, le_b rfl⟩, le_b rfl, le_b rfl⟩ (le_b rfl) dX11_worn_23 rfl (dvk1 ?_) nokx
    refine z_if_eq hC (tgt := 33) dX11_worn_26 rfl (by decide) (fun c_2 => ?_) (fun c_2 => ((absurd c_2 (by decide) : False)).elim)
    refine s_aload_n hC dX11_worn_33 rfl rfl 0 rfl ?_
    refine s_getf hC cs_X11 9 tw_1258 (le_b rfl) (RepM.f_main hR_1) rfl dX11_worn_34 rfl ?_
    refine s_iload_n hC dX11_worn_37 rfl rfl 1 rfl ?_
    refine s_ialdK hC (Or.inl (RepM.f_wears hR_1)) (inR_07 c_1).1 dX11_worn_38 rfl ?_
    refine s_iret hC hr dX11_worn_39 (le_b rfl) (le_b rfl) ?_
    first
      | exact okM_ok (by simp [cd_worn, c_1, c_2]) rfl (by first | exact ((inR_07 c_1).2 _).symm | rfl) hR_1 rfl rfl rfl hgr
      | exact okM_no 1 (by simp [cd_worn, c_1, c_2]) (by decide) (by rfl) hR_1 rfl rfl hgr
  · refine s_iconst hC (v := 1) dX11_worn_17 rfl (by decide) ?_
    refine s_goto hC (tgt := 22) dX11_worn_18 (by decide) ?_
    refine s_iconst hC (v := 1) dX11_worn_22 rfl (by decide) ?_
    refine s_callV hC (ct_X11_fails_t l g _ _ _ _ hR_1 (by first | rfl | exact hth) _ (by decide)) ce_X11_fails cs_X11 (RepM.f_main hR_1) tw_1422 rfl rfl ⟨⟨le_b rfl, le_b rfl⟩, le_b rfl, le_b rfl⟩ (le_b rfl) dX11_worn_23 rfl (dvk1 ?_) nokx
    refine WP.rm (RepM.s_main_0 hR_1 _) (fun hR_23 => ?_)
    refine z_if_eq hC (tgt := 33) dX11_worn_26 rfl (by decide) (fun c_3 => ((absurd c_3 (by decide) : False)).elim) (fun c_3 => ?_)
    refine s_iconst hC (v := (-1)) dX11_worn_29 rfl (by decide) ?_
    refine s_goto hC (tgt := 39) dX11_worn_30 (by decide) ?_
    refine s_iret hC hr dX11_worn_39 (le_b rfl) (le_b rfl) ?_
    first
      | exact okM_ok (by simp [cd_worn, c_1, c_3]) rfl (by first | exact ((inR_07 c_1).2 _).symm | rfl) hR_23 rfl rfl rfl hgr
      | exact okM_no 1 (by simp [cd_worn, c_1, c_3]) (by decide) (by rfl) hR_23 rfl rfl hgr
set_option maxHeartbeats 1000000 in
set_option maxRecDepth 100000 in
theorem ct_X11_gap (l : Launch) (g : Gl) (ω : Wd) (ad : Iy → Nat) (y : Ey) (σ : St) (hR : RepM g ad y σ ω) (hk : kIn σ) (j : Nat) (hj : j < 200) : CT l g yX11_gap cX11_gap 2 (some .int) 0 0 0 0 [.ref (ad .main), .int (nI j)] ω (dv (some (.int (gapF (σ.kinds j)))) ω) (nox) := by
  obtain ⟨q, hq, hk9⟩ := hk j hj
  refine CT.of (own := "BoringheadModel") rfl rfl (le_b rfl) rfl ?_
  intro p e s m args below meth c sz0 hC hr htab hin
  refine s_bipush hC (v := 100) dX11_gap_0 rfl (by decide) ?_
  refine s_bipush hC (v := 10) dX11_gap_2 rfl (by decide) ?_
  refine s_gets hC 16 rfl tw_1722 dX11_gap_4 rfl ?_
  refine s_aload_n hC dX11_gap_7 rfl rfl 0 rfl ?_
  refine s_getf hC cs_X11 1 tw_1250 (le_b rfl) (RepM.f_main hR) rfl dX11_gap_8 rfl ?_
  refine s_iload_n hC dX11_gap_11 rfl rfl 1 rfl ?_
  refine s_ialdK hC (Or.inl (RepM.f_kinds hR)) (vp_in_nI hj (by decide)) dX11_gap_12 rfl ?_
  rw [nI_clamp (show j < 2 ^ 31 by omega), hk9]
  refine s_ialdK hC (Or.inr ⟨16, _, _, _, _, rfl, rfl, rfl, rfl⟩) (vp_in_nI hq (by decide)) dX11_gap_13 rfl ?_
  refine s_imul hC dX11_gap_14 rfl ?_
  refine s_iadd hC dX11_gap_15 rfl ?_
  refine s_iret hC hr dX11_gap_16 (le_b rfl) (le_b rfl) ?_
  refine ⟨?_, rfl⟩
  rw [gapF, atF_in (show 4 < 2 ^ 31 by decide) hq, nI_clamp (show q < 2 ^ 31 by omega)]
def rkOK (σ : St) : Prop := ∀ i, i < σ.n → (σ.ring i).kind = σ.kinds i
def nOK (σ : St) : Prop := σ.n ≤ 120
theorem iMax_c (a b : Int32) : iMax a b = iMax b a := by
  unfold iMax
  by_cases h1 : a < b
  · have h2 : ¬ b < a := fun h => absurd (Int32.lt_trans h1 h) (Int32.lt_irrefl)
    simp [h1, h2]
  · by_cases h2 : b < a
    · simp [h1, h2]
    · have : a = b := Int32.le_antisymm (Int32.not_lt.mp h2) (Int32.not_lt.mp h1)
      simp [this]
set_option maxHeartbeats 1000000 in
set_option maxRecDepth 100000 in
theorem ct_X11_lostAt (l : Launch) (g : Gl) (ω : Wd) (ad : Iy → Nat) (y : Ey) (σ : St) (hR : RepM g ad y σ ω) (hk : kIn σ) (hrk : rkOK σ) (hn : nOK σ) (j : Nat) (hj : j < σ.n) : CT l g yX11_lostAt cX11_lostAt 2 (some .int) 3 64 0 0 [.ref (ad .main), .int (nI j)] ω (dv (some (.int (missF (σ.ring j)))) ω) (nox) := by
  have hn120 : σ.n ≤ 120 := hn
  refine CT.of (own := "BoringheadModel") rfl rfl (le_b rfl) rfl ?_
  intro p e s m args below meth c sz0 hC hr htab hin
  refine s_iconst hC (v := 0) dX11_lostAt_0 rfl (by decide) ?_
  refine s_aload_n hC dX11_lostAt_1 rfl rfl 0 rfl ?_
  refine s_iload_n hC dX11_lostAt_2 rfl rfl 1 rfl ?_
  refine s_callV hC (ct_X11_gap l g _ _ _ _ hR hk _ (by omega)) ce_X11_gap cs_X11 (RepM.f_main hR) tw_1718 rfl rfl ⟨⟨le_b rfl, le_b rfl⟩, le_b rfl, le_b rfl⟩ (le_b rfl) dX11_lostAt_3 rfl (dvk1 ?_) nokx
  refine s_aload_n hC dX11_lostAt_6 rfl rfl 0 rfl ?_
  refine s_getf hC cs_X11 8 tw_1257 (le_b rfl) (RepM.f_main hR) rfl dX11_lostAt_7 rfl ?_
  refine s_iload_n hC dX11_lostAt_10 rfl rfl 1 rfl ?_
  refine s_callF hC (nA := 1) 3 (ct_Jx4a65c_get_915e3 l g _ _ _ _ _ (RepM.f_rings hR) _ _ (RepM.p_ring hR hj).2.1 (RepM.p_ring hR hj).2.2.1 _ _ (RepM.p_ring hR hj).2.2.2.1 hj (RepM.p_ring hR hj).2.2.2.2) rfl tw_288 tw_5 tw_286 tw_1610 (by decide +kernel) cs_Jx4a65c (RepM.f_rings hR) tw_1607 rfl rfl ⟨⟨le_b rfl, le_b rfl⟩, le_b rfl, le_b rfl⟩ (le_b rfl) dX11_lostAt_11 rfl (dvk1 ?_) nokx
  refine s_cast hC cs_X10 tw_1613 (RepM.f_ring hR hj) dX11_lostAt_16 rfl ?_
  refine s_getfN hC cs_X10 5 tw_1643 (le_b rfl) (RepM.f_ring hR hj) rfl dX11_lostAt_19 rfl ?_
  refine s_isub hC dX11_lostAt_22 rfl ?_
  refine s_max hC tw_1546 ⟨le_b rfl, le_b rfl, le_b rfl, le_b rfl⟩ dX11_lostAt_23 rfl ?_
  refine s_iret hC hr dX11_lostAt_26 (le_b rfl) (le_b rfl) ?_
  refine ⟨?_, rfl⟩
  rw [missF, hrk j hj, iMax_c]
set_option maxHeartbeats 1000000 in
set_option maxRecDepth 100000 in
theorem ct_X11_lost (l : Launch) (g : Gl) (ω : Wd) (ad : Iy → Nat) (y : Ey) (σ : St) (hR : RepM g ad y σ ω) (r9 : Int32) (hgr : grOK σ y) (hk : kIn σ) (hrk : rkOK σ) (hn : nOK σ) : CT l g yX11_lost cX11_lost 2 (some .int) 4 85 0 0 [.ref (ad .main), .int r9] ω (okM g ad (cd_lost σ r9) Value.int (vl_lost σ r9) σ σ) (nox) := by
  refine CT.of (own := "BoringheadModel") rfl rfl (le_b rfl) rfl ?_
  intro p e s m args below meth c sz0 hC hr htab hin
  refine s_aload_n hC dX11_lost_0 rfl rfl 0 rfl ?_
  refine s_callV hC (ct_X11_begins l g _ _ _ _ hR) ce_X11_begins cs_X11 (RepM.f_main hR) tw_1324 rfl rfl ⟨⟨le_b rfl, le_b rfl⟩, le_b rfl, le_b rfl⟩ (le_b rfl) dX11_lost_1 rfl (dvk0 ?_) nokx
  refine WP.rm (RepM.s_main_0 hR 0) (fun hR_1 => ?_)
  refine s_aload_n hC dX11_lost_4 rfl rfl 0 rfl ?_
  refine s_iload_n hC dX11_lost_5 rfl rfl 1 rfl ?_
  refine s_callV hC (ct_X11_noRing l g _ _ _ _ hR_1 rfl _) ce_X11_noRing cs_X11 (RepM.f_main hR_1) tw_1675 rfl rfl ⟨⟨le_b rfl, le_b rfl⟩, le_b rfl, le_b rfl⟩ (le_b rfl) dX11_lost_6 rfl (fun r w h9 => ?_) nokx
  rcases h9 with ⟨c9, rfl, rfl⟩ | ⟨c9, rfl, rfl⟩
  · obtain ⟨j, rfl, hj⟩ := inL_of (Nat.lt_of_le_of_lt (RepM.b_ring hR) (by decide)) c9
    have hcl : (nI j).toNatClampNeg = j := nI_clamp (by have := RepM.b_ring hR; omega)
    refine z_if_eq hC (tgt := 16) dX11_lost_9 rfl (by decide) (fun c_1 => ?_) (fun c_1 => ((absurd c_1 (by decide) : False)).elim)
    refine s_aload_n hC dX11_lost_16 rfl rfl 0 rfl ?_
    refine s_iload_n hC dX11_lost_17 rfl rfl 1 rfl ?_
    refine s_callV hC (ct_X11_lostAt l g _ _ _ _ hR_1 hk hrk hn _ hj) ce_X11_lostAt cs_X11 (RepM.f_main hR_1) tw_1724 rfl rfl ⟨⟨le_b rfl, le_b rfl⟩, le_b rfl, le_b rfl⟩ (le_b rfl) dX11_lost_18 rfl (dvk1 ?_) nokx
    refine s_iret hC hr dX11_lost_21 (le_b rfl) (le_b rfl) ?_
    first
      | exact okM_ok (by simp [cd_lost, c9, hcl, c_1]) rfl (by simp [vl_lost, hcl]) hR_1 rfl rfl rfl hgr
      | exact okM_no 1 (by simp [cd_lost, c9, hcl, c_1]) (by decide) (by rfl) hR_1 rfl rfl hgr
  · refine WP.rm (RepM.s_main_0 hR_1 _) (fun hR_9 => ?_)
    refine z_if_eq hC (tgt := 16) dX11_lost_9 rfl (by decide) (fun c_2 => ((absurd c_2 (by decide) : False)).elim) (fun c_2 => ?_)
    refine s_iconst hC (v := (-1)) dX11_lost_12 rfl (by decide) ?_
    refine s_goto hC (tgt := 21) dX11_lost_13 (by decide) ?_
    refine s_iret hC hr dX11_lost_21 (le_b rfl) (le_b rfl) ?_
    first
      | exact okM_ok (by simp [cd_lost, c9, c_2]) rfl (by simp [vl_lost, hcl]) hR_9 rfl rfl rfl hgr
      | exact okM_no 1 (by simp [cd_lost, c9, c_2]) (by decide) (by rfl) hR_9 rfl rfl hgr
