theorem bI_n0 {b : Bool} (h : ¬ bI b = 0) : b = true := by
  cases b
  · exact absurd rfl h
  · rfl
theorem nsC_eq (σ : St) (f9 t9 : Int32) (b : Bool) : nsC σ f9 t9 b = if isStr f9 t9 = true then (if b = true then (if nI σ.n ≤ f9 then 0 else 2) else 1) else 1 := by
  unfold nsC isStr
  rw [isP_inR, isP_inR]
  cases inR f9 0 199 <;> cases inR t9 0 199 <;> by_cases h : f9 ≤ t9 <;> simp [h]
theorem nsC_0 {σ : St} {f9 t9 : Int32} {b : Bool} (h : nsC σ f9 t9 b = 0) : isStr f9 t9 = true := by
  rw [nsC_eq] at h
  by_cases hs : isStr f9 t9 = true
  · exact hs
  · rw [if_neg hs] at h
    exact absurd h (by decide)
set_option maxHeartbeats 1000000 in
set_option maxRecDepth 100000 in
theorem ct_X11_lay_depths (l : Launch) (g : Gl) (ω : Wd) (ad : Iy → Nat) (y : Ey) (σ : St) (hR : RepM g ad y σ ω) (f9 t9 v9 lo9 hi9 : Int32) (hgr : grOK σ y) : CT l g yX11_lay cX11_lay 9 (some .int) 3 68 0 0 [.ref (ad .main), .ref (ad .depths), .int f9, .int t9, .int v9, .int lo9, .int hi9] ω (okM g ad (cd_tellNumber_depths σ f9 t9 v9 lo9 hi9) Value.int (vl_tellNumber_depths σ f9 t9 v9 lo9 hi9) (nx_tellNumber_depths σ f9 t9 v9 lo9 hi9) σ) (nox) := by
  refine CT.of (own := "BoringheadModel") rfl rfl (le_b rfl) rfl ?_
  intro p e s m args below meth c sz0 hC hr htab hin
  refine s_aload_n hC dX11_lay_0 rfl rfl 0 rfl ?_
  refine s_callV hC (ct_X11_begins l g _ _ _ _ hR) ce_X11_begins cs_X11 (RepM.f_main hR) tw_1324 rfl rfl ⟨⟨le_b rfl, le_b rfl⟩, le_b rfl, le_b rfl⟩ (le_b rfl) dX11_lay_1 rfl (dvk0 ?_) nokx
  refine WP.rm (RepM.s_main_0 hR 0) (fun hR_1 => ?_)
  refine s_aload_n hC dX11_lay_4 rfl rfl 0 rfl ?_
  refine s_iload_n hC dX11_lay_5 rfl rfl 2 rfl ?_
  refine s_iload_n hC dX11_lay_6 rfl rfl 3 rfl ?_
  refine s_iload hC dX11_lay_7 rfl 4 rfl ?_
  refine s_i2l hC dX11_lay_9 rfl rfl ?_
  refine s_iload hC dX11_lay_10 rfl 5 rfl ?_
  refine s_i2l hC dX11_lay_12 rfl rfl ?_
  refine s_iload hC dX11_lay_13 rfl 6 rfl ?_
  refine s_i2l hC dX11_lay_15 rfl rfl ?_
  refine s_callS hC (ct_X11_in l g _ _ _ _) ce_X11_in tw_1419 rfl rfl ⟨⟨le_b rfl, le_b rfl⟩, le_b rfl, le_b rfl⟩ (le_b rfl) dX11_lay_16 rfl (dvk1 ?_) nokx
  rw [inJ_inR v9 lo9 hi9 (by first | rfl | decide) (by first | rfl | decide)]
  refine s_callV hC (ct_X11_noStretch l g _ _ _ _ hR_1 rfl f9 t9 (inR v9 lo9 hi9)) ce_X11_noStretch cs_X11 (RepM.f_main hR_1) tw_1411 rfl rfl ⟨⟨le_b rfl, le_b rfl⟩, le_b rfl, le_b rfl⟩ (le_b rfl) dX11_lay_19 rfl (fun r w h9 => ?_) nokx
  rcases h9 with ⟨hc, rfl, rfl⟩ | ⟨hc, rfl, rfl⟩
  · have hcd : (cd_tellNumber_depths σ f9 t9 v9 lo9 hi9) = 0 := (nsC_eq σ f9 t9 (inR v9 lo9 hi9)).symm.trans hc
    obtain ⟨x9, z9, rfl, rfl, hxz, hz⟩ := isStr_spec (nsC_0 hc)
    refine z_if_eq hC (tgt := 27) dX11_lay_22 rfl (by decide) (fun c_1 => ?_) (fun c_1 => ((absurd c_1 (by decide) : False)).elim)
    refine s_aload_n hC dX11_lay_27 rfl rfl 1 rfl ?_
    refine s_iload_n hC dX11_lay_28 rfl rfl 2 rfl ?_
    refine s_ialdK hC (Or.inl (RepM.f_depths hR_1)) (vp_in_nI (by omega : x9 < 200) (by decide)) dX11_lay_29 rfl ?_
    rw [nI_clamp (show x9 < 2 ^ 31 by omega)]
    refine s_istore hC (L' := [(7, _), (0, _), (1, _), (2, _), (3, _), (4, _), (5, _), (6, _)]) dX11_lay_30 rfl (le_b rfl) rfl ?_
    refine s_iload_n hC dX11_lay_32 rfl rfl 3 rfl ?_
    refine s_istore hC (L' := [(8, _), (7, _), (0, _), (1, _), (2, _), (3, _), (4, _), (5, _), (6, _)]) dX11_lay_33 rfl (le_b rfl) rfl ?_
    refine WP.sub (L' := [(0, _), (1, _), (2, _), (3, _), (4, _), (7, _), (8, _)]) [2, 3, 4, 5, 6, 1, 0] rfl ?_
    refine wp_loop (σ := Int32 × Wd × Nat) (I := fun (i, W, j) => j ≤ z9 + 1 - x9 ∧ i = nI (x9 + j) ∧ W = wup (wup ω (ad .main) (.inr (16, (mnL ad y σ).set 0 (.int 0)))) (ad .depths) (.inl (g.2.1 0, 200, .inl (fillN σ.depths x9 j v9)))) (ωf := fun (i, W, j) => W) (Lf := fun (i, W, j) => [(0, .ref (ad .main)), (1, .ref (ad .depths)), (2, .int (nI x9)), (3, .int (nI z9)), (4, .int v9), (7, .int (σ.depths x9)), (8, .int i)]) (μ := fun (i, W, j) => z9 + 1 - x9 - j) (x0 := (_, _, 0)) ?_ ?_
    · exact ⟨Nat.zero_le _, rfl, by rw [fillN_0]; exact (wup_self (RepM.f_depths hR_1)).symm⟩
    · rintro ⟨i, W, j⟩ hI ih
      dsimp only at hI ih ⊢
      obtain ⟨hj, rfl, rfl⟩ := hI
      have hin9 : nI (x9 + j) ≤ nI z9 → j < z9 + 1 - x9 := fun h => by
        have h2 := (nI_leI (by omega) (by omega)).mp h
        omega
      have hW := RepM.w_depths hR_1 (fillN σ.depths x9 j v9)
      refine s_iload hC dX11_lay_35 rfl 6 rfl ?_
      refine s_iload_n hC dX11_lay_37 rfl rfl 3 rfl ?_
      refine z_icmp_gt hC (tgt := 53) dX11_lay_38 rfl (by decide) (fun c_2 => ?_) (fun c_2 => ?_)
      · refine s_iload hC dX11_lay_53 rfl 5 rfl ?_
        refine s_iret hC hr dX11_lay_55 (le_b rfl) (le_b rfl) ?_
        obtain rfl : j = z9 + 1 - x9 := by
          have : ¬ x9 + j ≤ z9 := fun h => c_2 (nI_le h (by omega))
          omega
        exact okM_ok hcd rfl (by rw [vl_tellNumber_depths, atF_in (by decide) (by omega)]) hW (by rw [nx_tellNumber_depths, fwF, nI_clamp (by omega), nI_clamp (by omega)]) rfl rfl hgr
      · refine s_aload_n hC dX11_lay_41 rfl rfl 1 rfl ?_
        refine s_iload hC dX11_lay_42 rfl 6 rfl ?_
        refine s_iload hC dX11_lay_44 rfl 4 rfl ?_
        refine s_iast hC (RepM.f_depths hW) (vp_in_nI (by have := hin9 c_2; omega) (by decide)) dX11_lay_46 rfl ?_
        refine WP.rm (RepM.w_depths hW _) (fun hR_46 => ?_)
        refine s_iinc hC (v := _ + 1) (j9 := 6) (L' := [(8, _), (0, _), (1, _), (2, _), (3, _), (4, _), (7, _)]) dX11_lay_47 rfl rfl rfl (le_b rfl) rfl ?_
        refine s_goto hC (tgt := 35) dX11_lay_50 (by decide) ?_
        refine WP.sub (L' := [(0, _), (1, _), (2, _), (3, _), (4, _), (7, _), (8, _)]) [1, 2, 3, 4, 5, 6, 0] rfl ?_
        refine ih (_, (wup _ _ _), j + 1) ?_ ?_
        · dsimp only
          have h9 := hin9 c_2
          exact ⟨by omega, nI_1 (x9 + j), by rw [wup_wup, nI_clamp (by omega), ← fillN_up]; rfl⟩
        · dsimp only
          have h9 := hin9 c_2; omega
  · have hcd : (cd_tellNumber_depths σ f9 t9 v9 lo9 hi9) = nsC σ f9 t9 (inR v9 lo9 hi9) := (nsC_eq σ f9 t9 (inR v9 lo9 hi9)).symm
    refine WP.rm (RepM.s_main_0 hR_1 _) (fun hR_9 => ?_)
    refine z_if_eq hC (tgt := 27) dX11_lay_22 rfl (by decide) (fun c_3 => ((absurd c_3 (by decide) : False)).elim) (fun c_3 => ?_)
    refine s_iconst hC (v := (-1)) dX11_lay_25 rfl (by decide) ?_
    refine s_iret hC hr dX11_lay_26 (le_b rfl) (le_b rfl) ?_
    exact okM_no _ hcd hc rfl hR_9 rfl rfl hgr
set_option maxHeartbeats 1000000 in
set_option maxRecDepth 100000 in
theorem ct_X11_lay_waters (l : Launch) (g : Gl) (ω : Wd) (ad : Iy → Nat) (y : Ey) (σ : St) (hR : RepM g ad y σ ω) (f9 t9 v9 lo9 hi9 : Int32) (hgr : grOK σ y) : CT l g yX11_lay cX11_lay 9 (some .int) 3 68 0 0 [.ref (ad .main), .ref (ad .waters), .int f9, .int t9, .int v9, .int lo9, .int hi9] ω (okM g ad (cd_tellNumber_waters σ f9 t9 v9 lo9 hi9) Value.int (vl_tellNumber_waters σ f9 t9 v9 lo9 hi9) (nx_tellNumber_waters σ f9 t9 v9 lo9 hi9) σ) (nox) := by
  refine CT.of (own := "BoringheadModel") rfl rfl (le_b rfl) rfl ?_
  intro p e s m args below meth c sz0 hC hr htab hin
  refine s_aload_n hC dX11_lay_0 rfl rfl 0 rfl ?_
  refine s_callV hC (ct_X11_begins l g _ _ _ _ hR) ce_X11_begins cs_X11 (RepM.f_main hR) tw_1324 rfl rfl ⟨⟨le_b rfl, le_b rfl⟩, le_b rfl, le_b rfl⟩ (le_b rfl) dX11_lay_1 rfl (dvk0 ?_) nokx
  refine WP.rm (RepM.s_main_0 hR 0) (fun hR_1 => ?_)
  refine s_aload_n hC dX11_lay_4 rfl rfl 0 rfl ?_
  refine s_iload_n hC dX11_lay_5 rfl rfl 2 rfl ?_
  refine s_iload_n hC dX11_lay_6 rfl rfl 3 rfl ?_
  refine s_iload hC dX11_lay_7 rfl 4 rfl ?_
  refine s_i2l hC dX11_lay_9 rfl rfl ?_
  refine s_iload hC dX11_lay_10 rfl 5 rfl ?_
  refine s_i2l hC dX11_lay_12 rfl rfl ?_
  refine s_iload hC dX11_lay_13 rfl 6 rfl ?_
  refine s_i2l hC dX11_lay_15 rfl rfl ?_
  refine s_callS hC (ct_X11_in l g _ _ _ _) ce_X11_in tw_1419 rfl rfl ⟨⟨le_b rfl, le_b rfl⟩, le_b rfl, le_b rfl⟩ (le_b rfl) dX11_lay_16 rfl (dvk1 ?_) nokx
  rw [inJ_inR v9 lo9 hi9 (by first | rfl | decide) (by first | rfl | decide)]
  refine s_callV hC (ct_X11_noStretch l g _ _ _ _ hR_1 rfl f9 t9 (inR v9 lo9 hi9)) ce_X11_noStretch cs_X11 (RepM.f_main hR_1) tw_1411 rfl rfl ⟨⟨le_b rfl, le_b rfl⟩, le_b rfl, le_b rfl⟩ (le_b rfl) dX11_lay_19 rfl (fun r w h9 => ?_) nokx
  rcases h9 with ⟨hc, rfl, rfl⟩ | ⟨hc, rfl, rfl⟩
  · have hcd : (cd_tellNumber_waters σ f9 t9 v9 lo9 hi9) = 0 := (nsC_eq σ f9 t9 (inR v9 lo9 hi9)).symm.trans hc
    obtain ⟨x9, z9, rfl, rfl, hxz, hz⟩ := isStr_spec (nsC_0 hc)
    refine z_if_eq hC (tgt := 27) dX11_lay_22 rfl (by decide) (fun c_1 => ?_) (fun c_1 => ((absurd c_1 (by decide) : False)).elim)
    refine s_aload_n hC dX11_lay_27 rfl rfl 1 rfl ?_
    refine s_iload_n hC dX11_lay_28 rfl rfl 2 rfl ?_
    refine s_ialdK hC (Or.inl (RepM.f_waters hR_1)) (vp_in_nI (by omega : x9 < 200) (by decide)) dX11_lay_29 rfl ?_
    rw [nI_clamp (show x9 < 2 ^ 31 by omega)]
    refine s_istore hC (L' := [(7, _), (0, _), (1, _), (2, _), (3, _), (4, _), (5, _), (6, _)]) dX11_lay_30 rfl (le_b rfl) rfl ?_
    refine s_iload_n hC dX11_lay_32 rfl rfl 3 rfl ?_
    refine s_istore hC (L' := [(8, _), (7, _), (0, _), (1, _), (2, _), (3, _), (4, _), (5, _), (6, _)]) dX11_lay_33 rfl (le_b rfl) rfl ?_
    refine WP.sub (L' := [(0, _), (1, _), (2, _), (3, _), (4, _), (7, _), (8, _)]) [2, 3, 4, 5, 6, 1, 0] rfl ?_
    refine wp_loop (σ := Int32 × Wd × Nat) (I := fun (i, W, j) => j ≤ z9 + 1 - x9 ∧ i = nI (x9 + j) ∧ W = wup (wup ω (ad .main) (.inr (16, (mnL ad y σ).set 0 (.int 0)))) (ad .waters) (.inl (g.2.1 0, 200, .inl (fillN σ.waters x9 j v9)))) (ωf := fun (i, W, j) => W) (Lf := fun (i, W, j) => [(0, .ref (ad .main)), (1, .ref (ad .waters)), (2, .int (nI x9)), (3, .int (nI z9)), (4, .int v9), (7, .int (σ.waters x9)), (8, .int i)]) (μ := fun (i, W, j) => z9 + 1 - x9 - j) (x0 := (_, _, 0)) ?_ ?_
    · exact ⟨Nat.zero_le _, rfl, by rw [fillN_0]; exact (wup_self (RepM.f_waters hR_1)).symm⟩
    · rintro ⟨i, W, j⟩ hI ih
      dsimp only at hI ih ⊢
      obtain ⟨hj, rfl, rfl⟩ := hI
      have hin9 : nI (x9 + j) ≤ nI z9 → j < z9 + 1 - x9 := fun h => by
        have h2 := (nI_leI (by omega) (by omega)).mp h
        omega
      have hW := RepM.w_waters hR_1 (fillN σ.waters x9 j v9)
      refine s_iload hC dX11_lay_35 rfl 6 rfl ?_
      refine s_iload_n hC dX11_lay_37 rfl rfl 3 rfl ?_
      refine z_icmp_gt hC (tgt := 53) dX11_lay_38 rfl (by decide) (fun c_2 => ?_) (fun c_2 => ?_)
      · refine s_iload hC dX11_lay_53 rfl 5 rfl ?_
        refine s_iret hC hr dX11_lay_55 (le_b rfl) (le_b rfl) ?_
        obtain rfl : j = z9 + 1 - x9 := by
          have : ¬ x9 + j ≤ z9 := fun h => c_2 (nI_le h (by omega))
          omega
        exact okM_ok hcd rfl (by rw [vl_tellNumber_waters, atF_in (by decide) (by omega)]) hW (by rw [nx_tellNumber_waters, fwF, nI_clamp (by omega), nI_clamp (by omega)]) rfl rfl hgr
      · refine s_aload_n hC dX11_lay_41 rfl rfl 1 rfl ?_
        refine s_iload hC dX11_lay_42 rfl 6 rfl ?_
        refine s_iload hC dX11_lay_44 rfl 4 rfl ?_
        refine s_iast hC (RepM.f_waters hW) (vp_in_nI (by have := hin9 c_2; omega) (by decide)) dX11_lay_46 rfl ?_
        refine WP.rm (RepM.w_waters hW _) (fun hR_46 => ?_)
        refine s_iinc hC (v := _ + 1) (j9 := 6) (L' := [(8, _), (0, _), (1, _), (2, _), (3, _), (4, _), (7, _)]) dX11_lay_47 rfl rfl rfl (le_b rfl) rfl ?_
        refine s_goto hC (tgt := 35) dX11_lay_50 (by decide) ?_
        refine WP.sub (L' := [(0, _), (1, _), (2, _), (3, _), (4, _), (7, _), (8, _)]) [1, 2, 3, 4, 5, 6, 0] rfl ?_
        refine ih (_, (wup _ _ _), j + 1) ?_ ?_
        · dsimp only
          have h9 := hin9 c_2
          exact ⟨by omega, nI_1 (x9 + j), by rw [wup_wup, nI_clamp (by omega), ← fillN_up]; rfl⟩
        · dsimp only
          have h9 := hin9 c_2; omega
  · have hcd : (cd_tellNumber_waters σ f9 t9 v9 lo9 hi9) = nsC σ f9 t9 (inR v9 lo9 hi9) := (nsC_eq σ f9 t9 (inR v9 lo9 hi9)).symm
    refine WP.rm (RepM.s_main_0 hR_1 _) (fun hR_9 => ?_)
    refine z_if_eq hC (tgt := 27) dX11_lay_22 rfl (by decide) (fun c_3 => ((absurd c_3 (by decide) : False)).elim) (fun c_3 => ?_)
    refine s_iconst hC (v := (-1)) dX11_lay_25 rfl (by decide) ?_
    refine s_iret hC hr dX11_lay_26 (le_b rfl) (le_b rfl) ?_
    exact okM_no _ hcd hc rfl hR_9 rfl rfl hgr
