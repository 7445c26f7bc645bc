set_option maxHeartbeats 1000000 in
set_option maxRecDepth 100000 in
theorem ct_X11_depth (l : Launch) (g : Gl) (ω : Wd) (ad : Iy → Nat) (y : Ey) (σ : St) (hR : RepM g ad y σ ω) (f9 : Int32) (t9 : Int32) (v9 : Int32) (hgr : grOK σ y) : CT l g yX11_depth cX11_depth 4 (some .int) 4 96 0 0 [.ref (ad .main), .int f9, .int t9, .int v9] ω (okM g ad (cd_depth σ f9 t9 v9) Value.int (vl_depth σ f9 t9 v9) (nx_depth σ f9 t9 v9) σ) (nox) := by
  refine CT.of (own := "BoringheadModel") rfl rfl (le_b rfl) rfl ?_
  intro p e s m args below meth c sz0 hC hr htab hin
  refine s_aload_n hC dX11_depth_0 rfl rfl 0 rfl ?_
  refine s_aload_n hC dX11_depth_1 rfl rfl 0 rfl ?_
  refine s_getf hC cs_X11 3 tw_1252 (le_b rfl) (RepM.f_main hR) rfl dX11_depth_2 rfl ?_
  refine s_iload_n hC dX11_depth_5 rfl rfl 1 rfl ?_
  refine s_iload_n hC dX11_depth_6 rfl rfl 2 rfl ?_
  refine s_iload_n hC dX11_depth_7 rfl rfl 3 rfl ?_
  refine s_bipush hC (v := 10) dX11_depth_8 rfl (by decide) ?_
  refine s_bipush hC (v := 60) dX11_depth_10 rfl (by decide) ?_
  refine s_callV hC (ct_X11_lay_depths l g _ _ _ _ hR _ _ _ _ _ hgr) ce_X11_lay cs_X11 (RepM.f_main hR) tw_1442 rfl rfl ⟨⟨le_b rfl, le_b rfl⟩, le_b rfl, le_b rfl⟩ (le_b rfl) dX11_depth_12 rfl (fun r w h9 => ?_) nokx
  obtain ⟨b9, ad2, y2, rfl, h8⟩ := h9
  refine s_iret hC hr dX11_depth_15 (le_b rfl) (le_b rfl) ?_
  exact ⟨b9, ad2, y2, rfl, h8⟩
set_option maxHeartbeats 1000000 in
set_option maxRecDepth 100000 in
theorem ct_X11_water (l : Launch) (g : Gl) (ω : Wd) (ad : Iy → Nat) (y : Ey) (σ : St) (hR : RepM g ad y σ ω) (f9 : Int32) (t9 : Int32) (v9 : Int32) (hgr : grOK σ y) : CT l g yX11_water cX11_water 4 (some .int) 4 96 0 0 [.ref (ad .main), .int f9, .int t9, .int v9] ω (okM g ad (cd_water σ f9 t9 v9) Value.int (vl_water σ f9 t9 v9) (nx_water σ f9 t9 v9) σ) (nox) := by
  refine CT.of (own := "BoringheadModel") rfl rfl (le_b rfl) rfl ?_
  intro p e s m args below meth c sz0 hC hr htab hin
  refine s_aload_n hC dX11_water_0 rfl rfl 0 rfl ?_
  refine s_aload_n hC dX11_water_1 rfl rfl 0 rfl ?_
  refine s_getf hC cs_X11 4 tw_1253 (le_b rfl) (RepM.f_main hR) rfl dX11_water_2 rfl ?_
  refine s_iload_n hC dX11_water_5 rfl rfl 1 rfl ?_
  refine s_iload_n hC dX11_water_6 rfl rfl 2 rfl ?_
  refine s_iload_n hC dX11_water_7 rfl rfl 3 rfl ?_
  refine s_iconst hC (v := 0) dX11_water_8 rfl (by decide) ?_
  refine s_bipush hC (v := 40) dX11_water_9 rfl (by decide) ?_
  refine s_callV hC (ct_X11_lay_waters l g _ _ _ _ hR _ _ _ _ _ hgr) ce_X11_lay cs_X11 (RepM.f_main hR) tw_1442 rfl rfl ⟨⟨le_b rfl, le_b rfl⟩, le_b rfl, le_b rfl⟩ (le_b rfl) dX11_water_11 rfl (fun r w h9 => ?_) nokx
  obtain ⟨b9, ad2, y2, rfl, h8⟩ := h9
  refine s_iret hC hr dX11_water_14 (le_b rfl) (le_b rfl) ?_
  exact ⟨b9, ad2, y2, rfl, h8⟩
set_option maxHeartbeats 1000000 in
set_option maxRecDepth 100000 in
theorem ct_X11_alarm (l : Launch) (g : Gl) (ω : Wd) (ad : Iy → Nat) (y : Ey) (σ : St) (hR : RepM g ad y σ ω) (r9 : Int32) (hgr : grOK σ y) : CT l g yX11_alarm cX11_alarm 3 (some .char) 3 67 0 0 [.ref (ad .main), .int r9] ω (okM g ad (cd_alarm σ r9) Value.int (vl_alarm σ r9) σ σ) (nox) := by
  refine CT.of (own := "BoringheadModel") rfl rfl (le_b rfl) rfl ?_
  intro p e s m args below meth c sz0 hC hr htab hin
  refine s_aload_n hC dX11_alarm_0 rfl rfl 0 rfl ?_
  refine s_callV hC (ct_X11_begins l g _ _ _ _ hR) ce_X11_begins cs_X11 (RepM.f_main hR) tw_1324 rfl rfl ⟨⟨le_b rfl, le_b rfl⟩, le_b rfl, le_b rfl⟩ (le_b rfl) dX11_alarm_1 rfl (dvk0 ?_) nokx
  refine WP.rm (RepM.s_main_0 hR 0) (fun hR_1 => ?_)
  refine s_aload_n hC dX11_alarm_4 rfl rfl 0 rfl ?_
  refine s_iload_n hC dX11_alarm_5 rfl rfl 1 rfl ?_
  refine s_callV hC (ct_X11_noHouse l g _ _ _ _ hR_1 rfl _) ce_X11_noHouse cs_X11 (RepM.f_main hR_1) tw_1741 rfl rfl ⟨⟨le_b rfl, le_b rfl⟩, le_b rfl, le_b rfl⟩ (le_b rfl) dX11_alarm_6 rfl (fun r w h9 => ?_) nokx
  rcases h9 with ⟨c9, rfl, rfl⟩ | ⟨c9, rfl, rfl⟩
  · obtain ⟨j, rfl, hj⟩ := inL_of (Nat.lt_of_le_of_lt (RepM.b_house hR) (by decide)) c9
    have hcl : (nI j).toNatClampNeg = j := nI_clamp (by have := RepM.b_house hR; omega)
    refine z_if_eq hC (tgt := 15) dX11_alarm_9 rfl (by decide) (fun c_1 => ?_) (fun c_1 => ((absurd c_1 (by decide) : False)).elim)
    refine s_aload_n hC dX11_alarm_15 rfl rfl 0 rfl ?_
    refine s_getf hC cs_X11 10 tw_1259 (le_b rfl) (RepM.f_main hR_1) rfl dX11_alarm_16 rfl ?_
    refine s_iload_n hC dX11_alarm_19 rfl rfl 1 rfl ?_
    refine s_callF hC (nA := 1) 3 (ct_Jx4a65c_get_915e3 l g _ _ _ _ _ (RepM.f_houses hR_1) _ _ (RepM.p_house hR_1 hj).2.1 (RepM.p_house hR_1 hj).2.2.1 _ _ (RepM.p_house hR_1 hj).2.2.2.1 hj (RepM.p_house hR_1 hj).2.2.2.2) rfl tw_288 tw_5 tw_286 tw_1610 (by decide +kernel) cs_Jx4a65c (RepM.f_houses hR_1) tw_1607 rfl rfl ⟨⟨le_b rfl, le_b rfl⟩, le_b rfl, le_b rfl⟩ (le_b rfl) dX11_alarm_20 rfl (dvk1 ?_) nokx
    refine s_castI hC tw_1544 (RepM.f_house hR_1 hj) dX11_alarm_25 rfl ?_
    refine s_astore_n hC (L' := [(2, _), (0, _), (1, _)]) dX11_alarm_28 rfl rfl (le_b rfl) rfl ?_
    refine s_aload_n hC dX11_alarm_29 rfl rfl 0 rfl ?_
    refine s_iconst hC (v := 5) dX11_alarm_30 rfl (by decide) ?_
    refine s_ialdK hC (Or.inl (RepM.f_house hR_1 hj)) (vp_in_nI (by decide : 5 < 7) (by decide)) dX11_alarm_31 rfl ?_
    rw [show hsA (σ.hs j) (Int32.toNatClampNeg 5) = bI (σ.hs j).wr from rfl]
    refine z_if_ne hC (tgt := 40) dX11_alarm_32 rfl (by decide) (fun c_2 => ?_) (fun c_2 => ?_)
    · refine s_aload_n hC dX11_alarm_40 rfl rfl 0 rfl ?_
      refine s_bipush hC (v := 6) dX11_alarm_41 rfl (by decide) ?_
      refine s_ialdK hC (Or.inl (RepM.f_house hR_1 hj)) (vp_in_nI (by decide : 6 < 7) (by decide)) dX11_alarm_43 rfl ?_
      refine s_bipush hC (v := 20) dX11_alarm_44 rfl (by decide) ?_
      first | rw [show hsA (σ.hs j) (Int32.toNatClampNeg 6) = (σ.hs j).re from rfl] | skip
      refine z_icmp_ge hC (tgt := 54) dX11_alarm_46 rfl (by decide) (fun c_3 => ?_) (fun c_3 => ?_)
      · refine s_aload_n hC dX11_alarm_54 rfl rfl 0 rfl ?_
        refine s_bipush hC (v := 6) dX11_alarm_55 rfl (by decide) ?_
        refine s_ialdK hC (Or.inl (RepM.f_house hR_1 hj)) (vp_in_nI (by decide : 6 < 7) (by decide)) dX11_alarm_57 rfl ?_
        refine s_bipush hC (v := 50) dX11_alarm_58 rfl (by decide) ?_
        first | rw [show hsA (σ.hs j) (Int32.toNatClampNeg 6) = (σ.hs j).re from rfl] | skip
        refine z_icmp_ge hC (tgt := 68) dX11_alarm_60 rfl (by decide) (fun c_4 => ?_) (fun c_4 => ?_)
        · refine s_bipush hC (v := 114) dX11_alarm_68 rfl (by decide) ?_
          refine s_zret hC hr dX11_alarm_70 rfl (le_b rfl) (le_b rfl) ?_
          have hcd : cd_alarm σ (nI j) = 0 := by simp [cd_alarm, c9]
          exact okM_ok hcd rfl (by simp [vl_alarm, colF, hcl, bI_n0 c_2, c9, hcl, c_1, c_2, c_3, c_4]) hR_1 rfl rfl rfl hgr
        · refine s_bipush hC (v := 121) dX11_alarm_63 rfl (by decide) ?_
          refine s_goto hC (tgt := 70) dX11_alarm_65 (by decide) ?_
          refine s_zret hC hr dX11_alarm_70 rfl (le_b rfl) (le_b rfl) ?_
          have hcd : cd_alarm σ (nI j) = 0 := by simp [cd_alarm, c9]
          exact okM_ok hcd rfl (by simp [vl_alarm, colF, hcl, bI_n0 c_2, c9, hcl, c_1, c_2, c_3, c_4]) hR_1 rfl rfl rfl hgr
      · refine s_bipush hC (v := 103) dX11_alarm_49 rfl (by decide) ?_
        refine s_goto hC (tgt := 70) dX11_alarm_51 (by decide) ?_
        refine s_zret hC hr dX11_alarm_70 rfl (le_b rfl) (le_b rfl) ?_
        have hcd : cd_alarm σ (nI j) = 0 := by simp [cd_alarm, c9]
        exact okM_ok hcd rfl (by simp [vl_alarm, colF, hcl, bI_n0 c_2, c9, hcl, c_1, c_2, c_3]) hR_1 rfl rfl rfl hgr
    · refine s_bipush hC (v := 45) dX11_alarm_35 rfl (by decide) ?_
      refine s_goto hC (tgt := 70) dX11_alarm_37 (by decide) ?_
      refine s_zret hC hr dX11_alarm_70 rfl (le_b rfl) (le_b rfl) ?_
      have hcd : cd_alarm σ (nI j) = 0 := by simp [cd_alarm, c9]
      exact okM_ok hcd rfl (by simp [vl_alarm, colF, hcl, bI_0.mp c_2]) hR_1 rfl rfl rfl hgr
  · refine WP.rm (RepM.s_main_0 hR_1 _) (fun hR_9 => ?_)
    refine z_if_eq hC (tgt := 15) dX11_alarm_9 rfl (by decide) (fun c_5 => ((absurd c_5 (by decide) : False)).elim) (fun c_5 => ?_)
    refine s_bipush hC (v := 32) dX11_alarm_12 rfl (by decide) ?_
    refine s_zret hC hr dX11_alarm_14 rfl (le_b rfl) (le_b rfl) ?_
    exact okM_no 1 (by simp [cd_alarm, c9, c_5]) (by decide) (by rfl) hR_9 rfl rfl hgr
