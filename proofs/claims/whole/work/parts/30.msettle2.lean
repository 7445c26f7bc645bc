set_option maxHeartbeats 1000000 in
set_option maxRecDepth 100000 in
theorem ct_X11_tilted (l : Launch) (g : Gl) (ω : Wd) (ad : Iy → Nat) (y : Ey) (σ : St) (hR : RepM g ad y σ ω) (hk : kIn σ) (hrk : rkOK σ) (hn : nOK σ) (hd : dIn σ) (hh : hIn σ) (i9 : Nat) (hi : i9 < σ.nh) : CT l g yX11_tilted cX11_tilted 2 (some .int) 5 113 0 0 [.ref (ad .main), .int (nI i9)] ω (dv (some (.int (iAbs (smF σ (σ.hs i9) true - smF σ (σ.hs i9) false)))) ω) (nox) := by
  refine CT.of (own := "BoringheadModel") rfl rfl (le_b rfl) rfl ?_
  intro p e s m args below meth c sz0 hC hr htab hin
  refine s_aload_n hC dX11_tilted_0 rfl rfl 0 rfl ?_
  refine s_iload_n hC dX11_tilted_1 rfl rfl 1 rfl ?_
  refine s_iconst hC (v := 1) dX11_tilted_2 rfl (by decide) ?_
  refine s_callV hC (ct_X11_settled l g _ _ _ _ hR hk hrk hn hd hh _ hi true) ce_X11_settled cs_X11 (RepM.f_main hR) tw_1745 rfl rfl ⟨⟨le_b rfl, le_b rfl⟩, le_b rfl, le_b rfl⟩ (le_b rfl) dX11_tilted_3 rfl (dvk1 ?_) nokx
  refine s_aload_n hC dX11_tilted_6 rfl rfl 0 rfl ?_
  refine s_iload_n hC dX11_tilted_7 rfl rfl 1 rfl ?_
  refine s_iconst hC (v := 0) dX11_tilted_8 rfl (by decide) ?_
  refine s_callV hC (ct_X11_settled l g _ _ _ _ hR hk hrk hn hd hh _ hi false) ce_X11_settled cs_X11 (RepM.f_main hR) tw_1745 rfl rfl ⟨⟨le_b rfl, le_b rfl⟩, le_b rfl, le_b rfl⟩ (le_b rfl) dX11_tilted_9 rfl (dvk1 ?_) nokx
  refine s_isub hC dX11_tilted_12 rfl ?_
  refine s_abs hC tw_1545 ⟨le_b rfl, le_b rfl, le_b rfl, le_b rfl⟩ dX11_tilted_13 rfl ?_
  refine s_iret hC hr dX11_tilted_16 (le_b rfl) (le_b rfl) ?_
  exact ⟨rfl, rfl⟩
set_option maxHeartbeats 1000000 in
set_option maxRecDepth 100000 in
theorem ct_X11_settles (l : Launch) (g : Gl) (ω : Wd) (ad : Iy → Nat) (y : Ey) (σ : St) (hR : RepM g ad y σ ω) (r9 : Int32) (b9 : Bool) (hgr : grOK σ y) (hk : kIn σ) (hrk : rkOK σ) (hn : nOK σ) (hd : dIn σ) (hh : hIn σ) : CT l g yX11_settles cX11_settles 3 (some .int) 5 113 0 0 [.ref (ad .main), .int r9, .int (bI b9)] ω (okM g ad (cd_settles σ r9 b9) Value.int (vl_settles σ r9 b9) σ σ) (nox) := by
  refine CT.of (own := "BoringheadModel") rfl rfl (le_b rfl) rfl ?_
  intro p e s m args below meth c sz0 hC hr htab hin
  refine s_aload_n hC dX11_settles_0 rfl rfl 0 rfl ?_
  refine s_callV hC (ct_X11_begins l g _ _ _ _ hR) ce_X11_begins cs_X11 (RepM.f_main hR) tw_1324 rfl rfl ⟨⟨le_b rfl, le_b rfl⟩, le_b rfl, le_b rfl⟩ (le_b rfl) dX11_settles_1 rfl (dvk0 ?_) nokx
  refine WP.rm (RepM.s_main_0 hR 0) (fun hR_1 => ?_)
  refine s_aload_n hC dX11_settles_4 rfl rfl 0 rfl ?_
  refine s_iload_n hC dX11_settles_5 rfl rfl 1 rfl ?_
  refine s_callV hC (ct_X11_noHouse l g _ _ _ _ hR_1 rfl _) ce_X11_noHouse cs_X11 (RepM.f_main hR_1) tw_1741 rfl rfl ⟨⟨le_b rfl, le_b rfl⟩, le_b rfl, le_b rfl⟩ (le_b rfl) dX11_settles_6 rfl (fun r w h9 => ?_) nokx
  rcases h9 with ⟨c9, rfl, rfl⟩ | ⟨c9, rfl, rfl⟩
  · obtain ⟨j, rfl, hj⟩ := inL_of (Nat.lt_of_le_of_lt (RepM.b_house hR) (by decide)) c9
    have hcl : (nI j).toNatClampNeg = j := nI_clamp (by have := RepM.b_house hR; omega)
    refine z_if_eq hC (tgt := 16) dX11_settles_9 rfl (by decide) (fun c_1 => ?_) (fun c_1 => ((absurd c_1 (by decide) : False)).elim)
    refine s_aload_n hC dX11_settles_16 rfl rfl 0 rfl ?_
    refine s_iload_n hC dX11_settles_17 rfl rfl 1 rfl ?_
    refine s_iload_n hC dX11_settles_18 rfl rfl 2 rfl ?_
    refine s_callV hC (ct_X11_settled l g _ _ _ _ hR_1 hk hrk hn hd hh _ hj _) ce_X11_settled cs_X11 (RepM.f_main hR_1) tw_1745 rfl rfl ⟨⟨le_b rfl, le_b rfl⟩, le_b rfl, le_b rfl⟩ (le_b rfl) dX11_settles_19 rfl (dvk1 ?_) nokx
    refine s_iret hC hr dX11_settles_22 (le_b rfl) (le_b rfl) ?_
    first
      | exact okM_ok (by simp [cd_settles, c9, hcl, c_1]) rfl (by first | (simp [vl_settles, c9, hcl, c_1]; done) | rfl) hR_1 rfl rfl rfl hgr
      | exact okM_no 1 (by simp [cd_settles, c9, hcl, c_1]) (by decide) (by rfl) hR_1 rfl rfl hgr
  · refine WP.rm (RepM.s_main_0 hR_1 _) (fun hR_9 => ?_)
    refine z_if_eq hC (tgt := 16) dX11_settles_9 rfl (by decide) (fun c_2 => ((absurd c_2 (by decide) : False)).elim) (fun c_2 => ?_)
    refine s_iconst hC (v := (-1)) dX11_settles_12 rfl (by decide) ?_
    refine s_goto hC (tgt := 22) dX11_settles_13 (by decide) ?_
    refine s_iret hC hr dX11_settles_22 (le_b rfl) (le_b rfl) ?_
    first
      | exact okM_ok (by simp [cd_settles, c9, c_2]) rfl (by first | (simp [vl_settles, c9, c_2]; done) | rfl) hR_9 rfl rfl rfl hgr
      | exact okM_no 1 (by simp [cd_settles, c9, c_2]) (by decide) (by rfl) hR_9 rfl rfl hgr
