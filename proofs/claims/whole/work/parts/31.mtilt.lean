theorem iAbs_ng (x : Int32) : iAbs (-x) = iAbs x := by
  by_cases hx : x = 0
  · subst hx; decide
  · have h1 : (-x).toInt = Int.bmod (-x.toInt) (2 ^ 32) := Int32.toInt_neg x
    have h2 := Int32.le_toInt x
    have h3 := Int32.toInt_lt x
    have h0 : x.toInt ≠ 0 := fun z => hx (Int32.toInt_inj.mp (by rw [z]; rfl))
    unfold iAbs
    by_cases hm : x.toInt = -2147483648
    · have hx2 : x = -2147483648 := Int32.toInt_inj.mp (by rw [hm]; rfl)
      subst hx2
      decide
    · have h4 : (-x).toInt = -x.toInt := by rw [h1]; exact Int.bmod_eq_of_le (by omega) (by omega)
      have hz : (0 : Int32).toInt = 0 := rfl
      by_cases hn : 0 ≤ x
      · have hn2 : ¬ 0 ≤ -x := by
          rw [Int32.le_iff_toInt_le] at hn ⊢
          omega
        simp [hn, hn2]
      · have hn2 : 0 ≤ -x := by
          rw [Int32.le_iff_toInt_le] at hn ⊢
          omega
        simp [hn, hn2]
theorem iAbs_sw (a b : Int32) : iAbs (a - b) = iAbs (b - a) := by
  rw [← iAbs_ng, Int32.neg_sub]
set_option maxHeartbeats 1000000 in
set_option maxRecDepth 100000 in
theorem ct_X11_tilt (l : Launch) (g : Gl) (ω : Wd) (ad : Iy → Nat) (y : Ey) (σ : St) (hR : RepM g ad y σ ω) (r9 : Int32) (hgr : grOK σ y) (hk : kIn σ) (hrk : rkOK σ) (hn : nOK σ) (hd : dIn σ) (hh : hIn σ) : CT l g yX11_tilt cX11_tilt 2 (some .int) 6 134 0 0 [.ref (ad .main), .int r9] ω (okM g ad (cd_tilt σ r9) Value.int (vl_tilt σ r9) σ σ) (nox) := by
  refine CT.of (own := "BoringheadModel") rfl rfl (le_b rfl) rfl ?_
  intro p e s m args below meth c sz0 hC hr htab hin
  refine s_aload_n hC dX11_tilt_0 rfl rfl 0 rfl ?_
  refine s_callV hC (ct_X11_begins l g _ _ _ _ hR) ce_X11_begins cs_X11 (RepM.f_main hR) tw_1324 rfl rfl ⟨⟨le_b rfl, le_b rfl⟩, le_b rfl, le_b rfl⟩ (le_b rfl) dX11_tilt_1 rfl (dvk0 ?_) nokx
  refine WP.rm (RepM.s_main_0 hR 0) (fun hR_1 => ?_)
  refine s_aload_n hC dX11_tilt_4 rfl rfl 0 rfl ?_
  refine s_iload_n hC dX11_tilt_5 rfl rfl 1 rfl ?_
  refine s_callV hC (ct_X11_noHouse l g _ _ _ _ hR_1 rfl _) ce_X11_noHouse cs_X11 (RepM.f_main hR_1) tw_1741 rfl rfl ⟨⟨le_b rfl, le_b rfl⟩, le_b rfl, le_b rfl⟩ (le_b rfl) dX11_tilt_6 rfl (fun r w h9 => ?_) nokx
  rcases h9 with ⟨c9, rfl, rfl⟩ | ⟨c9, rfl, rfl⟩
  · obtain ⟨j, rfl, hj⟩ := inL_of (Nat.lt_of_le_of_lt (RepM.b_house hR) (by decide)) c9
    have hcl : (nI j).toNatClampNeg = j := nI_clamp (by have := RepM.b_house hR; omega)
    refine z_if_eq hC (tgt := 16) dX11_tilt_9 rfl (by decide) (fun c_1 => ?_) (fun c_1 => ((absurd c_1 (by decide) : False)).elim)
    refine s_aload_n hC dX11_tilt_16 rfl rfl 0 rfl ?_
    refine s_iload_n hC dX11_tilt_17 rfl rfl 1 rfl ?_
    refine s_callV hC (ct_X11_tilted l g _ _ _ _ hR_1 hk hrk hn hd hh _ hj) ce_X11_tilted cs_X11 (RepM.f_main hR_1) tw_1753 rfl rfl ⟨⟨le_b rfl, le_b rfl⟩, le_b rfl, le_b rfl⟩ (le_b rfl) dX11_tilt_18 rfl (dvk1 ?_) nokx
    refine s_iret hC hr dX11_tilt_21 (le_b rfl) (le_b rfl) ?_
    first
      | exact okM_ok (by simp [cd_tilt, c9, hcl, c_1]) rfl (by simp only [vl_tilt, hcl]; exact iAbs_sw _ _) hR_1 rfl rfl rfl hgr
      | exact okM_no 1 (by simp [cd_tilt, c9, hcl, c_1]) (by decide) (by rfl) hR_1 rfl rfl hgr
  · refine WP.rm (RepM.s_main_0 hR_1 _) (fun hR_9 => ?_)
    refine z_if_eq hC (tgt := 16) dX11_tilt_9 rfl (by decide) (fun c_2 => ((absurd c_2 (by decide) : False)).elim) (fun c_2 => ?_)
    refine s_iconst hC (v := (-1)) dX11_tilt_12 rfl (by decide) ?_
    refine s_goto hC (tgt := 21) dX11_tilt_13 (by decide) ?_
    refine s_iret hC hr dX11_tilt_21 (le_b rfl) (le_b rfl) ?_
    first
      | exact okM_ok (by simp [cd_tilt, c9, c_2]) rfl (by simp only [vl_tilt, hcl]; exact iAbs_sw _ _) hR_9 rfl rfl rfl hgr
      | exact okM_no 1 (by simp [cd_tilt, c9, c_2]) (by decide) (by rfl) hR_9 rfl rfl hgr
set_option maxHeartbeats 1000000 in
set_option maxRecDepth 100000 in
theorem ct_X11_damage (l : Launch) (g : Gl) (ω : Wd) (ad : Iy → Nat) (y : Ey) (σ : St) (hR : RepM g ad y σ ω) (r9 : Int32) (hgr : grOK σ y) (hk : kIn σ) (hrk : rkOK σ) (hn : nOK σ) (hd : dIn σ) (hh : hIn σ) : CT l g yX11_damage cX11_damage 3 (some .int) 6 134 0 0 [.ref (ad .main), .int r9] ω (okM g ad (cd_damage σ r9) Value.int (vl_damage σ r9) σ σ) (nox) := by
  refine CT.of (own := "BoringheadModel") rfl rfl (le_b rfl) rfl ?_
  intro p e s m args below meth c sz0 hC hr htab hin
  refine s_aload_n hC dX11_damage_0 rfl rfl 0 rfl ?_
  refine s_callV hC (ct_X11_begins l g _ _ _ _ hR) ce_X11_begins cs_X11 (RepM.f_main hR) tw_1324 rfl rfl ⟨⟨le_b rfl, le_b rfl⟩, le_b rfl, le_b rfl⟩ (le_b rfl) dX11_damage_1 rfl (dvk0 ?_) nokx
  refine WP.rm (RepM.s_main_0 hR 0) (fun hR_1 => ?_)
  refine s_aload_n hC dX11_damage_4 rfl rfl 0 rfl ?_
  refine s_iload_n hC dX11_damage_5 rfl rfl 1 rfl ?_
  refine s_callV hC (ct_X11_noHouse l g _ _ _ _ hR_1 rfl _) ce_X11_noHouse cs_X11 (RepM.f_main hR_1) tw_1741 rfl rfl ⟨⟨le_b rfl, le_b rfl⟩, le_b rfl, le_b rfl⟩ (le_b rfl) dX11_damage_6 rfl (fun r w h9 => ?_) nokx
  rcases h9 with ⟨c9, rfl, rfl⟩ | ⟨c9, rfl, rfl⟩
  · obtain ⟨j, rfl, hj⟩ := inL_of (Nat.lt_of_le_of_lt (RepM.b_house hR) (by decide)) c9
    have hcl : (nI j).toNatClampNeg = j := nI_clamp (by have := RepM.b_house hR; omega)
    refine z_if_eq hC (tgt := 14) dX11_damage_9 rfl (by decide) (fun c_1 => ?_) (fun c_1 => ((absurd c_1 (by decide) : False)).elim)
    refine s_aload_n hC dX11_damage_14 rfl rfl 0 rfl ?_
    refine s_iload_n hC dX11_damage_15 rfl rfl 1 rfl ?_
    refine s_callV hC (ct_X11_tilted l g _ _ _ _ hR_1 hk hrk hn hd hh _ hj) ce_X11_tilted cs_X11 (RepM.f_main hR_1) tw_1753 rfl rfl ⟨⟨le_b rfl, le_b rfl⟩, le_b rfl, le_b rfl⟩ (le_b rfl) dX11_damage_16 rfl (dvk1 ?_) nokx
    refine s_istore_n hC (L' := [(2, _), (0, _), (1, _)]) dX11_damage_19 rfl rfl (le_b rfl) rfl ?_
    refine s_iload_n hC dX11_damage_20 rfl rfl 0 rfl ?_
    refine s_bipush hC (v := 10) dX11_damage_21 rfl (by decide) ?_
    refine z_icmp_ge hC (tgt := 30) dX11_damage_23 rfl (by decide) (fun c_2 => ?_) (fun c_2 => ?_)
    · refine s_iload_n hC dX11_damage_30 rfl rfl 0 rfl ?_
      refine s_bipush hC (v := 30) dX11_damage_31 rfl (by decide) ?_
      refine z_icmp_ge hC (tgt := 40) dX11_damage_33 rfl (by decide) (fun c_3 => ?_) (fun c_3 => ?_)
      · refine s_iload_n hC dX11_damage_40 rfl rfl 0 rfl ?_
        refine s_bipush hC (v := 60) dX11_damage_41 rfl (by decide) ?_
        refine z_icmp_ge hC (tgt := 50) dX11_damage_43 rfl (by decide) (fun c_4 => ?_) (fun c_4 => ?_)
        · refine s_iload_n hC dX11_damage_50 rfl rfl 0 rfl ?_
          refine s_bipush hC (v := 100) dX11_damage_51 rfl (by decide) ?_
          refine z_icmp_ge hC (tgt := 60) dX11_damage_53 rfl (by decide) (fun c_5 => ?_) (fun c_5 => ?_)
          · refine s_iconst hC (v := 4) dX11_damage_60 rfl (by decide) ?_
            refine s_iret hC hr dX11_damage_61 (le_b rfl) (le_b rfl) ?_
            exact okM_ok (by simp [cd_damage, c9, hcl, c_1, c_2, c_3, c_4, c_5]) rfl (by simp only [vl_damage, hcl, iAbs_sw (smF σ (σ.hs j) false)]; simp [c9, hcl, c_1, c_2, c_3, c_4, c_5]) hR_1 rfl rfl rfl hgr
          · refine s_iconst hC (v := 3) dX11_damage_56 rfl (by decide) ?_
            refine s_goto hC (tgt := 61) dX11_damage_57 (by decide) ?_
            refine s_iret hC hr dX11_damage_61 (le_b rfl) (le_b rfl) ?_
            exact okM_ok (by simp [cd_damage, c9, hcl, c_1, c_2, c_3, c_4, c_5]) rfl (by simp only [vl_damage, hcl, iAbs_sw (smF σ (σ.hs j) false)]; simp [c9, hcl, c_1, c_2, c_3, c_4, c_5]) hR_1 rfl rfl rfl hgr
        · refine s_iconst hC (v := 2) dX11_damage_46 rfl (by decide) ?_
          refine s_goto hC (tgt := 61) dX11_damage_47 (by decide) ?_
          refine s_iret hC hr dX11_damage_61 (le_b rfl) (le_b rfl) ?_
          exact okM_ok (by simp [cd_damage, c9, hcl, c_1, c_2, c_3, c_4]) rfl (by simp only [vl_damage, hcl, iAbs_sw (smF σ (σ.hs j) false)]; simp [c9, hcl, c_1, c_2, c_3, c_4]) hR_1 rfl rfl rfl hgr
      · refine s_iconst hC (v := 1) dX11_damage_36 rfl (by decide) ?_
        refine s_goto hC (tgt := 61) dX11_damage_37 (by decide) ?_
        refine s_iret hC hr dX11_damage_61 (le_b rfl) (le_b rfl) ?_
        exact okM_ok (by simp [cd_damage, c9, hcl, c_1, c_2, c_3]) rfl (by simp only [vl_damage, hcl, iAbs_sw (smF σ (σ.hs j) false)]; simp [c9, hcl, c_1, c_2, c_3]) hR_1 rfl rfl rfl hgr
    · refine s_iconst hC (v := 0) dX11_damage_26 rfl (by decide) ?_
      refine s_goto hC (tgt := 61) dX11_damage_27 (by decide) ?_
      refine s_iret hC hr dX11_damage_61 (le_b rfl) (le_b rfl) ?_
      exact okM_ok (by simp [cd_damage, c9, hcl, c_1, c_2]) rfl (by simp only [vl_damage, hcl, iAbs_sw (smF σ (σ.hs j) false)]; simp [c9, hcl, c_1, c_2]) hR_1 rfl rfl rfl hgr
  · refine WP.rm (RepM.s_main_0 hR_1 _) (fun hR_9 => ?_)
    refine z_if_eq hC (tgt := 14) dX11_damage_9 rfl (by decide) (fun c_6 => ((absurd c_6 (by decide) : False)).elim) (fun c_6 => ?_)
    refine s_iconst hC (v := (-1)) dX11_damage_12 rfl (by decide) ?_
    refine s_iret hC hr dX11_damage_13 (le_b rfl) (le_b rfl) ?_
    exact okM_no 1 (by simp [cd_damage, c9, c_6]) (by decide) (by rfl) hR_9 rfl rfl hgr
