theorem hs7 (f t e : Int32) : upd (upd (upd (upd (upd (upd (upd (fun _ => 0) 0 f) 1 t) 2 e) 3 0) 4 0) 5 0) 6 0 = hsA (f, t, e, 0, 0, false, 0) := by
  funext k
  unfold upd
  rcases k with _ | _ | _ | _ | _ | _ | _ | k <;> rfl
def hOK (σ : St) : Prop := σ.nh ≤ 8
theorem nh8 {n : Nat} (h : n ≤ 8) : ((8 : Int32) ≤ nI n) = (nI n = 8) := by
  apply propext
  constructor
  · intro h1
    have h2 : 8 ≤ n := (nI_leI (by decide : 8 < 2 ^ 31) (by omega)).mp h1
    obtain rfl : n = 8 := by omega
    rfl
  · intro h1
    rw [h1]
    decide
set_option maxHeartbeats 1000000 in
set_option maxRecDepth 100000 in
theorem ct_X11_house (l : Launch) (g : Gl) (ω : Wd) (ad : Iy → Nat) (y : Ey) (σ : St) (hR : RepM g ad y σ ω) (f9 : Int32) (t9 : Int32) (o9 : Int32) (hgr : grOK σ y) (hn8 : hOK σ) : CT l g yX11_house cX11_house 4 (some .int) 7 152 2 170 [.ref (ad .main), .int f9, .int t9, .int o9] ω (okM g ad (cd_house σ f9 t9 o9) Value.int (vl_house σ f9 t9 o9) (nx_house σ f9 t9 o9) σ) (nox) := by
  refine CT.of (own := "BoringheadModel") rfl rfl (le_b rfl) rfl ?_
  intro p e s m args below meth c sz0 hC hr htab hin
  refine s_aload_n hC dX11_house_0 rfl rfl 0 rfl ?_
  refine s_callV hC (ct_X11_begins l g _ _ _ _ hR) ce_X11_begins cs_X11 (RepM.f_main hR) tw_1324 rfl rfl ⟨⟨le_b rfl, le_b rfl⟩, le_b rfl, le_b rfl⟩ (le_b rfl) dX11_house_1 rfl (dvk0 ?_) nokx
  refine WP.rm (RepM.s_main_0 hR 0) (fun hR_1 => ?_)
  refine s_aload_n hC dX11_house_4 rfl rfl 0 rfl ?_
  refine s_iload_n hC dX11_house_5 rfl rfl 1 rfl ?_
  refine s_callS hC (ct_X11_isPlace l g _ _) ce_X11_isPlace tw_1415 rfl rfl ⟨⟨le_b rfl, le_b rfl⟩, le_b rfl, le_b rfl⟩ (le_b rfl) dX11_house_6 rfl (dvk1 ?_) nokx
  rw [isP_inR]
  refine z_if_eqB hC (tgt := 36) dX11_house_9 rfl (by decide) (fun c_1 => ?_) (fun c_1 => ?_)
  · refine s_iconst hC (v := 1) dX11_house_36 rfl (by decide) ?_
    refine s_goto hC (tgt := 41) dX11_house_37 (by decide) ?_
    refine s_iconst hC (v := 1) dX11_house_41 rfl (by decide) ?_
    refine s_callV hC (ct_X11_fails_t l g _ _ _ _ hR_1 (by first | rfl | exact hth) _ (by decide)) ce_X11_fails cs_X11 (RepM.f_main hR_1) tw_1422 rfl rfl ⟨⟨le_b rfl, le_b rfl⟩, le_b rfl, le_b rfl⟩ (le_b rfl) dX11_house_42 rfl (dvk1 ?_) nokx
    refine WP.rm (RepM.s_main_0 hR_1 _) (fun hR_42 => ?_)
    refine z_if_ne hC (tgt := 75) dX11_house_45 rfl (by decide) (fun c_2 => ?_) (fun c_2 => ((absurd c_2 (by decide) : False)).elim)
    refine s_iconst hC (v := (-1)) dX11_house_75 rfl (by decide) ?_
    refine s_iret hC hr dX11_house_76 (le_b rfl) (le_b rfl) ?_
    exact okM_no 1 (by simp [cd_house, isStr, nh8 hn8, c_1, c_2]) (by decide) (by rfl) hR_42 rfl rfl hgr
  · refine s_iload_n hC dX11_house_12 rfl rfl 2 rfl ?_
    refine s_callS hC (ct_X11_isPlace l g _ _) ce_X11_isPlace tw_1415 rfl rfl ⟨⟨le_b rfl, le_b rfl⟩, le_b rfl, le_b rfl⟩ (le_b rfl) dX11_house_13 rfl (dvk1 ?_) nokx
    rw [isP_inR]
    refine z_if_eqB hC (tgt := 36) dX11_house_16 rfl (by decide) (fun c_3 => ?_) (fun c_3 => ?_)
    · refine s_iconst hC (v := 1) dX11_house_36 rfl (by decide) ?_
      refine s_goto hC (tgt := 41) dX11_house_37 (by decide) ?_
      refine s_iconst hC (v := 1) dX11_house_41 rfl (by decide) ?_
      refine s_callV hC (ct_X11_fails_t l g _ _ _ _ hR_1 (by first | rfl | exact hth) _ (by decide)) ce_X11_fails cs_X11 (RepM.f_main hR_1) tw_1422 rfl rfl ⟨⟨le_b rfl, le_b rfl⟩, le_b rfl, le_b rfl⟩ (le_b rfl) dX11_house_42 rfl (dvk1 ?_) nokx
      refine WP.rm (RepM.s_main_0 hR_1 _) (fun hR_42 => ?_)
      refine z_if_ne hC (tgt := 75) dX11_house_45 rfl (by decide) (fun c_4 => ?_) (fun c_4 => ((absurd c_4 (by decide) : False)).elim)
      refine s_iconst hC (v := (-1)) dX11_house_75 rfl (by decide) ?_
      refine s_iret hC hr dX11_house_76 (le_b rfl) (le_b rfl) ?_
      exact okM_no 1 (by simp [cd_house, isStr, nh8 hn8, c_1, c_3, c_4]) (by decide) (by rfl) hR_42 rfl rfl hgr
    · refine s_iload_n hC dX11_house_19 rfl rfl 2 rfl ?_
      refine s_iload_n hC dX11_house_20 rfl rfl 1 rfl ?_
      refine z_icmp_lt hC (tgt := 36) dX11_house_21 rfl (by decide) (fun c_5 => ?_) (fun c_5 => ?_)
      · refine s_iconst hC (v := 1) dX11_house_36 rfl (by decide) ?_
        refine s_goto hC (tgt := 41) dX11_house_37 (by decide) ?_
        refine s_iconst hC (v := 1) dX11_house_41 rfl (by decide) ?_
        refine s_callV hC (ct_X11_fails_t l g _ _ _ _ hR_1 (by first | rfl | exact hth) _ (by decide)) ce_X11_fails cs_X11 (RepM.f_main hR_1) tw_1422 rfl rfl ⟨⟨le_b rfl, le_b rfl⟩, le_b rfl, le_b rfl⟩ (le_b rfl) dX11_house_42 rfl (dvk1 ?_) nokx
        refine WP.rm (RepM.s_main_0 hR_1 _) (fun hR_42 => ?_)
        refine z_if_ne hC (tgt := 75) dX11_house_45 rfl (by decide) (fun c_6 => ?_) (fun c_6 => ((absurd c_6 (by decide) : False)).elim)
        refine s_iconst hC (v := (-1)) dX11_house_75 rfl (by decide) ?_
        refine s_iret hC hr dX11_house_76 (le_b rfl) (le_b rfl) ?_
        exact okM_no 1 (by simp [cd_house, isStr, nh8 hn8, c_1, c_3, c_5, c_6]) (by decide) (by rfl) hR_42 rfl rfl hgr
      · refine s_iload_n hC dX11_house_24 rfl rfl 3 rfl ?_
        refine s_i2l hC dX11_house_25 rfl rfl ?_
        refine s_lconst hC (v := 0) dX11_house_26 rfl (by decide) ?_
        refine s_ldc2 hC tw_1736 dX11_house_27 rfl ?_
        refine s_callS hC (ct_X11_in l g _ _ _ _) ce_X11_in tw_1419 rfl rfl ⟨⟨le_b rfl, le_b rfl⟩, le_b rfl, le_b rfl⟩ (le_b rfl) dX11_house_30 rfl (dvk1 ?_) nokx
        rw [inJ_inR o9 0 60 (by first | rfl | decide) (by first | rfl | decide)]
        refine z_if_neB hC (tgt := 40) dX11_house_33 rfl (by decide) (fun c_7 => ?_) (fun c_7 => ?_)
        · refine s_iconst hC (v := 0) dX11_house_40 rfl (by decide) ?_
          refine s_iconst hC (v := 1) dX11_house_41 rfl (by decide) ?_
          refine s_callV hC (ct_X11_fails_f l g _ _ _ _ hR_1 (by first | rfl | exact hth) _) ce_X11_fails cs_X11 (RepM.f_main hR_1) tw_1422 rfl rfl ⟨⟨le_b rfl, le_b rfl⟩, le_b rfl, le_b rfl⟩ (le_b rfl) dX11_house_42 rfl (dvk1 ?_) nokx
          refine z_if_ne hC (tgt := 75) dX11_house_45 rfl (by decide) (fun c_8 => ((absurd c_8 (by decide) : False)).elim) (fun c_8 => ?_)
          refine s_aload_n hC dX11_house_48 rfl rfl 0 rfl ?_
          refine s_aload_n hC dX11_house_49 rfl rfl 0 rfl ?_
          refine s_getf hC cs_X11 10 tw_1259 (le_b rfl) (RepM.f_main hR_1) rfl dX11_house_50 rfl ?_
          refine s_callF hC (nA := 0) 0 (ct_Jx4a65c_size_8abf5 l g _ _ _ _ _ (RepM.f_houses hR_1)) rfl tw_276 tw_5 tw_274 tw_1431 (by decide +kernel) cs_Jx4a65c (RepM.f_houses hR_1) tw_1427 rfl rfl ⟨⟨le_b rfl, le_b rfl⟩, le_b rfl, le_b rfl⟩ (le_b rfl) dX11_house_53 rfl (dvk1 ?_) nokx
          refine s_bipush hC (v := 8) dX11_house_58 rfl (by decide) ?_
          refine z_icmp_ne hC (tgt := 67) dX11_house_60 rfl (by decide) (fun c_9 => ?_) (fun c_9 => ?_)
          · refine s_iconst hC (v := 0) dX11_house_67 rfl (by decide) ?_
            refine s_iconst hC (v := 2) dX11_house_68 rfl (by decide) ?_
            refine s_callV hC (ct_X11_fails_f l g _ _ _ _ hR_1 (by first | rfl | exact hth) _) ce_X11_fails cs_X11 (RepM.f_main hR_1) tw_1422 rfl rfl ⟨⟨le_b rfl, le_b rfl⟩, le_b rfl, le_b rfl⟩ (le_b rfl) dX11_house_69 rfl (dvk1 ?_) nokx
            refine z_if_eq hC (tgt := 77) dX11_house_72 rfl (by decide) (fun c_10 => ?_) (fun c_10 => ((absurd c_10 (by decide) : False)).elim)
            refine s_aload_n hC dX11_house_77 rfl rfl 0 rfl ?_
            refine s_getf hC cs_X11 10 tw_1259 (le_b rfl) (RepM.f_main hR_1) rfl dX11_house_78 rfl ?_
            refine s_bipush hC (v := 7) dX11_house_81 rfl (by decide) ?_
            refine s_newa hC 0 (at0 := .int) (ty := .int) (N' := 7) (a0 := (7, .inl (fun _ => 0))) rfl rfl tw_83 (fun _ => rfl) (by decide) (by decide) (by decide) (le_b rfl) (le_b rfl) dX11_house_83 rfl (fun q_83 hq_83 => ?_)
            have hn_q_83 := RepM.ne hR_1 hq_83
            refine WP.rm (RepM.new hR_1 hq_83 _) (fun hR_q_83 => ?_)
            refine s_dup hC dX11_house_85 rfl rfl ?_
            refine s_iconst hC (v := 0) dX11_house_86 rfl (by decide) ?_
            refine s_iload_n hC dX11_house_87 rfl rfl 1 rfl ?_
            refine s_iast hC (wup_s _ _ _) (vp_in_nI (by decide : 0 < 7) (by decide)) dX11_house_88 rfl ?_
            refine WP.rm (RepM.by hR_q_83 hn_q_83 _) (fun hR_88 => ?_)
            refine s_dup hC dX11_house_89 rfl rfl ?_
            refine s_iconst hC (v := 1) dX11_house_90 rfl (by decide) ?_
            refine s_iload_n hC dX11_house_91 rfl rfl 2 rfl ?_
            refine s_iast hC (wup_s _ _ _) (vp_in_nI (by decide : 1 < 7) (by decide)) dX11_house_92 rfl ?_
            refine WP.rm (RepM.by hR_88 hn_q_83 _) (fun hR_92 => ?_)
            refine s_dup hC dX11_house_93 rfl rfl ?_
            refine s_iconst hC (v := 2) dX11_house_94 rfl (by decide) ?_
            refine s_iload_n hC dX11_house_95 rfl rfl 3 rfl ?_
            refine s_iast hC (wup_s _ _ _) (vp_in_nI (by decide : 2 < 7) (by decide)) dX11_house_96 rfl ?_
            refine WP.rm (RepM.by hR_92 hn_q_83 _) (fun hR_96 => ?_)
            refine s_dup hC dX11_house_97 rfl rfl ?_
            refine s_iconst hC (v := 3) dX11_house_98 rfl (by decide) ?_
            refine s_iconst hC (v := 0) dX11_house_99 rfl (by decide) ?_
            refine s_iast hC (wup_s _ _ _) (vp_in_nI (by decide : 3 < 7) (by decide)) dX11_house_100 rfl ?_
            refine WP.rm (RepM.by hR_96 hn_q_83 _) (fun hR_100 => ?_)
            refine s_dup hC dX11_house_101 rfl rfl ?_
            refine s_iconst hC (v := 4) dX11_house_102 rfl (by decide) ?_
            refine s_iconst hC (v := 0) dX11_house_103 rfl (by decide) ?_
            refine s_iast hC (wup_s _ _ _) (vp_in_nI (by decide : 4 < 7) (by decide)) dX11_house_104 rfl ?_
            refine WP.rm (RepM.by hR_100 hn_q_83 _) (fun hR_104 => ?_)
            refine s_dup hC dX11_house_105 rfl rfl ?_
            refine s_iconst hC (v := 5) dX11_house_106 rfl (by decide) ?_
            refine s_iconst hC (v := 0) dX11_house_107 rfl (by decide) ?_
            refine s_iast hC (wup_s _ _ _) (vp_in_nI (by decide : 5 < 7) (by decide)) dX11_house_108 rfl ?_
            refine WP.rm (RepM.by hR_104 hn_q_83 _) (fun hR_108 => ?_)
            refine s_dup hC dX11_house_109 rfl rfl ?_
            refine s_bipush hC (v := 6) dX11_house_110 rfl (by decide) ?_
            refine s_iconst hC (v := 0) dX11_house_112 rfl (by decide) ?_
            refine s_iast hC (wup_s _ _ _) (vp_in_nI (by decide : 6 < 7) (by decide)) dX11_house_113 rfl ?_
            refine WP.rm (RepM.by hR_108 hn_q_83 _) (fun hR_113 => ?_)
            refine s_callF hC (nA := 1) 1 (ct_Jx4a65c_add_9ea2d l g _ _ _ _ _ (RepM.f_houses hR_113) _ _ _ (hR_113).lH.1 (hR_113).lH.2.1 (Nat.lt_of_le_of_lt hn8 (by decide)) (RepM.e_house hR_113) (Or.inr ⟨_, (wup_s _ _ _)⟩) (RepM.l_house hR_113) (hR_113).hg) rfl tw_622 tw_5 tw_620 tw_1464 (by decide +kernel) cs_Jx4a65c (RepM.f_houses hR_113) tw_1461 rfl rfl ⟨⟨le_b rfl, le_b rfl⟩, le_b rfl, le_b rfl⟩ (le_b rfl) dX11_house_114 rfl (fun r w h9 => ?_) nokx
            obtain ⟨rfl, ed2, cap2, f2, a1, a2, a3, a4, a5, a6, a7, a8⟩ := h9
            have hA := RepM.a_house hR_113 (r := (f9, t9, o9, 0, 0, false, 0)) (Eq.trans (wup_s _ _ _) (congrArg (fun f => some (Sum.inl (g.2.1 0, 7, Sum.inl f) : va_E)) (hs7 f9 t9 o9))) hn_q_83 a1 a2 a3 a4 a5 a6 a7 a8
            refine s_pop hC dX11_house_119 rfl rfl ?_
            refine s_aload_n hC dX11_house_120 rfl rfl 0 rfl ?_
            refine s_getf hC cs_X11 10 tw_1259 (le_b rfl) (RepM.f_main (ad := am_house ad σ.nh ed2 q_83) hA) rfl dX11_house_121 rfl ?_
            refine s_callF hC (nA := 0) 0 (ct_Jx4a65c_size_8abf5 l g _ _ _ _ _ (RepM.f_houses hA)) rfl tw_276 tw_5 tw_274 tw_1431 (by decide +kernel) cs_Jx4a65c (RepM.f_houses hA) tw_1427 rfl rfl ⟨⟨le_b rfl, le_b rfl⟩, le_b rfl, le_b rfl⟩ (le_b rfl) dX11_house_124 rfl (dvk1 ?_) nokx
            refine s_iconst hC (v := 1) dX11_house_129 rfl (by decide) ?_
            refine s_isub hC dX11_house_130 rfl ?_
            refine s_iret hC hr dX11_house_131 (le_b rfl) (le_b rfl) ?_
            exact okM_ok (by simp [cd_house, isStr, nh8 hn8, c_1, c_3, c_5, c_7, c_8, c_9, c_10]) rfl (nI_pred _) hA rfl rfl rfl hgr
          · refine s_iconst hC (v := 1) dX11_house_63 rfl (by decide) ?_
            refine s_goto hC (tgt := 68) dX11_house_64 (by decide) ?_
            refine s_iconst hC (v := 2) dX11_house_68 rfl (by decide) ?_
            refine s_callV hC (ct_X11_fails_t l g _ _ _ _ hR_1 (by first | rfl | exact hth) _ (by decide)) ce_X11_fails cs_X11 (RepM.f_main hR_1) tw_1422 rfl rfl ⟨⟨le_b rfl, le_b rfl⟩, le_b rfl, le_b rfl⟩ (le_b rfl) dX11_house_69 rfl (dvk1 ?_) nokx
            refine WP.rm (RepM.s_main_0 hR_1 _) (fun hR_69 => ?_)
            refine z_if_eq hC (tgt := 77) dX11_house_72 rfl (by decide) (fun c_11 => ((absurd c_11 (by decide) : False)).elim) (fun c_11 => ?_)
            refine s_iconst hC (v := (-1)) dX11_house_75 rfl (by decide) ?_
            refine s_iret hC hr dX11_house_76 (le_b rfl) (le_b rfl) ?_
            exact okM_no 2 (by simp [cd_house, isStr, nh8 hn8, c_1, c_3, c_5, c_7, c_8, c_9, c_11]) (by decide) (by rfl) hR_69 rfl rfl hgr
        · refine s_iconst hC (v := 1) dX11_house_36 rfl (by decide) ?_
          refine s_goto hC (tgt := 41) dX11_house_37 (by decide) ?_
          refine s_iconst hC (v := 1) dX11_house_41 rfl (by decide) ?_
          refine s_callV hC (ct_X11_fails_t l g _ _ _ _ hR_1 (by first | rfl | exact hth) _ (by decide)) ce_X11_fails cs_X11 (RepM.f_main hR_1) tw_1422 rfl rfl ⟨⟨le_b rfl, le_b rfl⟩, le_b rfl, le_b rfl⟩ (le_b rfl) dX11_house_42 rfl (dvk1 ?_) nokx
          refine WP.rm (RepM.s_main_0 hR_1 _) (fun hR_42 => ?_)
          refine z_if_ne hC (tgt := 75) dX11_house_45 rfl (by decide) (fun c_12 => ?_) (fun c_12 => ((absurd c_12 (by decide) : False)).elim)
          refine s_iconst hC (v := (-1)) dX11_house_75 rfl (by decide) ?_
          refine s_iret hC hr dX11_house_76 (le_b rfl) (le_b rfl) ?_
          exact okM_no 1 (by simp [cd_house, isStr, nh8 hn8, c_1, c_3, c_5, c_7, c_12]) (by decide) (by rfl) hR_42 rfl rfl hgr
