set_option maxHeartbeats 1000000 in
set_option maxRecDepth 100000 in
theorem ct_X11_change (l : Launch) (g : Gl) (ω : Wd) (ad : Iy → Nat) (y : Ey) (σ : St) (hR : RepM g ad y σ ω) (c9 : Int32) (hgr : grOK σ y) (hn : nOK σ) : CT l g yX11_change cX11_change 4 (some .int) 1 25 0 0 [.ref (ad .main), .int c9] ω (okM g ad (cd_change σ c9) Value.int (vl_change σ c9) ((σ.w_mn (σ.mn + (if atF 200 σ.waters (nI σ.n) ≤ 10 then 20 else if atF 200 σ.waters (nI σ.n) ≤ 20 then 50 else if atF 200 σ.waters (nI σ.n) ≤ 30 then 80 else 140))).w_wears (upd σ.wears c9.toNatClampNeg 0)) σ) (nox) := by
  have hn120 : σ.n ≤ 120 := hn
  refine CT.of (own := "BoringheadModel") rfl rfl (le_b rfl) rfl ?_
  intro p e s m args below meth c sz0 hC hr htab hin
  refine s_aload_n hC dX11_change_0 rfl rfl 0 rfl ?_
  refine s_callV hC (ct_X11_begins l g _ _ _ _ hR) ce_X11_begins cs_X11 (RepM.f_main hR) tw_1324 rfl rfl ⟨⟨le_b rfl, le_b rfl⟩, le_b rfl, le_b rfl⟩ (le_b rfl) dX11_change_1 rfl (dvk0 ?_) nokx
  refine WP.rm (RepM.s_main_0 hR 0) (fun hR_1 => ?_)
  refine s_aload_n hC dX11_change_4 rfl rfl 0 rfl ?_
  refine s_iload_n hC dX11_change_5 rfl rfl 1 rfl ?_
  refine s_i2l hC dX11_change_6 rfl rfl ?_
  refine s_lconst hC (v := 0) dX11_change_7 rfl (by decide) ?_
  refine s_ldc2 hC tw_1583 dX11_change_8 rfl ?_
  refine s_callS hC (ct_X11_in l g _ _ _ _) ce_X11_in tw_1419 rfl rfl ⟨⟨le_b rfl, le_b rfl⟩, le_b rfl, le_b rfl⟩ (le_b rfl) dX11_change_11 rfl (dvk1 ?_) nokx
  rw [inJ_inR c9 0 7 (by first | rfl | decide) (by first | rfl | decide)]
  refine z_if_neB hC (tgt := 21) dX11_change_14 rfl (by decide) (fun c_1 => ?_) (fun c_1 => ?_)
  · refine s_iconst hC (v := 0) dX11_change_21 rfl (by decide) ?_
    refine s_iconst hC (v := 1) dX11_change_22 rfl (by decide) ?_
    refine s_callV hC (ct_X11_fails_f l g _ _ _ _ hR_1 (by first | rfl | exact hth) _) ce_X11_fails cs_X11 (RepM.f_main hR_1) tw_1422 rfl rfl ⟨⟨le_b rfl, le_b rfl⟩, le_b rfl, le_b rfl⟩ (le_b rfl) dX11_change_23 rfl (dvk1 ?_) nokx
    refine z_if_ne hC (tgt := 51) dX11_change_26 rfl (by decide) (fun c_2 => ((absurd c_2 (by decide) : False)).elim) (fun c_2 => ?_)
    refine s_aload_n hC dX11_change_29 rfl rfl 0 rfl ?_
    refine s_aload_n hC dX11_change_30 rfl rfl 0 rfl ?_
    refine s_getf hC cs_X11 9 tw_1258 (le_b rfl) (RepM.f_main hR_1) rfl dX11_change_31 rfl ?_
    refine s_iload_n hC dX11_change_34 rfl rfl 1 rfl ?_
    refine s_ialdK hC (Or.inl (RepM.f_wears hR_1)) (inR_07 c_1).1 dX11_change_35 rfl ?_
    rw [← (inR_07 c_1).2 σ.wears]
    refine z_if_ne hC (tgt := 43) dX11_change_36 rfl (by decide) (fun c_3 => ?_) (fun c_3 => ?_)
    · refine s_iconst hC (v := 0) dX11_change_43 rfl (by decide) ?_
      refine s_iconst hC (v := 2) dX11_change_44 rfl (by decide) ?_
      refine s_callV hC (ct_X11_fails_f l g _ _ _ _ hR_1 (by first | rfl | exact hth) _) ce_X11_fails cs_X11 (RepM.f_main hR_1) tw_1422 rfl rfl ⟨⟨le_b rfl, le_b rfl⟩, le_b rfl, le_b rfl⟩ (le_b rfl) dX11_change_45 rfl (dvk1 ?_) nokx
      refine z_if_eq hC (tgt := 53) dX11_change_48 rfl (by decide) (fun c_4 => ?_) (fun c_4 => ((absurd c_4 (by decide) : False)).elim)
      refine s_aload_n hC dX11_change_53 rfl rfl 0 rfl ?_
      refine s_getf hC cs_X11 4 tw_1253 (le_b rfl) (RepM.f_main hR_1) rfl dX11_change_54 rfl ?_
      refine s_aload_n hC dX11_change_57 rfl rfl 0 rfl ?_
      refine s_getf hC cs_X11 8 tw_1257 (le_b rfl) (RepM.f_main hR_1) rfl dX11_change_58 rfl ?_
      refine s_callF hC (nA := 0) 0 (ct_Jx4a65c_size_8abf5 l g _ _ _ _ _ (RepM.f_rings hR_1)) rfl tw_276 tw_5 tw_274 tw_1431 (by decide +kernel) cs_Jx4a65c (RepM.f_rings hR_1) tw_1427 rfl rfl ⟨⟨le_b rfl, le_b rfl⟩, le_b rfl, le_b rfl⟩ (le_b rfl) dX11_change_61 rfl (dvk1 ?_) nokx
      refine s_ialdK hC (Or.inl (RepM.f_waters hR_1)) (vp_in_nI (by omega : σ.n < 200) (by decide)) dX11_change_66 rfl ?_
      rw [show σ.waters (nI σ.n).toNatClampNeg = atF 200 σ.waters (nI σ.n) from (by rw [atF_in (by decide) (by omega), nI_clamp (by omega)])]
      refine s_istore_n hC (L' := [(2, _), (0, _), (1, _)]) dX11_change_67 rfl rfl (le_b rfl) rfl ?_
      refine s_bipush hC (v := 20) dX11_change_68 rfl (by decide) ?_
      refine s_iload_n hC dX11_change_70 rfl rfl 0 rfl ?_
      refine s_bipush hC (v := 10) dX11_change_71 rfl (by decide) ?_
      refine z_icmp_gt hC (tgt := 80) dX11_change_73 rfl (by decide) (fun c_5 => ?_) (fun c_5 => ?_)
      · refine s_iload_n hC dX11_change_80 rfl rfl 0 rfl ?_
        refine s_bipush hC (v := 20) dX11_change_81 rfl (by decide) ?_
        refine z_icmp_gt hC (tgt := 91) dX11_change_83 rfl (by decide) (fun c_6 => ?_) (fun c_6 => ?_)
        · refine s_iload_n hC dX11_change_91 rfl rfl 0 rfl ?_
          refine s_bipush hC (v := 30) dX11_change_92 rfl (by decide) ?_
          refine z_icmp_gt hC (tgt := 102) dX11_change_94 rfl (by decide) (fun c_7 => ?_) (fun c_7 => ?_)
          · refine s_bipush hC (v := 120) dX11_change_102 rfl (by decide) ?_
            refine s_iadd hC dX11_change_104 rfl ?_
            rw [show (20 : Int32) + 120 = (if atF 200 σ.waters (nI σ.n) ≤ 10 then 20 else if atF 200 σ.waters (nI σ.n) ≤ 20 then 50 else if atF 200 σ.waters (nI σ.n) ≤ 30 then 80 else 140) from (by simp only [c_1, c_2, c_3, c_4, c_5, c_6, c_7, if_true, if_false]; rfl)]
            refine s_istore_n hC (L' := [(3, _), (2, _), (0, _), (1, _)]) dX11_change_105 rfl rfl (le_b rfl) rfl ?_
            refine s_aload_n hC dX11_change_106 rfl rfl 2 rfl ?_
            refine s_aload_n hC dX11_change_107 rfl rfl 2 rfl ?_
            refine s_getf hC cs_X11 19 tw_1268 (le_b rfl) (RepM.f_main hR_1) rfl dX11_change_108 rfl ?_
            refine s_iload_n hC dX11_change_111 rfl rfl 0 rfl ?_
            refine s_iadd hC dX11_change_112 rfl ?_
            refine s_ldcI hC tw_1588 dX11_change_113 rfl ?_
            refine z_icmp_le hC (tgt := 122) dX11_change_115 rfl (by decide) (fun c_8 => ?_) (fun c_8 => ?_)
            · refine s_iconst hC (v := 0) dX11_change_122 rfl (by decide) ?_
              refine s_iconst hC (v := 3) dX11_change_123 rfl (by decide) ?_
              refine s_callV hC (ct_X11_fails_f l g _ _ _ _ hR_1 (by first | rfl | exact hth) _) ce_X11_fails cs_X11 (RepM.f_main hR_1) tw_1422 rfl rfl ⟨⟨le_b rfl, le_b rfl⟩, le_b rfl, le_b rfl⟩ (le_b rfl) dX11_change_124 rfl (dvk1 ?_) nokx
              refine z_if_eq hC (tgt := 132) dX11_change_127 rfl (by decide) (fun c_9 => ?_) (fun c_9 => ((absurd c_9 (by decide) : False)).elim)
              refine s_aload_n hC dX11_change_132 rfl rfl 2 rfl ?_
              refine s_dup hC dX11_change_133 rfl rfl ?_
              refine s_getf hC cs_X11 19 tw_1268 (le_b rfl) (RepM.f_main hR_1) rfl dX11_change_134 rfl ?_
              refine s_iload_n hC dX11_change_137 rfl rfl 0 rfl ?_
              refine s_iadd hC dX11_change_138 rfl ?_
              refine s_putf hC cs_X11 19 tw_1268 (le_b rfl) rfl rfl rfl (RepM.f_main hR_1) (le_b rfl) dX11_change_139 rfl ?_
              refine WP.rm (RepM.s_main_19 hR_1 _) (fun hR_139 => ?_)
              refine s_aload_n hC dX11_change_142 rfl rfl 2 rfl ?_
              refine s_getf hC cs_X11 9 tw_1258 (le_b rfl) (RepM.f_main hR_139) rfl dX11_change_143 rfl ?_
              refine s_iload_n hC dX11_change_146 rfl rfl 3 rfl ?_
              refine s_iconst hC (v := 0) dX11_change_147 rfl (by decide) ?_
              refine s_iast hC (RepM.f_wears hR_139) (inR_07 c_1).1 dX11_change_148 rfl ?_
              refine WP.rm (RepM.w_wears hR_139 _) (fun hR_148 => ?_)
              refine s_iload_n hC dX11_change_149 rfl rfl 0 rfl ?_
              refine s_iret hC hr dX11_change_150 (le_b rfl) (le_b rfl) ?_
              exact okM_ok (by simp only [cd_change, c_1, c_3, c_8, if_true, if_false]) rfl rfl hR_148 rfl rfl rfl hgr
            · refine s_iconst hC (v := 1) dX11_change_118 rfl (by decide) ?_
              refine s_goto hC (tgt := 123) dX11_change_119 (by decide) ?_
              refine s_iconst hC (v := 3) dX11_change_123 rfl (by decide) ?_
              refine s_callV hC (ct_X11_fails_t l g _ _ _ _ hR_1 (by first | rfl | exact hth) _ (by decide)) ce_X11_fails cs_X11 (RepM.f_main hR_1) tw_1422 rfl rfl ⟨⟨le_b rfl, le_b rfl⟩, le_b rfl, le_b rfl⟩ (le_b rfl) dX11_change_124 rfl (dvk1 ?_) nokx
              refine WP.rm (RepM.s_main_0 hR_1 _) (fun hR_124 => ?_)
              refine z_if_eq hC (tgt := 132) dX11_change_127 rfl (by decide) (fun c_10 => ((absurd c_10 (by decide) : False)).elim) (fun c_10 => ?_)
              refine s_iconst hC (v := (-1)) dX11_change_130 rfl (by decide) ?_
              refine s_iret hC hr dX11_change_131 (le_b rfl) (le_b rfl) ?_
              exact okM_no 3 (by simp only [cd_change, c_1, c_3, c_8, if_true, if_false]) (by decide) (by rfl) hR_124 rfl rfl hgr
          · refine s_bipush hC (v := 60) dX11_change_97 rfl (by decide) ?_
            refine s_goto hC (tgt := 104) dX11_change_99 (by decide) ?_
            refine s_iadd hC dX11_change_104 rfl ?_
            rw [show (20 : Int32) + 60 = (if atF 200 σ.waters (nI σ.n) ≤ 10 then 20 else if atF 200 σ.waters (nI σ.n) ≤ 20 then 50 else if atF 200 σ.waters (nI σ.n) ≤ 30 then 80 else 140) from (by simp only [c_1, c_2, c_3, c_4, c_5, c_6, c_7, if_true, if_false]; rfl)]
            refine s_istore_n hC (L' := [(3, _), (2, _), (0, _), (1, _)]) dX11_change_105 rfl rfl (le_b rfl) rfl ?_
            refine s_aload_n hC dX11_change_106 rfl rfl 2 rfl ?_
            refine s_aload_n hC dX11_change_107 rfl rfl 2 rfl ?_
            refine s_getf hC cs_X11 19 tw_1268 (le_b rfl) (RepM.f_main hR_1) rfl dX11_change_108 rfl ?_
            refine s_iload_n hC dX11_change_111 rfl rfl 0 rfl ?_
            refine s_iadd hC dX11_change_112 rfl ?_
            refine s_ldcI hC tw_1588 dX11_change_113 rfl ?_
            refine z_icmp_le hC (tgt := 122) dX11_change_115 rfl (by decide) (fun c_11 => ?_) (fun c_11 => ?_)
            · refine s_iconst hC (v := 0) dX11_change_122 rfl (by decide) ?_
              refine s_iconst hC (v := 3) dX11_change_123 rfl (by decide) ?_
              refine s_callV hC (ct_X11_fails_f l g _ _ _ _ hR_1 (by first | rfl | exact hth) _) ce_X11_fails cs_X11 (RepM.f_main hR_1) tw_1422 rfl rfl ⟨⟨le_b rfl, le_b rfl⟩, le_b rfl, le_b rfl⟩ (le_b rfl) dX11_change_124 rfl (dvk1 ?_) nokx
              refine z_if_eq hC (tgt := 132) dX11_change_127 rfl (by decide) (fun c_12 => ?_) (fun c_12 => ((absurd c_12 (by decide) : False)).elim)
              refine s_aload_n hC dX11_change_132 rfl rfl 2 rfl ?_
              refine s_dup hC dX11_change_133 rfl rfl ?_
              refine s_getf hC cs_X11 19 tw_1268 (le_b rfl) (RepM.f_main hR_1) rfl dX11_change_134 rfl ?_
              refine s_iload_n hC dX11_change_137 rfl rfl 0 rfl ?_
              refine s_iadd hC dX11_change_138 rfl ?_
              refine s_putf hC cs_X11 19 tw_1268 (le_b rfl) rfl rfl rfl (RepM.f_main hR_1) (le_b rfl) dX11_change_139 rfl ?_
              refine WP.rm (RepM.s_main_19 hR_1 _) (fun hR_139 => ?_)
              refine s_aload_n hC dX11_change_142 rfl rfl 2 rfl ?_
              refine s_getf hC cs_X11 9 tw_1258 (le_b rfl) (RepM.f_main hR_139) rfl dX11_change_143 rfl ?_
              refine s_iload_n hC dX11_change_146 rfl rfl 3 rfl ?_
              refine s_iconst hC (v := 0) dX11_change_147 rfl (by decide) ?_
              refine s_iast hC (RepM.f_wears hR_139) (inR_07 c_1).1 dX11_change_148 rfl ?_
              refine WP.rm (RepM.w_wears hR_139 _) (fun hR_148 => ?_)
              refine s_iload_n hC dX11_change_149 rfl rfl 0 rfl ?_
              refine s_iret hC hr dX11_change_150 (le_b rfl) (le_b rfl) ?_
              exact okM_ok (by simp only [cd_change, c_1, c_3, c_11, if_true, if_false]) rfl rfl hR_148 rfl rfl rfl hgr
            · refine s_iconst hC (v := 1) dX11_change_118 rfl (by decide) ?_
              refine s_goto hC (tgt := 123) dX11_change_119 (by decide) ?_
              refine s_iconst hC (v := 3) dX11_change_123 rfl (by decide) ?_
              refine s_callV hC (ct_X11_fails_t l g _ _ _ _ hR_1 (by first | rfl | exact hth) _ (by decide)) ce_X11_fails cs_X11 (RepM.f_main hR_1) tw_1422 rfl rfl ⟨⟨le_b rfl, le_b rfl⟩, le_b rfl, le_b rfl⟩ (le_b rfl) dX11_change_124 rfl (dvk1 ?_) nokx
              refine WP.rm (RepM.s_main_0 hR_1 _) (fun hR_124 => ?_)
              refine z_if_eq hC (tgt := 132) dX11_change_127 rfl (by decide) (fun c_13 => ((absurd c_13 (by decide) : False)).elim) (fun c_13 => ?_)
              refine s_iconst hC (v := (-1)) dX11_change_130 rfl (by decide) ?_
              refine s_iret hC hr dX11_change_131 (le_b rfl) (le_b rfl) ?_
              exact okM_no 3 (by simp only [cd_change, c_1, c_3, c_11, if_true, if_false]) (by decide) (by rfl) hR_124 rfl rfl hgr
        · refine s_bipush hC (v := 30) dX11_change_86 rfl (by decide) ?_
          refine s_goto hC (tgt := 104) dX11_change_88 (by decide) ?_
          refine s_iadd hC dX11_change_104 rfl ?_
          rw [show (20 : Int32) + 30 = (if atF 200 σ.waters (nI σ.n) ≤ 10 then 20 else if atF 200 σ.waters (nI σ.n) ≤ 20 then 50 else if atF 200 σ.waters (nI σ.n) ≤ 30 then 80 else 140) from (by simp only [c_1, c_2, c_3, c_4, c_5, c_6, if_true, if_false]; rfl)]
          refine s_istore_n hC (L' := [(3, _), (2, _), (0, _), (1, _)]) dX11_change_105 rfl rfl (le_b rfl) rfl ?_
          refine s_aload_n hC dX11_change_106 rfl rfl 2 rfl ?_
          refine s_aload_n hC dX11_change_107 rfl rfl 2 rfl ?_
          refine s_getf hC cs_X11 19 tw_1268 (le_b rfl) (RepM.f_main hR_1) rfl dX11_change_108 rfl ?_
          refine s_iload_n hC dX11_change_111 rfl rfl 0 rfl ?_
          refine s_iadd hC dX11_change_112 rfl ?_
          refine s_ldcI hC tw_1588 dX11_change_113 rfl ?_
          refine z_icmp_le hC (tgt := 122) dX11_change_115 rfl (by decide) (fun c_14 => ?_) (fun c_14 => ?_)
          · refine s_iconst hC (v := 0) dX11_change_122 rfl (by decide) ?_
            refine s_iconst hC (v := 3) dX11_change_123 rfl (by decide) ?_
            refine s_callV hC (ct_X11_fails_f l g _ _ _ _ hR_1 (by first | rfl | exact hth) _) ce_X11_fails cs_X11 (RepM.f_main hR_1) tw_1422 rfl rfl ⟨⟨le_b rfl, le_b rfl⟩, le_b rfl, le_b rfl⟩ (le_b rfl) dX11_change_124 rfl (dvk1 ?_) nokx
            refine z_if_eq hC (tgt := 132) dX11_change_127 rfl (by decide) (fun c_15 => ?_) (fun c_15 => ((absurd c_15 (by decide) : False)).elim)
            refine s_aload_n hC dX11_change_132 rfl rfl 2 rfl ?_
            refine s_dup hC dX11_change_133 rfl rfl ?_
            refine s_getf hC cs_X11 19 tw_1268 (le_b rfl) (RepM.f_main hR_1) rfl dX11_change_134 rfl ?_
            refine s_iload_n hC dX11_change_137 rfl rfl 0 rfl ?_
            refine s_iadd hC dX11_change_138 rfl ?_
            refine s_putf hC cs_X11 19 tw_1268 (le_b rfl) rfl rfl rfl (RepM.f_main hR_1) (le_b rfl) dX11_change_139 rfl ?_
            refine WP.rm (RepM.s_main_19 hR_1 _) (fun hR_139 => ?_)
            refine s_aload_n hC dX11_change_142 rfl rfl 2 rfl ?_
            refine s_getf hC cs_X11 9 tw_1258 (le_b rfl) (RepM.f_main hR_139) rfl dX11_change_143 rfl ?_
            refine s_iload_n hC dX11_change_146 rfl rfl 3 rfl ?_
            refine s_iconst hC (v := 0) dX11_change_147 rfl (by decide) ?_
            refine s_iast hC (RepM.f_wears hR_139) (inR_07 c_1).1 dX11_change_148 rfl ?_
            refine WP.rm (RepM.w_wears hR_139 _) (fun hR_148 => ?_)
            refine s_iload_n hC dX11_change_149 rfl rfl 0 rfl ?_
            refine s_iret hC hr dX11_change_150 (le_b rfl) (le_b rfl) ?_
            exact okM_ok (by simp only [cd_change, c_1, c_3, c_14, if_true, if_false]) rfl rfl hR_148 rfl rfl rfl hgr
          · refine s_iconst hC (v := 1) dX11_change_118 rfl (by decide) ?_
            refine s_goto hC (tgt := 123) dX11_change_119 (by decide) ?_
            refine s_iconst hC (v := 3) dX11_change_123 rfl (by decide) ?_
            refine s_callV hC (ct_X11_fails_t l g _ _ _ _ hR_1 (by first | rfl | exact hth) _ (by decide)) ce_X11_fails cs_X11 (RepM.f_main hR_1) tw_1422 rfl rfl ⟨⟨le_b rfl, le_b rfl⟩, le_b rfl, le_b rfl⟩ (le_b rfl) dX11_change_124 rfl (dvk1 ?_) nokx
            refine WP.rm (RepM.s_main_0 hR_1 _) (fun hR_124 => ?_)
            refine z_if_eq hC (tgt := 132) dX11_change_127 rfl (by decide) (fun c_16 => ((absurd c_16 (by decide) : False)).elim) (fun c_16 => ?_)
            refine s_iconst hC (v := (-1)) dX11_change_130 rfl (by decide) ?_
            refine s_iret hC hr dX11_change_131 (le_b rfl) (le_b rfl) ?_
            exact okM_no 3 (by simp only [cd_change, c_1, c_3, c_14, if_true, if_false]) (by decide) (by rfl) hR_124 rfl rfl hgr
      · refine s_iconst hC (v := 0) dX11_change_76 rfl (by decide) ?_
        refine s_goto hC (tgt := 104) dX11_change_77 (by decide) ?_
        refine s_iadd hC dX11_change_104 rfl ?_
        rw [show (20 : Int32) + 0 = (if atF 200 σ.waters (nI σ.n) ≤ 10 then 20 else if atF 200 σ.waters (nI σ.n) ≤ 20 then 50 else if atF 200 σ.waters (nI σ.n) ≤ 30 then 80 else 140) from (by simp only [c_1, c_2, c_3, c_4, c_5, if_true, if_false]; rfl)]
        refine s_istore_n hC (L' := [(3, _), (2, _), (0, _), (1, _)]) dX11_change_105 rfl rfl (le_b rfl) rfl ?_
        refine s_aload_n hC dX11_change_106 rfl rfl 2 rfl ?_
        refine s_aload_n hC dX11_change_107 rfl rfl 2 rfl ?_
        refine s_getf hC cs_X11 19 tw_1268 (le_b rfl) (RepM.f_main hR_1) rfl dX11_change_108 rfl ?_
        refine s_iload_n hC dX11_change_111 rfl rfl 0 rfl ?_
        refine s_iadd hC dX11_change_112 rfl ?_
        refine s_ldcI hC tw_1588 dX11_change_113 rfl ?_
        refine z_icmp_le hC (tgt := 122) dX11_change_115 rfl (by decide) (fun c_17 => ?_) (fun c_17 => ?_)
        · refine s_iconst hC (v := 0) dX11_change_122 rfl (by decide) ?_
          refine s_iconst hC (v := 3) dX11_change_123 rfl (by decide) ?_
          refine s_callV hC (ct_X11_fails_f l g _ _ _ _ hR_1 (by first | rfl | exact hth) _) ce_X11_fails cs_X11 (RepM.f_main hR_1) tw_1422 rfl rfl ⟨⟨le_b rfl, le_b rfl⟩, le_b rfl, le_b rfl⟩ (le_b rfl) dX11_change_124 rfl (dvk1 ?_) nokx
          refine z_if_eq hC (tgt := 132) dX11_change_127 rfl (by decide) (fun c_18 => ?_) (fun c_18 => ((absurd c_18 (by decide) : False)).elim)
          refine s_aload_n hC dX11_change_132 rfl rfl 2 rfl ?_
          refine s_dup hC dX11_change_133 rfl rfl ?_
          refine s_getf hC cs_X11 19 tw_1268 (le_b rfl) (RepM.f_main hR_1) rfl dX11_change_134 rfl ?_
          refine s_iload_n hC dX11_change_137 rfl rfl 0 rfl ?_
          refine s_iadd hC dX11_change_138 rfl ?_
          refine s_putf hC cs_X11 19 tw_1268 (le_b rfl) rfl rfl rfl (RepM.f_main hR_1) (le_b rfl) dX11_change_139 rfl ?_
          refine WP.rm (RepM.s_main_19 hR_1 _) (fun hR_139 => ?_)
          refine s_aload_n hC dX11_change_142 rfl rfl 2 rfl ?_
          refine s_getf hC cs_X11 9 tw_1258 (le_b rfl) (RepM.f_main hR_139) rfl dX11_change_143 rfl ?_
          refine s_iload_n hC dX11_change_146 rfl rfl 3 rfl ?_
          refine s_iconst hC (v := 0) dX11_change_147 rfl (by decide) ?_
          refine s_iast hC (RepM.f_wears hR_139) (inR_07 c_1).1 dX11_change_148 rfl ?_
          refine WP.rm (RepM.w_wears hR_139 _) (fun hR_148 => ?_)
          refine s_iload_n hC dX11_change_149 rfl rfl 0 rfl ?_
          refine s_iret hC hr dX11_change_150 (le_b rfl) (le_b rfl) ?_
          exact okM_ok (by simp only [cd_change, c_1, c_3, c_17, if_true, if_false]) rfl rfl hR_148 rfl rfl rfl hgr
        · refine s_iconst hC (v := 1) dX11_change_118 rfl (by decide) ?_
          refine s_goto hC (tgt := 123) dX11_change_119 (by decide) ?_
          refine s_iconst hC (v := 3) dX11_change_123 rfl (by decide) ?_
          refine s_callV hC (ct_X11_fails_t l g _ _ _ _ hR_1 (by first | rfl | exact hth) _ (by decide)) ce_X11_fails cs_X11 (RepM.f_main hR_1) tw_1422 rfl rfl ⟨⟨le_b rfl, le_b rfl⟩, le_b rfl, le_b rfl⟩ (le_b rfl) dX11_change_124 rfl (dvk1 ?_) nokx
          refine WP.rm (RepM.s_main_0 hR_1 _) (fun hR_124 => ?_)
          refine z_if_eq hC (tgt := 132) dX11_change_127 rfl (by decide) (fun c_19 => ((absurd c_19 (by decide) : False)).elim) (fun c_19 => ?_)
          refine s_iconst hC (v := (-1)) dX11_change_130 rfl (by decide) ?_
          refine s_iret hC hr dX11_change_131 (le_b rfl) (le_b rfl) ?_
          exact okM_no 3 (by simp only [cd_change, c_1, c_3, c_17, if_true, if_false]) (by decide) (by rfl) hR_124 rfl rfl hgr
    · refine s_iconst hC (v := 1) dX11_change_39 rfl (by decide) ?_
      refine s_goto hC (tgt := 44) dX11_change_40 (by decide) ?_
      refine s_iconst hC (v := 2) dX11_change_44 rfl (by decide) ?_
      refine s_callV hC (ct_X11_fails_t l g _ _ _ _ hR_1 (by first | rfl | exact hth) _ (by decide)) ce_X11_fails cs_X11 (RepM.f_main hR_1) tw_1422 rfl rfl ⟨⟨le_b rfl, le_b rfl⟩, le_b rfl, le_b rfl⟩ (le_b rfl) dX11_change_45 rfl (dvk1 ?_) nokx
      refine WP.rm (RepM.s_main_0 hR_1 _) (fun hR_45 => ?_)
      refine z_if_eq hC (tgt := 53) dX11_change_48 rfl (by decide) (fun c_20 => ((absurd c_20 (by decide) : False)).elim) (fun c_20 => ?_)
      refine s_iconst hC (v := (-1)) dX11_change_51 rfl (by decide) ?_
      refine s_iret hC hr dX11_change_52 (le_b rfl) (le_b rfl) ?_
      exact okM_no 2 (by simp [cd_change, c_1, c_3]) (by decide) (by rfl) hR_45 rfl rfl hgr
  · refine s_iconst hC (v := 1) dX11_change_17 rfl (by decide) ?_
    refine s_goto hC (tgt := 22) dX11_change_18 (by decide) ?_
    refine s_iconst hC (v := 1) dX11_change_22 rfl (by decide) ?_
    refine s_callV hC (ct_X11_fails_t l g _ _ _ _ hR_1 (by first | rfl | exact hth) _ (by decide)) ce_X11_fails cs_X11 (RepM.f_main hR_1) tw_1422 rfl rfl ⟨⟨le_b rfl, le_b rfl⟩, le_b rfl, le_b rfl⟩ (le_b rfl) dX11_change_23 rfl (dvk1 ?_) nokx
    refine WP.rm (RepM.s_main_0 hR_1 _) (fun hR_23 => ?_)
    refine z_if_ne hC (tgt := 51) dX11_change_26 rfl (by decide) (fun c_21 => ?_) (fun c_21 => ((absurd c_21 (by decide) : False)).elim)
    refine s_iconst hC (v := (-1)) dX11_change_51 rfl (by decide) ?_
    refine s_iret hC hr dX11_change_52 (le_b rfl) (le_b rfl) ?_
    exact okM_no 1 (by simp [cd_change, c_1]) (by decide) (by rfl) hR_23 rfl rfl hgr
