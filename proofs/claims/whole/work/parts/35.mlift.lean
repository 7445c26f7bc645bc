/-- the model's cells over other numbers that read alike -/
theorem RepM.cg {g : Gl} {ad : Iy → Nat} {y : Ey} {s s' : St} {w : Wd} (h : RepM g ad y s w) (hn : s'.n = s.n) (hnh : s'.nh = s.nh) (hnb : s'.nb = s.nb) (ho : s'.order = s.order) (hc : ∀ k, cellM g ad y s' k = cellM g ad y s k) : RepM g ad y s' w := by
  obtain ⟨h1, h2, h3, h4, h5, h6, h7⟩ := h
  have hv : ∀ k, VM y s' k → VM y s k := by
    intro k hk
    rcases k with a | i | i | i
    · exact hk
    · exact (show i < s.n from hn ▸ (show i < s'.n from hk))
    · exact (show i < s.nh from hnh ▸ (show i < s'.nh from hk))
    · exact (show i < s.nb from hnb ▸ (show i < s'.nb from hk))
  exact ⟨fun k hk => (h1 k (hv k hk)).trans (congrArg some (hc k).symm), fun k k' hk hk' => h2 k k' (hv k hk) (hv k' hk'), by rw [hn]; exact h3, by rw [hnh]; exact h4, by rw [hnb]; exact h5, h6, by rw [ho]; exact h7⟩
theorem iMin_c (a b : Int32) : iMin a b = iMin b a := by
  unfold iMin
  by_cases h1 : a < b
  · have h2 : ¬ b < a := fun h => absurd (Int32.lt_trans h1 h) (Int32.lt_irrefl)
    simp [h1, h2]
  · by_cases h2 : b < a
    · simp [h1, h2]
    · have : a = b := Int32.le_antisymm (Int32.not_lt.mp h2) (Int32.not_lt.mp h1)
      simp [this]
theorem lorF_inR (x : Int32) : lorF x = inR (x - x / 1440 * 1440) 360 1319 := by
  unfold lorF inR
  have h : ∀ z : Int32, (¬ 1320 ≤ z) = (z ≤ 1319) := by
    intro z
    apply propext
    rw [Int32.le_iff_toInt_le, Int32.le_iff_toInt_le]
    have h1 : (1320 : Int32).toInt = 1320 := rfl
    have h2 : (1319 : Int32).toInt = 1319 := rfl
    omega
  simp only [h]
theorem le00 {x : Int32} (h : 0 ≤ x) : (x ≤ 0) = (x = 0) := propext ⟨fun h1 => Int32.le_antisymm h1 h, fun h1 => by rw [h1]; decide⟩
theorem p19 (x : Int32) : x + 20 - 1 = x + 19 := by
  rw [Int32.sub_eq_add_neg, Int32.add_assoc]
  rfl
def lo3 (s : St) (t g : Int32) : St := (((s.w_pit (s.pit - t)).w_away (s.away + t)).w_mn (s.mn + g)).w_fo (s.fo + g)
theorem nx_lo (s : St) (m9 : Int32) : nx_lorries s m9 = lo3 s (iMin s.pit (20 * iMin m9 ((s.pit + 19) / 20))) (5 * iMin m9 ((s.pit + 19) / 20)) := by
  show lo3 s (iMin (iMin m9 ((s.pit + 20 - 1) / 20) * 20) s.pit) (iMin m9 ((s.pit + 20 - 1) / 20) * 5) = _
  rw [p19, Int32.mul_comm _ 20, Int32.mul_comm _ 5, iMin_c (20 * _)]
def pOK (s : St) : Prop := 0 ≤ s.pit
set_option maxHeartbeats 1000000 in
set_option maxRecDepth 100000 in
theorem ct_X11_lorries (l : Launch) (g : Gl) (ω : Wd) (ad : Iy → Nat) (y : Ey) (σ : St) (hR : RepM g ad y σ ω) (m9 : Int32) (hgr : grOK σ y) (hp : pOK σ) : CT l g yX11_lorries cX11_lorries 5 (some .int) 1 25 0 0 [.ref (ad .main), .int m9] ω (okM g ad (cd_lorries σ m9) Value.int (vl_lorries σ m9) (nx_lorries σ m9) σ) (nox) := by
  have hl9 := lorF_inR σ.mn
  have hp9 := le00 hp
  have hg9 := p19 σ.pit
  have hm9 : iMin m9 ((σ.pit + 19) / 20) * 5 = 5 * iMin m9 ((σ.pit + 19) / 20) := Int32.mul_comm _ _
  refine CT.of (own := "BoringheadModel") rfl rfl (le_b rfl) rfl ?_
  intro p e s m args below meth c sz0 hC hr htab hin
  refine s_aload_n hC dX11_lorries_0 rfl rfl 0 rfl ?_
  refine s_callV hC (ct_X11_begins l g _ _ _ _ hR) ce_X11_begins cs_X11 (RepM.f_main hR) tw_1324 rfl rfl ⟨⟨le_b rfl, le_b rfl⟩, le_b rfl, le_b rfl⟩ (le_b rfl) dX11_lorries_1 rfl (dvk0 ?_) nokx
  refine WP.rm (RepM.s_main_0 hR 0) (fun hR_1 => ?_)
  refine s_aload_n hC dX11_lorries_4 rfl rfl 0 rfl ?_
  refine s_getf hC cs_X11 19 tw_1268 (le_b rfl) (RepM.f_main hR_1) rfl dX11_lorries_5 rfl ?_
  refine s_sipush hC (v := 1440) dX11_lorries_8 rfl (by decide) ?_
  refine s_irem hC dX11_lorries_11 rfl (by decide) ?_
  refine s_i2l hC dX11_lorries_12 rfl rfl ?_
  refine s_ldc2 hC tw_1787 dX11_lorries_13 rfl ?_
  refine s_ldc2 hC tw_1788 dX11_lorries_16 rfl ?_
  refine s_callS hC (ct_X11_in l g _ _ _ _) ce_X11_in tw_1419 rfl rfl ⟨⟨le_b rfl, le_b rfl⟩, le_b rfl, le_b rfl⟩ (le_b rfl) dX11_lorries_19 rfl (dvk1 ?_) nokx
  rw [inJ_inR _ 360 1319 (by first | rfl | decide) (by first | rfl | decide)]
  refine z_if_eqB hC (tgt := 32) dX11_lorries_22 rfl (by decide) (fun c_1 => ?_) (fun c_1 => ?_)
  · refine s_iconst hC (v := 1) dX11_lorries_32 rfl (by decide) ?_
    refine s_goto hC (tgt := 37) dX11_lorries_33 (by decide) ?_
    refine s_istore_n hC (L' := [(2, _), (0, _), (1, _)]) dX11_lorries_37 rfl rfl (le_b rfl) rfl ?_
    refine s_aload_n hC dX11_lorries_38 rfl rfl 1 rfl ?_
    refine s_iload_n hC dX11_lorries_39 rfl rfl 2 rfl ?_
    refine s_i2l hC dX11_lorries_40 rfl rfl ?_
    refine s_lconst hC (v := 1) dX11_lorries_41 rfl (by decide) ?_
    refine s_ldc2 hC tw_1789 dX11_lorries_42 rfl ?_
    refine s_callS hC (ct_X11_in l g _ _ _ _) ce_X11_in tw_1419 rfl rfl ⟨⟨le_b rfl, le_b rfl⟩, le_b rfl, le_b rfl⟩ (le_b rfl) dX11_lorries_45 rfl (dvk1 ?_) nokx
    rw [inJ_inR m9 1 100 (by first | rfl | decide) (by first | rfl | decide)]
    refine z_if_neB hC (tgt := 55) dX11_lorries_48 rfl (by decide) (fun c_2 => ?_) (fun c_2 => ?_)
    · refine s_iconst hC (v := 0) dX11_lorries_55 rfl (by decide) ?_
      refine s_iconst hC (v := 1) dX11_lorries_56 rfl (by decide) ?_
      refine s_callV hC (ct_X11_fails_f l g _ _ _ _ hR_1 (by first | rfl | exact hth) _) ce_X11_fails cs_X11 (RepM.f_main hR_1) tw_1422 rfl rfl ⟨⟨le_b rfl, le_b rfl⟩, le_b rfl, le_b rfl⟩ (le_b rfl) dX11_lorries_57 rfl (dvk1 ?_) nokx
      refine z_if_ne hC (tgt := 72) dX11_lorries_60 rfl (by decide) (fun c_3 => ((absurd c_3 (by decide) : False)).elim) (fun c_3 => ?_)
      refine s_aload_n hC dX11_lorries_63 rfl rfl 1 rfl ?_
      refine s_iload_n hC dX11_lorries_64 rfl rfl 0 rfl ?_
      refine s_iconst hC (v := 2) dX11_lorries_65 rfl (by decide) ?_
      refine s_callV hC (ct_X11_fails_t l g _ _ _ _ hR_1 (by first | rfl | exact hth) _ (by decide)) ce_X11_fails cs_X11 (RepM.f_main hR_1) tw_1422 rfl rfl ⟨⟨le_b rfl, le_b rfl⟩, le_b rfl, le_b rfl⟩ (le_b rfl) dX11_lorries_66 rfl (dvk1 ?_) nokx
      refine WP.rm (RepM.s_main_0 hR_1 _) (fun hR_66 => ?_)
      refine z_if_eq hC (tgt := 74) dX11_lorries_69 rfl (by decide) (fun c_4 => ((absurd c_4 (by decide) : False)).elim) (fun c_4 => ?_)
      refine s_iconst hC (v := (-1)) dX11_lorries_72 rfl (by decide) ?_
      refine s_iret hC hr dX11_lorries_73 (le_b rfl) (le_b rfl) ?_
      first
        | exact okM_no 1 (by simp [cd_lorries, hl9, hp9, hg9, hm9, c_1, c_2, c_3, c_4]) (by decide) (by rfl) hR_66 rfl rfl hgr
        | exact okM_no 2 (by simp [cd_lorries, hl9, hp9, hg9, hm9, c_1, c_2, c_3, c_4]) (by decide) (by rfl) hR_66 rfl rfl hgr
    · refine s_iconst hC (v := 1) dX11_lorries_51 rfl (by decide) ?_
      refine s_goto hC (tgt := 56) dX11_lorries_52 (by decide) ?_
      refine s_iconst hC (v := 1) dX11_lorries_56 rfl (by decide) ?_
      refine s_callV hC (ct_X11_fails_t l g _ _ _ _ hR_1 (by first | rfl | exact hth) _ (by decide)) ce_X11_fails cs_X11 (RepM.f_main hR_1) tw_1422 rfl rfl ⟨⟨le_b rfl, le_b rfl⟩, le_b rfl, le_b rfl⟩ (le_b rfl) dX11_lorries_57 rfl (dvk1 ?_) nokx
      refine WP.rm (RepM.s_main_0 hR_1 _) (fun hR_57 => ?_)
      refine z_if_ne hC (tgt := 72) dX11_lorries_60 rfl (by decide) (fun c_5 => ?_) (fun c_5 => ((absurd c_5 (by decide) : False)).elim)
      refine s_iconst hC (v := (-1)) dX11_lorries_72 rfl (by decide) ?_
      refine s_iret hC hr dX11_lorries_73 (le_b rfl) (le_b rfl) ?_
      first
        | exact okM_no 1 (by simp [cd_lorries, hl9, hp9, hg9, hm9, c_1, c_2, c_5]) (by decide) (by rfl) hR_57 rfl rfl hgr
        | exact okM_no 2 (by simp [cd_lorries, hl9, hp9, hg9, hm9, c_1, c_2, c_5]) (by decide) (by rfl) hR_57 rfl rfl hgr
  · refine s_aload_n hC dX11_lorries_25 rfl rfl 0 rfl ?_
    refine s_getf hC cs_X11 18 tw_1267 (le_b rfl) (RepM.f_main hR_1) rfl dX11_lorries_26 rfl ?_
    refine z_if_ne hC (tgt := 36) dX11_lorries_29 rfl (by decide) (fun c_6 => ?_) (fun c_6 => ?_)
    · refine s_iconst hC (v := 0) dX11_lorries_36 rfl (by decide) ?_
      refine s_istore_n hC (L' := [(2, _), (0, _), (1, _)]) dX11_lorries_37 rfl rfl (le_b rfl) rfl ?_
      refine s_aload_n hC dX11_lorries_38 rfl rfl 1 rfl ?_
      refine s_iload_n hC dX11_lorries_39 rfl rfl 2 rfl ?_
      refine s_i2l hC dX11_lorries_40 rfl rfl ?_
      refine s_lconst hC (v := 1) dX11_lorries_41 rfl (by decide) ?_
      refine s_ldc2 hC tw_1789 dX11_lorries_42 rfl ?_
      refine s_callS hC (ct_X11_in l g _ _ _ _) ce_X11_in tw_1419 rfl rfl ⟨⟨le_b rfl, le_b rfl⟩, le_b rfl, le_b rfl⟩ (le_b rfl) dX11_lorries_45 rfl (dvk1 ?_) nokx
      rw [inJ_inR m9 1 100 (by first | rfl | decide) (by first | rfl | decide)]
      refine z_if_neB hC (tgt := 55) dX11_lorries_48 rfl (by decide) (fun c_7 => ?_) (fun c_7 => ?_)
      · refine s_iconst hC (v := 0) dX11_lorries_55 rfl (by decide) ?_
        refine s_iconst hC (v := 1) dX11_lorries_56 rfl (by decide) ?_
        refine s_callV hC (ct_X11_fails_f l g _ _ _ _ hR_1 (by first | rfl | exact hth) _) ce_X11_fails cs_X11 (RepM.f_main hR_1) tw_1422 rfl rfl ⟨⟨le_b rfl, le_b rfl⟩, le_b rfl, le_b rfl⟩ (le_b rfl) dX11_lorries_57 rfl (dvk1 ?_) nokx
        refine z_if_ne hC (tgt := 72) dX11_lorries_60 rfl (by decide) (fun c_8 => ((absurd c_8 (by decide) : False)).elim) (fun c_8 => ?_)
        refine s_aload_n hC dX11_lorries_63 rfl rfl 1 rfl ?_
        refine s_iload_n hC dX11_lorries_64 rfl rfl 0 rfl ?_
        refine s_iconst hC (v := 2) dX11_lorries_65 rfl (by decide) ?_
        refine s_callV hC (ct_X11_fails_f l g _ _ _ _ hR_1 (by first | rfl | exact hth) _) ce_X11_fails cs_X11 (RepM.f_main hR_1) tw_1422 rfl rfl ⟨⟨le_b rfl, le_b rfl⟩, le_b rfl, le_b rfl⟩ (le_b rfl) dX11_lorries_66 rfl (dvk1 ?_) nokx
        refine z_if_eq hC (tgt := 74) dX11_lorries_69 rfl (by decide) (fun c_9 => ?_) (fun c_9 => ((absurd c_9 (by decide) : False)).elim)
        refine s_iload_n hC dX11_lorries_74 rfl rfl 2 rfl ?_
        refine s_aload_n hC dX11_lorries_75 rfl rfl 1 rfl ?_
        refine s_getf hC cs_X11 18 tw_1267 (le_b rfl) (RepM.f_main hR_1) rfl dX11_lorries_76 rfl ?_
        refine s_bipush hC (v := 19) dX11_lorries_79 rfl (by decide) ?_
        refine s_iadd hC dX11_lorries_81 rfl ?_
        refine s_bipush hC (v := 20) dX11_lorries_82 rfl (by decide) ?_
        refine s_idiv hC dX11_lorries_84 rfl (by decide) ?_
        refine s_min hC tw_1626 ⟨le_b rfl, le_b rfl, le_b rfl, le_b rfl⟩ dX11_lorries_85 rfl ?_
        refine s_istore_n hC (L' := [(3, _), (2, _), (0, _), (1, _)]) dX11_lorries_88 rfl rfl (le_b rfl) rfl ?_
        refine s_aload_n hC dX11_lorries_89 rfl rfl 2 rfl ?_
        refine s_aload_n hC dX11_lorries_90 rfl rfl 2 rfl ?_
        refine s_getf hC cs_X11 19 tw_1268 (le_b rfl) (RepM.f_main hR_1) rfl dX11_lorries_91 rfl ?_
        refine s_iconst hC (v := 5) dX11_lorries_94 rfl (by decide) ?_
        refine s_iload_n hC dX11_lorries_95 rfl rfl 0 rfl ?_
        refine s_imul hC dX11_lorries_96 rfl ?_
        refine s_iadd hC dX11_lorries_97 rfl ?_
        refine s_ldcI hC tw_1588 dX11_lorries_98 rfl ?_
        refine z_icmp_le hC (tgt := 107) dX11_lorries_100 rfl (by decide) (fun c_10 => ?_) (fun c_10 => ?_)
        · refine s_iconst hC (v := 0) dX11_lorries_107 rfl (by decide) ?_
          refine s_iconst hC (v := 3) dX11_lorries_108 rfl (by decide) ?_
          refine s_callV hC (ct_X11_fails_f l g _ _ _ _ hR_1 (by first | rfl | exact hth) _) ce_X11_fails cs_X11 (RepM.f_main hR_1) tw_1422 rfl rfl ⟨⟨le_b rfl, le_b rfl⟩, le_b rfl, le_b rfl⟩ (le_b rfl) dX11_lorries_109 rfl (dvk1 ?_) nokx
          refine z_if_eq hC (tgt := 117) dX11_lorries_112 rfl (by decide) (fun c_11 => ?_) (fun c_11 => ((absurd c_11 (by decide) : False)).elim)
          refine s_aload_n hC dX11_lorries_117 rfl rfl 2 rfl ?_
          refine s_getf hC cs_X11 18 tw_1267 (le_b rfl) (RepM.f_main hR_1) rfl dX11_lorries_118 rfl ?_
          refine s_bipush hC (v := 20) dX11_lorries_121 rfl (by decide) ?_
          refine s_iload_n hC dX11_lorries_123 rfl rfl 0 rfl ?_
          refine s_imul hC dX11_lorries_124 rfl ?_
          refine s_min hC tw_1626 ⟨le_b rfl, le_b rfl, le_b rfl, le_b rfl⟩ dX11_lorries_125 rfl ?_
          refine s_istore hC (L' := [(4, _), (3, _), (2, _), (0, _), (1, _)]) dX11_lorries_128 rfl (le_b rfl) rfl ?_
          refine s_aload_n hC dX11_lorries_130 rfl rfl 3 rfl ?_
          refine s_dup hC dX11_lorries_131 rfl rfl ?_
          refine s_getf hC cs_X11 19 tw_1268 (le_b rfl) (RepM.f_main hR_1) rfl dX11_lorries_132 rfl ?_
          refine s_iconst hC (v := 5) dX11_lorries_135 rfl (by decide) ?_
          refine s_iload_n hC dX11_lorries_136 rfl rfl 1 rfl ?_
          refine s_imul hC dX11_lorries_137 rfl ?_
          refine s_iadd hC dX11_lorries_138 rfl ?_
          refine s_putf hC cs_X11 19 tw_1268 (le_b rfl) rfl rfl rfl (RepM.f_main hR_1) (le_b rfl) dX11_lorries_139 rfl ?_
          refine WP.rm (RepM.s_main_19 hR_1 _) (fun hR_139 => ?_)
          refine s_aload_n hC dX11_lorries_142 rfl rfl 3 rfl ?_
          refine s_dup hC dX11_lorries_143 rfl rfl ?_
          refine s_getf hC cs_X11 18 tw_1267 (le_b rfl) (RepM.f_main hR_139) rfl dX11_lorries_144 rfl ?_
          refine s_iload hC dX11_lorries_147 rfl 0 rfl ?_
          refine s_isub hC dX11_lorries_149 rfl ?_
          refine s_putf hC cs_X11 18 tw_1267 (le_b rfl) rfl rfl rfl (RepM.f_main hR_139) (le_b rfl) dX11_lorries_150 rfl ?_
          refine WP.rm (RepM.s_main_18 hR_139 _) (fun hR_150 => ?_)
          refine s_iload hC dX11_lorries_153 rfl 0 rfl ?_
          refine s_iret hC hr dX11_lorries_155 (le_b rfl) (le_b rfl) ?_
          rw [nx_lo]
          exact okM_ok (by simp [cd_lorries, hl9, hp9, hg9, hm9, c_1, c_6, c_7, c_8, c_9, c_10, c_11]) rfl (by rw [vl_lorries, hg9, Int32.mul_comm (iMin m9 _) 20]; exact iMin_c _ _) (RepM.cg (s' := lo3 σ (iMin σ.pit (20 * iMin m9 ((σ.pit + 19) / 20))) (5 * iMin m9 ((σ.pit + 19) / 20))) hR_150 rfl rfl rfl rfl (by intro k9; rcases k9 with a9 | i9 | i9 | i9 <;> first | rfl | (rcases a9 with _ | _ | _ | _ | _ | _ | _ | _ | _ | _ | _ | _ | _ | _ | _ | _ | _ | a9 <;> rfl))) rfl rfl rfl hgr
        · refine s_iconst hC (v := 1) dX11_lorries_103 rfl (by decide) ?_
          refine s_goto hC (tgt := 108) dX11_lorries_104 (by decide) ?_
          refine s_iconst hC (v := 3) dX11_lorries_108 rfl (by decide) ?_
          refine s_callV hC (ct_X11_fails_t l g _ _ _ _ hR_1 (by first | rfl | exact hth) _ (by decide)) ce_X11_fails cs_X11 (RepM.f_main hR_1) tw_1422 rfl rfl ⟨⟨le_b rfl, le_b rfl⟩, le_b rfl, le_b rfl⟩ (le_b rfl) dX11_lorries_109 rfl (dvk1 ?_) nokx
          refine WP.rm (RepM.s_main_0 hR_1 _) (fun hR_109 => ?_)
          refine z_if_eq hC (tgt := 117) dX11_lorries_112 rfl (by decide) (fun c_12 => ((absurd c_12 (by decide) : False)).elim) (fun c_12 => ?_)
          refine s_iconst hC (v := (-1)) dX11_lorries_115 rfl (by decide) ?_
          refine s_iret hC hr dX11_lorries_116 (le_b rfl) (le_b rfl) ?_
          exact okM_no 3 (by simp [cd_lorries, hl9, hp9, hg9, hm9, c_1, c_6, c_7, c_8, c_9, c_10, c_12]) (by decide) (by rfl) hR_109 rfl rfl hgr
      · refine s_iconst hC (v := 1) dX11_lorries_51 rfl (by decide) ?_
        refine s_goto hC (tgt := 56) dX11_lorries_52 (by decide) ?_
        refine s_iconst hC (v := 1) dX11_lorries_56 rfl (by decide) ?_
        refine s_callV hC (ct_X11_fails_t l g _ _ _ _ hR_1 (by first | rfl | exact hth) _ (by decide)) ce_X11_fails cs_X11 (RepM.f_main hR_1) tw_1422 rfl rfl ⟨⟨le_b rfl, le_b rfl⟩, le_b rfl, le_b rfl⟩ (le_b rfl) dX11_lorries_57 rfl (dvk1 ?_) nokx
        refine WP.rm (RepM.s_main_0 hR_1 _) (fun hR_57 => ?_)
        refine z_if_ne hC (tgt := 72) dX11_lorries_60 rfl (by decide) (fun c_13 => ?_) (fun c_13 => ((absurd c_13 (by decide) : False)).elim)
        refine s_iconst hC (v := (-1)) dX11_lorries_72 rfl (by decide) ?_
        refine s_iret hC hr dX11_lorries_73 (le_b rfl) (le_b rfl) ?_
        first
          | exact okM_no 1 (by simp [cd_lorries, hl9, hp9, hg9, hm9, c_1, c_6, c_7, c_13]) (by decide) (by rfl) hR_57 rfl rfl hgr
          | exact okM_no 2 (by simp [cd_lorries, hl9, hp9, hg9, hm9, c_1, c_6, c_7, c_13]) (by decide) (by rfl) hR_57 rfl rfl hgr
    · refine s_iconst hC (v := 1) dX11_lorries_32 rfl (by decide) ?_
      refine s_goto hC (tgt := 37) dX11_lorries_33 (by decide) ?_
      refine s_istore_n hC (L' := [(2, _), (0, _), (1, _)]) dX11_lorries_37 rfl rfl (le_b rfl) rfl ?_
      refine s_aload_n hC dX11_lorries_38 rfl rfl 1 rfl ?_
      refine s_iload_n hC dX11_lorries_39 rfl rfl 2 rfl ?_
      refine s_i2l hC dX11_lorries_40 rfl rfl ?_
      refine s_lconst hC (v := 1) dX11_lorries_41 rfl (by decide) ?_
      refine s_ldc2 hC tw_1789 dX11_lorries_42 rfl ?_
      refine s_callS hC (ct_X11_in l g _ _ _ _) ce_X11_in tw_1419 rfl rfl ⟨⟨le_b rfl, le_b rfl⟩, le_b rfl, le_b rfl⟩ (le_b rfl) dX11_lorries_45 rfl (dvk1 ?_) nokx
      rw [inJ_inR m9 1 100 (by first | rfl | decide) (by first | rfl | decide)]
      refine z_if_neB hC (tgt := 55) dX11_lorries_48 rfl (by decide) (fun c_14 => ?_) (fun c_14 => ?_)
      · refine s_iconst hC (v := 0) dX11_lorries_55 rfl (by decide) ?_
        refine s_iconst hC (v := 1) dX11_lorries_56 rfl (by decide) ?_
        refine s_callV hC (ct_X11_fails_f l g _ _ _ _ hR_1 (by first | rfl | exact hth) _) ce_X11_fails cs_X11 (RepM.f_main hR_1) tw_1422 rfl rfl ⟨⟨le_b rfl, le_b rfl⟩, le_b rfl, le_b rfl⟩ (le_b rfl) dX11_lorries_57 rfl (dvk1 ?_) nokx
        refine z_if_ne hC (tgt := 72) dX11_lorries_60 rfl (by decide) (fun c_15 => ((absurd c_15 (by decide) : False)).elim) (fun c_15 => ?_)
        refine s_aload_n hC dX11_lorries_63 rfl rfl 1 rfl ?_
        refine s_iload_n hC dX11_lorries_64 rfl rfl 0 rfl ?_
        refine s_iconst hC (v := 2) dX11_lorries_65 rfl (by decide) ?_
        refine s_callV hC (ct_X11_fails_t l g _ _ _ _ hR_1 (by first | rfl | exact hth) _ (by decide)) ce_X11_fails cs_X11 (RepM.f_main hR_1) tw_1422 rfl rfl ⟨⟨le_b rfl, le_b rfl⟩, le_b rfl, le_b rfl⟩ (le_b rfl) dX11_lorries_66 rfl (dvk1 ?_) nokx
        refine WP.rm (RepM.s_main_0 hR_1 _) (fun hR_66 => ?_)
        refine z_if_eq hC (tgt := 74) dX11_lorries_69 rfl (by decide) (fun c_16 => ((absurd c_16 (by decide) : False)).elim) (fun c_16 => ?_)
        refine s_iconst hC (v := (-1)) dX11_lorries_72 rfl (by decide) ?_
        refine s_iret hC hr dX11_lorries_73 (le_b rfl) (le_b rfl) ?_
        first
          | exact okM_no 1 (by simp [cd_lorries, hl9, hp9, hg9, hm9, c_1, c_6, c_14, c_15, c_16]) (by decide) (by rfl) hR_66 rfl rfl hgr
          | exact okM_no 2 (by simp [cd_lorries, hl9, hp9, hg9, hm9, c_1, c_6, c_14, c_15, c_16]) (by decide) (by rfl) hR_66 rfl rfl hgr
      · refine s_iconst hC (v := 1) dX11_lorries_51 rfl (by decide) ?_
        refine s_goto hC (tgt := 56) dX11_lorries_52 (by decide) ?_
        refine s_iconst hC (v := 1) dX11_lorries_56 rfl (by decide) ?_
        refine s_callV hC (ct_X11_fails_t l g _ _ _ _ hR_1 (by first | rfl | exact hth) _ (by decide)) ce_X11_fails cs_X11 (RepM.f_main hR_1) tw_1422 rfl rfl ⟨⟨le_b rfl, le_b rfl⟩, le_b rfl, le_b rfl⟩ (le_b rfl) dX11_lorries_57 rfl (dvk1 ?_) nokx
        refine WP.rm (RepM.s_main_0 hR_1 _) (fun hR_57 => ?_)
        refine z_if_ne hC (tgt := 72) dX11_lorries_60 rfl (by decide) (fun c_17 => ?_) (fun c_17 => ((absurd c_17 (by decide) : False)).elim)
        refine s_iconst hC (v := (-1)) dX11_lorries_72 rfl (by decide) ?_
        refine s_iret hC hr dX11_lorries_73 (le_b rfl) (le_b rfl) ?_
        first
          | exact okM_no 1 (by simp [cd_lorries, hl9, hp9, hg9, hm9, c_1, c_6, c_14, c_17]) (by decide) (by rfl) hR_57 rfl rfl hgr
          | exact okM_no 2 (by simp [cd_lorries, hl9, hp9, hg9, hm9, c_1, c_6, c_14, c_17]) (by decide) (by rfl) hR_57 rfl rfl hgr
theorem stlF_cg {s s' : St} (hd : s'.depths = s.depths) (hr : s'.ring = s.ring) (p o : Int32) (n : Nat) : stlF s' p o n = stlF s p o n := by
  induction n with
  | zero => rfl
  | succ n ih => rw [stlF, stlF, ih, hr, skF, skF, hd]
theorem smF_cg {s s' : St} (hd : s'.depths = s.depths) (hr : s'.ring = s.ring) (hn : s'.n = s.n) (h : Hs) (b : Bool) : smF s' h b = smF s h b := by
  rw [smF, smF, hn, stlF_cg hd hr]
theorem upT_upT {α : Type} (f : Nat → α) (i : Nat) (a b : α) : upT (upT f i a) i b = upT f i b := by
  funext k
  by_cases h : k = i
  · rw [h, upT_s, upT_s]
  · rw [upT_n h, upT_n h, upT_n h]
theorem hIn_up {s s' : St} (hh : hIn s) {j : Nat} {v : Hs} (hn : s'.nh = s.nh) (hs : s'.hs = upT s.hs j v) (h1 : v.fr = (s.hs j).fr) (h2 : v.to = (s.hs j).to) (h3 : v.ofs = (s.hs j).ofs) : hIn s' := by
  intro i hi
  rw [hn] at hi
  obtain ⟨b, c, e, g1, g2, g3, g4, g5, g6⟩ := hh i hi
  refine ⟨b, c, e, g1, g2, g3, ?_⟩
  rw [hs]
  by_cases h : i = j
  · rw [h, upT_s, h1, h2, h3, ← h]
    exact ⟨g4, g5, g6⟩
  · rw [upT_n h]
    exact ⟨g4, g5, g6⟩
def lfm (s : St) (j : Nat) (v : Hs) : St := (s.w_mn (s.mn + 15)).w_hs (upT s.hs j v)
theorem lf2_t (s : St) (j : Nat) (a : Int32) : lf2 s j true a = ((s.w_hs (upT s.hs j ((s.hs j).w_ll ((s.hs j).ll + a)))).w_mn (s.mn + 15)).w_fl (s.fl + 15) := rfl
theorem lf2_f (s : St) (j : Nat) (a : Int32) : lf2 s j false a = ((s.w_hs (upT s.hs j ((s.hs j).w_lf ((s.hs j).lf + a)))).w_mn (s.mn + 15)).w_fl (s.fl + 15) := rfl
set_option maxHeartbeats 1000000 in
set_option maxRecDepth 100000 in
theorem ct_X11_lift (l : Launch) (g : Gl) (ω : Wd) (ad : Iy → Nat) (y : Ey) (σ : St) (hR : RepM g ad y σ ω) (r9 : Int32) (b9 : Bool) (a9 : Int32) (hgr : grOK σ y) (hk : kIn σ) (hrk : rkOK σ) (hn : nOK σ) (hd : dIn σ) (hh : hIn σ) : CT l g yX11_lift cX11_lift 4 (some .int) 5 113 0 0 [.ref (ad .main), .int r9, .int (bI b9), .int a9] ω (okM g ad (cd_lift σ r9 b9 a9) Value.int (vl_lift σ r9 b9 a9) (nx_lift σ r9 b9 a9) σ) (nox) := by
  refine CT.of (own := "BoringheadModel") rfl rfl (le_b rfl) rfl ?_
  intro p e s m args below meth c sz0 hC hr htab hin
  refine s_aload_n hC dX11_lift_0 rfl rfl 0 rfl ?_
  refine s_callV hC (ct_X11_begins l g _ _ _ _ hR) ce_X11_begins cs_X11 (RepM.f_main hR) tw_1324 rfl rfl ⟨⟨le_b rfl, le_b rfl⟩, le_b rfl, le_b rfl⟩ (le_b rfl) dX11_lift_1 rfl (dvk0 ?_) nokx
  refine WP.rm (RepM.s_main_0 hR 0) (fun hR_1 => ?_)
  refine s_aload_n hC dX11_lift_4 rfl rfl 0 rfl ?_
  refine s_iload_n hC dX11_lift_5 rfl rfl 1 rfl ?_
  refine s_callV hC (ct_X11_noHouse l g _ _ _ _ hR_1 rfl _) ce_X11_noHouse cs_X11 (RepM.f_main hR_1) tw_1741 rfl rfl ⟨⟨le_b rfl, le_b rfl⟩, le_b rfl, le_b rfl⟩ (le_b rfl) dX11_lift_6 rfl (fun r w h9 => ?_) nokx
  rcases h9 with ⟨c9, rfl, rfl⟩ | ⟨c9, rfl, rfl⟩
  · obtain ⟨j, rfl, hj⟩ := inL_of (Nat.lt_of_le_of_lt (RepM.b_house hR) (by decide)) c9
    have hcl : (nI j).toNatClampNeg = j := nI_clamp (by have := RepM.b_house hR; omega)
    refine z_if_ne hC (tgt := 62) dX11_lift_9 rfl (by decide) (fun c_1 => ((absurd c_1 (by decide) : False)).elim) (fun c_1 => ?_)
    refine s_aload_n hC dX11_lift_12 rfl rfl 0 rfl ?_
    refine s_iload_n hC dX11_lift_13 rfl rfl 3 rfl ?_
    refine s_i2l hC dX11_lift_14 rfl rfl ?_
    refine s_lconst hC (v := 1) dX11_lift_15 rfl (by decide) ?_
    refine s_ldc2 hC tw_1773 dX11_lift_16 rfl ?_
    refine s_callS hC (ct_X11_in l g _ _ _ _) ce_X11_in tw_1419 rfl rfl ⟨⟨le_b rfl, le_b rfl⟩, le_b rfl, le_b rfl⟩ (le_b rfl) dX11_lift_19 rfl (dvk1 ?_) nokx
    rw [inJ_inR a9 1 50 (by first | rfl | decide) (by first | rfl | decide)]
    refine z_if_neB hC (tgt := 29) dX11_lift_22 rfl (by decide) (fun c_2 => ?_) (fun c_2 => ?_)
    · refine s_iconst hC (v := 0) dX11_lift_29 rfl (by decide) ?_
      refine s_iconst hC (v := 2) dX11_lift_30 rfl (by decide) ?_
      refine s_callV hC (ct_X11_fails_f l g _ _ _ _ hR_1 (by first | rfl | exact hth) _) ce_X11_fails cs_X11 (RepM.f_main hR_1) tw_1422 rfl rfl ⟨⟨le_b rfl, le_b rfl⟩, le_b rfl, le_b rfl⟩ (le_b rfl) dX11_lift_31 rfl (dvk1 ?_) nokx
      refine z_if_ne hC (tgt := 62) dX11_lift_34 rfl (by decide) (fun c_3 => ((absurd c_3 (by decide) : False)).elim) (fun c_3 => ?_)
      refine s_aload_n hC dX11_lift_37 rfl rfl 0 rfl ?_
      refine s_aload_n hC dX11_lift_38 rfl rfl 0 rfl ?_
      refine s_getf hC cs_X11 19 tw_1268 (le_b rfl) (RepM.f_main hR_1) rfl dX11_lift_39 rfl ?_
      refine s_bipush hC (v := 15) dX11_lift_42 rfl (by decide) ?_
      refine s_iadd hC dX11_lift_44 rfl ?_
      refine s_ldcI hC tw_1588 dX11_lift_45 rfl ?_
      refine z_icmp_le hC (tgt := 54) dX11_lift_47 rfl (by decide) (fun c_4 => ?_) (fun c_4 => ?_)
      · refine s_iconst hC (v := 0) dX11_lift_54 rfl (by decide) ?_
        refine s_iconst hC (v := 3) dX11_lift_55 rfl (by decide) ?_
        refine s_callV hC (ct_X11_fails_f l g _ _ _ _ hR_1 (by first | rfl | exact hth) _) ce_X11_fails cs_X11 (RepM.f_main hR_1) tw_1422 rfl rfl ⟨⟨le_b rfl, le_b rfl⟩, le_b rfl, le_b rfl⟩ (le_b rfl) dX11_lift_56 rfl (dvk1 ?_) nokx
        refine z_if_eq hC (tgt := 64) dX11_lift_59 rfl (by decide) (fun c_5 => ?_) (fun c_5 => ((absurd c_5 (by decide) : False)).elim)
        refine s_aload_n hC dX11_lift_64 rfl rfl 0 rfl ?_
        refine s_dup hC dX11_lift_65 rfl rfl ?_
        refine s_getf hC cs_X11 19 tw_1268 (le_b rfl) (RepM.f_main hR_1) rfl dX11_lift_66 rfl ?_
        refine s_bipush hC (v := 15) dX11_lift_69 rfl (by decide) ?_
        refine s_iadd hC dX11_lift_71 rfl ?_
        refine s_putf hC cs_X11 19 tw_1268 (le_b rfl) rfl rfl rfl (RepM.f_main hR_1) (le_b rfl) dX11_lift_72 rfl ?_
        refine WP.rm (RepM.s_main_19 hR_1 _) (fun hR_72 => ?_)
        refine s_aload_n hC dX11_lift_75 rfl rfl 0 rfl ?_
        refine s_getf hC cs_X11 10 tw_1259 (le_b rfl) (RepM.f_main hR_72) rfl dX11_lift_76 rfl ?_
        refine s_iload_n hC dX11_lift_79 rfl rfl 1 rfl ?_
        refine s_callF hC (nA := 1) 3 (ct_Jx4a65c_get_915e3 l g _ _ _ _ _ (RepM.f_houses hR_72) _ _ (RepM.p_house hR_72 hj).2.1 (RepM.p_house hR_72 hj).2.2.1 _ _ (RepM.p_house hR_72 hj).2.2.2.1 hj (RepM.p_house hR_72 hj).2.2.2.2) rfl tw_288 tw_5 tw_286 tw_1610 (by decide +kernel) cs_Jx4a65c (RepM.f_houses hR_72) tw_1607 rfl rfl ⟨⟨le_b rfl, le_b rfl⟩, le_b rfl, le_b rfl⟩ (le_b rfl) dX11_lift_80 rfl (dvk1 ?_) nokx
        refine s_castI hC tw_1544 (RepM.f_house hR_72 hj) dX11_lift_85 rfl ?_
        refine s_iload_n hC dX11_lift_88 rfl rfl 2 rfl ?_
        refine z_if_eqB hC (tgt := 96) dX11_lift_89 rfl (by decide) (fun c_6 => ?_) (fun c_6 => ?_)
        · have hb_f : b9 = false := c_6
subst hb_f
          refine s_iconst hC (v := 3) dX11_lift_96 rfl (by decide) ?_
          refine s_dup2_11 hC dX11_lift_97 rfl rfl rfl ?_
          refine s_ialdK hC (Or.inl (RepM.f_house hR_72 hj)) (by first | exact vp_in_nI (by decide : 4 < 7) (by decide) | exact vp_in_nI (by decide : 3 < 7) (by decide)) dX11_lift_98 rfl ?_
          refine s_iload_n hC dX11_lift_99 rfl rfl 3 rfl ?_
          refine s_iadd hC dX11_lift_100 rfl ?_
          refine s_iast hC (RepM.f_house hR_72 hj) (by first | exact vp_in_nI (by decide : 4 < 7) (by decide) | exact vp_in_nI (by decide : 3 < 7) (by decide)) dX11_lift_101 rfl ?_
          refine WP.rm (RepM.h_3 hR_72 hj ((σ.hs j).lf + a9)) (fun hR_101 => ?_)
          have hh2 : hIn (lfm σ j ((σ.hs j).w_lf ((σ.hs j).lf + a9))) := hIn_up hh rfl rfl rfl rfl rfl
          refine s_aload_n hC dX11_lift_102 rfl rfl 0 rfl ?_
          refine s_iload_n hC dX11_lift_103 rfl rfl 1 rfl ?_
          refine s_iload_n hC dX11_lift_104 rfl rfl 2 rfl ?_
          refine s_callV hC (ct_X11_settled l g _ _ _ _ hR_101 hk hrk hn hd hh2 _ hj _) ce_X11_settled cs_X11 (RepM.f_main hR_101) tw_1745 rfl rfl ⟨⟨le_b rfl, le_b rfl⟩, le_b rfl, le_b rfl⟩ (le_b rfl) dX11_lift_105 rfl (dvk1 ?_) nokx
          refine s_iret hC hr dX11_lift_108 (le_b rfl) (le_b rfl) ?_
          have hcd : cd_lift σ (nI j) false a9 = 0 := by simp [cd_lift, c9, c9, hcl, c_1, c_2, c_3, c_4, c_5, c_6]
          refine okM_ok hcd rfl ?_ (RepM.cg (s' := nx_lift σ (nI j) false a9) hR_101 rfl rfl rfl rfl ?_) rfl rfl rfl hgr
          · rw [vl_lift, hcl, lf2_f]
            exact (smF_cg rfl rfl rfl _ _).trans (smF_cg (s := σ) rfl rfl rfl _ _).symm
          · rw [nx_lift, hcl, lf2_f]
            exact (by intro k9; rcases k9 with a9 | i9 | i9 | i9 <;> first | rfl | (rcases a9 with _ | _ | _ | _ | _ | _ | _ | _ | _ | _ | _ | _ | _ | _ | _ | _ | _ | a9 <;> rfl))
        · have hb_t : b9 = true := c_6
subst hb_t
          refine s_iconst hC (v := 4) dX11_lift_92 rfl (by decide) ?_
          refine s_goto hC (tgt := 97) dX11_lift_93 (by decide) ?_
          refine s_dup2_11 hC dX11_lift_97 rfl rfl rfl ?_
          refine s_ialdK hC (Or.inl (RepM.f_house hR_72 hj)) (by first | exact vp_in_nI (by decide : 4 < 7) (by decide) | exact vp_in_nI (by decide : 3 < 7) (by decide)) dX11_lift_98 rfl ?_
          refine s_iload_n hC dX11_lift_99 rfl rfl 3 rfl ?_
          refine s_iadd hC dX11_lift_100 rfl ?_
          refine s_iast hC (RepM.f_house hR_72 hj) (by first | exact vp_in_nI (by decide : 4 < 7) (by decide) | exact vp_in_nI (by decide : 3 < 7) (by decide)) dX11_lift_101 rfl ?_
          refine WP.rm (RepM.h_4 hR_72 hj ((σ.hs j).ll + a9)) (fun hR_101 => ?_)
          have hh2 : hIn (lfm σ j ((σ.hs j).w_ll ((σ.hs j).ll + a9))) := hIn_up hh rfl rfl rfl rfl rfl
          refine s_aload_n hC dX11_lift_102 rfl rfl 0 rfl ?_
          refine s_iload_n hC dX11_lift_103 rfl rfl 1 rfl ?_
          refine s_iload_n hC dX11_lift_104 rfl rfl 2 rfl ?_
          refine s_callV hC (ct_X11_settled l g _ _ _ _ hR_101 hk hrk hn hd hh2 _ hj _) ce_X11_settled cs_X11 (RepM.f_main hR_101) tw_1745 rfl rfl ⟨⟨le_b rfl, le_b rfl⟩, le_b rfl, le_b rfl⟩ (le_b rfl) dX11_lift_105 rfl (dvk1 ?_) nokx
          refine s_iret hC hr dX11_lift_108 (le_b rfl) (le_b rfl) ?_
          have hcd : cd_lift σ (nI j) true a9 = 0 := by simp [cd_lift, c9, c9, hcl, c_1, c_2, c_3, c_4, c_5, c_6]
          refine okM_ok hcd rfl ?_ (RepM.cg (s' := nx_lift σ (nI j) true a9) hR_101 rfl rfl rfl rfl ?_) rfl rfl rfl hgr
          · rw [vl_lift, hcl, lf2_t]
            exact (smF_cg rfl rfl rfl _ _).trans (smF_cg (s := σ) rfl rfl rfl _ _).symm
          · rw [nx_lift, hcl, lf2_t]
            exact (by intro k9; rcases k9 with a9 | i9 | i9 | i9 <;> first | rfl | (rcases a9 with _ | _ | _ | _ | _ | _ | _ | _ | _ | _ | _ | _ | _ | _ | _ | _ | _ | a9 <;> rfl))
      · refine s_iconst hC (v := 1) dX11_lift_50 rfl (by decide) ?_
        refine s_goto hC (tgt := 55) dX11_lift_51 (by decide) ?_
        refine s_iconst hC (v := 3) dX11_lift_55 rfl (by decide) ?_
        refine s_callV hC (ct_X11_fails_t l g _ _ _ _ hR_1 (by first | rfl | exact hth) _ (by decide)) ce_X11_fails cs_X11 (RepM.f_main hR_1) tw_1422 rfl rfl ⟨⟨le_b rfl, le_b rfl⟩, le_b rfl, le_b rfl⟩ (le_b rfl) dX11_lift_56 rfl (dvk1 ?_) nokx
        refine WP.rm (RepM.s_main_0 hR_1 _) (fun hR_56 => ?_)
        refine z_if_eq hC (tgt := 64) dX11_lift_59 rfl (by decide) (fun c_7 => ((absurd c_7 (by decide) : False)).elim) (fun c_7 => ?_)
        refine s_iconst hC (v := (-1)) dX11_lift_62 rfl (by decide) ?_
        refine s_iret hC hr dX11_lift_63 (le_b rfl) (le_b rfl) ?_
        exact okM_no 3 (by simp [cd_lift, c9, hcl, c_1, c_2, c_3, c_4, c_7]) (by decide) (by rfl) hR_56 rfl rfl hgr
    · refine s_iconst hC (v := 1) dX11_lift_25 rfl (by decide) ?_
      refine s_goto hC (tgt := 30) dX11_lift_26 (by decide) ?_
      refine s_iconst hC (v := 2) dX11_lift_30 rfl (by decide) ?_
      refine s_callV hC (ct_X11_fails_t l g _ _ _ _ hR_1 (by first | rfl | exact hth) _ (by decide)) ce_X11_fails cs_X11 (RepM.f_main hR_1) tw_1422 rfl rfl ⟨⟨le_b rfl, le_b rfl⟩, le_b rfl, le_b rfl⟩ (le_b rfl) dX11_lift_31 rfl (dvk1 ?_) nokx
      refine WP.rm (RepM.s_main_0 hR_1 _) (fun hR_31 => ?_)
      refine z_if_ne hC (tgt := 62) dX11_lift_34 rfl (by decide) (fun c_8 => ?_) (fun c_8 => ((absurd c_8 (by decide) : False)).elim)
      refine s_iconst hC (v := (-1)) dX11_lift_62 rfl (by decide) ?_
      refine s_iret hC hr dX11_lift_63 (le_b rfl) (le_b rfl) ?_
      exact okM_no 2 (by simp [cd_lift, c9, hcl, c_1, c_2, c_8]) (by decide) (by rfl) hR_31 rfl rfl hgr
  · refine WP.rm (RepM.s_main_0 hR_1 _) (fun hR_9 => ?_)
    refine z_if_ne hC (tgt := 62) dX11_lift_9 rfl (by decide) (fun c_9 => ?_) (fun c_9 => ((absurd c_9 (by decide) : False)).elim)
    refine s_iconst hC (v := (-1)) dX11_lift_62 rfl (by decide) ?_
    refine s_iret hC hr dX11_lift_63 (le_b rfl) (le_b rfl) ?_
    exact okM_no 1 (by simp [cd_lift, c9, c_9]) (by decide) (by rfl) hR_9 rfl rfl hgr
def rdm1 (s : St) (j : Nat) : St := s.w_hs (upT s.hs j ((s.hs j).w_wr true))
def rdm2 (s : St) (j : Nat) : St := (rdm1 s j).w_hs (upT (rdm1 s j).hs j (((rdm1 s j).hs j).w_re (iMax (smF (rdm1 s j) ((rdm1 s j).hs j) true) (smF (rdm1 s j) ((rdm1 s j).hs j) false))))
theorem rdm_eq (s : St) (j : Nat) : rdm2 s j = rd2 s j := by
  have h1 : (rdm1 s j).hs j = (s.hs j).w_wr true := upT_s _ _ _
  have hs : ∀ b, smF (rdm1 s j) ((s.hs j).w_wr true) b = smF s (s.hs j) b := fun b => (smF_cg rfl rfl rfl _ _).trans (by cases b <;> rfl)
  have h2 : (rd1 s j).hs j = (s.hs j).w_re (iMax (smF s (s.hs j) false) (smF s (s.hs j) true)) := upT_s _ _ _
  unfold rdm2 rd2
  rw [h1, h2, hs, hs, iMax_c]
  show s.w_hs (upT (upT s.hs j _) j _) = s.w_hs (upT (upT s.hs j _) j _)
  rw [upT_upT, upT_upT]
  rfl
theorem rdm_re (s : St) (j : Nat) : hsA ((rdm2 s j).hs j) 6 = ((rd2 s j).hs j).re := by rw [rdm_eq]; rfl
set_option maxHeartbeats 1000000 in
set_option maxRecDepth 100000 in
theorem ct_X11_read (l : Launch) (g : Gl) (ω : Wd) (ad : Iy → Nat) (y : Ey) (σ : St) (hR : RepM g ad y σ ω) (r9 : Int32) (hgr : grOK σ y) (hk : kIn σ) (hrk : rkOK σ) (hn : nOK σ) (hd : dIn σ) (hh : hIn σ) : CT l g yX11_read cX11_read 2 (some .int) 5 113 0 0 [.ref (ad .main), .int r9] ω (okM g ad (cd_read σ r9) Value.int (vl_read σ r9) (nx_read σ r9) σ) (nox) := by
  refine CT.of (own := "BoringheadModel") rfl rfl (le_b rfl) rfl ?_
  intro p e s m args below meth c sz0 hC hr htab hin
  refine s_aload_n hC dX11_read_0 rfl rfl 0 rfl ?_
  refine s_callV hC (ct_X11_begins l g _ _ _ _ hR) ce_X11_begins cs_X11 (RepM.f_main hR) tw_1324 rfl rfl ⟨⟨le_b rfl, le_b rfl⟩, le_b rfl, le_b rfl⟩ (le_b rfl) dX11_read_1 rfl (dvk0 ?_) nokx
  refine WP.rm (RepM.s_main_0 hR 0) (fun hR_1 => ?_)
  refine s_aload_n hC dX11_read_4 rfl rfl 0 rfl ?_
  refine s_iload_n hC dX11_read_5 rfl rfl 1 rfl ?_
  refine s_callV hC (ct_X11_noHouse l g _ _ _ _ hR_1 rfl _) ce_X11_noHouse cs_X11 (RepM.f_main hR_1) tw_1741 rfl rfl ⟨⟨le_b rfl, le_b rfl⟩, le_b rfl, le_b rfl⟩ (le_b rfl) dX11_read_6 rfl (fun r w h9 => ?_) nokx
  rcases h9 with ⟨c9, rfl, rfl⟩ | ⟨c9, rfl, rfl⟩
  · obtain ⟨j, rfl, hj⟩ := inL_of (Nat.lt_of_le_of_lt (RepM.b_house hR) (by decide)) c9
    have hcl : (nI j).toNatClampNeg = j := nI_clamp (by have := RepM.b_house hR; omega)
    refine z_if_eq hC (tgt := 14) dX11_read_9 rfl (by decide) (fun c_1 => ?_) (fun c_1 => ((absurd c_1 (by decide) : False)).elim)
    refine s_aload_n hC dX11_read_14 rfl rfl 0 rfl ?_
    refine s_getf hC cs_X11 10 tw_1259 (le_b rfl) (RepM.f_main hR_1) rfl dX11_read_15 rfl ?_
    refine s_iload_n hC dX11_read_18 rfl rfl 1 rfl ?_
    refine s_callF hC (nA := 1) 3 (ct_Jx4a65c_get_915e3 l g _ _ _ _ _ (RepM.f_houses hR_1) _ _ (RepM.p_house hR_1 hj).2.1 (RepM.p_house hR_1 hj).2.2.1 _ _ (RepM.p_house hR_1 hj).2.2.2.1 hj (RepM.p_house hR_1 hj).2.2.2.2) rfl tw_288 tw_5 tw_286 tw_1610 (by decide +kernel) cs_Jx4a65c (RepM.f_houses hR_1) tw_1607 rfl rfl ⟨⟨le_b rfl, le_b rfl⟩, le_b rfl, le_b rfl⟩ (le_b rfl) dX11_read_19 rfl (dvk1 ?_) nokx
    refine s_castI hC tw_1544 (RepM.f_house hR_1 hj) dX11_read_24 rfl ?_
    refine s_iconst hC (v := 5) dX11_read_27 rfl (by decide) ?_
    refine s_iconst hC (v := 1) dX11_read_28 rfl (by decide) ?_
    refine s_iast hC (RepM.f_house hR_1 hj) (vp_in_nI (by decide : 5 < 7) (by decide)) dX11_read_29 rfl ?_
    refine WP.rm (RepM.h_5 hR_1 hj (true)) (fun hR_29 => ?_)
    have hh2 : hIn (rdm1 σ j) := hIn_up hh rfl rfl rfl rfl rfl
    refine s_aload_n hC dX11_read_30 rfl rfl 0 rfl ?_
    refine s_getf hC cs_X11 10 tw_1259 (le_b rfl) (RepM.f_main hR_29) rfl dX11_read_31 rfl ?_
    refine s_iload_n hC dX11_read_34 rfl rfl 1 rfl ?_
    refine s_callF hC (nA := 1) 3 (ct_Jx4a65c_get_915e3 l g _ _ _ _ _ (RepM.f_houses hR_29) _ _ (RepM.p_house hR_29 hj).2.1 (RepM.p_house hR_29 hj).2.2.1 _ _ (RepM.p_house hR_29 hj).2.2.2.1 hj (RepM.p_house hR_29 hj).2.2.2.2) rfl tw_288 tw_5 tw_286 tw_1610 (by decide +kernel) cs_Jx4a65c (RepM.f_houses hR_29) tw_1607 rfl rfl ⟨⟨le_b rfl, le_b rfl⟩, le_b rfl, le_b rfl⟩ (le_b rfl) dX11_read_35 rfl (dvk1 ?_) nokx
    refine s_castI hC tw_1544 (RepM.f_house hR_29 hj) dX11_read_40 rfl ?_
    refine s_bipush hC (v := 6) dX11_read_43 rfl (by decide) ?_
    refine s_aload_n hC dX11_read_45 rfl rfl 0 rfl ?_
    refine s_iload_n hC dX11_read_46 rfl rfl 1 rfl ?_
    refine s_iconst hC (v := 1) dX11_read_47 rfl (by decide) ?_
    refine s_callV hC (ct_X11_settled l g _ _ _ _ hR_29 hk hrk hn hd hh2 _ hj true) ce_X11_settled cs_X11 (RepM.f_main hR_29) tw_1745 rfl rfl ⟨⟨le_b rfl, le_b rfl⟩, le_b rfl, le_b rfl⟩ (le_b rfl) dX11_read_48 rfl (dvk1 ?_) nokx
    refine s_aload_n hC dX11_read_51 rfl rfl 0 rfl ?_
    refine s_iload_n hC dX11_read_52 rfl rfl 1 rfl ?_
    refine s_iconst hC (v := 0) dX11_read_53 rfl (by decide) ?_
    refine s_callV hC (ct_X11_settled l g _ _ _ _ hR_29 hk hrk hn hd hh2 _ hj false) ce_X11_settled cs_X11 (RepM.f_main hR_29) tw_1745 rfl rfl ⟨⟨le_b rfl, le_b rfl⟩, le_b rfl, le_b rfl⟩ (le_b rfl) dX11_read_54 rfl (dvk1 ?_) nokx
    refine s_max hC tw_1546 ⟨le_b rfl, le_b rfl, le_b rfl, le_b rfl⟩ dX11_read_57 rfl ?_
    refine s_iast hC (RepM.f_house hR_29 hj) (vp_in_nI (by decide : 6 < 7) (by decide)) dX11_read_60 rfl ?_
    refine WP.rm (RepM.h_6 hR_29 hj (iMax (smF (rdm1 σ j) ((rdm1 σ j).hs j) true) (smF (rdm1 σ j) ((rdm1 σ j).hs j) false))) (fun hR_60 => ?_)
    refine s_aload_n hC dX11_read_61 rfl rfl 0 rfl ?_
    refine s_getf hC cs_X11 10 tw_1259 (le_b rfl) (RepM.f_main hR_60) rfl dX11_read_62 rfl ?_
    refine s_iload_n hC dX11_read_65 rfl rfl 1 rfl ?_
    refine s_callF hC (nA := 1) 3 (ct_Jx4a65c_get_915e3 l g _ _ _ _ _ (RepM.f_houses hR_60) _ _ (RepM.p_house hR_60 hj).2.1 (RepM.p_house hR_60 hj).2.2.1 _ _ (RepM.p_house hR_60 hj).2.2.2.1 hj (RepM.p_house hR_60 hj).2.2.2.2) rfl tw_288 tw_5 tw_286 tw_1610 (by decide +kernel) cs_Jx4a65c (RepM.f_houses hR_60) tw_1607 rfl rfl ⟨⟨le_b rfl, le_b rfl⟩, le_b rfl, le_b rfl⟩ (le_b rfl) dX11_read_66 rfl (dvk1 ?_) nokx
    refine s_castI hC tw_1544 (RepM.f_house hR_60 hj) dX11_read_71 rfl ?_
    refine s_bipush hC (v := 6) dX11_read_74 rfl (by decide) ?_
    refine s_ialdK hC (Or.inl (RepM.f_house hR_60 hj)) (vp_in_nI (by decide : 6 < 7) (by decide)) dX11_read_76 rfl ?_
    refine s_iret hC hr dX11_read_77 (le_b rfl) (le_b rfl) ?_
    have hcd : cd_read σ (nI j) = 0 := by simp [cd_read, c9]
    refine okM_ok hcd rfl ?_ hR_60 ?_ rfl rfl hgr
    · rw [vl_read, hcl]
      exact rdm_re σ j
    · rw [nx_read, hcl]
      exact rdm_eq σ j
  · refine WP.rm (RepM.s_main_0 hR_1 _) (fun hR_9 => ?_)
    refine z_if_eq hC (tgt := 14) dX11_read_9 rfl (by decide) (fun c_2 => ((absurd c_2 (by decide) : False)).elim) (fun c_2 => ?_)
    refine s_iconst hC (v := (-1)) dX11_read_12 rfl (by decide) ?_
    refine s_iret hC hr dX11_read_13 (le_b rfl) (le_b rfl) ?_
    exact okM_no 1 (by simp [cd_read, c9, c_2]) (by decide) (by rfl) hR_9 rfl rfl hgr
