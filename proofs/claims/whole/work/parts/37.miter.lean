theorem RepM.ofS {g : Gl} {ad : Iy → Nat} {y : Ey} {s s' : St} {w : Wd} (h : RepM g ad y s w) (e : s = s') : RepM g ad y s' w := by
  rw [← e]
  exact h
theorem iMax_nn (x : Int32) : 0 ≤ iMax x 0 := by
  unfold iMax
  split
  · exact Int32.le_refl 0
  · rename_i h
    exact Int32.not_lt.mp h
theorem evF_nn (s : St) (p : Int32) : 0 ≤ evF s p := iMax_nn _
theorem evt_eq {s : St} {j : Nat} (h : (s.ring j).mo = evF s (nI j)) : evtF (s.ring j) = decide (¬ evF s (nI j) = 0) := by
  simp only [evtF, h, le00 (evF_nn s (nI j))]
theorem grOK_up {s : St} {y : Ey} {j : Nat} {v : Rg} (hg : grOK s y) (h1 : v.fi = (s.ring j).fi) (h2 : v.ff = (s.ring j).ff) : grOK (s.w_ring (upT s.ring j v)) y := by
  intro i hi
  rw [show (s.w_ring (upT s.ring j v)).n = s.n from by simp only [St.kinds, St.refs, St.depths, St.waters, St.bR, St.bU, St.wears, St.order, St.waits, St.hR, St.hU, St.oR, St.oU, St.press, St.foam, St.pR, St.pU, St.seg, St.pit, St.away, St.mn, St.fc, St.fl, St.fo, St.n, St.ring, St.nh, St.hs, St.nb, St.bo, St.w_kinds, St.w_refs, St.w_depths, St.w_waters, St.w_bR, St.w_bU, St.w_wears, St.w_order, St.w_waits, St.w_hR, St.w_hU, St.w_oR, St.w_oU, St.w_press, St.w_foam, St.w_pR, St.w_pU, St.w_seg, St.w_pit, St.w_away, St.w_mn, St.w_fc, St.w_fl, St.w_fo, St.w_n, St.w_ring, St.w_nh, St.w_hs, St.w_nb, St.w_bo, St.w_course, St.a_ring, St.a_house, St.a_bore]] at hi
  rw [show (s.w_ring (upT s.ring j v)).ring = upT s.ring j v from by simp only [St.kinds, St.refs, St.depths, St.waters, St.bR, St.bU, St.wears, St.order, St.waits, St.hR, St.hU, St.oR, St.oU, St.press, St.foam, St.pR, St.pU, St.seg, St.pit, St.away, St.mn, St.fc, St.fl, St.fo, St.n, St.ring, St.nh, St.hs, St.nb, St.bo, St.w_kinds, St.w_refs, St.w_depths, St.w_waters, St.w_bR, St.w_bU, St.w_wears, St.w_order, St.w_waits, St.w_hR, St.w_hU, St.w_oR, St.w_oU, St.w_press, St.w_foam, St.w_pR, St.w_pU, St.w_seg, St.w_pit, St.w_away, St.w_mn, St.w_fc, St.w_fl, St.w_fo, St.w_n, St.w_ring, St.w_nh, St.w_hs, St.w_nb, St.w_bo, St.w_course, St.a_ring, St.a_house, St.a_bore]]
  by_cases h : i = j
  · rw [h, upT_s, h1, h2]
    exact hg j (h ▸ hi)
  · rw [upT_n h]
    exact hg i hi
theorem nt1_ring (s : St) (j : Nat) : (nt1 s j).ring = upT s.ring j ((s.ring j).w_no true) := by simp only [nt1, St.kinds, St.refs, St.depths, St.waters, St.bR, St.bU, St.wears, St.order, St.waits, St.hR, St.hU, St.oR, St.oU, St.press, St.foam, St.pR, St.pU, St.seg, St.pit, St.away, St.mn, St.fc, St.fl, St.fo, St.n, St.ring, St.nh, St.hs, St.nb, St.bo, St.w_kinds, St.w_refs, St.w_depths, St.w_waters, St.w_bR, St.w_bU, St.w_wears, St.w_order, St.w_waits, St.w_hR, St.w_hU, St.w_oR, St.w_oU, St.w_press, St.w_foam, St.w_pR, St.w_pU, St.w_seg, St.w_pit, St.w_away, St.w_mn, St.w_fc, St.w_fl, St.w_fo, St.w_n, St.w_ring, St.w_nh, St.w_hs, St.w_nb, St.w_bo, St.w_course, St.a_ring, St.a_house, St.a_bore]
theorem nt_gr {s : St} {y : Ey} {j : Nat} (hg : grOK s y) : grOK (nt2 s j) (y.w_th 0) := by
  have h1 : grOK (nt1 s j) (y.w_th 0) := grOK_cg (y := y) (grOK_up (j := j) (v := (s.ring j).w_no true) hg (by simp only [Rg.turn, Rg.kind, Rg.pR, Rg.pU, Rg.fo, Rg.oR, Rg.oU, Rg.mi, Rg.en, Rg.mo, Rg.no, Rg.it, Rg.fi, Rg.ff, Rg.w_turn, Rg.w_kind, Rg.w_pR, Rg.w_pU, Rg.w_fo, Rg.w_oR, Rg.w_oU, Rg.w_mi, Rg.w_en, Rg.w_mo, Rg.w_no, Rg.w_it, Rg.w_fi, Rg.w_ff]) (by simp only [Rg.turn, Rg.kind, Rg.pR, Rg.pU, Rg.fo, Rg.oR, Rg.oU, Rg.mi, Rg.en, Rg.mo, Rg.no, Rg.it, Rg.fi, Rg.ff, Rg.w_turn, Rg.w_kind, Rg.w_pR, Rg.w_pU, Rg.w_fo, Rg.w_oR, Rg.w_oU, Rg.w_mi, Rg.w_en, Rg.w_mo, Rg.w_no, Rg.w_it, Rg.w_fi, Rg.w_ff])) (by simp only [nt1]) (by simp only [nt1]) rfl
  unfold nt2
  exact grOK_up (j := j) h1 (by simp only [Rg.turn, Rg.kind, Rg.pR, Rg.pU, Rg.fo, Rg.oR, Rg.oU, Rg.mi, Rg.en, Rg.mo, Rg.no, Rg.it, Rg.fi, Rg.ff, Rg.w_turn, Rg.w_kind, Rg.w_pR, Rg.w_pU, Rg.w_fo, Rg.w_oR, Rg.w_oU, Rg.w_mi, Rg.w_en, Rg.w_mo, Rg.w_no, Rg.w_it, Rg.w_fi, Rg.w_ff]) (by simp only [Rg.turn, Rg.kind, Rg.pR, Rg.pU, Rg.fo, Rg.oR, Rg.oU, Rg.mi, Rg.en, Rg.mo, Rg.no, Rg.it, Rg.fi, Rg.ff, Rg.w_turn, Rg.w_kind, Rg.w_pR, Rg.w_pU, Rg.w_fo, Rg.w_oR, Rg.w_oU, Rg.w_mi, Rg.w_en, Rg.w_mo, Rg.w_no, Rg.w_it, Rg.w_fi, Rg.w_ff])
set_option maxHeartbeats 1000000 in
set_option maxRecDepth 100000 in
theorem ct_X11_notice (l : Launch) (g : Gl) (ω : Wd) (ad : Iy → Nat) (y : Ey) (σ : St) (hR : RepM g ad y σ ω) (r9 : Int32) (hgr : grOK σ y) (hk : kIn σ) (hr9 : rIn σ) (hn : nOK σ) (hs : snd3 σ) : CT l g yX11_notice cX11_notice 3 (some .boolean) 3 67 0 0 [.ref (ad .main), .int r9] ω (okM g ad (cd_notice σ r9) (fun b : Bool => Value.int (bI b)) (vl_notice σ r9) (nx_notice σ r9) σ) (nox) := by
  have hn120 : σ.n ≤ 120 := hn
  refine CT.of (own := "BoringheadModel") rfl rfl (le_b rfl) rfl ?_
  intro p e s m args below meth c sz0 hC hr htab hin
  refine s_aload_n hC dX11_notice_0 rfl rfl 0 rfl ?_
  refine s_callV hC (ct_X11_begins l g _ _ _ _ hR) ce_X11_begins cs_X11 (RepM.f_main hR) tw_1324 rfl rfl ⟨⟨le_b rfl, le_b rfl⟩, le_b rfl, le_b rfl⟩ (le_b rfl) dX11_notice_1 rfl (dvk0 ?_) nokx
  refine WP.rm (RepM.s_main_0 hR 0) (fun hR_1 => ?_)
  refine s_aload_n hC dX11_notice_4 rfl rfl 0 rfl ?_
  refine s_iload_n hC dX11_notice_5 rfl rfl 1 rfl ?_
  refine s_callV hC (ct_X11_noRing l g _ _ _ _ hR_1 rfl _) ce_X11_noRing cs_X11 (RepM.f_main hR_1) tw_1675 rfl rfl ⟨⟨le_b rfl, le_b rfl⟩, le_b rfl, le_b rfl⟩ (le_b rfl) dX11_notice_6 rfl (fun r w h9 => ?_) nokx
  rcases h9 with ⟨c9, rfl, rfl⟩ | ⟨c9, rfl, rfl⟩
  · obtain ⟨j, rfl, hj⟩ := inL_of (Nat.lt_of_le_of_lt (RepM.b_ring hR) (by decide)) c9
    have hcl : (nI j).toNatClampNeg = j := nI_clamp (by have := RepM.b_ring hR; omega)
    refine z_if_ne hC (tgt := 52) dX11_notice_9 rfl (by decide) (fun c_1 => ((absurd c_1 (by decide) : False)).elim) (fun c_1 => ?_)
    have hev := evt_eq (hs j hj)
    refine s_aload_n hC dX11_notice_12 rfl rfl 0 rfl ?_
    refine s_aload_n hC dX11_notice_13 rfl rfl 0 rfl ?_
    refine s_iload_n hC dX11_notice_14 rfl rfl 1 rfl ?_
    refine s_callV hC (ct_X11_event l g _ _ _ _ hR_1 hk hr9 _ (by omega)) ce_X11_event cs_X11 (RepM.f_main hR_1) tw_2045 rfl rfl ⟨⟨le_b rfl, le_b rfl⟩, le_b rfl, le_b rfl⟩ (le_b rfl) dX11_notice_15 rfl (dvk1 ?_) nokx
    refine z_if_eq hC (tgt := 40) dX11_notice_18 rfl (by decide) (fun c_2 => ?_) (fun c_2 => ?_)
    · refine s_iconst hC (v := 1) dX11_notice_40 rfl (by decide) ?_
      refine s_goto hC (tgt := 45) dX11_notice_41 (by decide) ?_
      refine s_iconst hC (v := 2) dX11_notice_45 rfl (by decide) ?_
      refine s_callV hC (ct_X11_fails_t l g _ _ _ _ hR_1 (by first | rfl | exact hth) _ (by decide)) ce_X11_fails cs_X11 (RepM.f_main hR_1) tw_1422 rfl rfl ⟨⟨le_b rfl, le_b rfl⟩, le_b rfl, le_b rfl⟩ (le_b rfl) dX11_notice_46 rfl (dvk1 ?_) nokx
      refine WP.rm (RepM.s_main_0 hR_1 _) (fun hR_46 => ?_)
      refine z_if_eq hC (tgt := 54) dX11_notice_49 rfl (by decide) (fun c_3 => ((absurd c_3 (by decide) : False)).elim) (fun c_3 => ?_)
      refine s_iconst hC (v := 0) dX11_notice_52 rfl (by decide) ?_
      refine s_zret hC hr dX11_notice_53 rfl (le_b rfl) (le_b rfl) ?_
      exact okM_no (b := false) 2 (by simp [cd_notice, hev, c9, hcl, c_1, c_2, c_3]) (by decide) (by rfl) hR_46 rfl rfl hgr
    · refine s_aload_n hC dX11_notice_21 rfl rfl 0 rfl ?_
      refine s_getf hC cs_X11 8 tw_1257 (le_b rfl) (RepM.f_main hR_1) rfl dX11_notice_22 rfl ?_
      refine s_iload_n hC dX11_notice_25 rfl rfl 1 rfl ?_
      refine s_callF hC (nA := 1) 3 (ct_Jx4a65c_get_915e3 l g _ _ _ _ _ (RepM.f_rings hR_1) _ _ (RepM.p_ring hR_1 hj).2.1 (RepM.p_ring hR_1 hj).2.2.1 _ _ (RepM.p_ring hR_1 hj).2.2.2.1 hj (RepM.p_ring hR_1 hj).2.2.2.2) rfl tw_288 tw_5 tw_286 tw_1610 (by decide +kernel) cs_Jx4a65c (RepM.f_rings hR_1) tw_1607 rfl rfl ⟨⟨le_b rfl, le_b rfl⟩, le_b rfl, le_b rfl⟩ (le_b rfl) dX11_notice_26 rfl (dvk1 ?_) nokx
      refine s_cast hC cs_X10 tw_1613 (RepM.f_ring hR_1 hj) dX11_notice_31 rfl ?_
      refine s_getfN hC cs_X10 7 tw_1646 (le_b rfl) (RepM.f_ring hR_1 hj) rfl dX11_notice_34 rfl ?_
      refine z_if_eqB hC (tgt := 44) dX11_notice_37 rfl (by decide) (fun c_4 => ?_) (fun c_4 => ?_)
      · refine s_iconst hC (v := 0) dX11_notice_44 rfl (by decide) ?_
        refine s_iconst hC (v := 2) dX11_notice_45 rfl (by decide) ?_
        refine s_callV hC (ct_X11_fails_f l g _ _ _ _ hR_1 (by first | rfl | exact hth) _) ce_X11_fails cs_X11 (RepM.f_main hR_1) tw_1422 rfl rfl ⟨⟨le_b rfl, le_b rfl⟩, le_b rfl, le_b rfl⟩ (le_b rfl) dX11_notice_46 rfl (dvk1 ?_) nokx
        refine z_if_eq hC (tgt := 54) dX11_notice_49 rfl (by decide) (fun c_5 => ?_) (fun c_5 => ((absurd c_5 (by decide) : False)).elim)
        refine s_aload_n hC dX11_notice_54 rfl rfl 0 rfl ?_
        refine s_getf hC cs_X11 8 tw_1257 (le_b rfl) (RepM.f_main hR_1) rfl dX11_notice_55 rfl ?_
        refine s_iload_n hC dX11_notice_58 rfl rfl 1 rfl ?_
        refine s_callF hC (nA := 1) 3 (ct_Jx4a65c_get_915e3 l g _ _ _ _ _ (RepM.f_rings hR_1) _ _ (RepM.p_ring hR_1 hj).2.1 (RepM.p_ring hR_1 hj).2.2.1 _ _ (RepM.p_ring hR_1 hj).2.2.2.1 hj (RepM.p_ring hR_1 hj).2.2.2.2) rfl tw_288 tw_5 tw_286 tw_1610 (by decide +kernel) cs_Jx4a65c (RepM.f_rings hR_1) tw_1607 rfl rfl ⟨⟨le_b rfl, le_b rfl⟩, le_b rfl, le_b rfl⟩ (le_b rfl) dX11_notice_59 rfl (dvk1 ?_) nokx
        refine s_cast hC cs_X10 tw_1613 (RepM.f_ring hR_1 hj) dX11_notice_64 rfl ?_
        refine s_astore_n hC (L' := [(2, _), (0, _), (1, _)]) dX11_notice_67 rfl rfl (le_b rfl) rfl ?_
        refine s_aload_n hC dX11_notice_68 rfl rfl 0 rfl ?_
        refine s_iconst hC (v := 1) dX11_notice_69 rfl (by decide) ?_
        refine s_putfN hC cs_X10 7 tw_1646 (le_b rfl) rfl (by first | rfl | exact bI_nz _) (by first | rfl | exact bI_ft _) (RepM.f_ring hR_1 hj) (le_b rfl) dX11_notice_70 rfl ?_
        refine WP.rm (RepM.s_ring_7 hR_1 hj true) (fun hR_70 => ?_)
        refine s_aload_n hC dX11_notice_73 rfl rfl 0 rfl ?_
        refine s_aload_n hC dX11_notice_74 rfl rfl 1 rfl ?_
        refine s_getf hC cs_X11 19 tw_1268 (le_b rfl) (RepM.f_main hR_70) rfl dX11_notice_75 rfl ?_
        refine s_aload_n hC dX11_notice_78 rfl rfl 0 rfl ?_
        refine s_getfN hC cs_X10 4 tw_1642 (le_b rfl) (RepM.f_ring hR_70 hj) rfl dX11_notice_79 rfl ?_
        refine s_isub hC dX11_notice_82 rfl ?_
        refine s_sipush hC (v := 4320) dX11_notice_83 rfl (by decide) ?_
        refine z_icmp_gt hC (tgt := 93) dX11_notice_86 rfl (by decide) (fun c_6 => ?_) (fun c_6 => ?_)
        · refine s_iconst hC (v := 0) dX11_notice_93 rfl (by decide) ?_
          refine s_putfN hC cs_X10 8 tw_1647 (le_b rfl) rfl (by first | rfl | exact bI_nz _) (by first | rfl | exact bI_ft _) (RepM.f_ring hR_70 hj) (le_b rfl) dX11_notice_94 rfl ?_
          refine WP.rm (RepM.s_ring_8 hR_70 hj false) (fun hR_94 => ?_)
          refine s_aload_n hC dX11_notice_97 rfl rfl 0 rfl ?_
          refine s_getfN hC cs_X10 8 tw_1647 (le_b rfl) (RepM.f_ring hR_94 hj) rfl dX11_notice_98 rfl ?_
          refine s_zret hC hr dX11_notice_101 (bI_nz _) (le_b rfl) (le_b rfl) ?_
          have hcd : cd_notice σ (nI j) = 0 := by simp [cd_notice, hev, c9, hcl, c_1, c_2, c_4, c_5, c_6]
          have hz : decide ((nt1 σ j).mn - ((nt1 σ j).ring j).en ≤ 4320) = false := decide_eq_false c_6
          have hRy := RepM.ofS (s' := nt2 σ j) hR_94 (by rw [nt2, hz]; rfl)
          have hx : nt2 σ j = nx_notice σ (nI j) := by rw [nx_notice, hcl]
          have hv : ((nt2 σ j).ring j).it = vl_notice σ (nI j) := by rw [vl_notice, hcl]
          have hq : (St.ring ((nt1 σ j).w_ring (upT (nt1 σ j).ring j (((nt1 σ j).ring j).w_it false))) j).it = ((nt2 σ j).ring j).it := by rw [nt2, hz]
          exact okM_ok (K := fun b : Bool => Value.int (bI b)) (b := ((nt2 σ j).ring j).it) hcd (congrArg (fun b => some (Value.int (bI b))) hq) hv hRy hx rfl rfl (nt_gr hgr)
        · refine s_iconst hC (v := 1) dX11_notice_89 rfl (by decide) ?_
          refine s_goto hC (tgt := 94) dX11_notice_90 (by decide) ?_
          refine s_putfN hC cs_X10 8 tw_1647 (le_b rfl) rfl (by first | rfl | exact bI_nz _) (by first | rfl | exact bI_ft _) (RepM.f_ring hR_70 hj) (le_b rfl) dX11_notice_94 rfl ?_
          refine WP.rm (RepM.s_ring_8 hR_70 hj true) (fun hR_94 => ?_)
          refine s_aload_n hC dX11_notice_97 rfl rfl 0 rfl ?_
          refine s_getfN hC cs_X10 8 tw_1647 (le_b rfl) (RepM.f_ring hR_94 hj) rfl dX11_notice_98 rfl ?_
          refine s_zret hC hr dX11_notice_101 (bI_nz _) (le_b rfl) (le_b rfl) ?_
          have hcd : cd_notice σ (nI j) = 0 := by simp [cd_notice, hev, c9, hcl, c_1, c_2, c_4, c_5, c_6]
          have hz : decide ((nt1 σ j).mn - ((nt1 σ j).ring j).en ≤ 4320) = true := decide_eq_true c_6
          have hRy := RepM.ofS (s' := nt2 σ j) hR_94 (by rw [nt2, hz]; rfl)
          have hx : nt2 σ j = nx_notice σ (nI j) := by rw [nx_notice, hcl]
          have hv : ((nt2 σ j).ring j).it = vl_notice σ (nI j) := by rw [vl_notice, hcl]
          have hq : (St.ring ((nt1 σ j).w_ring (upT (nt1 σ j).ring j (((nt1 σ j).ring j).w_it true))) j).it = ((nt2 σ j).ring j).it := by rw [nt2, hz]
          exact okM_ok (K := fun b : Bool => Value.int (bI b)) (b := ((nt2 σ j).ring j).it) hcd (congrArg (fun b => some (Value.int (bI b))) hq) hv hRy hx rfl rfl (nt_gr hgr)
      · refine s_iconst hC (v := 1) dX11_notice_40 rfl (by decide) ?_
        refine s_goto hC (tgt := 45) dX11_notice_41 (by decide) ?_
        refine s_iconst hC (v := 2) dX11_notice_45 rfl (by decide) ?_
        refine s_callV hC (ct_X11_fails_t l g _ _ _ _ hR_1 (by first | rfl | exact hth) _ (by decide)) ce_X11_fails cs_X11 (RepM.f_main hR_1) tw_1422 rfl rfl ⟨⟨le_b rfl, le_b rfl⟩, le_b rfl, le_b rfl⟩ (le_b rfl) dX11_notice_46 rfl (dvk1 ?_) nokx
        refine WP.rm (RepM.s_main_0 hR_1 _) (fun hR_46 => ?_)
        refine z_if_eq hC (tgt := 54) dX11_notice_49 rfl (by decide) (fun c_7 => ((absurd c_7 (by decide) : False)).elim) (fun c_7 => ?_)
        refine s_iconst hC (v := 0) dX11_notice_52 rfl (by decide) ?_
        refine s_zret hC hr dX11_notice_53 rfl (le_b rfl) (le_b rfl) ?_
        exact okM_no (b := false) 2 (by simp [cd_notice, hev, c9, hcl, c_1, c_2, c_4, c_7]) (by decide) (by rfl) hR_46 rfl rfl hgr
  · refine WP.rm (RepM.s_main_0 hR_1 _) (fun hR_9 => ?_)
    refine z_if_ne hC (tgt := 52) dX11_notice_9 rfl (by decide) (fun c_8 => ?_) (fun c_8 => ((absurd c_8 (by decide) : False)).elim)
    refine s_iconst hC (v := 0) dX11_notice_52 rfl (by decide) ?_
    refine s_zret hC hr dX11_notice_53 rfl (le_b rfl) (le_b rfl) ?_
    exact okM_no (b := false) 1 (by simp [cd_notice, c9, c_8]) (by decide) (by rfl) hR_9 rfl rfl hgr
set_option maxHeartbeats 1000000 in
set_option maxRecDepth 100000 in
theorem ct_X11_offRings (l : Launch) (g : Gl) (ω : Wd) (ad : Iy → Nat) (y : Ey) (σ : St) (hR : RepM g ad y σ ω) (hgr : grOK σ y) : CT l g yX11_offRings cX11_offRings 4 (some .int) 3 61 1 4 [.ref (ad .main)] ω (okM g ad 0 Value.int (vl_offRings σ) σ σ) (nox) := by
  refine CT.of (own := "BoringheadModel") rfl rfl (le_b rfl) rfl ?_
  intro p e s m args below meth c sz0 hC hr htab hin
  refine s_aload_n hC dX11_offRings_0 rfl rfl 0 rfl ?_
  refine s_callV hC (ct_X11_begins l g _ _ _ _ hR) ce_X11_begins cs_X11 (RepM.f_main hR) tw_1324 rfl rfl ⟨⟨le_b rfl, le_b rfl⟩, le_b rfl, le_b rfl⟩ (le_b rfl) dX11_offRings_1 rfl (dvk0 ?_) nokx
  refine WP.rm (RepM.s_main_0 hR 0) (fun hR_1 => ?_)
  refine s_iconst hC (v := 0) dX11_offRings_4 rfl (by decide) ?_
  refine s_istore_n hC (L' := [(1, _), (0, _)]) dX11_offRings_5 rfl rfl (le_b rfl) rfl ?_
  refine s_aload_n hC dX11_offRings_6 rfl rfl 1 rfl ?_
  refine s_getf hC cs_X11 8 tw_1257 (le_b rfl) (RepM.f_main hR_1) rfl dX11_offRings_7 rfl ?_
  refine s_callF hC (nA := 0) 2 (ct_Jx4a65c_iterator_32c93 l g _ _ _ _ _ (RepM.f_rings hR_1)) rfl tw_1501 tw_5 tw_1499 tw_1497 (by decide +kernel) cs_Jx4a65c (RepM.f_rings hR_1) tw_1494 rfl rfl ⟨⟨le_b rfl, le_b rfl⟩, le_b rfl, le_b rfl⟩ (le_b rfl) dX11_offRings_10 rfl (fun r w h9 => ?_) nokx
  obtain ⟨q, rfl, hq9, rfl⟩ := h9
  have hnq := RepM.ne hR_1 hq9
  refine s_astore_n hC (L' := [(2, _), (1, _), (0, _)]) dX11_offRings_15 rfl rfl (le_b rfl) rfl ?_
  refine WP.sub (L' := [(0, _), (1, _), (2, _)]) [2, 1, 0] rfl ?_
  refine wp_loop (σ := Int32 × Int32 × Wd × Nat) (I := fun (sm, lr, W, j) => j ≤ σ.n ∧ sm = orF σ j ∧ W = wup (wup ω (ad .main) (.inr (16, (mnL ad y σ).set 0 (.int 0)))) q (itE (nI j) lr (y.w_th 0).mB (ad .rings))) (ωf := fun (sm, lr, W, j) => W) (Lf := fun (sm, lr, W, j) => [(0, .ref (ad .main)), (1, .int sm), (2, .ref q)]) (μ := fun (sm, lr, W, j) => σ.n - j) (x0 := (_, (-1), _, 0)) ?_ ?_
  · exact ⟨Nat.zero_le _, rfl, by rw [nI_0]⟩
  · rintro ⟨sm, lr, W, j⟩ hI ih
    dsimp only at hI ih ⊢
    obtain ⟨hj, rfl, rfl⟩ := hI
    have hW := RepM.by hR_1 hnq (itE (nI j) lr (y.w_th 0).mB (ad .rings))
    refine s_aload_n hC dX11_offRings_16 rfl rfl 2 rfl ?_
    refine s_callF hC (nA := 0) 5 (ct_Jx35411_hasNext_aae02 l g _ _ _ _ _ _ _ _ (wup_s _ _ _) (RepM.f_rings hW) (RepM.b_ring hR_1) hj) rfl tw_1530 tw_29 tw_1528 tw_1526 (by decide +kernel) cs_Jx35411 (wup_s _ _ _) tw_1522 rfl rfl ⟨⟨le_b rfl, le_b rfl⟩, le_b rfl, le_b rfl⟩ (le_b rfl) dX11_offRings_17 rfl (dvk1 ?_) nokx
    refine z_if_eqB hC (tgt := 70) dX11_offRings_22 rfl (by decide) (fun c_1 => ?_) (fun c_1 => ?_)
    · obtain rfl : j = σ.n := by
        have h9 := of_decide_eq_false c_1
        omega
      refine s_iload_n hC dX11_offRings_70 rfl rfl 1 rfl ?_
      refine s_iret hC hr dX11_offRings_71 (le_b rfl) (le_b rfl) ?_
      exact okM_ok (rfl) rfl (by first | (simp [vl_offRings, c_1]; done) | rfl) hW rfl rfl rfl hgr
    · refine s_aload_n hC dX11_offRings_25 rfl rfl 2 rfl ?_
      refine s_callF hC (nA := 0) 6 (ct_Jx35411_next_0502b l g _ _ _ _ _ _ _ _ (wup_s _ _ _) (RepM.f_rings hW) (RepM.b_ring hR_1) (of_decide_eq_true c_1) _ _ _ (RepM.p_ring hW (of_decide_eq_true c_1)).2.1 (RepM.p_ring hW (of_decide_eq_true c_1)).2.2.1 (RepM.p_ring hW (of_decide_eq_true c_1)).2.2.2.1 (RepM.p_ring hW (of_decide_eq_true c_1)).2.2.2.2) rfl tw_1539 tw_29 tw_1537 tw_1535 (by decide +kernel) cs_Jx35411 (wup_s _ _ _) tw_1532 rfl rfl ⟨⟨le_b rfl, le_b rfl⟩, le_b rfl, le_b rfl⟩ (le_b rfl) dX11_offRings_26 rfl (dvk1 ?_) nokx
      rw [wup_wup]
      have hjn := of_decide_eq_true c_1
      have hW2 := RepM.by hR_1 hnq (itE (nI (j + 1)) (nI j) (y.w_th 0).mB (ad .rings))
      refine s_cast hC cs_X10 tw_1613 (RepM.f_ring hW2 hjn) dX11_offRings_31 rfl ?_
      refine s_astore_n hC (L' := [(3, _), (0, _), (1, _), (2, _)]) dX11_offRings_34 rfl rfl (le_b rfl) rfl ?_
      refine s_iload_n hC dX11_offRings_35 rfl rfl 2 rfl ?_
      refine s_aload_n hC dX11_offRings_36 rfl rfl 0 rfl ?_
      refine s_getfN hC cs_X10 1 tw_1639 (le_b rfl) (RepM.f_ring hW2 hjn) rfl dX11_offRings_37 rfl ?_
      refine s_abs hC tw_1545 ⟨le_b rfl, le_b rfl, le_b rfl, le_b rfl⟩ dX11_offRings_40 rfl ?_
      refine s_bipush hC (v := 50) dX11_offRings_43 rfl (by decide) ?_
      refine z_icmp_gt hC (tgt := 60) dX11_offRings_45 rfl (by decide) (fun c_2 => ?_) (fun c_2 => ?_)
      · refine s_iconst hC (v := 1) dX11_offRings_60 rfl (by decide) ?_
        refine s_goto hC (tgt := 65) dX11_offRings_61 (by decide) ?_
        refine s_iadd hC dX11_offRings_65 rfl ?_
        refine s_istore_n hC (L' := [(1, _), (3, _), (0, _), (2, _)]) dX11_offRings_66 rfl rfl (le_b rfl) rfl ?_
        refine s_goto hC (tgt := 16) dX11_offRings_67 (by decide) ?_
        refine WP.sub (L' := [(0, _), (1, _), (2, _)]) [2, 0, 3] rfl ?_
        refine ih (_, (nI j), _, j + 1) ?_ ?_
        · dsimp only
          have h9 := of_decide_eq_true c_1
          refine ⟨h9, ?_, rfl⟩
          simp [orF, offF, c_1, c_2]
        · dsimp only
          have h9 := of_decide_eq_true c_1; omega
      · refine s_aload_n hC dX11_offRings_48 rfl rfl 0 rfl ?_
        refine s_getfN hC cs_X10 2 tw_1640 (le_b rfl) (RepM.f_ring hW2 hjn) rfl dX11_offRings_49 rfl ?_
        refine s_abs hC tw_1545 ⟨le_b rfl, le_b rfl, le_b rfl, le_b rfl⟩ dX11_offRings_52 rfl ?_
        refine s_bipush hC (v := 50) dX11_offRings_55 rfl (by decide) ?_
        refine z_icmp_le hC (tgt := 64) dX11_offRings_57 rfl (by decide) (fun c_3 => ?_) (fun c_3 => ?_)
        · refine s_iconst hC (v := 0) dX11_offRings_64 rfl (by decide) ?_
          refine s_iadd hC dX11_offRings_65 rfl ?_
          refine s_istore_n hC (L' := [(1, _), (3, _), (0, _), (2, _)]) dX11_offRings_66 rfl rfl (le_b rfl) rfl ?_
          refine s_goto hC (tgt := 16) dX11_offRings_67 (by decide) ?_
          refine WP.sub (L' := [(0, _), (1, _), (2, _)]) [2, 0, 3] rfl ?_
          refine ih (_, (nI j), _, j + 1) ?_ ?_
          · dsimp only
            have h9 := of_decide_eq_true c_1
            refine ⟨h9, ?_, rfl⟩
            simp [orF, offF, c_1, c_2, c_3]
          · dsimp only
            have h9 := of_decide_eq_true c_1; omega
        · refine s_iconst hC (v := 1) dX11_offRings_60 rfl (by decide) ?_
          refine s_goto hC (tgt := 65) dX11_offRings_61 (by decide) ?_
          refine s_iadd hC dX11_offRings_65 rfl ?_
          refine s_istore_n hC (L' := [(1, _), (3, _), (0, _), (2, _)]) dX11_offRings_66 rfl rfl (le_b rfl) rfl ?_
          refine s_goto hC (tgt := 16) dX11_offRings_67 (by decide) ?_
          refine WP.sub (L' := [(0, _), (1, _), (2, _)]) [2, 0, 3] rfl ?_
          refine ih (_, (nI j), _, j + 1) ?_ ?_
          · dsimp only
            have h9 := of_decide_eq_true c_1
            refine ⟨h9, ?_, rfl⟩
            simp [orF, offF, c_1, c_2, c_3]
          · dsimp only
            have h9 := of_decide_eq_true c_1; omega
set_option maxHeartbeats 1000000 in
set_option maxRecDepth 100000 in
theorem ct_X11_meanMinutes (l : Launch) (g : Gl) (ω : Wd) (ad : Iy → Nat) (y : Ey) (σ : St) (hR : RepM g ad y σ ω) (hgr : grOK σ y) (hnn : ¬ σ.n = 0 → vf_n64 (FP.ddiv (FP.i2d (mrF σ σ.n)) (FP.i2d (nI σ.n)))) : CT l g yX11_meanMinutes cX11_meanMinutes 4 (some .double) 3 61 1 4 [.ref (ad .main)] ω (okM g ad (cd_meanMinutes σ) Value.double (vl_meanMinutes σ) σ σ) (nox) := by
  refine CT.of (own := "BoringheadModel") rfl rfl (le_b rfl) rfl ?_
  intro p e s m args below meth c sz0 hC hr htab hin
  refine s_aload_n hC dX11_meanMinutes_0 rfl rfl 0 rfl ?_
  refine s_callV hC (ct_X11_begins l g _ _ _ _ hR) ce_X11_begins cs_X11 (RepM.f_main hR) tw_1324 rfl rfl ⟨⟨le_b rfl, le_b rfl⟩, le_b rfl, le_b rfl⟩ (le_b rfl) dX11_meanMinutes_1 rfl (dvk0 ?_) nokx
  refine WP.rm (RepM.s_main_0 hR 0) (fun hR_1 => ?_)
  refine s_iconst hC (v := 0) dX11_meanMinutes_4 rfl (by decide) ?_
  refine s_istore_n hC (L' := [(1, _), (0, _)]) dX11_meanMinutes_5 rfl rfl (le_b rfl) rfl ?_
  refine s_aload_n hC dX11_meanMinutes_6 rfl rfl 1 rfl ?_
  refine s_getf hC cs_X11 8 tw_1257 (le_b rfl) (RepM.f_main hR_1) rfl dX11_meanMinutes_7 rfl ?_
  refine s_callF hC (nA := 0) 2 (ct_Jx4a65c_iterator_32c93 l g _ _ _ _ _ (RepM.f_rings hR_1)) rfl tw_1501 tw_5 tw_1499 tw_1497 (by decide +kernel) cs_Jx4a65c (RepM.f_rings hR_1) tw_1494 rfl rfl ⟨⟨le_b rfl, le_b rfl⟩, le_b rfl, le_b rfl⟩ (le_b rfl) dX11_meanMinutes_10 rfl (fun r w h9 => ?_) nokx
  obtain ⟨q, rfl, hq9, rfl⟩ := h9
  have hnq := RepM.ne hR_1 hq9
  refine s_astore_n hC (L' := [(2, _), (1, _), (0, _)]) dX11_meanMinutes_15 rfl rfl (le_b rfl) rfl ?_
  refine WP.sub (L' := [(0, _), (1, _), (2, _)]) [2, 1, 0] rfl ?_
  refine wp_loop (σ := Int32 × Int32 × Wd × Nat) (I := fun (sm, lr, W, j) => j ≤ σ.n ∧ sm = mrF σ j ∧ W = wup (wup ω (ad .main) (.inr (16, (mnL ad y σ).set 0 (.int 0)))) q (itE (nI j) lr (y.w_th 0).mB (ad .rings))) (ωf := fun (sm, lr, W, j) => W) (Lf := fun (sm, lr, W, j) => [(0, .ref (ad .main)), (1, .int sm), (2, .ref q)]) (μ := fun (sm, lr, W, j) => σ.n - j) (x0 := (_, (-1), _, 0)) ?_ ?_
  · exact ⟨Nat.zero_le _, rfl, by rw [nI_0]⟩
  · rintro ⟨sm, lr, W, j⟩ hI ih
    dsimp only at hI ih ⊢
    obtain ⟨hj, rfl, rfl⟩ := hI
    have hW := RepM.by hR_1 hnq (itE (nI j) lr (y.w_th 0).mB (ad .rings))
    refine s_aload_n hC dX11_meanMinutes_16 rfl rfl 2 rfl ?_
    refine s_callF hC (nA := 0) 5 (ct_Jx35411_hasNext_aae02 l g _ _ _ _ _ _ _ _ (wup_s _ _ _) (RepM.f_rings hW) (RepM.b_ring hR_1) hj) rfl tw_1530 tw_29 tw_1528 tw_1526 (by decide +kernel) cs_Jx35411 (wup_s _ _ _) tw_1522 rfl rfl ⟨⟨le_b rfl, le_b rfl⟩, le_b rfl, le_b rfl⟩ (le_b rfl) dX11_meanMinutes_17 rfl (dvk1 ?_) nokx
    refine z_if_eqB hC (tgt := 45) dX11_meanMinutes_22 rfl (by decide) (fun c_1 => ?_) (fun c_1 => ?_)
    · obtain rfl : j = σ.n := by
        have h9 := of_decide_eq_false c_1
        omega
      refine s_aload_n hC dX11_meanMinutes_45 rfl rfl 0 rfl ?_
      refine s_aload_n hC dX11_meanMinutes_46 rfl rfl 0 rfl ?_
      refine s_getf hC cs_X11 8 tw_1257 (le_b rfl) (RepM.f_main hW) rfl dX11_meanMinutes_47 rfl ?_
      refine s_callF hC (nA := 0) 4 (ct_Jx4a65c_isEmpty_aae02 l g _ _ _ _ _ (RepM.f_rings hW) (Nat.lt_of_le_of_lt (RepM.b_ring hW) (by decide))) rfl tw_847 tw_5 tw_845 tw_2069 (by decide +kernel) cs_Jx4a65c (RepM.f_rings hW) tw_2066 rfl rfl ⟨⟨le_b rfl, le_b rfl⟩, le_b rfl, le_b rfl⟩ (le_b rfl) dX11_meanMinutes_50 rfl (dvk1 ?_) nokx
      by_cases h0 : σ.n = 0
      · rw [show bI (decide (σ.n = 0)) = 1 from (by rw [decide_eq_true h0]; rfl)]
        refine s_iconst hC (v := 1) dX11_meanMinutes_55 rfl (by decide) ?_
        refine s_callV hC (ct_X11_fails_t l g _ _ _ _ hW (by first | rfl | exact hth) _ (by decide)) ce_X11_fails cs_X11 (RepM.f_main hW) tw_1422 rfl rfl ⟨⟨le_b rfl, le_b rfl⟩, le_b rfl, le_b rfl⟩ (le_b rfl) dX11_meanMinutes_56 rfl (dvk1 ?_) nokx
        refine WP.rm (RepM.s_main_0 hW _) (fun hR_56 => ?_)
        refine z_if_eq hC (tgt := 66) dX11_meanMinutes_59 rfl (by decide) (fun c_2 => ((absurd c_2 (by decide) : False)).elim) (fun c_2 => ?_)
        refine s_dconst0 hC dX11_meanMinutes_62 rfl ?_
        refine s_goto hC (tgt := 79) dX11_meanMinutes_63 (by decide) ?_
        refine s_dret hC hr dX11_meanMinutes_79 (le_b rfl) (le_b rfl) ?_
        first
          | exact okM_ok (by simp [cd_meanMinutes, h0]) rfl rfl hR_56 rfl rfl rfl hgr
          | exact okM_no 1 (by simp [cd_meanMinutes, h0]) (by decide) (by rfl) hR_56 rfl rfl hgr
      · rw [show bI (decide (σ.n = 0)) = 0 from (by rw [decide_eq_false h0]; rfl)]
        refine s_iconst hC (v := 1) dX11_meanMinutes_55 rfl (by decide) ?_
        refine s_callV hC (ct_X11_fails_f l g _ _ _ _ hW (by first | rfl | exact hth) _) ce_X11_fails cs_X11 (RepM.f_main hW) tw_1422 rfl rfl ⟨⟨le_b rfl, le_b rfl⟩, le_b rfl, le_b rfl⟩ (le_b rfl) dX11_meanMinutes_56 rfl (dvk1 ?_) nokx
        refine z_if_eq hC (tgt := 66) dX11_meanMinutes_59 rfl (by decide) (fun c_3 => ?_) (fun c_3 => ((absurd c_3 (by decide) : False)).elim)
        refine s_iload_n hC dX11_meanMinutes_66 rfl rfl 1 rfl ?_
        refine s_i2d hC dX11_meanMinutes_67 rfl ?_
        refine s_aload_n hC dX11_meanMinutes_68 rfl rfl 0 rfl ?_
        refine s_getf hC cs_X11 8 tw_1257 (le_b rfl) (RepM.f_main hW) rfl dX11_meanMinutes_69 rfl ?_
        refine s_callF hC (nA := 0) 0 (ct_Jx4a65c_size_8abf5 l g _ _ _ _ _ (RepM.f_rings hW)) rfl tw_276 tw_5 tw_274 tw_1431 (by decide +kernel) cs_Jx4a65c (RepM.f_rings hW) tw_1427 rfl rfl ⟨⟨le_b rfl, le_b rfl⟩, le_b rfl, le_b rfl⟩ (le_b rfl) dX11_meanMinutes_72 rfl (dvk1 ?_) nokx
        refine s_i2d hC dX11_meanMinutes_77 rfl ?_
        refine s_ddiv hC dX11_meanMinutes_78 rfl (hnn h0) ?_
        refine s_dret hC hr dX11_meanMinutes_79 (le_b rfl) (le_b rfl) ?_
        first
          | exact okM_ok (by simp [cd_meanMinutes, h0]) rfl rfl hW rfl rfl rfl hgr
          | exact okM_no 1 (by simp [cd_meanMinutes, h0]) (by decide) (by rfl) hW rfl rfl hgr
    · refine s_aload_n hC dX11_meanMinutes_25 rfl rfl 2 rfl ?_
      refine s_callF hC (nA := 0) 6 (ct_Jx35411_next_0502b l g _ _ _ _ _ _ _ _ (wup_s _ _ _) (RepM.f_rings hW) (RepM.b_ring hR_1) (of_decide_eq_true c_1) _ _ _ (RepM.p_ring hW (of_decide_eq_true c_1)).2.1 (RepM.p_ring hW (of_decide_eq_true c_1)).2.2.1 (RepM.p_ring hW (of_decide_eq_true c_1)).2.2.2.1 (RepM.p_ring hW (of_decide_eq_true c_1)).2.2.2.2) rfl tw_1539 tw_29 tw_1537 tw_1535 (by decide +kernel) cs_Jx35411 (wup_s _ _ _) tw_1532 rfl rfl ⟨⟨le_b rfl, le_b rfl⟩, le_b rfl, le_b rfl⟩ (le_b rfl) dX11_meanMinutes_26 rfl (dvk1 ?_) nokx
      rw [wup_wup]
      have hjn := of_decide_eq_true c_1
      have hW2 := RepM.by hR_1 hnq (itE (nI (j + 1)) (nI j) (y.w_th 0).mB (ad .rings))
      refine s_cast hC cs_X10 tw_1613 (RepM.f_ring hW2 hjn) dX11_meanMinutes_31 rfl ?_
      refine s_astore_n hC (L' := [(3, _), (0, _), (1, _), (2, _)]) dX11_meanMinutes_34 rfl rfl (le_b rfl) rfl ?_
      refine s_iload_n hC dX11_meanMinutes_35 rfl rfl 2 rfl ?_
      refine s_aload_n hC dX11_meanMinutes_36 rfl rfl 0 rfl ?_
      refine s_getfN hC cs_X10 3 tw_1641 (le_b rfl) (RepM.f_ring hW2 hjn) rfl dX11_meanMinutes_37 rfl ?_
      refine s_iadd hC dX11_meanMinutes_40 rfl ?_
      refine s_istore_n hC (L' := [(1, _), (3, _), (0, _), (2, _)]) dX11_meanMinutes_41 rfl rfl (le_b rfl) rfl ?_
      refine s_goto hC (tgt := 16) dX11_meanMinutes_42 (by decide) ?_
      refine WP.sub (L' := [(0, _), (1, _), (2, _)]) [2, 0, 3] rfl ?_
      refine ih (_, (nI j), _, j + 1) ?_ ?_
      · dsimp only
        have h9 := of_decide_eq_true c_1
        refine ⟨h9, ?_, rfl⟩
        rfl
      · dsimp only
        have h9 := of_decide_eq_true c_1; omega
set_option maxHeartbeats 1000000 in
set_option maxRecDepth 100000 in
theorem ct_X11_groutShare (l : Launch) (g : Gl) (ω : Wd) (ad : Iy → Nat) (y : Ey) (σ : St) (hR : RepM g ad y σ ω) (hgr : grOK σ y) (hk : kIn σ) (hrk : rkOK σ) (hn : nOK σ) (hnn : ¬ σ.n = 0 → vf_n32 (FP.fdiv (FP.i2f (fiF σ σ.n)) (FP.i2f (gpF σ σ.n)))) : CT l g yX11_groutShare cX11_groutShare 4 (some .float) 3 64 0 0 [.ref (ad .main)] ω (okM g ad (cd_groutShare σ) Value.float (vl_groutShare σ) σ σ) (nox) := by
  have hn120 : σ.n ≤ 120 := hn
  refine CT.of (own := "BoringheadModel") rfl rfl (le_b rfl) rfl ?_
  intro p e s m args below meth c sz0 hC hr htab hin
  refine s_aload_n hC dX11_groutShare_0 rfl rfl 0 rfl ?_
  refine s_callV hC (ct_X11_begins l g _ _ _ _ hR) ce_X11_begins cs_X11 (RepM.f_main hR) tw_1324 rfl rfl ⟨⟨le_b rfl, le_b rfl⟩, le_b rfl, le_b rfl⟩ (le_b rfl) dX11_groutShare_1 rfl (dvk0 ?_) nokx
  refine WP.rm (RepM.s_main_0 hR 0) (fun hR_1 => ?_)
  refine s_iconst hC (v := 0) dX11_groutShare_4 rfl (by decide) ?_
  refine s_istore_n hC (L' := [(1, _), (0, _)]) dX11_groutShare_5 rfl rfl (le_b rfl) rfl ?_
  refine s_iconst hC (v := 0) dX11_groutShare_6 rfl (by decide) ?_
  refine s_istore_n hC (L' := [(2, _), (1, _), (0, _)]) dX11_groutShare_7 rfl rfl (le_b rfl) rfl ?_
  refine s_iconst hC (v := 0) dX11_groutShare_8 rfl (by decide) ?_
  refine s_istore_n hC (L' := [(3, _), (2, _), (1, _), (0, _)]) dX11_groutShare_9 rfl rfl (le_b rfl) rfl ?_
  refine WP.sub (L' := [(0, _), (1, _), (2, _), (3, _)]) [3, 2, 1, 0] rfl ?_
  refine wp_loop (σ := Int32 × Int32 × Int32 × Nat) (I := fun (i, sm, sg, j) => i = nI j ∧ j ≤ σ.n ∧ sm = fiF σ j ∧ sg = gpF σ j) (ωf := fun (i, sm, sg, j) => wup ω (ad .main) (.inr (16, (mnL ad y σ).set 0 (.int 0)))) (Lf := fun (i, sm, sg, j) => [(0, .ref (ad .main)), (1, .int sm), (2, .int sg), (3, .int i)]) (μ := fun (i, sm, sg, j) => σ.n - j) (x0 := (_, _, _, 0)) ?_ ?_
  · exact ⟨rfl, Nat.zero_le _, rfl, rfl⟩
  · rintro ⟨i, sm, sg, j⟩ hI ih
    dsimp only at hI ih ⊢
    obtain ⟨rfl, hj, rfl, rfl⟩ := hI
    have hin9 : ¬ nI (σ.n) ≤ nI j → j < σ.n := nI_ltc (Nat.lt_of_le_of_lt (RepM.b_ring hR) (by decide)) hj
    refine s_iload_n hC dX11_groutShare_10 rfl rfl 3 rfl ?_
    refine s_aload_n hC dX11_groutShare_11 rfl rfl 0 rfl ?_
    refine s_getf hC cs_X11 8 tw_1257 (le_b rfl) (RepM.f_main hR_1) rfl dX11_groutShare_12 rfl ?_
    refine s_callF hC (nA := 0) 0 (ct_Jx4a65c_size_8abf5 l g _ _ _ _ _ (RepM.f_rings hR_1)) rfl tw_276 tw_5 tw_274 tw_1431 (by decide +kernel) cs_Jx4a65c (RepM.f_rings hR_1) tw_1427 rfl rfl ⟨⟨le_b rfl, le_b rfl⟩, le_b rfl, le_b rfl⟩ (le_b rfl) dX11_groutShare_15 rfl (dvk1 ?_) nokx
    refine z_icmp_ge hC (tgt := 56) dX11_groutShare_20 rfl (by decide) (fun c_1 => ?_) (fun c_1 => ?_)
    · obtain rfl := nI_lec (Nat.lt_of_le_of_lt (RepM.b_ring hR) (by decide)) hj c_1
      refine s_aload_n hC dX11_groutShare_56 rfl rfl 0 rfl ?_
      refine s_aload_n hC dX11_groutShare_57 rfl rfl 0 rfl ?_
      refine s_getf hC cs_X11 8 tw_1257 (le_b rfl) (RepM.f_main hR_1) rfl dX11_groutShare_58 rfl ?_
      refine s_callF hC (nA := 0) 4 (ct_Jx4a65c_isEmpty_aae02 l g _ _ _ _ _ (RepM.f_rings hR_1) (Nat.lt_of_le_of_lt (RepM.b_ring hR_1) (by decide))) rfl tw_847 tw_5 tw_845 tw_2069 (by decide +kernel) cs_Jx4a65c (RepM.f_rings hR_1) tw_2066 rfl rfl ⟨⟨le_b rfl, le_b rfl⟩, le_b rfl, le_b rfl⟩ (le_b rfl) dX11_groutShare_61 rfl (dvk1 ?_) nokx
      by_cases h0 : σ.n = 0
      · rw [show bI (decide (σ.n = 0)) = 1 from (by rw [decide_eq_true h0]; rfl)]
        refine s_iconst hC (v := 1) dX11_groutShare_66 rfl (by decide) ?_
        refine s_callV hC (ct_X11_fails_t l g _ _ _ _ hR_1 (by first | rfl | exact hth) _ (by decide)) ce_X11_fails cs_X11 (RepM.f_main hR_1) tw_1422 rfl rfl ⟨⟨le_b rfl, le_b rfl⟩, le_b rfl, le_b rfl⟩ (le_b rfl) dX11_groutShare_67 rfl (dvk1 ?_) nokx
        refine WP.rm (RepM.s_main_0 hR_1 _) (fun hR_67 => ?_)
        refine z_if_eq hC (tgt := 77) dX11_groutShare_70 rfl (by decide) (fun c_2 => ((absurd c_2 (by decide) : False)).elim) (fun c_2 => ?_)
        refine s_fconst0 hC dX11_groutShare_73 rfl ?_
        refine s_goto hC (tgt := 82) dX11_groutShare_74 (by decide) ?_
        refine s_fret hC hr dX11_groutShare_82 (le_b rfl) (le_b rfl) ?_
        first
          | exact okM_ok (by simp [cd_groutShare, h0]) rfl rfl hR_67 rfl rfl rfl hgr
          | exact okM_no 1 (by simp [cd_groutShare, h0]) (by decide) (by rfl) hR_67 rfl rfl hgr
      · rw [show bI (decide (σ.n = 0)) = 0 from (by rw [decide_eq_false h0]; rfl)]
        refine s_iconst hC (v := 1) dX11_groutShare_66 rfl (by decide) ?_
        refine s_callV hC (ct_X11_fails_f l g _ _ _ _ hR_1 (by first | rfl | exact hth) _) ce_X11_fails cs_X11 (RepM.f_main hR_1) tw_1422 rfl rfl ⟨⟨le_b rfl, le_b rfl⟩, le_b rfl, le_b rfl⟩ (le_b rfl) dX11_groutShare_67 rfl (dvk1 ?_) nokx
        refine z_if_eq hC (tgt := 77) dX11_groutShare_70 rfl (by decide) (fun c_3 => ?_) (fun c_3 => ((absurd c_3 (by decide) : False)).elim)
        refine s_iload_n hC dX11_groutShare_77 rfl rfl 1 rfl ?_
        refine s_i2f hC dX11_groutShare_78 rfl ?_
        refine s_iload_n hC dX11_groutShare_79 rfl rfl 2 rfl ?_
        refine s_i2f hC dX11_groutShare_80 rfl ?_
        refine s_fdiv hC dX11_groutShare_81 rfl (hnn h0) ?_
        refine s_fret hC hr dX11_groutShare_82 (le_b rfl) (le_b rfl) ?_
        first
          | exact okM_ok (by simp [cd_groutShare, h0]) rfl rfl hR_1 rfl rfl rfl hgr
          | exact okM_no 1 (by simp [cd_groutShare, h0]) (by decide) (by rfl) hR_1 rfl rfl hgr
    · refine s_iload_n hC dX11_groutShare_23 rfl rfl 1 rfl ?_
      refine s_aload_n hC dX11_groutShare_24 rfl rfl 0 rfl ?_
      refine s_getf hC cs_X11 8 tw_1257 (le_b rfl) (RepM.f_main hR_1) rfl dX11_groutShare_25 rfl ?_
      refine s_iload_n hC dX11_groutShare_28 rfl rfl 3 rfl ?_
      refine s_callF hC (nA := 1) 3 (ct_Jx4a65c_get_915e3 l g _ _ _ _ _ (RepM.f_rings hR_1) _ _ (RepM.p_ring hR_1 (hin9 c_1)).2.1 (RepM.p_ring hR_1 (hin9 c_1)).2.2.1 _ _ (RepM.p_ring hR_1 (hin9 c_1)).2.2.2.1 (hin9 c_1) (RepM.p_ring hR_1 (hin9 c_1)).2.2.2.2) rfl tw_288 tw_5 tw_286 tw_1610 (by decide +kernel) cs_Jx4a65c (RepM.f_rings hR_1) tw_1607 rfl rfl ⟨⟨le_b rfl, le_b rfl⟩, le_b rfl, le_b rfl⟩ (le_b rfl) dX11_groutShare_29 rfl (dvk1 ?_) nokx
      refine s_cast hC cs_X10 tw_1613 (RepM.f_ring hR_1 (hin9 c_1)) dX11_groutShare_34 rfl ?_
      refine s_getfN hC cs_X10 5 tw_1643 (le_b rfl) (RepM.f_ring hR_1 (hin9 c_1)) rfl dX11_groutShare_37 rfl ?_
      refine s_iadd hC dX11_groutShare_40 rfl ?_
      refine s_istore_n hC (L' := [(1, _), (0, _), (2, _), (3, _)]) dX11_groutShare_41 rfl rfl (le_b rfl) rfl ?_
      refine s_iload_n hC dX11_groutShare_42 rfl rfl 2 rfl ?_
      refine s_aload_n hC dX11_groutShare_43 rfl rfl 1 rfl ?_
      refine s_iload_n hC dX11_groutShare_44 rfl rfl 3 rfl ?_
      refine s_callV hC (ct_X11_gap l g _ _ _ _ hR_1 hk _ (by have := hin9 c_1; omega)) ce_X11_gap cs_X11 (RepM.f_main hR_1) tw_1718 rfl rfl ⟨⟨le_b rfl, le_b rfl⟩, le_b rfl, le_b rfl⟩ (le_b rfl) dX11_groutShare_45 rfl (dvk1 ?_) nokx
      refine s_iadd hC dX11_groutShare_48 rfl ?_
      refine s_istore_n hC (L' := [(2, _), (1, _), (0, _), (3, _)]) dX11_groutShare_49 rfl rfl (le_b rfl) rfl ?_
      refine s_iinc hC (v := _ + 1) (j9 := 3) (L' := [(3, _), (2, _), (1, _), (0, _)]) dX11_groutShare_50 rfl rfl rfl (le_b rfl) rfl ?_
      refine s_goto hC (tgt := 10) dX11_groutShare_53 (by decide) ?_
      refine WP.sub (L' := [(0, _), (1, _), (2, _), (3, _)]) [3, 2, 1, 0] rfl ?_
      refine ih (_, _, _, j + 1) ?_ ?_
      · dsimp only
        have h9 := hin9 c_1
        refine ⟨nI_1 j, h9, ?_, ?_⟩
        · rfl
        · rw [gpF, hrk j h9]
      · dsimp only
        have h9 := hin9 c_1; omega
set_option maxHeartbeats 1000000 in
set_option maxRecDepth 100000 in
theorem ct_X11_isSound (l : Launch) (g : Gl) (ω : Wd) (ad : Iy → Nat) (y : Ey) (σ : St) (hR : RepM g ad y σ ω) (hgr : grOK σ y) : CT l g yX11_isSound cX11_isSound 1 (some .boolean) 1 20 0 0 [.ref (ad .main)] ω (okM g ad 0 (fun b : Bool => Value.int (bI b)) true σ σ) (nox) := by
  refine CT.of (own := "BoringheadModel") rfl rfl (le_b rfl) rfl ?_
  intro p e s m args below meth c sz0 hC hr htab hin
  refine s_aload_n hC dX11_isSound_0 rfl rfl 0 rfl ?_
  refine s_callV hC (ct_X11_begins l g _ _ _ _ hR) ce_X11_begins cs_X11 (RepM.f_main hR) tw_1324 rfl rfl ⟨⟨le_b rfl, le_b rfl⟩, le_b rfl, le_b rfl⟩ (le_b rfl) dX11_isSound_1 rfl (dvk0 ?_) nokx
  refine WP.rm (RepM.s_main_0 hR 0) (fun hR_1 => ?_)
  refine s_iconst hC (v := 1) dX11_isSound_4 rfl (by decide) ?_
  refine s_zret hC hr dX11_isSound_5 rfl (le_b rfl) (le_b rfl) ?_
  exact okM_ok (b := true) rfl rfl rfl hR_1 rfl rfl rfl hgr
