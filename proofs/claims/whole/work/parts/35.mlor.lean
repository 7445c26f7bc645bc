/-- numbers that read alike for the model -/
def RdM (s s' : St) : Prop := s'.kinds = s.kinds ∧ s'.refs = s.refs ∧ s'.depths = s.depths ∧ s'.waters = s.waters ∧ s'.bR = s.bR ∧ s'.bU = s.bU ∧ s'.wears = s.wears ∧ s'.order = s.order ∧ s'.waits = s.waits ∧ s'.hR = s.hR ∧ s'.hU = s.hU ∧ s'.press = s.press ∧ s'.foam = s.foam ∧ s'.pR = s.pR ∧ s'.pU = s.pU ∧ s'.seg = s.seg ∧ s'.pit = s.pit ∧ s'.mn = s.mn ∧ s'.n = s.n ∧ s'.nh = s.nh ∧ s'.hs = s.hs ∧ s'.nb = s.nb ∧ s'.bo = s.bo ∧ ∀ i v, mfs (s'.ring i) v = mfs (s.ring i) v
/-- the model's cells over other numbers that read alike -/
theorem RepM.cg {g : Gl} {ad : Iy → Nat} {y : Ey} {s s' : St} {w : Wd} (h : RepM g ad y s w) (e : RdM s s') : RepM g ad y s' w := by
  obtain ⟨e_kinds, e_refs, e_depths, e_waters, e_bR, e_bU, e_wears, e_order, e_waits, e_hR, e_hU, e_press, e_foam, e_pR, e_pU, e_seg, e_pit, e_mn, e_n, e_nh, e_hs, e_nb, e_bo, e0⟩ := e
  obtain ⟨h1, h2, h3, h4, h5, h6, h7⟩ := h
  have hv : ∀ k, VM y s' k → VM y s k := by
    intro k hk
    rcases k with a | i | i | i
    · exact hk
    · exact (show i < s.n from e_n ▸ (show i < s'.n from hk))
    · exact (show i < s.nh from e_nh ▸ (show i < s'.nh from hk))
    · exact (show i < s.nb from e_nb ▸ (show i < s'.nb from hk))
  have hc : ∀ k, cellM g ad y s' k = cellM g ad y s k := by
    intro k
    rcases k with a9 | i | i | i
    · show skM g ad y s' a9 = skM g ad y s a9
      rcases a9 with _ | _ | _ | _ | _ | _ | _ | _ | _ | _ | _ | _ | _ | _ | _ | _ | _ | a9 <;> simp only [skM, e_kinds, e_refs, e_depths, e_waters, e_bR, e_bU, e_wears, e_order, e_waits, e_hR, e_hU, e_press, e_foam, e_pR, e_pU, e_seg, e_pit, e_mn, e_n, e_nh, e_hs, e_nb, e_bo]
    · show (Sum.inr (15, mfs (s'.ring i) (y.gr i)) : va_E) = Sum.inr (15, mfs (s.ring i) (y.gr i))
      rw [e0]
    · show (Sum.inl (g.2.1 0, 7, .inl (hsA (s'.hs i))) : va_E) = Sum.inl (g.2.1 0, 7, .inl (hsA (s.hs i)))
      rw [e_hs]
    · show (Sum.inl (g.2.1 0, 2, .inl (boA (s'.bo i))) : va_E) = Sum.inl (g.2.1 0, 2, .inl (boA (s.bo i)))
      rw [e_bo]
  exact ⟨fun k hk => (h1 k (hv k hk)).trans (congrArg some (hc k).symm), fun k k' hk hk' => h2 k k' (hv k hk) (hv k' hk'), by rw [e_n]; exact h3, by rw [e_nh]; exact h4, by rw [e_nb]; exact h5, h6, by rw [e_order]; exact h7⟩
theorem iMin_c (a b : Int32) : iMin a b = iMin b a := by
  unfold iMin
  by_cases h1 : a < b
  · have h2 : ¬ b < a := fun h => absurd (Int32.lt_trans h1 h) (Int32.lt_irrefl)
    simp [h1, h2]
  · by_cases h2 : b < a
    · simp [h1, h2]
    · have : a = b := Int32.le_antisymm (Int32.not_lt.mp h2) (Int32.not_lt.mp h1)
      simp [this]
theorem lorF_inR (x : Int32) : lorF x = inR (x - x / 1440 * 1440) 360 1319 := by
  unfold lorF inR
  have h : ∀ z : Int32, (¬ 1320 ≤ z) = (z ≤ 1319) := by
    intro z
    apply propext
    rw [Int32.le_iff_toInt_le, Int32.le_iff_toInt_le]
    have h1 : (1320 : Int32).toInt = 1320 := rfl
    have h2 : (1319 : Int32).toInt = 1319 := rfl
    omega
  simp only [h]
theorem le00 {x : Int32} (h : 0 ≤ x) : (x ≤ 0) = (x = 0) := propext ⟨fun h1 => Int32.le_antisymm h1 h, fun h1 => by rw [h1]; decide⟩
theorem p19 (x : Int32) : x + 20 - 1 = x + 19 := by
  rw [Int32.sub_eq_add_neg, Int32.add_assoc]
  rfl
def lo3 (s : St) (t g : Int32) : St := (((s.w_pit (s.pit - t)).w_away (s.away + t)).w_mn (s.mn + g)).w_fo (s.fo + g)
theorem nx_lo (s : St) (m9 : Int32) : nx_lorries s m9 = lo3 s (iMin s.pit (20 * iMin m9 ((s.pit + 19) / 20))) (5 * iMin m9 ((s.pit + 19) / 20)) := by
  show lo3 s (iMin (iMin m9 ((s.pit + 20 - 1) / 20) * 20) s.pit) (iMin m9 ((s.pit + 20 - 1) / 20) * 5) = _
  rw [p19, Int32.mul_comm _ 20, Int32.mul_comm _ 5, iMin_c (20 * _)]
theorem lo3_eq (s : St) (t g : Int32) : (((s.w_mn (s.mn + g)).w_pit (s.pit - t)).w_away (s.away + t)).w_fo (s.fo + g) = lo3 s t g := by
  simp only [lo3, St.kinds, St.refs, St.depths, St.waters, St.bR, St.bU, St.wears, St.order, St.waits, St.hR, St.hU, St.oR, St.oU, St.press, St.foam, St.pR, St.pU, St.seg, St.pit, St.away, St.mn, St.fc, St.fl, St.fo, St.n, St.ring, St.nh, St.hs, St.nb, St.bo, St.w_kinds, St.w_refs, St.w_depths, St.w_waters, St.w_bR, St.w_bU, St.w_wears, St.w_order, St.w_waits, St.w_hR, St.w_hU, St.w_oR, St.w_oU, St.w_press, St.w_foam, St.w_pR, St.w_pU, St.w_seg, St.w_pit, St.w_away, St.w_mn, St.w_fc, St.w_fl, St.w_fo, St.w_n, St.w_ring, St.w_nh, St.w_hs, St.w_nb, St.w_bo, St.w_course, St.a_ring, St.a_house, St.a_bore]
theorem RepM.u_away {g : Gl} {ad : Iy → Nat} {y : Ey} {s : St} {w : Wd} (h : RepM g ad y s w) (v : Int32) : RepM g ad y (s.w_away v) w := RepM.cg h (by simp only [RdM, St.kinds, St.refs, St.depths, St.waters, St.bR, St.bU, St.wears, St.order, St.waits, St.hR, St.hU, St.oR, St.oU, St.press, St.foam, St.pR, St.pU, St.seg, St.pit, St.away, St.mn, St.fc, St.fl, St.fo, St.n, St.ring, St.nh, St.hs, St.nb, St.bo, St.w_kinds, St.w_refs, St.w_depths, St.w_waters, St.w_bR, St.w_bU, St.w_wears, St.w_order, St.w_waits, St.w_hR, St.w_hU, St.w_oR, St.w_oU, St.w_press, St.w_foam, St.w_pR, St.w_pU, St.w_seg, St.w_pit, St.w_away, St.w_mn, St.w_fc, St.w_fl, St.w_fo, St.w_n, St.w_ring, St.w_nh, St.w_hs, St.w_nb, St.w_bo, St.w_course, St.a_ring, St.a_house, St.a_bore, and_self, implies_true])
theorem RepM.u_fc {g : Gl} {ad : Iy → Nat} {y : Ey} {s : St} {w : Wd} (h : RepM g ad y s w) (v : Int32) : RepM g ad y (s.w_fc v) w := RepM.cg h (by simp only [RdM, St.kinds, St.refs, St.depths, St.waters, St.bR, St.bU, St.wears, St.order, St.waits, St.hR, St.hU, St.oR, St.oU, St.press, St.foam, St.pR, St.pU, St.seg, St.pit, St.away, St.mn, St.fc, St.fl, St.fo, St.n, St.ring, St.nh, St.hs, St.nb, St.bo, St.w_kinds, St.w_refs, St.w_depths, St.w_waters, St.w_bR, St.w_bU, St.w_wears, St.w_order, St.w_waits, St.w_hR, St.w_hU, St.w_oR, St.w_oU, St.w_press, St.w_foam, St.w_pR, St.w_pU, St.w_seg, St.w_pit, St.w_away, St.w_mn, St.w_fc, St.w_fl, St.w_fo, St.w_n, St.w_ring, St.w_nh, St.w_hs, St.w_nb, St.w_bo, St.w_course, St.a_ring, St.a_house, St.a_bore, and_self, implies_true])
theorem RepM.u_fl {g : Gl} {ad : Iy → Nat} {y : Ey} {s : St} {w : Wd} (h : RepM g ad y s w) (v : Int32) : RepM g ad y (s.w_fl v) w := RepM.cg h (by simp only [RdM, St.kinds, St.refs, St.depths, St.waters, St.bR, St.bU, St.wears, St.order, St.waits, St.hR, St.hU, St.oR, St.oU, St.press, St.foam, St.pR, St.pU, St.seg, St.pit, St.away, St.mn, St.fc, St.fl, St.fo, St.n, St.ring, St.nh, St.hs, St.nb, St.bo, St.w_kinds, St.w_refs, St.w_depths, St.w_waters, St.w_bR, St.w_bU, St.w_wears, St.w_order, St.w_waits, St.w_hR, St.w_hU, St.w_oR, St.w_oU, St.w_press, St.w_foam, St.w_pR, St.w_pU, St.w_seg, St.w_pit, St.w_away, St.w_mn, St.w_fc, St.w_fl, St.w_fo, St.w_n, St.w_ring, St.w_nh, St.w_hs, St.w_nb, St.w_bo, St.w_course, St.a_ring, St.a_house, St.a_bore, and_self, implies_true])
theorem RepM.u_fo {g : Gl} {ad : Iy → Nat} {y : Ey} {s : St} {w : Wd} (h : RepM g ad y s w) (v : Int32) : RepM g ad y (s.w_fo v) w := RepM.cg h (by simp only [RdM, St.kinds, St.refs, St.depths, St.waters, St.bR, St.bU, St.wears, St.order, St.waits, St.hR, St.hU, St.oR, St.oU, St.press, St.foam, St.pR, St.pU, St.seg, St.pit, St.away, St.mn, St.fc, St.fl, St.fo, St.n, St.ring, St.nh, St.hs, St.nb, St.bo, St.w_kinds, St.w_refs, St.w_depths, St.w_waters, St.w_bR, St.w_bU, St.w_wears, St.w_order, St.w_waits, St.w_hR, St.w_hU, St.w_oR, St.w_oU, St.w_press, St.w_foam, St.w_pR, St.w_pU, St.w_seg, St.w_pit, St.w_away, St.w_mn, St.w_fc, St.w_fl, St.w_fo, St.w_n, St.w_ring, St.w_nh, St.w_hs, St.w_nb, St.w_bo, St.w_course, St.a_ring, St.a_house, St.a_bore, and_self, implies_true])
theorem RepM.u_oR {g : Gl} {ad : Iy → Nat} {y : Ey} {s : St} {w : Wd} (h : RepM g ad y s w) (v : Int32) : RepM g ad y (s.w_oR v) w := RepM.cg h (by simp only [RdM, St.kinds, St.refs, St.depths, St.waters, St.bR, St.bU, St.wears, St.order, St.waits, St.hR, St.hU, St.oR, St.oU, St.press, St.foam, St.pR, St.pU, St.seg, St.pit, St.away, St.mn, St.fc, St.fl, St.fo, St.n, St.ring, St.nh, St.hs, St.nb, St.bo, St.w_kinds, St.w_refs, St.w_depths, St.w_waters, St.w_bR, St.w_bU, St.w_wears, St.w_order, St.w_waits, St.w_hR, St.w_hU, St.w_oR, St.w_oU, St.w_press, St.w_foam, St.w_pR, St.w_pU, St.w_seg, St.w_pit, St.w_away, St.w_mn, St.w_fc, St.w_fl, St.w_fo, St.w_n, St.w_ring, St.w_nh, St.w_hs, St.w_nb, St.w_bo, St.w_course, St.a_ring, St.a_house, St.a_bore, and_self, implies_true])
theorem RepM.u_oU {g : Gl} {ad : Iy → Nat} {y : Ey} {s : St} {w : Wd} (h : RepM g ad y s w) (v : Int32) : RepM g ad y (s.w_oU v) w := RepM.cg h (by simp only [RdM, St.kinds, St.refs, St.depths, St.waters, St.bR, St.bU, St.wears, St.order, St.waits, St.hR, St.hU, St.oR, St.oU, St.press, St.foam, St.pR, St.pU, St.seg, St.pit, St.away, St.mn, St.fc, St.fl, St.fo, St.n, St.ring, St.nh, St.hs, St.nb, St.bo, St.w_kinds, St.w_refs, St.w_depths, St.w_waters, St.w_bR, St.w_bU, St.w_wears, St.w_order, St.w_waits, St.w_hR, St.w_hU, St.w_oR, St.w_oU, St.w_press, St.w_foam, St.w_pR, St.w_pU, St.w_seg, St.w_pit, St.w_away, St.w_mn, St.w_fc, St.w_fl, St.w_fo, St.w_n, St.w_ring, St.w_nh, St.w_hs, St.w_nb, St.w_bo, St.w_course, St.a_ring, St.a_house, St.a_bore, and_self, implies_true])
def pOK (s : St) : Prop := 0 ≤ s.pit
set_option maxHeartbeats 4000000 in
set_option maxRecDepth 100000 in
theorem ct_X11_lorries (l : Launch) (g : Gl) (ω : Wd) (ad : Iy → Nat) (y : Ey) (σ : St) (hR : RepM g ad y σ ω) (m9 : Int32) (hgr : grOK σ y) (hp : pOK σ) : CT l g yX11_lorries cX11_lorries 5 (some .int) 1 25 0 0 [.ref (ad .main), .int m9] ω (okM g ad (cd_lorries σ m9) Value.int (vl_lorries σ m9) (nx_lorries σ m9) σ) (nox) := by
  have hl9 := lorF_inR σ.mn
  have hp9 := le00 hp
  have hg9 := p19 σ.pit
  have hm9 : iMin m9 ((σ.pit + 19) / 20) * 5 = 5 * iMin m9 ((σ.pit + 19) / 20) := Int32.mul_comm _ _
  refine CT.of (own := "BoringheadModel") rfl rfl (le_b rfl) rfl ?_
  intro p e s m args below meth c sz0 hC hr htab hin
  refine s_aload_n hC dX11_lorries_0 rfl rfl 0 rfl ?_
  refine s_callV hC (ct_X11_begins l g _ _ _ _ hR) ce_X11_begins cs_X11 (RepM.f_main hR) tw_1324 rfl rfl ⟨⟨le_b rfl, le_b rfl⟩, le_b rfl, le_b rfl⟩ (le_b rfl) dX11_lorries_1 rfl (dvk0 ?_) nokx
  refine WP.rm (RepM.s_main_0 hR 0) (fun hR_1 => ?_)
  refine s_aload_n hC dX11_lorries_4 rfl rfl 0 rfl ?_
  refine s_getf hC cs_X11 19 tw_1268 (le_b rfl) (RepM.f_main hR_1) rfl dX11_lorries_5 rfl ?_
  refine s_sipush hC (v := 1440) dX11_lorries_8 rfl (by decide) ?_
  refine s_irem hC dX11_lorries_11 rfl (by decide) ?_
  refine s_i2l hC dX11_lorries_12 rfl rfl ?_
  refine s_ldc2 hC tw_1787 dX11_lorries_13 rfl ?_
  refine s_ldc2 hC tw_1788 dX11_lorries_16 rfl ?_
  refine s_callS hC (ct_X11_in l g _ _ _ _) ce_X11_in tw_1419 rfl rfl ⟨⟨le_b rfl, le_b rfl⟩, le_b rfl, le_b rfl⟩ (le_b rfl) dX11_lorries_19 rfl (dvk1 ?_) nokx
  rw [inJ_inR _ 360 1319 (by first | rfl | decide) (by first | rfl | decide)]
  refine z_if_eqB hC (tgt := 32) dX11_lorries_22 rfl (by decide) (fun c_1 => ?_) (fun c_1 => ?_)
  · refine s_iconst hC (v := 1) dX11_lorries_32 rfl (by decide) ?_
    refine s_goto hC (tgt := 37) dX11_lorries_33 (by decide) ?_
    refine s_istore_n hC (L' := [(2, _), (0, _), (1, _)]) dX11_lorries_37 rfl rfl (le_b rfl) rfl ?_
    refine s_aload_n hC dX11_lorries_38 rfl rfl 1 rfl ?_
    refine s_iload_n hC dX11_lorries_39 rfl rfl 2 rfl ?_
    refine s_i2l hC dX11_lorries_40 rfl rfl ?_
    refine s_lconst hC (v := 1) dX11_lorries_41 rfl (by decide) ?_
    refine s_ldc2 hC tw_1789 dX11_lorries_42 rfl ?_
    refine s_callS hC (ct_X11_in l g _ _ _ _) ce_X11_in tw_1419 rfl rfl ⟨⟨le_b rfl, le_b rfl⟩, le_b rfl, le_b rfl⟩ (le_b rfl) dX11_lorries_45 rfl (dvk1 ?_) nokx
    rw [inJ_inR m9 1 100 (by first | rfl | decide) (by first | rfl | decide)]
    refine z_if_neB hC (tgt := 55) dX11_lorries_48 rfl (by decide) (fun c_2 => ?_) (fun c_2 => ?_)
    · refine s_iconst hC (v := 0) dX11_lorries_55 rfl (by decide) ?_
      refine s_iconst hC (v := 1) dX11_lorries_56 rfl (by decide) ?_
      refine s_callV hC (ct_X11_fails_f l g _ _ _ _ hR_1 (by first | rfl | exact hth) _) ce_X11_fails cs_X11 (RepM.f_main hR_1) tw_1422 rfl rfl ⟨⟨le_b rfl, le_b rfl⟩, le_b rfl, le_b rfl⟩ (le_b rfl) dX11_lorries_57 rfl (dvk1 ?_) nokx
      refine z_if_ne hC (tgt := 72) dX11_lorries_60 rfl (by decide) (fun c_3 => ((absurd c_3 (by decide) : False)).elim) (fun c_3 => ?_)
      refine s_aload_n hC dX11_lorries_63 rfl rfl 1 rfl ?_
      refine s_iload_n hC dX11_lorries_64 rfl rfl 0 rfl ?_
      refine s_iconst hC (v := 2) dX11_lorries_65 rfl (by decide) ?_
      refine s_callV hC (ct_X11_fails_t l g _ _ _ _ hR_1 (by first | rfl | exact hth) _ (by decide)) ce_X11_fails cs_X11 (RepM.f_main hR_1) tw_1422 rfl rfl ⟨⟨le_b rfl, le_b rfl⟩, le_b rfl, le_b rfl⟩ (le_b rfl) dX11_lorries_66 rfl (dvk1 ?_) nokx
      refine WP.rm (RepM.s_main_0 hR_1 _) (fun hR_66 => ?_)
      refine z_if_eq hC (tgt := 74) dX11_lorries_69 rfl (by decide) (fun c_4 => ((absurd c_4 (by decide) : False)).elim) (fun c_4 => ?_)
      refine s_iconst hC (v := (-1)) dX11_lorries_72 rfl (by decide) ?_
      refine s_iret hC hr dX11_lorries_73 (le_b rfl) (le_b rfl) ?_
      first
        | exact okM_no 1 (by simp [cd_lorries, hl9, hp9, hg9, hm9, c_1, c_2, c_3, c_4]) (by decide) (by rfl) hR_66 rfl rfl hgr
        | exact okM_no 2 (by simp [cd_lorries, hl9, hp9, hg9, hm9, c_1, c_2, c_3, c_4]) (by decide) (by rfl) hR_66 rfl rfl hgr
    · refine s_iconst hC (v := 1) dX11_lorries_51 rfl (by decide) ?_
      refine s_goto hC (tgt := 56) dX11_lorries_52 (by decide) ?_
      refine s_iconst hC (v := 1) dX11_lorries_56 rfl (by decide) ?_
      refine s_callV hC (ct_X11_fails_t l g _ _ _ _ hR_1 (by first | rfl | exact hth) _ (by decide)) ce_X11_fails cs_X11 (RepM.f_main hR_1) tw_1422 rfl rfl ⟨⟨le_b rfl, le_b rfl⟩, le_b rfl, le_b rfl⟩ (le_b rfl) dX11_lorries_57 rfl (dvk1 ?_) nokx
      refine WP.rm (RepM.s_main_0 hR_1 _) (fun hR_57 => ?_)
      refine z_if_ne hC (tgt := 72) dX11_lorries_60 rfl (by decide) (fun c_5 => ?_) (fun c_5 => ((absurd c_5 (by decide) : False)).elim)
      refine s_iconst hC (v := (-1)) dX11_lorries_72 rfl (by decide) ?_
      refine s_iret hC hr dX11_lorries_73 (le_b rfl) (le_b rfl) ?_
      first
        | exact okM_no 1 (by simp [cd_lorries, hl9, hp9, hg9, hm9, c_1, c_2, c_5]) (by decide) (by rfl) hR_57 rfl rfl hgr
        | exact okM_no 2 (by simp [cd_lorries, hl9, hp9, hg9, hm9, c_1, c_2, c_5]) (by decide) (by rfl) hR_57 rfl rfl hgr
  · refine s_aload_n hC dX11_lorries_25 rfl rfl 0 rfl ?_
    refine s_getf hC cs_X11 18 tw_1267 (le_b rfl) (RepM.f_main hR_1) rfl dX11_lorries_26 rfl ?_
    refine z_if_ne hC (tgt := 36) dX11_lorries_29 rfl (by decide) (fun c_6 => ?_) (fun c_6 => ?_)
    · refine s_iconst hC (v := 0) dX11_lorries_36 rfl (by decide) ?_
      refine s_istore_n hC (L' := [(2, _), (0, _), (1, _)]) dX11_lorries_37 rfl rfl (le_b rfl) rfl ?_
      refine s_aload_n hC dX11_lorries_38 rfl rfl 1 rfl ?_
      refine s_iload_n hC dX11_lorries_39 rfl rfl 2 rfl ?_
      refine s_i2l hC dX11_lorries_40 rfl rfl ?_
      refine s_lconst hC (v := 1) dX11_lorries_41 rfl (by decide) ?_
      refine s_ldc2 hC tw_1789 dX11_lorries_42 rfl ?_
      refine s_callS hC (ct_X11_in l g _ _ _ _) ce_X11_in tw_1419 rfl rfl ⟨⟨le_b rfl, le_b rfl⟩, le_b rfl, le_b rfl⟩ (le_b rfl) dX11_lorries_45 rfl (dvk1 ?_) nokx
      rw [inJ_inR m9 1 100 (by first | rfl | decide) (by first | rfl | decide)]
      refine z_if_neB hC (tgt := 55) dX11_lorries_48 rfl (by decide) (fun c_7 => ?_) (fun c_7 => ?_)
      · refine s_iconst hC (v := 0) dX11_lorries_55 rfl (by decide) ?_
        refine s_iconst hC (v := 1) dX11_lorries_56 rfl (by decide) ?_
        refine s_callV hC (ct_X11_fails_f l g _ _ _ _ hR_1 (by first | rfl | exact hth) _) ce_X11_fails cs_X11 (RepM.f_main hR_1) tw_1422 rfl rfl ⟨⟨le_b rfl, le_b rfl⟩, le_b rfl, le_b rfl⟩ (le_b rfl) dX11_lorries_57 rfl (dvk1 ?_) nokx
        refine z_if_ne hC (tgt := 72) dX11_lorries_60 rfl (by decide) (fun c_8 => ((absurd c_8 (by decide) : False)).elim) (fun c_8 => ?_)
        refine s_aload_n hC dX11_lorries_63 rfl rfl 1 rfl ?_
        refine s_iload_n hC dX11_lorries_64 rfl rfl 0 rfl ?_
        refine s_iconst hC (v := 2) dX11_lorries_65 rfl (by decide) ?_
        refine s_callV hC (ct_X11_fails_f l g _ _ _ _ hR_1 (by first | rfl | exact hth) _) ce_X11_fails cs_X11 (RepM.f_main hR_1) tw_1422 rfl rfl ⟨⟨le_b rfl, le_b rfl⟩, le_b rfl, le_b rfl⟩ (le_b rfl) dX11_lorries_66 rfl (dvk1 ?_) nokx
        refine z_if_eq hC (tgt := 74) dX11_lorries_69 rfl (by decide) (fun c_9 => ?_) (fun c_9 => ((absurd c_9 (by decide) : False)).elim)
        refine s_iload_n hC dX11_lorries_74 rfl rfl 2 rfl ?_
        refine s_aload_n hC dX11_lorries_75 rfl rfl 1 rfl ?_
        refine s_getf hC cs_X11 18 tw_1267 (le_b rfl) (RepM.f_main hR_1) rfl dX11_lorries_76 rfl ?_
        refine s_bipush hC (v := 19) dX11_lorries_79 rfl (by decide) ?_
        refine s_iadd hC dX11_lorries_81 rfl ?_
        refine s_bipush hC (v := 20) dX11_lorries_82 rfl (by decide) ?_
        refine s_idiv hC dX11_lorries_84 rfl (by decide) ?_
        refine s_min hC tw_1626 ⟨le_b rfl, le_b rfl, le_b rfl, le_b rfl⟩ dX11_lorries_85 rfl ?_
        refine s_istore_n hC (L' := [(3, _), (2, _), (0, _), (1, _)]) dX11_lorries_88 rfl rfl (le_b rfl) rfl ?_
        refine s_aload_n hC dX11_lorries_89 rfl rfl 2 rfl ?_
        refine s_aload_n hC dX11_lorries_90 rfl rfl 2 rfl ?_
        refine s_getf hC cs_X11 19 tw_1268 (le_b rfl) (RepM.f_main hR_1) rfl dX11_lorries_91 rfl ?_
        refine s_iconst hC (v := 5) dX11_lorries_94 rfl (by decide) ?_
        refine s_iload_n hC dX11_lorries_95 rfl rfl 0 rfl ?_
        refine s_imul hC dX11_lorries_96 rfl ?_
        refine s_iadd hC dX11_lorries_97 rfl ?_
        refine s_ldcI hC tw_1588 dX11_lorries_98 rfl ?_
        refine z_icmp_le hC (tgt := 107) dX11_lorries_100 rfl (by decide) (fun c_10 => ?_) (fun c_10 => ?_)
        · refine s_iconst hC (v := 0) dX11_lorries_107 rfl (by decide) ?_
          refine s_iconst hC (v := 3) dX11_lorries_108 rfl (by decide) ?_
          refine s_callV hC (ct_X11_fails_f l g _ _ _ _ hR_1 (by first | rfl | exact hth) _) ce_X11_fails cs_X11 (RepM.f_main hR_1) tw_1422 rfl rfl ⟨⟨le_b rfl, le_b rfl⟩, le_b rfl, le_b rfl⟩ (le_b rfl) dX11_lorries_109 rfl (dvk1 ?_) nokx
          refine z_if_eq hC (tgt := 117) dX11_lorries_112 rfl (by decide) (fun c_11 => ?_) (fun c_11 => ((absurd c_11 (by decide) : False)).elim)
          refine s_aload_n hC dX11_lorries_117 rfl rfl 2 rfl ?_
          refine s_getf hC cs_X11 18 tw_1267 (le_b rfl) (RepM.f_main hR_1) rfl dX11_lorries_118 rfl ?_
          refine s_bipush hC (v := 20) dX11_lorries_121 rfl (by decide) ?_
          refine s_iload_n hC dX11_lorries_123 rfl rfl 0 rfl ?_
          refine s_imul hC dX11_lorries_124 rfl ?_
          refine s_min hC tw_1626 ⟨le_b rfl, le_b rfl, le_b rfl, le_b rfl⟩ dX11_lorries_125 rfl ?_
          refine s_istore hC (L' := [(4, _), (3, _), (2, _), (0, _), (1, _)]) dX11_lorries_128 rfl (le_b rfl) rfl ?_
          refine s_aload_n hC dX11_lorries_130 rfl rfl 3 rfl ?_
          refine s_dup hC dX11_lorries_131 rfl rfl ?_
          refine s_getf hC cs_X11 19 tw_1268 (le_b rfl) (RepM.f_main hR_1) rfl dX11_lorries_132 rfl ?_
          refine s_iconst hC (v := 5) dX11_lorries_135 rfl (by decide) ?_
          refine s_iload_n hC dX11_lorries_136 rfl rfl 1 rfl ?_
          refine s_imul hC dX11_lorries_137 rfl ?_
          refine s_iadd hC dX11_lorries_138 rfl ?_
          refine s_putf hC cs_X11 19 tw_1268 (le_b rfl) rfl rfl rfl (RepM.f_main hR_1) (le_b rfl) dX11_lorries_139 rfl ?_
          refine WP.rm (RepM.s_main_19 hR_1 _) (fun hR_139 => ?_)
          refine s_aload_n hC dX11_lorries_142 rfl rfl 3 rfl ?_
          refine s_dup hC dX11_lorries_143 rfl rfl ?_
          refine s_getf hC cs_X11 18 tw_1267 (le_b rfl) (RepM.f_main hR_139) rfl dX11_lorries_144 rfl ?_
          refine s_iload hC dX11_lorries_147 rfl 0 rfl ?_
          refine s_isub hC dX11_lorries_149 rfl ?_
          refine s_putf hC cs_X11 18 tw_1267 (le_b rfl) rfl rfl rfl (RepM.f_main hR_139) (le_b rfl) dX11_lorries_150 rfl ?_
          refine WP.rm (RepM.s_main_18 hR_139 _) (fun hR_150 => ?_)
          refine s_iload hC dX11_lorries_153 rfl 0 rfl ?_
          refine s_iret hC hr dX11_lorries_155 (le_b rfl) (le_b rfl) ?_
          rw [nx_lo]
          exact okM_ok (by simp [cd_lorries, hl9, hp9, hg9, hm9, c_1, c_6, c_7, c_8, c_9, c_10, c_11]) rfl (by rw [vl_lorries, hg9, Int32.mul_comm (iMin m9 _) 20]; exact iMin_c _ _) ((hR_150).u_away _ |>.u_fo _) (lo3_eq σ _ _) rfl rfl hgr
        · refine s_iconst hC (v := 1) dX11_lorries_103 rfl (by decide) ?_
          refine s_goto hC (tgt := 108) dX11_lorries_104 (by decide) ?_
          refine s_iconst hC (v := 3) dX11_lorries_108 rfl (by decide) ?_
          refine s_callV hC (ct_X11_fails_t l g _ _ _ _ hR_1 (by first | rfl | exact hth) _ (by decide)) ce_X11_fails cs_X11 (RepM.f_main hR_1) tw_1422 rfl rfl ⟨⟨le_b rfl, le_b rfl⟩, le_b rfl, le_b rfl⟩ (le_b rfl) dX11_lorries_109 rfl (dvk1 ?_) nokx
          refine WP.rm (RepM.s_main_0 hR_1 _) (fun hR_109 => ?_)
          refine z_if_eq hC (tgt := 117) dX11_lorries_112 rfl (by decide) (fun c_12 => ((absurd c_12 (by decide) : False)).elim) (fun c_12 => ?_)
          refine s_iconst hC (v := (-1)) dX11_lorries_115 rfl (by decide) ?_
          refine s_iret hC hr dX11_lorries_116 (le_b rfl) (le_b rfl) ?_
          exact okM_no 3 (by simp [cd_lorries, hl9, hp9, hg9, hm9, c_1, c_6, c_7, c_8, c_9, c_10, c_12]) (by decide) (by rfl) hR_109 rfl rfl hgr
      · refine s_iconst hC (v := 1) dX11_lorries_51 rfl (by decide) ?_
        refine s_goto hC (tgt := 56) dX11_lorries_52 (by decide) ?_
        refine s_iconst hC (v := 1) dX11_lorries_56 rfl (by decide) ?_
        refine s_callV hC (ct_X11_fails_t l g _ _ _ _ hR_1 (by first | rfl | exact hth) _ (by decide)) ce_X11_fails cs_X11 (RepM.f_main hR_1) tw_1422 rfl rfl ⟨⟨le_b rfl, le_b rfl⟩, le_b rfl, le_b rfl⟩ (le_b rfl) dX11_lorries_57 rfl (dvk1 ?_) nokx
        refine WP.rm (RepM.s_main_0 hR_1 _) (fun hR_57 => ?_)
        refine z_if_ne hC (tgt := 72) dX11_lorries_60 rfl (by decide) (fun c_13 => ?_) (fun c_13 => ((absurd c_13 (by decide) : False)).elim)
        refine s_iconst hC (v := (-1)) dX11_lorries_72 rfl (by decide) ?_
        refine s_iret hC hr dX11_lorries_73 (le_b rfl) (le_b rfl) ?_
        first
          | exact okM_no 1 (by simp [cd_lorries, hl9, hp9, hg9, hm9, c_1, c_6, c_7, c_13]) (by decide) (by rfl) hR_57 rfl rfl hgr
          | exact okM_no 2 (by simp [cd_lorries, hl9, hp9, hg9, hm9, c_1, c_6, c_7, c_13]) (by decide) (by rfl) hR_57 rfl rfl hgr
    · refine s_iconst hC (v := 1) dX11_lorries_32 rfl (by decide) ?_
      refine s_goto hC (tgt := 37) dX11_lorries_33 (by decide) ?_
      refine s_istore_n hC (L' := [(2, _), (0, _), (1, _)]) dX11_lorries_37 rfl rfl (le_b rfl) rfl ?_
      refine s_aload_n hC dX11_lorries_38 rfl rfl 1 rfl ?_
      refine s_iload_n hC dX11_lorries_39 rfl rfl 2 rfl ?_
      refine s_i2l hC dX11_lorries_40 rfl rfl ?_
      refine s_lconst hC (v := 1) dX11_lorries_41 rfl (by decide) ?_
      refine s_ldc2 hC tw_1789 dX11_lorries_42 rfl ?_
      refine s_callS hC (ct_X11_in l g _ _ _ _) ce_X11_in tw_1419 rfl rfl ⟨⟨le_b rfl, le_b rfl⟩, le_b rfl, le_b rfl⟩ (le_b rfl) dX11_lorries_45 rfl (dvk1 ?_) nokx
      rw [inJ_inR m9 1 100 (by first | rfl | decide) (by first | rfl | decide)]
      refine z_if_neB hC (tgt := 55) dX11_lorries_48 rfl (by decide) (fun c_14 => ?_) (fun c_14 => ?_)
      · refine s_iconst hC (v := 0) dX11_lorries_55 rfl (by decide) ?_
        refine s_iconst hC (v := 1) dX11_lorries_56 rfl (by decide) ?_
        refine s_callV hC (ct_X11_fails_f l g _ _ _ _ hR_1 (by first | rfl | exact hth) _) ce_X11_fails cs_X11 (RepM.f_main hR_1) tw_1422 rfl rfl ⟨⟨le_b rfl, le_b rfl⟩, le_b rfl, le_b rfl⟩ (le_b rfl) dX11_lorries_57 rfl (dvk1 ?_) nokx
        refine z_if_ne hC (tgt := 72) dX11_lorries_60 rfl (by decide) (fun c_15 => ((absurd c_15 (by decide) : False)).elim) (fun c_15 => ?_)
        refine s_aload_n hC dX11_lorries_63 rfl rfl 1 rfl ?_
        refine s_iload_n hC dX11_lorries_64 rfl rfl 0 rfl ?_
        refine s_iconst hC (v := 2) dX11_lorries_65 rfl (by decide) ?_
        refine s_callV hC (ct_X11_fails_t l g _ _ _ _ hR_1 (by first | rfl | exact hth) _ (by decide)) ce_X11_fails cs_X11 (RepM.f_main hR_1) tw_1422 rfl rfl ⟨⟨le_b rfl, le_b rfl⟩, le_b rfl, le_b rfl⟩ (le_b rfl) dX11_lorries_66 rfl (dvk1 ?_) nokx
        refine WP.rm (RepM.s_main_0 hR_1 _) (fun hR_66 => ?_)
        refine z_if_eq hC (tgt := 74) dX11_lorries_69 rfl (by decide) (fun c_16 => ((absurd c_16 (by decide) : False)).elim) (fun c_16 => ?_)
        refine s_iconst hC (v := (-1)) dX11_lorries_72 rfl (by decide) ?_
        refine s_iret hC hr dX11_lorries_73 (le_b rfl) (le_b rfl) ?_
        first
          | exact okM_no 1 (by simp [cd_lorries, hl9, hp9, hg9, hm9, c_1, c_6, c_14, c_15, c_16]) (by decide) (by rfl) hR_66 rfl rfl hgr
          | exact okM_no 2 (by simp [cd_lorries, hl9, hp9, hg9, hm9, c_1, c_6, c_14, c_15, c_16]) (by decide) (by rfl) hR_66 rfl rfl hgr
      · refine s_iconst hC (v := 1) dX11_lorries_51 rfl (by decide) ?_
        refine s_goto hC (tgt := 56) dX11_lorries_52 (by decide) ?_
        refine s_iconst hC (v := 1) dX11_lorries_56 rfl (by decide) ?_
        refine s_callV hC (ct_X11_fails_t l g _ _ _ _ hR_1 (by first | rfl | exact hth) _ (by decide)) ce_X11_fails cs_X11 (RepM.f_main hR_1) tw_1422 rfl rfl ⟨⟨le_b rfl, le_b rfl⟩, le_b rfl, le_b rfl⟩ (le_b rfl) dX11_lorries_57 rfl (dvk1 ?_) nokx
        refine WP.rm (RepM.s_main_0 hR_1 _) (fun hR_57 => ?_)
        refine z_if_ne hC (tgt := 72) dX11_lorries_60 rfl (by decide) (fun c_17 => ?_) (fun c_17 => ((absurd c_17 (by decide) : False)).elim)
        refine s_iconst hC (v := (-1)) dX11_lorries_72 rfl (by decide) ?_
        refine s_iret hC hr dX11_lorries_73 (le_b rfl) (le_b rfl) ?_
        first
          | exact okM_no 1 (by simp [cd_lorries, hl9, hp9, hg9, hm9, c_1, c_6, c_14, c_17]) (by decide) (by rfl) hR_57 rfl rfl hgr
          | exact okM_no 2 (by simp [cd_lorries, hl9, hp9, hg9, hm9, c_1, c_6, c_14, c_17]) (by decide) (by rfl) hR_57 rfl rfl hgr
