/-- grout: filled 0 .. 180, the first minute no -1 -/
def fiOK (s : St) : Prop := ∀ i, i < s.n → (∃ f, f ≤ 180 ∧ (s.ring i).fi = nI f) ∧ (¬ (s.ring i).fi = 0 → ¬ (s.ring i).ff = -1)
theorem gap_q {q : Nat} (h : q < 4) : ∃ G, gapF (nI q) + gapF (nI q) / 5 = nI G ∧ G ≤ 180 := by
  obtain rfl | rfl | rfl | rfl : q = 0 ∨ q = 1 ∨ q = 2 ∨ q = 3 := by omega
  · exact ⟨144, by decide, by decide⟩
  · exact ⟨180, by decide, by decide⟩
  · exact ⟨132, by decide, by decide⟩
  · exact ⟨168, by decide, by decide⟩
theorem gt_le {G f : Nat} (hG : G ≤ 180) (hf : f ≤ 180) {a : Int32} (h : inR a 1 200 = true) : (a ≤ nI G - nI f) = (nI f + a ≤ nI G) := by
  simp only [inR, Bool.and_eq_true, decide_eq_true_eq] at h
  obtain ⟨x, hx, rfl⟩ := nI_of (Int32.not_lt.mpr (Int32.le_trans (by decide) h.1))
  have h6 := (nI_leI hx (by decide : 200 < 2 ^ 31)).mp h.2
  have e1 : ∀ z : Nat, z ≤ 1000 → (nI z).toInt = z := fun z hz => nI_toInt (by omega)
  have hs : (nI G - nI f).toInt = (G : Int) - f := by
    rw [Int32.toInt_sub, e1 G (by omega), e1 f (by omega)]
    exact Int.bmod_eq_of_le (by omega) (by omega)
  have hp : (nI f + nI x).toInt = (f : Int) + x := by
    rw [Int32.toInt_add, e1 x (by omega), e1 f (by omega)]
    exact Int.bmod_eq_of_le (by omega) (by omega)
  rw [Int32.le_iff_toInt_le, Int32.le_iff_toInt_le, hs, hp, e1 G (by omega), e1 x (by omega)]
  exact propext (by omega)
theorem gt_add {f : Nat} (hf : f ≤ 180) {a : Int32} (h : inR a 1 200 = true) : ¬ nI f + a = 0 := by
  simp only [inR, Bool.and_eq_true, decide_eq_true_eq] at h
  obtain ⟨x, hx, rfl⟩ := nI_of (Int32.not_lt.mpr (Int32.le_trans (by decide) h.1))
  have h6 := (nI_leI hx (by decide : 200 < 2 ^ 31)).mp h.2
  have h7 := (nI_leI (by decide : 1 < 2 ^ 31) hx).mp h.1
  rw [nI_add]
  intro h9
  have h5 : f + x = 0 := (nI_eq (by omega) (by decide : 0 < 2 ^ 31)).mp h9
  omega
theorem set_eq {f : Nat} (hf : f ≤ 180) (r : Rg) (he : r.fi = nI f) (m : Int32) : setF r m = (decide (¬ r.fi = 0) && decide (600 ≤ m - r.ff)) := by
  have h : (¬ r.fi ≤ 0) = (¬ r.fi = 0) := by
    rw [le00 (by rw [he]; exact nI_pos' (by omega))]
  simp only [setF, h]
theorem mfs_eq {s : St} {a b : Rg} (h1 : b.turn = a.turn) (h2 : b.oR = a.oR) (h3 : b.oU = a.oU) (h4 : b.mi = a.mi) (h5 : b.en = a.en) (h6 : b.fi = a.fi) (h7 : b.no = a.no) (h8 : b.it = a.it) (v : Int32) : mfs b v = mfs a v := by
  simp only [mfs, h1, h2, h3, h4, h5, h6, h7, h8]
def grm (s : St) (j : Nat) (a : Int32) : St := s.w_ring (upT s.ring j ((s.ring j).w_fi ((s.ring j).fi + a)))
theorem rg_ff (r : Rg) (x : Int32) : (r.w_ff r.ff).w_fi x = r.w_fi x := by simp only [Rg.turn, Rg.kind, Rg.pR, Rg.pU, Rg.fo, Rg.oR, Rg.oU, Rg.mi, Rg.en, Rg.mo, Rg.no, Rg.it, Rg.fi, Rg.ff, Rg.w_turn, Rg.w_kind, Rg.w_pR, Rg.w_pU, Rg.w_fo, Rg.w_oR, Rg.w_oU, Rg.w_mi, Rg.w_en, Rg.w_mo, Rg.w_no, Rg.w_it, Rg.w_fi, Rg.w_ff]
theorem rg_fm (r : Rg) (m a : Int32) : (r.w_ff m).w_fi ((r.w_ff m).fi + a) = (r.w_ff m).w_fi (r.fi + a) := by simp only [Rg.turn, Rg.kind, Rg.pR, Rg.pU, Rg.fo, Rg.oR, Rg.oU, Rg.mi, Rg.en, Rg.mo, Rg.no, Rg.it, Rg.fi, Rg.ff, Rg.w_turn, Rg.w_kind, Rg.w_pR, Rg.w_pU, Rg.w_fo, Rg.w_oR, Rg.w_oU, Rg.w_mi, Rg.w_en, Rg.w_mo, Rg.w_no, Rg.w_it, Rg.w_fi, Rg.w_ff]
theorem gr2_ring (s : St) (j : Nat) (a : Int32) : gr2 s j a = s.w_ring (upT s.ring j (((s.ring j).w_ff (if (s.ring j).fi = 0 then s.mn else (s.ring j).ff)).w_fi ((s.ring j).fi + a))) := by
  unfold gr2 gr1
  by_cases h : (s.ring j).fi = 0
  · simp only [if_pos h]
    rw [show (s.w_ring (upT s.ring j ((s.ring j).w_ff s.mn))).ring = upT s.ring j ((s.ring j).w_ff s.mn) from by simp only [St.kinds, St.refs, St.depths, St.waters, St.bR, St.bU, St.wears, St.order, St.waits, St.hR, St.hU, St.oR, St.oU, St.press, St.foam, St.pR, St.pU, St.seg, St.pit, St.away, St.mn, St.fc, St.fl, St.fo, St.n, St.ring, St.nh, St.hs, St.nb, St.bo, St.w_kinds, St.w_refs, St.w_depths, St.w_waters, St.w_bR, St.w_bU, St.w_wears, St.w_order, St.w_waits, St.w_hR, St.w_hU, St.w_oR, St.w_oU, St.w_press, St.w_foam, St.w_pR, St.w_pU, St.w_seg, St.w_pit, St.w_away, St.w_mn, St.w_fc, St.w_fl, St.w_fo, St.w_n, St.w_ring, St.w_nh, St.w_hs, St.w_nb, St.w_bo, St.w_course, St.a_ring, St.a_house, St.a_bore], upT_s, upT_upT, rg_fm]
    simp only [St.kinds, St.refs, St.depths, St.waters, St.bR, St.bU, St.wears, St.order, St.waits, St.hR, St.hU, St.oR, St.oU, St.press, St.foam, St.pR, St.pU, St.seg, St.pit, St.away, St.mn, St.fc, St.fl, St.fo, St.n, St.ring, St.nh, St.hs, St.nb, St.bo, St.w_kinds, St.w_refs, St.w_depths, St.w_waters, St.w_bR, St.w_bU, St.w_wears, St.w_order, St.w_waits, St.w_hR, St.w_hU, St.w_oR, St.w_oU, St.w_press, St.w_foam, St.w_pR, St.w_pU, St.w_seg, St.w_pit, St.w_away, St.w_mn, St.w_fc, St.w_fl, St.w_fo, St.w_n, St.w_ring, St.w_nh, St.w_hs, St.w_nb, St.w_bo, St.w_course, St.a_ring, St.a_house, St.a_bore]
  · simp only [if_neg h]
    rw [rg_ff]
theorem gt_cg (s : St) (j : Nat) (a : Int32) : RdM (grm s j a) (gr2 s j a) := by
  rw [gr2_ring]
  simp only [RdM, grm, St.kinds, St.refs, St.depths, St.waters, St.bR, St.bU, St.wears, St.order, St.waits, St.hR, St.hU, St.oR, St.oU, St.press, St.foam, St.pR, St.pU, St.seg, St.pit, St.away, St.mn, St.fc, St.fl, St.fo, St.n, St.ring, St.nh, St.hs, St.nb, St.bo, St.w_kinds, St.w_refs, St.w_depths, St.w_waters, St.w_bR, St.w_bU, St.w_wears, St.w_order, St.w_waits, St.w_hR, St.w_hU, St.w_oR, St.w_oU, St.w_press, St.w_foam, St.w_pR, St.w_pU, St.w_seg, St.w_pit, St.w_away, St.w_mn, St.w_fc, St.w_fl, St.w_fo, St.w_n, St.w_ring, St.w_nh, St.w_hs, St.w_nb, St.w_bo, St.w_course, St.a_ring, St.a_house, St.a_bore, true_and]
  intro i v
  by_cases hi : i = j
  · rw [hi, upT_s, upT_s]
    simp only [mfs, Rg.turn, Rg.kind, Rg.pR, Rg.pU, Rg.fo, Rg.oR, Rg.oU, Rg.mi, Rg.en, Rg.mo, Rg.no, Rg.it, Rg.fi, Rg.ff, Rg.w_turn, Rg.w_kind, Rg.w_pR, Rg.w_pU, Rg.w_fo, Rg.w_oR, Rg.w_oU, Rg.w_mi, Rg.w_en, Rg.w_mo, Rg.w_no, Rg.w_it, Rg.w_fi, Rg.w_ff]
  · rw [upT_n hi, upT_n hi]
theorem gt_vl (s : St) (j : Nat) (a : Int32) (h : (nI j).toNatClampNeg = j) : missF ((grm s j a).ring j) = vl_grout s (nI j) a := by
  rw [vl_grout, h, gr2_ring, show (grm s j a).ring = upT s.ring j ((s.ring j).w_fi ((s.ring j).fi + a)) from by simp only [grm, St.kinds, St.refs, St.depths, St.waters, St.bR, St.bU, St.wears, St.order, St.waits, St.hR, St.hU, St.oR, St.oU, St.press, St.foam, St.pR, St.pU, St.seg, St.pit, St.away, St.mn, St.fc, St.fl, St.fo, St.n, St.ring, St.nh, St.hs, St.nb, St.bo, St.w_kinds, St.w_refs, St.w_depths, St.w_waters, St.w_bR, St.w_bU, St.w_wears, St.w_order, St.w_waits, St.w_hR, St.w_hU, St.w_oR, St.w_oU, St.w_press, St.w_foam, St.w_pR, St.w_pU, St.w_seg, St.w_pit, St.w_away, St.w_mn, St.w_fc, St.w_fl, St.w_fo, St.w_n, St.w_ring, St.w_nh, St.w_hs, St.w_nb, St.w_bo, St.w_course, St.a_ring, St.a_house, St.a_bore], upT_s]
  rw [show (s.w_ring (upT s.ring j (((s.ring j).w_ff (if (s.ring j).fi = 0 then s.mn else (s.ring j).ff)).w_fi ((s.ring j).fi + a)))).ring = upT s.ring j (((s.ring j).w_ff (if (s.ring j).fi = 0 then s.mn else (s.ring j).ff)).w_fi ((s.ring j).fi + a)) from by simp only [St.kinds, St.refs, St.depths, St.waters, St.bR, St.bU, St.wears, St.order, St.waits, St.hR, St.hU, St.oR, St.oU, St.press, St.foam, St.pR, St.pU, St.seg, St.pit, St.away, St.mn, St.fc, St.fl, St.fo, St.n, St.ring, St.nh, St.hs, St.nb, St.bo, St.w_kinds, St.w_refs, St.w_depths, St.w_waters, St.w_bR, St.w_bU, St.w_wears, St.w_order, St.w_waits, St.w_hR, St.w_hU, St.w_oR, St.w_oU, St.w_press, St.w_foam, St.w_pR, St.w_pU, St.w_seg, St.w_pit, St.w_away, St.w_mn, St.w_fc, St.w_fl, St.w_fo, St.w_n, St.w_ring, St.w_nh, St.w_hs, St.w_nb, St.w_bo, St.w_course, St.a_ring, St.a_house, St.a_bore], upT_s]
  simp only [missF, Rg.turn, Rg.kind, Rg.pR, Rg.pU, Rg.fo, Rg.oR, Rg.oU, Rg.mi, Rg.en, Rg.mo, Rg.no, Rg.it, Rg.fi, Rg.ff, Rg.w_turn, Rg.w_kind, Rg.w_pR, Rg.w_pU, Rg.w_fo, Rg.w_oR, Rg.w_oU, Rg.w_mi, Rg.w_en, Rg.w_mo, Rg.w_no, Rg.w_it, Rg.w_fi, Rg.w_ff]
theorem gt_ok {s : St} {y : Ey} {j : Nat} {a v : Int32} (hg : grOK s y) (hf : fiOK s) (hj : j < s.n) (ha : inR a 1 200 = true) (hv : v = if (s.ring j).fi = 0 then s.mn else (s.ring j).ff) : grOK (gr2 s j a) (y.w_gr (upT y.gr j v)) := by
  rw [gr2_ring]
  intro i hi
  rw [show (s.w_ring (upT s.ring j (((s.ring j).w_ff (if (s.ring j).fi = 0 then s.mn else (s.ring j).ff)).w_fi ((s.ring j).fi + a)))).ring = upT s.ring j (((s.ring j).w_ff (if (s.ring j).fi = 0 then s.mn else (s.ring j).ff)).w_fi ((s.ring j).fi + a)) from by simp only [St.kinds, St.refs, St.depths, St.waters, St.bR, St.bU, St.wears, St.order, St.waits, St.hR, St.hU, St.oR, St.oU, St.press, St.foam, St.pR, St.pU, St.seg, St.pit, St.away, St.mn, St.fc, St.fl, St.fo, St.n, St.ring, St.nh, St.hs, St.nb, St.bo, St.w_kinds, St.w_refs, St.w_depths, St.w_waters, St.w_bR, St.w_bU, St.w_wears, St.w_order, St.w_waits, St.w_hR, St.w_hU, St.w_oR, St.w_oU, St.w_press, St.w_foam, St.w_pR, St.w_pU, St.w_seg, St.w_pit, St.w_away, St.w_mn, St.w_fc, St.w_fl, St.w_fo, St.w_n, St.w_ring, St.w_nh, St.w_hs, St.w_nb, St.w_bo, St.w_course, St.a_ring, St.a_house, St.a_bore]]
  rw [show (s.w_ring (upT s.ring j (((s.ring j).w_ff (if (s.ring j).fi = 0 then s.mn else (s.ring j).ff)).w_fi ((s.ring j).fi + a)))).n = s.n from by simp only [St.kinds, St.refs, St.depths, St.waters, St.bR, St.bU, St.wears, St.order, St.waits, St.hR, St.hU, St.oR, St.oU, St.press, St.foam, St.pR, St.pU, St.seg, St.pit, St.away, St.mn, St.fc, St.fl, St.fo, St.n, St.ring, St.nh, St.hs, St.nb, St.bo, St.w_kinds, St.w_refs, St.w_depths, St.w_waters, St.w_bR, St.w_bU, St.w_wears, St.w_order, St.w_waits, St.w_hR, St.w_hU, St.w_oR, St.w_oU, St.w_press, St.w_foam, St.w_pR, St.w_pU, St.w_seg, St.w_pit, St.w_away, St.w_mn, St.w_fc, St.w_fl, St.w_fo, St.w_n, St.w_ring, St.w_nh, St.w_hs, St.w_nb, St.w_bo, St.w_course, St.a_ring, St.a_house, St.a_bore]] at hi
  show upT y.gr j v i = _
  by_cases h : i = j
  · subst h
    obtain ⟨⟨f, hf1, hf2⟩, hf3⟩ := hf i hi
    rw [upT_s, upT_s, if_neg (show ¬ (((s.ring i).w_ff (if (s.ring i).fi = 0 then s.mn else (s.ring i).ff)).w_fi ((s.ring i).fi + a)).fi = 0 from (by rw [show (((s.ring i).w_ff (if (s.ring i).fi = 0 then s.mn else (s.ring i).ff)).w_fi ((s.ring i).fi + a)).fi = (s.ring i).fi + a from by simp only [Rg.turn, Rg.kind, Rg.pR, Rg.pU, Rg.fo, Rg.oR, Rg.oU, Rg.mi, Rg.en, Rg.mo, Rg.no, Rg.it, Rg.fi, Rg.ff, Rg.w_turn, Rg.w_kind, Rg.w_pR, Rg.w_pU, Rg.w_fo, Rg.w_oR, Rg.w_oU, Rg.w_mi, Rg.w_en, Rg.w_mo, Rg.w_no, Rg.w_it, Rg.w_fi, Rg.w_ff], hf2]; exact gt_add hf1 ha)), hv]
    simp only [Rg.turn, Rg.kind, Rg.pR, Rg.pU, Rg.fo, Rg.oR, Rg.oU, Rg.mi, Rg.en, Rg.mo, Rg.no, Rg.it, Rg.fi, Rg.ff, Rg.w_turn, Rg.w_kind, Rg.w_pR, Rg.w_pU, Rg.w_fo, Rg.w_oR, Rg.w_oU, Rg.w_mi, Rg.w_en, Rg.w_mo, Rg.w_no, Rg.w_it, Rg.w_fi, Rg.w_ff]
  · rw [upT_n h, upT_n h]
    exact hg i hi
theorem rk_gr {s : St} (h : rkOK s) (j : Nat) (a : Int32) : rkOK (grm s j a) := by
  intro i hi
  rw [show (grm s j a).ring = upT s.ring j ((s.ring j).w_fi ((s.ring j).fi + a)) from by simp only [grm, St.kinds, St.refs, St.depths, St.waters, St.bR, St.bU, St.wears, St.order, St.waits, St.hR, St.hU, St.oR, St.oU, St.press, St.foam, St.pR, St.pU, St.seg, St.pit, St.away, St.mn, St.fc, St.fl, St.fo, St.n, St.ring, St.nh, St.hs, St.nb, St.bo, St.w_kinds, St.w_refs, St.w_depths, St.w_waters, St.w_bR, St.w_bU, St.w_wears, St.w_order, St.w_waits, St.w_hR, St.w_hU, St.w_oR, St.w_oU, St.w_press, St.w_foam, St.w_pR, St.w_pU, St.w_seg, St.w_pit, St.w_away, St.w_mn, St.w_fc, St.w_fl, St.w_fo, St.w_n, St.w_ring, St.w_nh, St.w_hs, St.w_nb, St.w_bo, St.w_course, St.a_ring, St.a_house, St.a_bore], show (grm s j a).kinds = s.kinds from by simp only [grm, St.kinds, St.refs, St.depths, St.waters, St.bR, St.bU, St.wears, St.order, St.waits, St.hR, St.hU, St.oR, St.oU, St.press, St.foam, St.pR, St.pU, St.seg, St.pit, St.away, St.mn, St.fc, St.fl, St.fo, St.n, St.ring, St.nh, St.hs, St.nb, St.bo, St.w_kinds, St.w_refs, St.w_depths, St.w_waters, St.w_bR, St.w_bU, St.w_wears, St.w_order, St.w_waits, St.w_hR, St.w_hU, St.w_oR, St.w_oU, St.w_press, St.w_foam, St.w_pR, St.w_pU, St.w_seg, St.w_pit, St.w_away, St.w_mn, St.w_fc, St.w_fl, St.w_fo, St.w_n, St.w_ring, St.w_nh, St.w_hs, St.w_nb, St.w_bo, St.w_course, St.a_ring, St.a_house, St.a_bore]]
  rw [show (grm s j a).n = s.n from by simp only [grm, St.kinds, St.refs, St.depths, St.waters, St.bR, St.bU, St.wears, St.order, St.waits, St.hR, St.hU, St.oR, St.oU, St.press, St.foam, St.pR, St.pU, St.seg, St.pit, St.away, St.mn, St.fc, St.fl, St.fo, St.n, St.ring, St.nh, St.hs, St.nb, St.bo, St.w_kinds, St.w_refs, St.w_depths, St.w_waters, St.w_bR, St.w_bU, St.w_wears, St.w_order, St.w_waits, St.w_hR, St.w_hU, St.w_oR, St.w_oU, St.w_press, St.w_foam, St.w_pR, St.w_pU, St.w_seg, St.w_pit, St.w_away, St.w_mn, St.w_fc, St.w_fl, St.w_fo, St.w_n, St.w_ring, St.w_nh, St.w_hs, St.w_nb, St.w_bo, St.w_course, St.a_ring, St.a_house, St.a_bore]] at hi
  by_cases he : i = j
  · rw [he, upT_s]
    exact (h j (he ▸ hi))
  · rw [upT_n he]
    exact h i hi
set_option maxHeartbeats 1000000 in
set_option maxRecDepth 100000 in
theorem ct_X11_grout (l : Launch) (g : Gl) (ω : Wd) (ad : Iy → Nat) (y : Ey) (σ : St) (hR : RepM g ad y σ ω) (r9 : Int32) (a9 : Int32) (hgr : grOK σ y) (hk : kIn σ) (hrk : rkOK σ) (hn : nOK σ) (hfi : fiOK σ) : CT l g yX11_grout cX11_grout 5 (some .int) 4 85 0 0 [.ref (ad .main), .int r9, .int a9] ω (okM g ad (cd_grout σ r9 a9) Value.int (vl_grout σ r9 a9) (nx_grout σ r9 a9) σ) (nox) := by
  have hn120 : σ.n ≤ 120 := hn
  refine CT.of (own := "BoringheadModel") rfl rfl (le_b rfl) rfl ?_
  intro p e s m args below meth c sz0 hC hr htab hin
  refine s_aload_n hC dX11_grout_0 rfl rfl 0 rfl ?_
  refine s_callV hC (ct_X11_begins l g _ _ _ _ hR) ce_X11_begins cs_X11 (RepM.f_main hR) tw_1324 rfl rfl ⟨⟨le_b rfl, le_b rfl⟩, le_b rfl, le_b rfl⟩ (le_b rfl) dX11_grout_1 rfl (dvk0 ?_) nokx
  refine WP.rm (RepM.s_main_0 hR 0) (fun hR_1 => ?_)
  refine s_aload_n hC dX11_grout_4 rfl rfl 0 rfl ?_
  refine s_iload_n hC dX11_grout_5 rfl rfl 1 rfl ?_
  refine s_callV hC (ct_X11_noRing l g _ _ _ _ hR_1 rfl _) ce_X11_noRing cs_X11 (RepM.f_main hR_1) tw_1675 rfl rfl ⟨⟨le_b rfl, le_b rfl⟩, le_b rfl, le_b rfl⟩ (le_b rfl) dX11_grout_6 rfl (fun r w h9 => ?_) nokx
  rcases h9 with ⟨c9, rfl, rfl⟩ | ⟨c9, rfl, rfl⟩
  · obtain ⟨j, rfl, hj⟩ := inL_of (Nat.lt_of_le_of_lt (RepM.b_ring hR) (by decide)) c9
    have hcl : (nI j).toNatClampNeg = j := nI_clamp (by have := RepM.b_ring hR; omega)
    refine z_if_ne hC (tgt := 37) dX11_grout_9 rfl (by decide) (fun c_1 => ((absurd c_1 (by decide) : False)).elim) (fun c_1 => ?_)
    refine s_aload_n hC dX11_grout_12 rfl rfl 0 rfl ?_
    refine s_iload_n hC dX11_grout_13 rfl rfl 2 rfl ?_
    refine s_i2l hC dX11_grout_14 rfl rfl ?_
    refine s_lconst hC (v := 1) dX11_grout_15 rfl (by decide) ?_
    refine s_ldc2 hC tw_1717 dX11_grout_16 rfl ?_
    refine s_callS hC (ct_X11_in l g _ _ _ _) ce_X11_in tw_1419 rfl rfl ⟨⟨le_b rfl, le_b rfl⟩, le_b rfl, le_b rfl⟩ (le_b rfl) dX11_grout_19 rfl (dvk1 ?_) nokx
    rw [inJ_inR a9 1 200 (by first | rfl | decide) (by first | rfl | decide)]
    refine z_if_neB hC (tgt := 29) dX11_grout_22 rfl (by decide) (fun c_2 => ?_) (fun c_2 => ?_)
    · refine s_iconst hC (v := 0) dX11_grout_29 rfl (by decide) ?_
      refine s_iconst hC (v := 2) dX11_grout_30 rfl (by decide) ?_
      refine s_callV hC (ct_X11_fails_f l g _ _ _ _ hR_1 (by first | rfl | exact hth) _) ce_X11_fails cs_X11 (RepM.f_main hR_1) tw_1422 rfl rfl ⟨⟨le_b rfl, le_b rfl⟩, le_b rfl, le_b rfl⟩ (le_b rfl) dX11_grout_31 rfl (dvk1 ?_) nokx
      refine z_if_eq hC (tgt := 39) dX11_grout_34 rfl (by decide) (fun c_3 => ?_) (fun c_3 => ((absurd c_3 (by decide) : False)).elim)
      have hgj := hgr j hj
      obtain ⟨⟨f, hf1, hf2⟩, hf3⟩ := hfi j hj
      obtain ⟨q, hq, hk9⟩ := hk j (by omega)
      obtain ⟨G, hG1, hG2⟩ := gap_q hq
      have hle : (a9 ≤ roomF (σ.ring j)) = ((σ.ring j).fi + a9 ≤ gapF (σ.kinds j) + gapF (σ.kinds j) / 5) := by rw [roomF, hrk j hj, hk9, hG1, hf2]; exact gt_le hG2 hf1 c_2
      have hse := set_eq hf1 (σ.ring j) hf2 σ.mn
      by_cases h0 : (σ.ring j).fi = 0
      · have hg0 : (y.w_th 0).gr j = -1 := hgj.trans (if_pos h0)
        refine s_aload_n hC dX11_grout_39 rfl rfl 0 rfl ?_
        refine s_getf hC cs_X11 8 tw_1257 (le_b rfl) (RepM.f_main hR_1) rfl dX11_grout_40 rfl ?_
        refine s_iload_n hC dX11_grout_43 rfl rfl 1 rfl ?_
        refine s_callF hC (nA := 1) 3 (ct_Jx4a65c_get_915e3 l g _ _ _ _ _ (RepM.f_rings hR_1) _ _ (RepM.p_ring hR_1 hj).2.1 (RepM.p_ring hR_1 hj).2.2.1 _ _ (RepM.p_ring hR_1 hj).2.2.2.1 hj (RepM.p_ring hR_1 hj).2.2.2.2) rfl tw_288 tw_5 tw_286 tw_1610 (by decide +kernel) cs_Jx4a65c (RepM.f_rings hR_1) tw_1607 rfl rfl ⟨⟨le_b rfl, le_b rfl⟩, le_b rfl, le_b rfl⟩ (le_b rfl) dX11_grout_44 rfl (dvk1 ?_) nokx
        refine s_cast hC cs_X10 tw_1613 (RepM.f_ring hR_1 hj) dX11_grout_49 rfl ?_
        refine s_astore_n hC (L' := [(3, _), (0, _), (1, _), (2, _)]) dX11_grout_52 rfl rfl (le_b rfl) rfl ?_
        refine s_aload_n hC dX11_grout_53 rfl rfl 0 rfl ?_
        refine s_getfN hC cs_X10 6 tw_1645 (le_b rfl) (RepM.f_ring hR_1 hj) rfl dX11_grout_54 rfl ?_
        refine s_iconst hC (v := (-1)) dX11_grout_57 rfl (by decide) ?_
        rw [hg0]
        refine z_icmp_eq hC (tgt := 80) dX11_grout_58 rfl (by decide) (fun c_4 => ?_) (fun c_4 => (c_4 rfl).elim)
        refine s_iconst hC (v := 0) dX11_grout_80 rfl (by decide) ?_
        refine s_istore hC (L' := [(4, _), (3, _), (0, _), (1, _), (2, _)]) dX11_grout_81 rfl (le_b rfl) rfl ?_
        refine s_aload_n hC dX11_grout_83 rfl rfl 2 rfl ?_
        refine s_iload hC dX11_grout_84 rfl 0 rfl ?_
        refine z_if_ne hC (tgt := 111) dX11_grout_86 rfl (by decide) (fun c_5 => ((absurd c_5 (by decide) : False)).elim) (fun c_5 => ?_)
        refine s_aload_n hC dX11_grout_89 rfl rfl 1 rfl ?_
        refine s_getfN hC cs_X10 5 tw_1643 (le_b rfl) (RepM.f_ring hR_1 hj) rfl dX11_grout_90 rfl ?_
        refine s_iload_n hC dX11_grout_93 rfl rfl 4 rfl ?_
        refine s_iadd hC dX11_grout_94 rfl ?_
        refine s_aload_n hC dX11_grout_95 rfl rfl 2 rfl ?_
        refine s_iload_n hC dX11_grout_96 rfl rfl 3 rfl ?_
        refine s_callV hC (ct_X11_gap l g _ _ _ _ hR_1 hk _ (by omega)) ce_X11_gap cs_X11 (RepM.f_main hR_1) tw_1718 rfl rfl ⟨⟨le_b rfl, le_b rfl⟩, le_b rfl, le_b rfl⟩ (le_b rfl) dX11_grout_97 rfl (dvk1 ?_) nokx
        refine s_aload_n hC dX11_grout_100 rfl rfl 2 rfl ?_
        refine s_iload_n hC dX11_grout_101 rfl rfl 3 rfl ?_
        refine s_callV hC (ct_X11_gap l g _ _ _ _ hR_1 hk _ (by omega)) ce_X11_gap cs_X11 (RepM.f_main hR_1) tw_1718 rfl rfl ⟨⟨le_b rfl, le_b rfl⟩, le_b rfl, le_b rfl⟩ (le_b rfl) dX11_grout_102 rfl (dvk1 ?_) nokx
        refine s_iconst hC (v := 5) dX11_grout_105 rfl (by decide) ?_
        refine s_idiv hC dX11_grout_106 rfl (by decide) ?_
        refine s_iadd hC dX11_grout_107 rfl ?_
        refine z_icmp_le hC (tgt := 115) dX11_grout_108 rfl (by decide) (fun c_6 => ?_) (fun c_6 => ?_)
        · refine s_iconst hC (v := 0) dX11_grout_115 rfl (by decide) ?_
          refine s_iconst hC (v := 3) dX11_grout_116 rfl (by decide) ?_
          refine s_callV hC (ct_X11_fails_f l g _ _ _ _ hR_1 (by first | rfl | exact hth) _) ce_X11_fails cs_X11 (RepM.f_main hR_1) tw_1422 rfl rfl ⟨⟨le_b rfl, le_b rfl⟩, le_b rfl, le_b rfl⟩ (le_b rfl) dX11_grout_117 rfl (dvk1 ?_) nokx
          refine z_if_eq hC (tgt := 125) dX11_grout_120 rfl (by decide) (fun c_7 => ?_) (fun c_7 => ((absurd c_7 (by decide) : False)).elim)
          refine s_aload_n hC dX11_grout_125 rfl rfl 1 rfl ?_
          refine s_aload_n hC dX11_grout_126 rfl rfl 1 rfl ?_
          refine s_getfN hC cs_X10 6 tw_1645 (le_b rfl) (RepM.f_ring hR_1 hj) rfl dX11_grout_127 rfl ?_
          refine s_iconst hC (v := (-1)) dX11_grout_130 rfl (by decide) ?_
          rw [hg0]
          refine z_icmp_ne hC (tgt := 141) dX11_grout_131 rfl (by decide) (fun c_8 => (c_8 rfl).elim) (fun c_8 => ?_)
          refine s_aload_n hC dX11_grout_134 rfl rfl 2 rfl ?_
          refine s_getf hC cs_X11 19 tw_1268 (le_b rfl) (RepM.f_main hR_1) rfl dX11_grout_135 rfl ?_
          refine s_goto hC (tgt := 145) dX11_grout_138 (by decide) ?_
          refine s_putfN hC cs_X10 6 tw_1645 (le_b rfl) rfl rfl rfl (RepM.f_ring hR_1 hj) (le_b rfl) dX11_grout_145 rfl ?_
          refine WP.rm (RepM.s_ring_6 hR_1 hj _) (fun hR_145 => ?_)
          refine s_aload_n hC dX11_grout_148 rfl rfl 1 rfl ?_
          refine s_dup hC dX11_grout_149 rfl rfl ?_
          refine s_getfN hC cs_X10 5 tw_1643 (le_b rfl) (RepM.f_ring hR_145 hj) rfl dX11_grout_150 rfl ?_
          refine s_iload_n hC dX11_grout_153 rfl rfl 4 rfl ?_
          refine s_iadd hC dX11_grout_154 rfl ?_
          refine s_putfN hC cs_X10 5 tw_1643 (le_b rfl) rfl rfl rfl (RepM.f_ring hR_145 hj) (le_b rfl) dX11_grout_155 rfl ?_
          refine WP.rm (RepM.s_ring_5 hR_145 hj ((σ.ring j).fi + a9)) (fun hR_155 => ?_)
          change RepM g ad _ (grm σ j a9) _ at hR_155
          have hrk2 : rkOK (grm σ j a9) := rk_gr hrk j a9
          have hk2 : kIn (grm σ j a9) := kIn_cg hk (by simp only [grm, St.kinds, St.refs, St.depths, St.waters, St.bR, St.bU, St.wears, St.order, St.waits, St.hR, St.hU, St.oR, St.oU, St.press, St.foam, St.pR, St.pU, St.seg, St.pit, St.away, St.mn, St.fc, St.fl, St.fo, St.n, St.ring, St.nh, St.hs, St.nb, St.bo, St.w_kinds, St.w_refs, St.w_depths, St.w_waters, St.w_bR, St.w_bU, St.w_wears, St.w_order, St.w_waits, St.w_hR, St.w_hU, St.w_oR, St.w_oU, St.w_press, St.w_foam, St.w_pR, St.w_pU, St.w_seg, St.w_pit, St.w_away, St.w_mn, St.w_fc, St.w_fl, St.w_fo, St.w_n, St.w_ring, St.w_nh, St.w_hs, St.w_nb, St.w_bo, St.w_course, St.a_ring, St.a_house, St.a_bore])
          have hn2 : nOK (grm σ j a9) := nOK_cg hn (by simp only [grm, St.kinds, St.refs, St.depths, St.waters, St.bR, St.bU, St.wears, St.order, St.waits, St.hR, St.hU, St.oR, St.oU, St.press, St.foam, St.pR, St.pU, St.seg, St.pit, St.away, St.mn, St.fc, St.fl, St.fo, St.n, St.ring, St.nh, St.hs, St.nb, St.bo, St.w_kinds, St.w_refs, St.w_depths, St.w_waters, St.w_bR, St.w_bU, St.w_wears, St.w_order, St.w_waits, St.w_hR, St.w_hU, St.w_oR, St.w_oU, St.w_press, St.w_foam, St.w_pR, St.w_pU, St.w_seg, St.w_pit, St.w_away, St.w_mn, St.w_fc, St.w_fl, St.w_fo, St.w_n, St.w_ring, St.w_nh, St.w_hs, St.w_nb, St.w_bo, St.w_course, St.a_ring, St.a_house, St.a_bore])
          have hj2 : j < (grm σ j a9).n := by simp only [grm, St.kinds, St.refs, St.depths, St.waters, St.bR, St.bU, St.wears, St.order, St.waits, St.hR, St.hU, St.oR, St.oU, St.press, St.foam, St.pR, St.pU, St.seg, St.pit, St.away, St.mn, St.fc, St.fl, St.fo, St.n, St.ring, St.nh, St.hs, St.nb, St.bo, St.w_kinds, St.w_refs, St.w_depths, St.w_waters, St.w_bR, St.w_bU, St.w_wears, St.w_order, St.w_waits, St.w_hR, St.w_hU, St.w_oR, St.w_oU, St.w_press, St.w_foam, St.w_pR, St.w_pU, St.w_seg, St.w_pit, St.w_away, St.w_mn, St.w_fc, St.w_fl, St.w_fo, St.w_n, St.w_ring, St.w_nh, St.w_hs, St.w_nb, St.w_bo, St.w_course, St.a_ring, St.a_house, St.a_bore] at hj ⊢; exact hj
          refine s_aload_n hC dX11_grout_158 rfl rfl 2 rfl ?_
          refine s_iload_n hC dX11_grout_159 rfl rfl 3 rfl ?_
          refine s_callV hC (ct_X11_lostAt l g _ _ _ _ hR_155 hk2 hrk2 hn2 _ hj2) ce_X11_lostAt cs_X11 (RepM.f_main hR_155) tw_1724 rfl rfl ⟨⟨le_b rfl, le_b rfl⟩, le_b rfl, le_b rfl⟩ (le_b rfl) dX11_grout_160 rfl (dvk1 ?_) nokx
          refine s_iret hC hr dX11_grout_163 (le_b rfl) (le_b rfl) ?_
          have hst : setF (σ.ring j) σ.mn = false := by rw [hse]; simp [h0, c9, hcl, c_1, c_2, c_3, c_4, c_5, c_6, c_7, c_8]
          have hcd : cd_grout σ (nI j) a9 = 0 := by simp only [cd_grout, c9, hcl, c_2, if_true, if_false, hle, c_6, hst, Bool.false_eq_true]
          have hv := gt_vl σ j a9 hcl
          have hRx := RepM.cg hR_155 (gt_cg σ j a9)
          have hx : gr2 σ j a9 = nx_grout σ (nI j) a9 := by rw [nx_grout, hcl]
          exact okM_ok hcd rfl hv hRx hx rfl rfl (gt_ok hgr hfi hj c_2 (if_pos h0).symm)
        · refine s_iconst hC (v := 1) dX11_grout_111 rfl (by decide) ?_
          refine s_goto hC (tgt := 116) dX11_grout_112 (by decide) ?_
          refine s_iconst hC (v := 3) dX11_grout_116 rfl (by decide) ?_
          refine s_callV hC (ct_X11_fails_t l g _ _ _ _ hR_1 (by first | rfl | exact hth) _ (by decide)) ce_X11_fails cs_X11 (RepM.f_main hR_1) tw_1422 rfl rfl ⟨⟨le_b rfl, le_b rfl⟩, le_b rfl, le_b rfl⟩ (le_b rfl) dX11_grout_117 rfl (dvk1 ?_) nokx
          refine WP.rm (RepM.s_main_0 hR_1 _) (fun hR_117 => ?_)
          refine z_if_eq hC (tgt := 125) dX11_grout_120 rfl (by decide) (fun c_9 => ((absurd c_9 (by decide) : False)).elim) (fun c_9 => ?_)
          refine s_iconst hC (v := (-1)) dX11_grout_123 rfl (by decide) ?_
          refine s_iret hC hr dX11_grout_124 (le_b rfl) (le_b rfl) ?_
          exact okM_no 3 (by simp only [cd_grout, c9, hcl, c_2, if_true, if_false, hle, c_6]) (by decide) (by rfl) hR_117 rfl rfl hgr
      · have hg0 : (y.w_th 0).gr j = (σ.ring j).ff := hgj.trans (if_neg h0)
        have hff := hf3 h0
        refine s_aload_n hC dX11_grout_39 rfl rfl 0 rfl ?_
        refine s_getf hC cs_X11 8 tw_1257 (le_b rfl) (RepM.f_main hR_1) rfl dX11_grout_40 rfl ?_
        refine s_iload_n hC dX11_grout_43 rfl rfl 1 rfl ?_
        refine s_callF hC (nA := 1) 3 (ct_Jx4a65c_get_915e3 l g _ _ _ _ _ (RepM.f_rings hR_1) _ _ (RepM.p_ring hR_1 hj).2.1 (RepM.p_ring hR_1 hj).2.2.1 _ _ (RepM.p_ring hR_1 hj).2.2.2.1 hj (RepM.p_ring hR_1 hj).2.2.2.2) rfl tw_288 tw_5 tw_286 tw_1610 (by decide +kernel) cs_Jx4a65c (RepM.f_rings hR_1) tw_1607 rfl rfl ⟨⟨le_b rfl, le_b rfl⟩, le_b rfl, le_b rfl⟩ (le_b rfl) dX11_grout_44 rfl (dvk1 ?_) nokx
        refine s_cast hC cs_X10 tw_1613 (RepM.f_ring hR_1 hj) dX11_grout_49 rfl ?_
        refine s_astore_n hC (L' := [(3, _), (0, _), (1, _), (2, _)]) dX11_grout_52 rfl rfl (le_b rfl) rfl ?_
        refine s_aload_n hC dX11_grout_53 rfl rfl 0 rfl ?_
        refine s_getfN hC cs_X10 6 tw_1645 (le_b rfl) (RepM.f_ring hR_1 hj) rfl dX11_grout_54 rfl ?_
        refine s_iconst hC (v := (-1)) dX11_grout_57 rfl (by decide) ?_
        rw [hg0]
        refine z_icmp_eq hC (tgt := 80) dX11_grout_58 rfl (by decide) (fun c_10 => (hff c_10).elim) (fun c_10 => ?_)
        refine s_aload_n hC dX11_grout_61 rfl rfl 1 rfl ?_
        refine s_getf hC cs_X11 19 tw_1268 (le_b rfl) (RepM.f_main hR_1) rfl dX11_grout_62 rfl ?_
        refine s_aload_n hC dX11_grout_65 rfl rfl 0 rfl ?_
        refine s_getfN hC cs_X10 6 tw_1645 (le_b rfl) (RepM.f_ring hR_1 hj) rfl dX11_grout_66 rfl ?_
        refine s_isub hC dX11_grout_69 rfl ?_
        rw [hg0]
        refine s_sipush hC (v := 600) dX11_grout_70 rfl (by decide) ?_
        refine z_icmp_lt hC (tgt := 80) dX11_grout_73 rfl (by decide) (fun c_11 => ?_) (fun c_11 => ?_)
        · refine s_iconst hC (v := 0) dX11_grout_80 rfl (by decide) ?_
          refine s_istore hC (L' := [(4, _), (3, _), (0, _), (1, _), (2, _)]) dX11_grout_81 rfl (le_b rfl) rfl ?_
          refine s_aload_n hC dX11_grout_83 rfl rfl 2 rfl ?_
          refine s_iload hC dX11_grout_84 rfl 0 rfl ?_
          refine z_if_ne hC (tgt := 111) dX11_grout_86 rfl (by decide) (fun c_12 => ((absurd c_12 (by decide) : False)).elim) (fun c_12 => ?_)
          refine s_aload_n hC dX11_grout_89 rfl rfl 1 rfl ?_
          refine s_getfN hC cs_X10 5 tw_1643 (le_b rfl) (RepM.f_ring hR_1 hj) rfl dX11_grout_90 rfl ?_
          refine s_iload_n hC dX11_grout_93 rfl rfl 4 rfl ?_
          refine s_iadd hC dX11_grout_94 rfl ?_
          refine s_aload_n hC dX11_grout_95 rfl rfl 2 rfl ?_
          refine s_iload_n hC dX11_grout_96 rfl rfl 3 rfl ?_
          refine s_callV hC (ct_X11_gap l g _ _ _ _ hR_1 hk _ (by omega)) ce_X11_gap cs_X11 (RepM.f_main hR_1) tw_1718 rfl rfl ⟨⟨le_b rfl, le_b rfl⟩, le_b rfl, le_b rfl⟩ (le_b rfl) dX11_grout_97 rfl (dvk1 ?_) nokx
          refine s_aload_n hC dX11_grout_100 rfl rfl 2 rfl ?_
          refine s_iload_n hC dX11_grout_101 rfl rfl 3 rfl ?_
          refine s_callV hC (ct_X11_gap l g _ _ _ _ hR_1 hk _ (by omega)) ce_X11_gap cs_X11 (RepM.f_main hR_1) tw_1718 rfl rfl ⟨⟨le_b rfl, le_b rfl⟩, le_b rfl, le_b rfl⟩ (le_b rfl) dX11_grout_102 rfl (dvk1 ?_) nokx
          refine s_iconst hC (v := 5) dX11_grout_105 rfl (by decide) ?_
          refine s_idiv hC dX11_grout_106 rfl (by decide) ?_
          refine s_iadd hC dX11_grout_107 rfl ?_
          refine z_icmp_le hC (tgt := 115) dX11_grout_108 rfl (by decide) (fun c_13 => ?_) (fun c_13 => ?_)
          · refine s_iconst hC (v := 0) dX11_grout_115 rfl (by decide) ?_
            refine s_iconst hC (v := 3) dX11_grout_116 rfl (by decide) ?_
            refine s_callV hC (ct_X11_fails_f l g _ _ _ _ hR_1 (by first | rfl | exact hth) _) ce_X11_fails cs_X11 (RepM.f_main hR_1) tw_1422 rfl rfl ⟨⟨le_b rfl, le_b rfl⟩, le_b rfl, le_b rfl⟩ (le_b rfl) dX11_grout_117 rfl (dvk1 ?_) nokx
            refine z_if_eq hC (tgt := 125) dX11_grout_120 rfl (by decide) (fun c_14 => ?_) (fun c_14 => ((absurd c_14 (by decide) : False)).elim)
            refine s_aload_n hC dX11_grout_125 rfl rfl 1 rfl ?_
            refine s_aload_n hC dX11_grout_126 rfl rfl 1 rfl ?_
            refine s_getfN hC cs_X10 6 tw_1645 (le_b rfl) (RepM.f_ring hR_1 hj) rfl dX11_grout_127 rfl ?_
            refine s_iconst hC (v := (-1)) dX11_grout_130 rfl (by decide) ?_
            rw [hg0]
            refine z_icmp_ne hC (tgt := 141) dX11_grout_131 rfl (by decide) (fun c_15 => ?_) (fun c_15 => (hff c_15).elim)
            refine s_aload_n hC dX11_grout_141 rfl rfl 1 rfl ?_
            refine s_getfN hC cs_X10 6 tw_1645 (le_b rfl) (RepM.f_ring hR_1 hj) rfl dX11_grout_142 rfl ?_
            rw [hg0]
            refine s_putfN hC cs_X10 6 tw_1645 (le_b rfl) rfl rfl rfl (RepM.f_ring hR_1 hj) (le_b rfl) dX11_grout_145 rfl ?_
            refine WP.rm (RepM.s_ring_6 hR_1 hj _) (fun hR_145 => ?_)
            refine s_aload_n hC dX11_grout_148 rfl rfl 1 rfl ?_
            refine s_dup hC dX11_grout_149 rfl rfl ?_
            refine s_getfN hC cs_X10 5 tw_1643 (le_b rfl) (RepM.f_ring hR_145 hj) rfl dX11_grout_150 rfl ?_
            refine s_iload_n hC dX11_grout_153 rfl rfl 4 rfl ?_
            refine s_iadd hC dX11_grout_154 rfl ?_
            refine s_putfN hC cs_X10 5 tw_1643 (le_b rfl) rfl rfl rfl (RepM.f_ring hR_145 hj) (le_b rfl) dX11_grout_155 rfl ?_
            refine WP.rm (RepM.s_ring_5 hR_145 hj ((σ.ring j).fi + a9)) (fun hR_155 => ?_)
            change RepM g ad _ (grm σ j a9) _ at hR_155
            have hrk2 : rkOK (grm σ j a9) := rk_gr hrk j a9
            have hk2 : kIn (grm σ j a9) := kIn_cg hk (by simp only [grm, St.kinds, St.refs, St.depths, St.waters, St.bR, St.bU, St.wears, St.order, St.waits, St.hR, St.hU, St.oR, St.oU, St.press, St.foam, St.pR, St.pU, St.seg, St.pit, St.away, St.mn, St.fc, St.fl, St.fo, St.n, St.ring, St.nh, St.hs, St.nb, St.bo, St.w_kinds, St.w_refs, St.w_depths, St.w_waters, St.w_bR, St.w_bU, St.w_wears, St.w_order, St.w_waits, St.w_hR, St.w_hU, St.w_oR, St.w_oU, St.w_press, St.w_foam, St.w_pR, St.w_pU, St.w_seg, St.w_pit, St.w_away, St.w_mn, St.w_fc, St.w_fl, St.w_fo, St.w_n, St.w_ring, St.w_nh, St.w_hs, St.w_nb, St.w_bo, St.w_course, St.a_ring, St.a_house, St.a_bore])
            have hn2 : nOK (grm σ j a9) := nOK_cg hn (by simp only [grm, St.kinds, St.refs, St.depths, St.waters, St.bR, St.bU, St.wears, St.order, St.waits, St.hR, St.hU, St.oR, St.oU, St.press, St.foam, St.pR, St.pU, St.seg, St.pit, St.away, St.mn, St.fc, St.fl, St.fo, St.n, St.ring, St.nh, St.hs, St.nb, St.bo, St.w_kinds, St.w_refs, St.w_depths, St.w_waters, St.w_bR, St.w_bU, St.w_wears, St.w_order, St.w_waits, St.w_hR, St.w_hU, St.w_oR, St.w_oU, St.w_press, St.w_foam, St.w_pR, St.w_pU, St.w_seg, St.w_pit, St.w_away, St.w_mn, St.w_fc, St.w_fl, St.w_fo, St.w_n, St.w_ring, St.w_nh, St.w_hs, St.w_nb, St.w_bo, St.w_course, St.a_ring, St.a_house, St.a_bore])
            have hj2 : j < (grm σ j a9).n := by simp only [grm, St.kinds, St.refs, St.depths, St.waters, St.bR, St.bU, St.wears, St.order, St.waits, St.hR, St.hU, St.oR, St.oU, St.press, St.foam, St.pR, St.pU, St.seg, St.pit, St.away, St.mn, St.fc, St.fl, St.fo, St.n, St.ring, St.nh, St.hs, St.nb, St.bo, St.w_kinds, St.w_refs, St.w_depths, St.w_waters, St.w_bR, St.w_bU, St.w_wears, St.w_order, St.w_waits, St.w_hR, St.w_hU, St.w_oR, St.w_oU, St.w_press, St.w_foam, St.w_pR, St.w_pU, St.w_seg, St.w_pit, St.w_away, St.w_mn, St.w_fc, St.w_fl, St.w_fo, St.w_n, St.w_ring, St.w_nh, St.w_hs, St.w_nb, St.w_bo, St.w_course, St.a_ring, St.a_house, St.a_bore] at hj ⊢; exact hj
            refine s_aload_n hC dX11_grout_158 rfl rfl 2 rfl ?_
            refine s_iload_n hC dX11_grout_159 rfl rfl 3 rfl ?_
            refine s_callV hC (ct_X11_lostAt l g _ _ _ _ hR_155 hk2 hrk2 hn2 _ hj2) ce_X11_lostAt cs_X11 (RepM.f_main hR_155) tw_1724 rfl rfl ⟨⟨le_b rfl, le_b rfl⟩, le_b rfl, le_b rfl⟩ (le_b rfl) dX11_grout_160 rfl (dvk1 ?_) nokx
            refine s_iret hC hr dX11_grout_163 (le_b rfl) (le_b rfl) ?_
            have hst : setF (σ.ring j) σ.mn = false := by rw [hse]; simp [h0, c9, hcl, c_1, c_2, c_3, c_10, c_11, c_12, c_13, c_14, c_15]
            have hcd : cd_grout σ (nI j) a9 = 0 := by simp only [cd_grout, c9, hcl, c_2, if_true, if_false, hle, c_13, hst, Bool.false_eq_true]
            have hv := gt_vl σ j a9 hcl
            have hRx := RepM.cg hR_155 (gt_cg σ j a9)
            have hx : gr2 σ j a9 = nx_grout σ (nI j) a9 := by rw [nx_grout, hcl]
            exact okM_ok hcd rfl hv hRx hx rfl rfl (gt_ok hgr hfi hj c_2 (if_neg h0).symm)
          · refine s_iconst hC (v := 1) dX11_grout_111 rfl (by decide) ?_
            refine s_goto hC (tgt := 116) dX11_grout_112 (by decide) ?_
            refine s_iconst hC (v := 3) dX11_grout_116 rfl (by decide) ?_
            refine s_callV hC (ct_X11_fails_t l g _ _ _ _ hR_1 (by first | rfl | exact hth) _ (by decide)) ce_X11_fails cs_X11 (RepM.f_main hR_1) tw_1422 rfl rfl ⟨⟨le_b rfl, le_b rfl⟩, le_b rfl, le_b rfl⟩ (le_b rfl) dX11_grout_117 rfl (dvk1 ?_) nokx
            refine WP.rm (RepM.s_main_0 hR_1 _) (fun hR_117 => ?_)
            refine z_if_eq hC (tgt := 125) dX11_grout_120 rfl (by decide) (fun c_16 => ((absurd c_16 (by decide) : False)).elim) (fun c_16 => ?_)
            refine s_iconst hC (v := (-1)) dX11_grout_123 rfl (by decide) ?_
            refine s_iret hC hr dX11_grout_124 (le_b rfl) (le_b rfl) ?_
            exact okM_no 3 (by simp only [cd_grout, c9, hcl, c_2, if_true, if_false, hle, c_13]) (by decide) (by rfl) hR_117 rfl rfl hgr
        · refine s_iconst hC (v := 1) dX11_grout_76 rfl (by decide) ?_
          refine s_goto hC (tgt := 81) dX11_grout_77 (by decide) ?_
          refine s_istore hC (L' := [(4, _), (3, _), (0, _), (1, _), (2, _)]) dX11_grout_81 rfl (le_b rfl) rfl ?_
          refine s_aload_n hC dX11_grout_83 rfl rfl 2 rfl ?_
          refine s_iload hC dX11_grout_84 rfl 0 rfl ?_
          refine z_if_ne hC (tgt := 111) dX11_grout_86 rfl (by decide) (fun c_17 => ?_) (fun c_17 => ((absurd c_17 (by decide) : False)).elim)
          refine s_iconst hC (v := 1) dX11_grout_111 rfl (by decide) ?_
          refine s_goto hC (tgt := 116) dX11_grout_112 (by decide) ?_
          refine s_iconst hC (v := 3) dX11_grout_116 rfl (by decide) ?_
          refine s_callV hC (ct_X11_fails_t l g _ _ _ _ hR_1 (by first | rfl | exact hth) _ (by decide)) ce_X11_fails cs_X11 (RepM.f_main hR_1) tw_1422 rfl rfl ⟨⟨le_b rfl, le_b rfl⟩, le_b rfl, le_b rfl⟩ (le_b rfl) dX11_grout_117 rfl (dvk1 ?_) nokx
          refine WP.rm (RepM.s_main_0 hR_1 _) (fun hR_117 => ?_)
          refine z_if_eq hC (tgt := 125) dX11_grout_120 rfl (by decide) (fun c_18 => ((absurd c_18 (by decide) : False)).elim) (fun c_18 => ?_)
          refine s_iconst hC (v := (-1)) dX11_grout_123 rfl (by decide) ?_
          refine s_iret hC hr dX11_grout_124 (le_b rfl) (le_b rfl) ?_
          have hst : setF (σ.ring j) σ.mn = true := by rw [hse]; simp [h0, c9, hcl, c_1, c_2, c_3, c_10, c_11, c_17, c_18]
          exact okM_no 3 (by simp only [cd_grout, c9, hcl, c_2, if_true, hst, ite_self]) (by decide) (by rfl) hR_117 rfl rfl hgr
    · refine s_iconst hC (v := 1) dX11_grout_25 rfl (by decide) ?_
      refine s_goto hC (tgt := 30) dX11_grout_26 (by decide) ?_
      refine s_iconst hC (v := 2) dX11_grout_30 rfl (by decide) ?_
      refine s_callV hC (ct_X11_fails_t l g _ _ _ _ hR_1 (by first | rfl | exact hth) _ (by decide)) ce_X11_fails cs_X11 (RepM.f_main hR_1) tw_1422 rfl rfl ⟨⟨le_b rfl, le_b rfl⟩, le_b rfl, le_b rfl⟩ (le_b rfl) dX11_grout_31 rfl (dvk1 ?_) nokx
      refine WP.rm (RepM.s_main_0 hR_1 _) (fun hR_31 => ?_)
      refine z_if_eq hC (tgt := 39) dX11_grout_34 rfl (by decide) (fun c_19 => ((absurd c_19 (by decide) : False)).elim) (fun c_19 => ?_)
      refine s_iconst hC (v := (-1)) dX11_grout_37 rfl (by decide) ?_
      refine s_iret hC hr dX11_grout_38 (le_b rfl) (le_b rfl) ?_
      exact okM_no 2 (by simp [cd_grout, c9, hcl, c_1, c_2, c_19]) (by decide) (by rfl) hR_31 rfl rfl hgr
  · refine WP.rm (RepM.s_main_0 hR_1 _) (fun hR_9 => ?_)
    refine z_if_ne hC (tgt := 37) dX11_grout_9 rfl (by decide) (fun c_20 => ?_) (fun c_20 => ((absurd c_20 (by decide) : False)).elim)
    refine s_iconst hC (v := (-1)) dX11_grout_37 rfl (by decide) ?_
    refine s_iret hC hr dX11_grout_38 (le_b rfl) (le_b rfl) ?_
    exact okM_no 1 (by simp [cd_grout, c9, c_20]) (by decide) (by rfl) hR_9 rfl rfl hgr
