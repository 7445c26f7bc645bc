theorem kIn_cg {s s' : St} (h : kIn s) (e : s'.kinds = s.kinds) : kIn s' := by
  intro i hi
  rw [e]
  exact h i hi
theorem rIn_cg {s s' : St} (h : rIn s) (e : s'.refs = s.refs) : rIn s' := by
  intro i hi
  rw [e]
  exact h i hi
theorem dIn_cg {s s' : St} (h : dIn s) (e : s'.depths = s.depths) : dIn s' := by
  intro i hi
  rw [e]
  exact h i hi
theorem nOK_cg {s s' : St} (h : nOK s) (e : s'.n = s.n) : nOK s' := by
  show s'.n ≤ 120
  rw [e]
  exact h
theorem rkOK_cg {s s' : St} (h : rkOK s) (e : s'.n = s.n) (e2 : s'.ring = s.ring) (e3 : s'.kinds = s.kinds) : rkOK s' := by
  intro i hi
  rw [e] at hi
  rw [e2, e3]
  exact h i hi
theorem grOK_cg {s s' : St} {y y' : Ey} (h : grOK s y) (e : s'.n = s.n) (e2 : s'.ring = s.ring) (e3 : y'.gr = y.gr) : grOK s' y' := by
  intro i hi
  rw [e] at hi
  rw [e2, e3]
  exact h i hi
theorem stlF_cg {s s' : St} (hd : s'.depths = s.depths) (hr : s'.ring = s.ring) (p o : Int32) (n : Nat) : stlF s' p o n = stlF s p o n := by
  induction n with
  | zero => rfl
  | succ n ih => rw [stlF, stlF, ih, hr, skF, skF, hd]
theorem smF_cg {s s' : St} (hd : s'.depths = s.depths) (hr : s'.ring = s.ring) (hn : s'.n = s.n) (h : Hs) (b : Bool) : smF s' h b = smF s h b := by
  rw [smF, smF, hn, stlF_cg hd hr]
theorem upT_upT {α : Type} (f : Nat → α) (i : Nat) (a b : α) : upT (upT f i a) i b = upT f i b := by
  funext k
  by_cases h : k = i
  · rw [h, upT_s, upT_s]
  · rw [upT_n h, upT_n h, upT_n h]
theorem hIn_up {s s' : St} (hh : hIn s) {j : Nat} {v : Hs} (hn : s'.nh = s.nh) (hs : s'.hs = upT s.hs j v) (h1 : v.fr = (s.hs j).fr) (h2 : v.to = (s.hs j).to) (h3 : v.ofs = (s.hs j).ofs) : hIn s' := by
  intro i hi
  rw [hn] at hi
  obtain ⟨b, c, e, g1, g2, g3, g4, g5, g6⟩ := hh i hi
  refine ⟨b, c, e, g1, g2, g3, ?_⟩
  rw [hs]
  by_cases h : i = j
  · rw [h, upT_s, h1, h2, h3, ← h]
    exact ⟨g4, g5, g6⟩
  · rw [upT_n h]
    exact ⟨g4, g5, g6⟩
theorem lf2_t (s : St) (j : Nat) (a : Int32) : lf2 s j true a = ((s.w_hs (upT s.hs j ((s.hs j).w_ll ((s.hs j).ll + a)))).w_mn (s.mn + 15)).w_fl (s.fl + 15) := rfl
theorem lf2_f (s : St) (j : Nat) (a : Int32) : lf2 s j false a = ((s.w_hs (upT s.hs j ((s.hs j).w_lf ((s.hs j).lf + a)))).w_mn (s.mn + 15)).w_fl (s.fl + 15) := rfl
def lfm_ll (s : St) (j : Nat) (a : Int32) : St := (s.w_mn (s.mn + 15)).w_hs (upT (s.w_mn (s.mn + 15)).hs j (((s.w_mn (s.mn + 15)).hs j).w_ll ((s.hs j).ll + a)))
def lfm_lf (s : St) (j : Nat) (a : Int32) : St := (s.w_mn (s.mn + 15)).w_hs (upT (s.w_mn (s.mn + 15)).hs j (((s.w_mn (s.mn + 15)).hs j).w_lf ((s.hs j).lf + a)))
theorem lfm_ll_hs (s : St) (j : Nat) (a : Int32) : (lfm_ll s j a).hs = upT s.hs j ((s.hs j).w_ll ((s.hs j).ll + a)) := by simp only [lfm_ll, St.kinds, St.refs, St.depths, St.waters, St.bR, St.bU, St.wears, St.order, St.waits, St.hR, St.hU, St.oR, St.oU, St.press, St.foam, St.pR, St.pU, St.seg, St.pit, St.away, St.mn, St.fc, St.fl, St.fo, St.n, St.ring, St.nh, St.hs, St.nb, St.bo, St.w_kinds, St.w_refs, St.w_depths, St.w_waters, St.w_bR, St.w_bU, St.w_wears, St.w_order, St.w_waits, St.w_hR, St.w_hU, St.w_oR, St.w_oU, St.w_press, St.w_foam, St.w_pR, St.w_pU, St.w_seg, St.w_pit, St.w_away, St.w_mn, St.w_fc, St.w_fl, St.w_fo, St.w_n, St.w_ring, St.w_nh, St.w_hs, St.w_nb, St.w_bo, St.w_course, St.a_ring, St.a_house, St.a_bore]
theorem lfm_lf_hs (s : St) (j : Nat) (a : Int32) : (lfm_lf s j a).hs = upT s.hs j ((s.hs j).w_lf ((s.hs j).lf + a)) := by simp only [lfm_lf, St.kinds, St.refs, St.depths, St.waters, St.bR, St.bU, St.wears, St.order, St.waits, St.hR, St.hU, St.oR, St.oU, St.press, St.foam, St.pR, St.pU, St.seg, St.pit, St.away, St.mn, St.fc, St.fl, St.fo, St.n, St.ring, St.nh, St.hs, St.nb, St.bo, St.w_kinds, St.w_refs, St.w_depths, St.w_waters, St.w_bR, St.w_bU, St.w_wears, St.w_order, St.w_waits, St.w_hR, St.w_hU, St.w_oR, St.w_oU, St.w_press, St.w_foam, St.w_pR, St.w_pU, St.w_seg, St.w_pit, St.w_away, St.w_mn, St.w_fc, St.w_fl, St.w_fo, St.w_n, St.w_ring, St.w_nh, St.w_hs, St.w_nb, St.w_bo, St.w_course, St.a_ring, St.a_house, St.a_bore]
theorem lfm_ll_vl (s : St) (j : Nat) (a : Int32) (h : (nI j).toNatClampNeg = j) : smF (lfm_ll s j a) ((lfm_ll s j a).hs j) true = vl_lift s (nI j) true a := by
  rw [vl_lift, h, lf2_t, smF_cg (s := s) (s' := lfm_ll s j a) (by simp only [lfm_ll, St.kinds, St.refs, St.depths, St.waters, St.bR, St.bU, St.wears, St.order, St.waits, St.hR, St.hU, St.oR, St.oU, St.press, St.foam, St.pR, St.pU, St.seg, St.pit, St.away, St.mn, St.fc, St.fl, St.fo, St.n, St.ring, St.nh, St.hs, St.nb, St.bo, St.w_kinds, St.w_refs, St.w_depths, St.w_waters, St.w_bR, St.w_bU, St.w_wears, St.w_order, St.w_waits, St.w_hR, St.w_hU, St.w_oR, St.w_oU, St.w_press, St.w_foam, St.w_pR, St.w_pU, St.w_seg, St.w_pit, St.w_away, St.w_mn, St.w_fc, St.w_fl, St.w_fo, St.w_n, St.w_ring, St.w_nh, St.w_hs, St.w_nb, St.w_bo, St.w_course, St.a_ring, St.a_house, St.a_bore]) (by simp only [lfm_ll, St.kinds, St.refs, St.depths, St.waters, St.bR, St.bU, St.wears, St.order, St.waits, St.hR, St.hU, St.oR, St.oU, St.press, St.foam, St.pR, St.pU, St.seg, St.pit, St.away, St.mn, St.fc, St.fl, St.fo, St.n, St.ring, St.nh, St.hs, St.nb, St.bo, St.w_kinds, St.w_refs, St.w_depths, St.w_waters, St.w_bR, St.w_bU, St.w_wears, St.w_order, St.w_waits, St.w_hR, St.w_hU, St.w_oR, St.w_oU, St.w_press, St.w_foam, St.w_pR, St.w_pU, St.w_seg, St.w_pit, St.w_away, St.w_mn, St.w_fc, St.w_fl, St.w_fo, St.w_n, St.w_ring, St.w_nh, St.w_hs, St.w_nb, St.w_bo, St.w_course, St.a_ring, St.a_house, St.a_bore]) (by simp only [lfm_ll, St.kinds, St.refs, St.depths, St.waters, St.bR, St.bU, St.wears, St.order, St.waits, St.hR, St.hU, St.oR, St.oU, St.press, St.foam, St.pR, St.pU, St.seg, St.pit, St.away, St.mn, St.fc, St.fl, St.fo, St.n, St.ring, St.nh, St.hs, St.nb, St.bo, St.w_kinds, St.w_refs, St.w_depths, St.w_waters, St.w_bR, St.w_bU, St.w_wears, St.w_order, St.w_waits, St.w_hR, St.w_hU, St.w_oR, St.w_oU, St.w_press, St.w_foam, St.w_pR, St.w_pU, St.w_seg, St.w_pit, St.w_away, St.w_mn, St.w_fc, St.w_fl, St.w_fo, St.w_n, St.w_ring, St.w_nh, St.w_hs, St.w_nb, St.w_bo, St.w_course, St.a_ring, St.a_house, St.a_bore]), lfm_ll_hs]
  rw [show (((s.w_hs (upT s.hs j ((s.hs j).w_ll ((s.hs j).ll + a)))).w_mn (s.mn + 15)).w_fl (s.fl + 15)).hs = upT s.hs j ((s.hs j).w_ll ((s.hs j).ll + a)) from by simp only [St.kinds, St.refs, St.depths, St.waters, St.bR, St.bU, St.wears, St.order, St.waits, St.hR, St.hU, St.oR, St.oU, St.press, St.foam, St.pR, St.pU, St.seg, St.pit, St.away, St.mn, St.fc, St.fl, St.fo, St.n, St.ring, St.nh, St.hs, St.nb, St.bo, St.w_kinds, St.w_refs, St.w_depths, St.w_waters, St.w_bR, St.w_bU, St.w_wears, St.w_order, St.w_waits, St.w_hR, St.w_hU, St.w_oR, St.w_oU, St.w_press, St.w_foam, St.w_pR, St.w_pU, St.w_seg, St.w_pit, St.w_away, St.w_mn, St.w_fc, St.w_fl, St.w_fo, St.w_n, St.w_ring, St.w_nh, St.w_hs, St.w_nb, St.w_bo, St.w_course, St.a_ring, St.a_house, St.a_bore]]
  exact (smF_cg (by simp only [St.kinds, St.refs, St.depths, St.waters, St.bR, St.bU, St.wears, St.order, St.waits, St.hR, St.hU, St.oR, St.oU, St.press, St.foam, St.pR, St.pU, St.seg, St.pit, St.away, St.mn, St.fc, St.fl, St.fo, St.n, St.ring, St.nh, St.hs, St.nb, St.bo, St.w_kinds, St.w_refs, St.w_depths, St.w_waters, St.w_bR, St.w_bU, St.w_wears, St.w_order, St.w_waits, St.w_hR, St.w_hU, St.w_oR, St.w_oU, St.w_press, St.w_foam, St.w_pR, St.w_pU, St.w_seg, St.w_pit, St.w_away, St.w_mn, St.w_fc, St.w_fl, St.w_fo, St.w_n, St.w_ring, St.w_nh, St.w_hs, St.w_nb, St.w_bo, St.w_course, St.a_ring, St.a_house, St.a_bore]) (by simp only [St.kinds, St.refs, St.depths, St.waters, St.bR, St.bU, St.wears, St.order, St.waits, St.hR, St.hU, St.oR, St.oU, St.press, St.foam, St.pR, St.pU, St.seg, St.pit, St.away, St.mn, St.fc, St.fl, St.fo, St.n, St.ring, St.nh, St.hs, St.nb, St.bo, St.w_kinds, St.w_refs, St.w_depths, St.w_waters, St.w_bR, St.w_bU, St.w_wears, St.w_order, St.w_waits, St.w_hR, St.w_hU, St.w_oR, St.w_oU, St.w_press, St.w_foam, St.w_pR, St.w_pU, St.w_seg, St.w_pit, St.w_away, St.w_mn, St.w_fc, St.w_fl, St.w_fo, St.w_n, St.w_ring, St.w_nh, St.w_hs, St.w_nb, St.w_bo, St.w_course, St.a_ring, St.a_house, St.a_bore]) (by simp only [St.kinds, St.refs, St.depths, St.waters, St.bR, St.bU, St.wears, St.order, St.waits, St.hR, St.hU, St.oR, St.oU, St.press, St.foam, St.pR, St.pU, St.seg, St.pit, St.away, St.mn, St.fc, St.fl, St.fo, St.n, St.ring, St.nh, St.hs, St.nb, St.bo, St.w_kinds, St.w_refs, St.w_depths, St.w_waters, St.w_bR, St.w_bU, St.w_wears, St.w_order, St.w_waits, St.w_hR, St.w_hU, St.w_oR, St.w_oU, St.w_press, St.w_foam, St.w_pR, St.w_pU, St.w_seg, St.w_pit, St.w_away, St.w_mn, St.w_fc, St.w_fl, St.w_fo, St.w_n, St.w_ring, St.w_nh, St.w_hs, St.w_nb, St.w_bo, St.w_course, St.a_ring, St.a_house, St.a_bore]) _ _).symm
theorem lfm_lf_vl (s : St) (j : Nat) (a : Int32) (h : (nI j).toNatClampNeg = j) : smF (lfm_lf s j a) ((lfm_lf s j a).hs j) false = vl_lift s (nI j) false a := by
  rw [vl_lift, h, lf2_f, smF_cg (s := s) (s' := lfm_lf s j a) (by simp only [lfm_lf, St.kinds, St.refs, St.depths, St.waters, St.bR, St.bU, St.wears, St.order, St.waits, St.hR, St.hU, St.oR, St.oU, St.press, St.foam, St.pR, St.pU, St.seg, St.pit, St.away, St.mn, St.fc, St.fl, St.fo, St.n, St.ring, St.nh, St.hs, St.nb, St.bo, St.w_kinds, St.w_refs, St.w_depths, St.w_waters, St.w_bR, St.w_bU, St.w_wears, St.w_order, St.w_waits, St.w_hR, St.w_hU, St.w_oR, St.w_oU, St.w_press, St.w_foam, St.w_pR, St.w_pU, St.w_seg, St.w_pit, St.w_away, St.w_mn, St.w_fc, St.w_fl, St.w_fo, St.w_n, St.w_ring, St.w_nh, St.w_hs, St.w_nb, St.w_bo, St.w_course, St.a_ring, St.a_house, St.a_bore]) (by simp only [lfm_lf, St.kinds, St.refs, St.depths, St.waters, St.bR, St.bU, St.wears, St.order, St.waits, St.hR, St.hU, St.oR, St.oU, St.press, St.foam, St.pR, St.pU, St.seg, St.pit, St.away, St.mn, St.fc, St.fl, St.fo, St.n, St.ring, St.nh, St.hs, St.nb, St.bo, St.w_kinds, St.w_refs, St.w_depths, St.w_waters, St.w_bR, St.w_bU, St.w_wears, St.w_order, St.w_waits, St.w_hR, St.w_hU, St.w_oR, St.w_oU, St.w_press, St.w_foam, St.w_pR, St.w_pU, St.w_seg, St.w_pit, St.w_away, St.w_mn, St.w_fc, St.w_fl, St.w_fo, St.w_n, St.w_ring, St.w_nh, St.w_hs, St.w_nb, St.w_bo, St.w_course, St.a_ring, St.a_house, St.a_bore]) (by simp only [lfm_lf, St.kinds, St.refs, St.depths, St.waters, St.bR, St.bU, St.wears, St.order, St.waits, St.hR, St.hU, St.oR, St.oU, St.press, St.foam, St.pR, St.pU, St.seg, St.pit, St.away, St.mn, St.fc, St.fl, St.fo, St.n, St.ring, St.nh, St.hs, St.nb, St.bo, St.w_kinds, St.w_refs, St.w_depths, St.w_waters, St.w_bR, St.w_bU, St.w_wears, St.w_order, St.w_waits, St.w_hR, St.w_hU, St.w_oR, St.w_oU, St.w_press, St.w_foam, St.w_pR, St.w_pU, St.w_seg, St.w_pit, St.w_away, St.w_mn, St.w_fc, St.w_fl, St.w_fo, St.w_n, St.w_ring, St.w_nh, St.w_hs, St.w_nb, St.w_bo, St.w_course, St.a_ring, St.a_house, St.a_bore]), lfm_lf_hs]
  rw [show (((s.w_hs (upT s.hs j ((s.hs j).w_lf ((s.hs j).lf + a)))).w_mn (s.mn + 15)).w_fl (s.fl + 15)).hs = upT s.hs j ((s.hs j).w_lf ((s.hs j).lf + a)) from by simp only [St.kinds, St.refs, St.depths, St.waters, St.bR, St.bU, St.wears, St.order, St.waits, St.hR, St.hU, St.oR, St.oU, St.press, St.foam, St.pR, St.pU, St.seg, St.pit, St.away, St.mn, St.fc, St.fl, St.fo, St.n, St.ring, St.nh, St.hs, St.nb, St.bo, St.w_kinds, St.w_refs, St.w_depths, St.w_waters, St.w_bR, St.w_bU, St.w_wears, St.w_order, St.w_waits, St.w_hR, St.w_hU, St.w_oR, St.w_oU, St.w_press, St.w_foam, St.w_pR, St.w_pU, St.w_seg, St.w_pit, St.w_away, St.w_mn, St.w_fc, St.w_fl, St.w_fo, St.w_n, St.w_ring, St.w_nh, St.w_hs, St.w_nb, St.w_bo, St.w_course, St.a_ring, St.a_house, St.a_bore]]
  exact (smF_cg (by simp only [St.kinds, St.refs, St.depths, St.waters, St.bR, St.bU, St.wears, St.order, St.waits, St.hR, St.hU, St.oR, St.oU, St.press, St.foam, St.pR, St.pU, St.seg, St.pit, St.away, St.mn, St.fc, St.fl, St.fo, St.n, St.ring, St.nh, St.hs, St.nb, St.bo, St.w_kinds, St.w_refs, St.w_depths, St.w_waters, St.w_bR, St.w_bU, St.w_wears, St.w_order, St.w_waits, St.w_hR, St.w_hU, St.w_oR, St.w_oU, St.w_press, St.w_foam, St.w_pR, St.w_pU, St.w_seg, St.w_pit, St.w_away, St.w_mn, St.w_fc, St.w_fl, St.w_fo, St.w_n, St.w_ring, St.w_nh, St.w_hs, St.w_nb, St.w_bo, St.w_course, St.a_ring, St.a_house, St.a_bore]) (by simp only [St.kinds, St.refs, St.depths, St.waters, St.bR, St.bU, St.wears, St.order, St.waits, St.hR, St.hU, St.oR, St.oU, St.press, St.foam, St.pR, St.pU, St.seg, St.pit, St.away, St.mn, St.fc, St.fl, St.fo, St.n, St.ring, St.nh, St.hs, St.nb, St.bo, St.w_kinds, St.w_refs, St.w_depths, St.w_waters, St.w_bR, St.w_bU, St.w_wears, St.w_order, St.w_waits, St.w_hR, St.w_hU, St.w_oR, St.w_oU, St.w_press, St.w_foam, St.w_pR, St.w_pU, St.w_seg, St.w_pit, St.w_away, St.w_mn, St.w_fc, St.w_fl, St.w_fo, St.w_n, St.w_ring, St.w_nh, St.w_hs, St.w_nb, St.w_bo, St.w_course, St.a_ring, St.a_house, St.a_bore]) (by simp only [St.kinds, St.refs, St.depths, St.waters, St.bR, St.bU, St.wears, St.order, St.waits, St.hR, St.hU, St.oR, St.oU, St.press, St.foam, St.pR, St.pU, St.seg, St.pit, St.away, St.mn, St.fc, St.fl, St.fo, St.n, St.ring, St.nh, St.hs, St.nb, St.bo, St.w_kinds, St.w_refs, St.w_depths, St.w_waters, St.w_bR, St.w_bU, St.w_wears, St.w_order, St.w_waits, St.w_hR, St.w_hU, St.w_oR, St.w_oU, St.w_press, St.w_foam, St.w_pR, St.w_pU, St.w_seg, St.w_pit, St.w_away, St.w_mn, St.w_fc, St.w_fl, St.w_fo, St.w_n, St.w_ring, St.w_nh, St.w_hs, St.w_nb, St.w_bo, St.w_course, St.a_ring, St.a_house, St.a_bore]) _ _).symm
theorem lfm_ll_nx (s : St) (j : Nat) (a : Int32) (h : (nI j).toNatClampNeg = j) : RdM (lfm_ll s j a) (nx_lift s (nI j) true a) := by
  rw [nx_lift, h, lf2_t]
  simp only [RdM, lfm_ll, St.kinds, St.refs, St.depths, St.waters, St.bR, St.bU, St.wears, St.order, St.waits, St.hR, St.hU, St.oR, St.oU, St.press, St.foam, St.pR, St.pU, St.seg, St.pit, St.away, St.mn, St.fc, St.fl, St.fo, St.n, St.ring, St.nh, St.hs, St.nb, St.bo, St.w_kinds, St.w_refs, St.w_depths, St.w_waters, St.w_bR, St.w_bU, St.w_wears, St.w_order, St.w_waits, St.w_hR, St.w_hU, St.w_oR, St.w_oU, St.w_press, St.w_foam, St.w_pR, St.w_pU, St.w_seg, St.w_pit, St.w_away, St.w_mn, St.w_fc, St.w_fl, St.w_fo, St.w_n, St.w_ring, St.w_nh, St.w_hs, St.w_nb, St.w_bo, St.w_course, St.a_ring, St.a_house, St.a_bore, and_self, implies_true]
theorem lfm_lf_nx (s : St) (j : Nat) (a : Int32) (h : (nI j).toNatClampNeg = j) : RdM (lfm_lf s j a) (nx_lift s (nI j) false a) := by
  rw [nx_lift, h, lf2_f]
  simp only [RdM, lfm_lf, St.kinds, St.refs, St.depths, St.waters, St.bR, St.bU, St.wears, St.order, St.waits, St.hR, St.hU, St.oR, St.oU, St.press, St.foam, St.pR, St.pU, St.seg, St.pit, St.away, St.mn, St.fc, St.fl, St.fo, St.n, St.ring, St.nh, St.hs, St.nb, St.bo, St.w_kinds, St.w_refs, St.w_depths, St.w_waters, St.w_bR, St.w_bU, St.w_wears, St.w_order, St.w_waits, St.w_hR, St.w_hU, St.w_oR, St.w_oU, St.w_press, St.w_foam, St.w_pR, St.w_pU, St.w_seg, St.w_pit, St.w_away, St.w_mn, St.w_fc, St.w_fl, St.w_fo, St.w_n, St.w_ring, St.w_nh, St.w_hs, St.w_nb, St.w_bo, St.w_course, St.a_ring, St.a_house, St.a_bore, and_self, implies_true]
theorem lift_gr {s : St} {y : Ey} {j : Nat} {b : Bool} {a : Int32} (hg : grOK s y) (h : (nI j).toNatClampNeg = j) : grOK (nx_lift s (nI j) b a) (y.w_th 0) := by
  rw [nx_lift, h]
  cases b
  · rw [lf2_f]
    exact grOK_cg hg (by simp only [St.kinds, St.refs, St.depths, St.waters, St.bR, St.bU, St.wears, St.order, St.waits, St.hR, St.hU, St.oR, St.oU, St.press, St.foam, St.pR, St.pU, St.seg, St.pit, St.away, St.mn, St.fc, St.fl, St.fo, St.n, St.ring, St.nh, St.hs, St.nb, St.bo, St.w_kinds, St.w_refs, St.w_depths, St.w_waters, St.w_bR, St.w_bU, St.w_wears, St.w_order, St.w_waits, St.w_hR, St.w_hU, St.w_oR, St.w_oU, St.w_press, St.w_foam, St.w_pR, St.w_pU, St.w_seg, St.w_pit, St.w_away, St.w_mn, St.w_fc, St.w_fl, St.w_fo, St.w_n, St.w_ring, St.w_nh, St.w_hs, St.w_nb, St.w_bo, St.w_course, St.a_ring, St.a_house, St.a_bore]) (by simp only [St.kinds, St.refs, St.depths, St.waters, St.bR, St.bU, St.wears, St.order, St.waits, St.hR, St.hU, St.oR, St.oU, St.press, St.foam, St.pR, St.pU, St.seg, St.pit, St.away, St.mn, St.fc, St.fl, St.fo, St.n, St.ring, St.nh, St.hs, St.nb, St.bo, St.w_kinds, St.w_refs, St.w_depths, St.w_waters, St.w_bR, St.w_bU, St.w_wears, St.w_order, St.w_waits, St.w_hR, St.w_hU, St.w_oR, St.w_oU, St.w_press, St.w_foam, St.w_pR, St.w_pU, St.w_seg, St.w_pit, St.w_away, St.w_mn, St.w_fc, St.w_fl, St.w_fo, St.w_n, St.w_ring, St.w_nh, St.w_hs, St.w_nb, St.w_bo, St.w_course, St.a_ring, St.a_house, St.a_bore]) rfl
  · rw [lf2_t]
    exact grOK_cg hg (by simp only [St.kinds, St.refs, St.depths, St.waters, St.bR, St.bU, St.wears, St.order, St.waits, St.hR, St.hU, St.oR, St.oU, St.press, St.foam, St.pR, St.pU, St.seg, St.pit, St.away, St.mn, St.fc, St.fl, St.fo, St.n, St.ring, St.nh, St.hs, St.nb, St.bo, St.w_kinds, St.w_refs, St.w_depths, St.w_waters, St.w_bR, St.w_bU, St.w_wears, St.w_order, St.w_waits, St.w_hR, St.w_hU, St.w_oR, St.w_oU, St.w_press, St.w_foam, St.w_pR, St.w_pU, St.w_seg, St.w_pit, St.w_away, St.w_mn, St.w_fc, St.w_fl, St.w_fo, St.w_n, St.w_ring, St.w_nh, St.w_hs, St.w_nb, St.w_bo, St.w_course, St.a_ring, St.a_house, St.a_bore]) (by simp only [St.kinds, St.refs, St.depths, St.waters, St.bR, St.bU, St.wears, St.order, St.waits, St.hR, St.hU, St.oR, St.oU, St.press, St.foam, St.pR, St.pU, St.seg, St.pit, St.away, St.mn, St.fc, St.fl, St.fo, St.n, St.ring, St.nh, St.hs, St.nb, St.bo, St.w_kinds, St.w_refs, St.w_depths, St.w_waters, St.w_bR, St.w_bU, St.w_wears, St.w_order, St.w_waits, St.w_hR, St.w_hU, St.w_oR, St.w_oU, St.w_press, St.w_foam, St.w_pR, St.w_pU, St.w_seg, St.w_pit, St.w_away, St.w_mn, St.w_fc, St.w_fl, St.w_fo, St.w_n, St.w_ring, St.w_nh, St.w_hs, St.w_nb, St.w_bo, St.w_course, St.a_ring, St.a_house, St.a_bore]) rfl
set_option maxHeartbeats 1000000 in
set_option maxRecDepth 100000 in
theorem ct_X11_lift (l : Launch) (g : Gl) (ω : Wd) (ad : Iy → Nat) (y : Ey) (σ : St) (hR : RepM g ad y σ ω) (r9 : Int32) (b9 : Bool) (a9 : Int32) (hgr : grOK σ y) (hk : kIn σ) (hrk : rkOK σ) (hn : nOK σ) (hd : dIn σ) (hh : hIn σ) : CT l g yX11_lift cX11_lift 4 (some .int) 5 113 0 0 [.ref (ad .main), .int r9, .int (bI b9), .int a9] ω (okM g ad (cd_lift σ r9 b9 a9) Value.int (vl_lift σ r9 b9 a9) (nx_lift σ r9 b9 a9) σ) (nox) := by
  refine CT.of (own := "BoringheadModel") rfl rfl (le_b rfl) rfl ?_
  intro p e s m args below meth c sz0 hC hr htab hin
  refine s_aload_n hC dX11_lift_0 rfl rfl 0 rfl ?_
  refine s_callV hC (ct_X11_begins l g _ _ _ _ hR) ce_X11_begins cs_X11 (RepM.f_main hR) tw_1324 rfl rfl ⟨⟨le_b rfl, le_b rfl⟩, le_b rfl, le_b rfl⟩ (le_b rfl) dX11_lift_1 rfl (dvk0 ?_) nokx
  refine WP.rm (RepM.s_main_0 hR 0) (fun hR_1 => ?_)
  refine s_aload_n hC dX11_lift_4 rfl rfl 0 rfl ?_
  refine s_iload_n hC dX11_lift_5 rfl rfl 1 rfl ?_
  refine s_callV hC (ct_X11_noHouse l g _ _ _ _ hR_1 rfl _) ce_X11_noHouse cs_X11 (RepM.f_main hR_1) tw_1741 rfl rfl ⟨⟨le_b rfl, le_b rfl⟩, le_b rfl, le_b rfl⟩ (le_b rfl) dX11_lift_6 rfl (fun r w h9 => ?_) nokx
  rcases h9 with ⟨c9, rfl, rfl⟩ | ⟨c9, rfl, rfl⟩
  · obtain ⟨j, rfl, hj⟩ := inL_of (Nat.lt_of_le_of_lt (RepM.b_house hR) (by decide)) c9
    have hcl : (nI j).toNatClampNeg = j := nI_clamp (by have := RepM.b_house hR; omega)
    refine z_if_ne hC (tgt := 62) dX11_lift_9 rfl (by decide) (fun c_1 => ((absurd c_1 (by decide) : False)).elim) (fun c_1 => ?_)
    refine s_aload_n hC dX11_lift_12 rfl rfl 0 rfl ?_
    refine s_iload_n hC dX11_lift_13 rfl rfl 3 rfl ?_
    refine s_i2l hC dX11_lift_14 rfl rfl ?_
    refine s_lconst hC (v := 1) dX11_lift_15 rfl (by decide) ?_
    refine s_ldc2 hC tw_1773 dX11_lift_16 rfl ?_
    refine s_callS hC (ct_X11_in l g _ _ _ _) ce_X11_in tw_1419 rfl rfl ⟨⟨le_b rfl, le_b rfl⟩, le_b rfl, le_b rfl⟩ (le_b rfl) dX11_lift_19 rfl (dvk1 ?_) nokx
    rw [inJ_inR a9 1 50 (by first | rfl | decide) (by first | rfl | decide)]
    refine z_if_neB hC (tgt := 29) dX11_lift_22 rfl (by decide) (fun c_2 => ?_) (fun c_2 => ?_)
    · refine s_iconst hC (v := 0) dX11_lift_29 rfl (by decide) ?_
      refine s_iconst hC (v := 2) dX11_lift_30 rfl (by decide) ?_
      refine s_callV hC (ct_X11_fails_f l g _ _ _ _ hR_1 (by first | rfl | exact hth) _) ce_X11_fails cs_X11 (RepM.f_main hR_1) tw_1422 rfl rfl ⟨⟨le_b rfl, le_b rfl⟩, le_b rfl, le_b rfl⟩ (le_b rfl) dX11_lift_31 rfl (dvk1 ?_) nokx
      refine z_if_ne hC (tgt := 62) dX11_lift_34 rfl (by decide) (fun c_3 => ((absurd c_3 (by decide) : False)).elim) (fun c_3 => ?_)
      refine s_aload_n hC dX11_lift_37 rfl rfl 0 rfl ?_
      refine s_aload_n hC dX11_lift_38 rfl rfl 0 rfl ?_
      refine s_getf hC cs_X11 19 tw_1268 (le_b rfl) (RepM.f_main hR_1) rfl dX11_lift_39 rfl ?_
      refine s_bipush hC (v := 15) dX11_lift_42 rfl (by decide) ?_
      refine s_iadd hC dX11_lift_44 rfl ?_
      refine s_ldcI hC tw_1588 dX11_lift_45 rfl ?_
      refine z_icmp_le hC (tgt := 54) dX11_lift_47 rfl (by decide) (fun c_4 => ?_) (fun c_4 => ?_)
      · refine s_iconst hC (v := 0) dX11_lift_54 rfl (by decide) ?_
        refine s_iconst hC (v := 3) dX11_lift_55 rfl (by decide) ?_
        refine s_callV hC (ct_X11_fails_f l g _ _ _ _ hR_1 (by first | rfl | exact hth) _) ce_X11_fails cs_X11 (RepM.f_main hR_1) tw_1422 rfl rfl ⟨⟨le_b rfl, le_b rfl⟩, le_b rfl, le_b rfl⟩ (le_b rfl) dX11_lift_56 rfl (dvk1 ?_) nokx
        refine z_if_eq hC (tgt := 64) dX11_lift_59 rfl (by decide) (fun c_5 => ?_) (fun c_5 => ((absurd c_5 (by decide) : False)).elim)
        refine s_aload_n hC dX11_lift_64 rfl rfl 0 rfl ?_
        refine s_dup hC dX11_lift_65 rfl rfl ?_
        refine s_getf hC cs_X11 19 tw_1268 (le_b rfl) (RepM.f_main hR_1) rfl dX11_lift_66 rfl ?_
        refine s_bipush hC (v := 15) dX11_lift_69 rfl (by decide) ?_
        refine s_iadd hC dX11_lift_71 rfl ?_
        refine s_putf hC cs_X11 19 tw_1268 (le_b rfl) rfl rfl rfl (RepM.f_main hR_1) (le_b rfl) dX11_lift_72 rfl ?_
        refine WP.rm (RepM.s_main_19 hR_1 _) (fun hR_72 => ?_)
        refine s_aload_n hC dX11_lift_75 rfl rfl 0 rfl ?_
        refine s_getf hC cs_X11 10 tw_1259 (le_b rfl) (RepM.f_main hR_72) rfl dX11_lift_76 rfl ?_
        refine s_iload_n hC dX11_lift_79 rfl rfl 1 rfl ?_
        refine s_callF hC (nA := 1) 3 (ct_Jx4a65c_get_915e3 l g _ _ _ _ _ (RepM.f_houses hR_72) _ _ (RepM.p_house hR_72 hj).2.1 (RepM.p_house hR_72 hj).2.2.1 _ _ (RepM.p_house hR_72 hj).2.2.2.1 hj (RepM.p_house hR_72 hj).2.2.2.2) rfl tw_288 tw_5 tw_286 tw_1610 (by decide +kernel) cs_Jx4a65c (RepM.f_houses hR_72) tw_1607 rfl rfl ⟨⟨le_b rfl, le_b rfl⟩, le_b rfl, le_b rfl⟩ (le_b rfl) dX11_lift_80 rfl (dvk1 ?_) nokx
        refine s_castI hC tw_1544 (RepM.f_house hR_72 hj) dX11_lift_85 rfl ?_
        refine s_iload_n hC dX11_lift_88 rfl rfl 2 rfl ?_
        refine z_if_eqB hC (tgt := 96) dX11_lift_89 rfl (by decide) (fun c_6 => ?_) (fun c_6 => ?_)
        · have hb_f : b9 = false := c_6; subst hb_f
          refine s_iconst hC (v := 3) dX11_lift_96 rfl (by decide) ?_
          refine s_dup2_11 hC dX11_lift_97 rfl rfl rfl ?_
          refine s_ialdK hC (Or.inl (RepM.f_house hR_72 hj)) (by first | exact vp_in_nI (by decide : 4 < 7) (by decide) | exact vp_in_nI (by decide : 3 < 7) (by decide)) dX11_lift_98 rfl ?_
          refine s_iload_n hC dX11_lift_99 rfl rfl 3 rfl ?_
          refine s_iadd hC dX11_lift_100 rfl ?_
          refine s_iast hC (RepM.f_house hR_72 hj) (by first | exact vp_in_nI (by decide : 4 < 7) (by decide) | exact vp_in_nI (by decide : 3 < 7) (by decide)) dX11_lift_101 rfl ?_
          rw [show Int32.toNatClampNeg 3 = 3 from rfl]
          refine WP.rm (RepM.h_3 hR_72 hj ((σ.hs j).lf + a9)) (fun hR_101 => ?_)
          change RepM g ad _ (lfm_lf σ j a9) _ at hR_101
          have hh2 : hIn (lfm_lf σ j a9) := hIn_up hh (by simp only [lfm_lf, St.kinds, St.refs, St.depths, St.waters, St.bR, St.bU, St.wears, St.order, St.waits, St.hR, St.hU, St.oR, St.oU, St.press, St.foam, St.pR, St.pU, St.seg, St.pit, St.away, St.mn, St.fc, St.fl, St.fo, St.n, St.ring, St.nh, St.hs, St.nb, St.bo, St.w_kinds, St.w_refs, St.w_depths, St.w_waters, St.w_bR, St.w_bU, St.w_wears, St.w_order, St.w_waits, St.w_hR, St.w_hU, St.w_oR, St.w_oU, St.w_press, St.w_foam, St.w_pR, St.w_pU, St.w_seg, St.w_pit, St.w_away, St.w_mn, St.w_fc, St.w_fl, St.w_fo, St.w_n, St.w_ring, St.w_nh, St.w_hs, St.w_nb, St.w_bo, St.w_course, St.a_ring, St.a_house, St.a_bore]) (lfm_lf_hs σ j a9) rfl rfl rfl
          have hk2 : kIn (lfm_lf σ j a9) := kIn_cg hk (by simp only [lfm_lf, St.kinds, St.refs, St.depths, St.waters, St.bR, St.bU, St.wears, St.order, St.waits, St.hR, St.hU, St.oR, St.oU, St.press, St.foam, St.pR, St.pU, St.seg, St.pit, St.away, St.mn, St.fc, St.fl, St.fo, St.n, St.ring, St.nh, St.hs, St.nb, St.bo, St.w_kinds, St.w_refs, St.w_depths, St.w_waters, St.w_bR, St.w_bU, St.w_wears, St.w_order, St.w_waits, St.w_hR, St.w_hU, St.w_oR, St.w_oU, St.w_press, St.w_foam, St.w_pR, St.w_pU, St.w_seg, St.w_pit, St.w_away, St.w_mn, St.w_fc, St.w_fl, St.w_fo, St.w_n, St.w_ring, St.w_nh, St.w_hs, St.w_nb, St.w_bo, St.w_course, St.a_ring, St.a_house, St.a_bore])
          have hrk2 : rkOK (lfm_lf σ j a9) := rkOK_cg hrk (by simp only [lfm_lf, St.kinds, St.refs, St.depths, St.waters, St.bR, St.bU, St.wears, St.order, St.waits, St.hR, St.hU, St.oR, St.oU, St.press, St.foam, St.pR, St.pU, St.seg, St.pit, St.away, St.mn, St.fc, St.fl, St.fo, St.n, St.ring, St.nh, St.hs, St.nb, St.bo, St.w_kinds, St.w_refs, St.w_depths, St.w_waters, St.w_bR, St.w_bU, St.w_wears, St.w_order, St.w_waits, St.w_hR, St.w_hU, St.w_oR, St.w_oU, St.w_press, St.w_foam, St.w_pR, St.w_pU, St.w_seg, St.w_pit, St.w_away, St.w_mn, St.w_fc, St.w_fl, St.w_fo, St.w_n, St.w_ring, St.w_nh, St.w_hs, St.w_nb, St.w_bo, St.w_course, St.a_ring, St.a_house, St.a_bore]) (by simp only [lfm_lf, St.kinds, St.refs, St.depths, St.waters, St.bR, St.bU, St.wears, St.order, St.waits, St.hR, St.hU, St.oR, St.oU, St.press, St.foam, St.pR, St.pU, St.seg, St.pit, St.away, St.mn, St.fc, St.fl, St.fo, St.n, St.ring, St.nh, St.hs, St.nb, St.bo, St.w_kinds, St.w_refs, St.w_depths, St.w_waters, St.w_bR, St.w_bU, St.w_wears, St.w_order, St.w_waits, St.w_hR, St.w_hU, St.w_oR, St.w_oU, St.w_press, St.w_foam, St.w_pR, St.w_pU, St.w_seg, St.w_pit, St.w_away, St.w_mn, St.w_fc, St.w_fl, St.w_fo, St.w_n, St.w_ring, St.w_nh, St.w_hs, St.w_nb, St.w_bo, St.w_course, St.a_ring, St.a_house, St.a_bore]) (by simp only [lfm_lf, St.kinds, St.refs, St.depths, St.waters, St.bR, St.bU, St.wears, St.order, St.waits, St.hR, St.hU, St.oR, St.oU, St.press, St.foam, St.pR, St.pU, St.seg, St.pit, St.away, St.mn, St.fc, St.fl, St.fo, St.n, St.ring, St.nh, St.hs, St.nb, St.bo, St.w_kinds, St.w_refs, St.w_depths, St.w_waters, St.w_bR, St.w_bU, St.w_wears, St.w_order, St.w_waits, St.w_hR, St.w_hU, St.w_oR, St.w_oU, St.w_press, St.w_foam, St.w_pR, St.w_pU, St.w_seg, St.w_pit, St.w_away, St.w_mn, St.w_fc, St.w_fl, St.w_fo, St.w_n, St.w_ring, St.w_nh, St.w_hs, St.w_nb, St.w_bo, St.w_course, St.a_ring, St.a_house, St.a_bore])
          have hn2 : nOK (lfm_lf σ j a9) := nOK_cg hn (by simp only [lfm_lf, St.kinds, St.refs, St.depths, St.waters, St.bR, St.bU, St.wears, St.order, St.waits, St.hR, St.hU, St.oR, St.oU, St.press, St.foam, St.pR, St.pU, St.seg, St.pit, St.away, St.mn, St.fc, St.fl, St.fo, St.n, St.ring, St.nh, St.hs, St.nb, St.bo, St.w_kinds, St.w_refs, St.w_depths, St.w_waters, St.w_bR, St.w_bU, St.w_wears, St.w_order, St.w_waits, St.w_hR, St.w_hU, St.w_oR, St.w_oU, St.w_press, St.w_foam, St.w_pR, St.w_pU, St.w_seg, St.w_pit, St.w_away, St.w_mn, St.w_fc, St.w_fl, St.w_fo, St.w_n, St.w_ring, St.w_nh, St.w_hs, St.w_nb, St.w_bo, St.w_course, St.a_ring, St.a_house, St.a_bore])
          have hd2 : dIn (lfm_lf σ j a9) := dIn_cg hd (by simp only [lfm_lf, St.kinds, St.refs, St.depths, St.waters, St.bR, St.bU, St.wears, St.order, St.waits, St.hR, St.hU, St.oR, St.oU, St.press, St.foam, St.pR, St.pU, St.seg, St.pit, St.away, St.mn, St.fc, St.fl, St.fo, St.n, St.ring, St.nh, St.hs, St.nb, St.bo, St.w_kinds, St.w_refs, St.w_depths, St.w_waters, St.w_bR, St.w_bU, St.w_wears, St.w_order, St.w_waits, St.w_hR, St.w_hU, St.w_oR, St.w_oU, St.w_press, St.w_foam, St.w_pR, St.w_pU, St.w_seg, St.w_pit, St.w_away, St.w_mn, St.w_fc, St.w_fl, St.w_fo, St.w_n, St.w_ring, St.w_nh, St.w_hs, St.w_nb, St.w_bo, St.w_course, St.a_ring, St.a_house, St.a_bore])
          have hj2 : j < (lfm_lf σ j a9).nh := by simp only [lfm_lf, St.kinds, St.refs, St.depths, St.waters, St.bR, St.bU, St.wears, St.order, St.waits, St.hR, St.hU, St.oR, St.oU, St.press, St.foam, St.pR, St.pU, St.seg, St.pit, St.away, St.mn, St.fc, St.fl, St.fo, St.n, St.ring, St.nh, St.hs, St.nb, St.bo, St.w_kinds, St.w_refs, St.w_depths, St.w_waters, St.w_bR, St.w_bU, St.w_wears, St.w_order, St.w_waits, St.w_hR, St.w_hU, St.w_oR, St.w_oU, St.w_press, St.w_foam, St.w_pR, St.w_pU, St.w_seg, St.w_pit, St.w_away, St.w_mn, St.w_fc, St.w_fl, St.w_fo, St.w_n, St.w_ring, St.w_nh, St.w_hs, St.w_nb, St.w_bo, St.w_course, St.a_ring, St.a_house, St.a_bore] at hj ⊢; exact hj
          refine s_aload_n hC dX11_lift_102 rfl rfl 0 rfl ?_
          refine s_iload_n hC dX11_lift_103 rfl rfl 1 rfl ?_
          refine s_iload_n hC dX11_lift_104 rfl rfl 2 rfl ?_
          refine s_callV hC (ct_X11_settled l g _ _ _ _ hR_101 hk2 hrk2 hn2 hd2 hh2 _ hj2 _) ce_X11_settled cs_X11 (RepM.f_main hR_101) tw_1745 rfl rfl ⟨⟨le_b rfl, le_b rfl⟩, le_b rfl, le_b rfl⟩ (le_b rfl) dX11_lift_105 rfl (dvk1 ?_) nokx
          refine s_iret hC hr dX11_lift_108 (le_b rfl) (le_b rfl) ?_
          have hcd : cd_lift σ (nI j) false a9 = 0 := by simp [cd_lift, c9, c9, hcl, c_1, c_2, c_3, c_4, c_5, c_6]
          have hv := lfm_lf_vl σ j a9 hcl
          have hRx := RepM.cg hR_101 (lfm_lf_nx σ j a9 hcl)
          exact okM_ok hcd rfl hv hRx rfl rfl rfl (lift_gr hgr hcl)
        · have hb_t : b9 = true := c_6; subst hb_t
          refine s_iconst hC (v := 4) dX11_lift_92 rfl (by decide) ?_
          refine s_goto hC (tgt := 97) dX11_lift_93 (by decide) ?_
          refine s_dup2_11 hC dX11_lift_97 rfl rfl rfl ?_
          refine s_ialdK hC (Or.inl (RepM.f_house hR_72 hj)) (by first | exact vp_in_nI (by decide : 4 < 7) (by decide) | exact vp_in_nI (by decide : 3 < 7) (by decide)) dX11_lift_98 rfl ?_
          refine s_iload_n hC dX11_lift_99 rfl rfl 3 rfl ?_
          refine s_iadd hC dX11_lift_100 rfl ?_
          refine s_iast hC (RepM.f_house hR_72 hj) (by first | exact vp_in_nI (by decide : 4 < 7) (by decide) | exact vp_in_nI (by decide : 3 < 7) (by decide)) dX11_lift_101 rfl ?_
          rw [show Int32.toNatClampNeg 4 = 4 from rfl]
          refine WP.rm (RepM.h_4 hR_72 hj ((σ.hs j).ll + a9)) (fun hR_101 => ?_)
          change RepM g ad _ (lfm_ll σ j a9) _ at hR_101
          have hh2 : hIn (lfm_ll σ j a9) := hIn_up hh (by simp only [lfm_ll, St.kinds, St.refs, St.depths, St.waters, St.bR, St.bU, St.wears, St.order, St.waits, St.hR, St.hU, St.oR, St.oU, St.press, St.foam, St.pR, St.pU, St.seg, St.pit, St.away, St.mn, St.fc, St.fl, St.fo, St.n, St.ring, St.nh, St.hs, St.nb, St.bo, St.w_kinds, St.w_refs, St.w_depths, St.w_waters, St.w_bR, St.w_bU, St.w_wears, St.w_order, St.w_waits, St.w_hR, St.w_hU, St.w_oR, St.w_oU, St.w_press, St.w_foam, St.w_pR, St.w_pU, St.w_seg, St.w_pit, St.w_away, St.w_mn, St.w_fc, St.w_fl, St.w_fo, St.w_n, St.w_ring, St.w_nh, St.w_hs, St.w_nb, St.w_bo, St.w_course, St.a_ring, St.a_house, St.a_bore]) (lfm_ll_hs σ j a9) rfl rfl rfl
          have hk2 : kIn (lfm_ll σ j a9) := kIn_cg hk (by simp only [lfm_ll, St.kinds, St.refs, St.depths, St.waters, St.bR, St.bU, St.wears, St.order, St.waits, St.hR, St.hU, St.oR, St.oU, St.press, St.foam, St.pR, St.pU, St.seg, St.pit, St.away, St.mn, St.fc, St.fl, St.fo, St.n, St.ring, St.nh, St.hs, St.nb, St.bo, St.w_kinds, St.w_refs, St.w_depths, St.w_waters, St.w_bR, St.w_bU, St.w_wears, St.w_order, St.w_waits, St.w_hR, St.w_hU, St.w_oR, St.w_oU, St.w_press, St.w_foam, St.w_pR, St.w_pU, St.w_seg, St.w_pit, St.w_away, St.w_mn, St.w_fc, St.w_fl, St.w_fo, St.w_n, St.w_ring, St.w_nh, St.w_hs, St.w_nb, St.w_bo, St.w_course, St.a_ring, St.a_house, St.a_bore])
          have hrk2 : rkOK (lfm_ll σ j a9) := rkOK_cg hrk (by simp only [lfm_ll, St.kinds, St.refs, St.depths, St.waters, St.bR, St.bU, St.wears, St.order, St.waits, St.hR, St.hU, St.oR, St.oU, St.press, St.foam, St.pR, St.pU, St.seg, St.pit, St.away, St.mn, St.fc, St.fl, St.fo, St.n, St.ring, St.nh, St.hs, St.nb, St.bo, St.w_kinds, St.w_refs, St.w_depths, St.w_waters, St.w_bR, St.w_bU, St.w_wears, St.w_order, St.w_waits, St.w_hR, St.w_hU, St.w_oR, St.w_oU, St.w_press, St.w_foam, St.w_pR, St.w_pU, St.w_seg, St.w_pit, St.w_away, St.w_mn, St.w_fc, St.w_fl, St.w_fo, St.w_n, St.w_ring, St.w_nh, St.w_hs, St.w_nb, St.w_bo, St.w_course, St.a_ring, St.a_house, St.a_bore]) (by simp only [lfm_ll, St.kinds, St.refs, St.depths, St.waters, St.bR, St.bU, St.wears, St.order, St.waits, St.hR, St.hU, St.oR, St.oU, St.press, St.foam, St.pR, St.pU, St.seg, St.pit, St.away, St.mn, St.fc, St.fl, St.fo, St.n, St.ring, St.nh, St.hs, St.nb, St.bo, St.w_kinds, St.w_refs, St.w_depths, St.w_waters, St.w_bR, St.w_bU, St.w_wears, St.w_order, St.w_waits, St.w_hR, St.w_hU, St.w_oR, St.w_oU, St.w_press, St.w_foam, St.w_pR, St.w_pU, St.w_seg, St.w_pit, St.w_away, St.w_mn, St.w_fc, St.w_fl, St.w_fo, St.w_n, St.w_ring, St.w_nh, St.w_hs, St.w_nb, St.w_bo, St.w_course, St.a_ring, St.a_house, St.a_bore]) (by simp only [lfm_ll, St.kinds, St.refs, St.depths, St.waters, St.bR, St.bU, St.wears, St.order, St.waits, St.hR, St.hU, St.oR, St.oU, St.press, St.foam, St.pR, St.pU, St.seg, St.pit, St.away, St.mn, St.fc, St.fl, St.fo, St.n, St.ring, St.nh, St.hs, St.nb, St.bo, St.w_kinds, St.w_refs, St.w_depths, St.w_waters, St.w_bR, St.w_bU, St.w_wears, St.w_order, St.w_waits, St.w_hR, St.w_hU, St.w_oR, St.w_oU, St.w_press, St.w_foam, St.w_pR, St.w_pU, St.w_seg, St.w_pit, St.w_away, St.w_mn, St.w_fc, St.w_fl, St.w_fo, St.w_n, St.w_ring, St.w_nh, St.w_hs, St.w_nb, St.w_bo, St.w_course, St.a_ring, St.a_house, St.a_bore])
          have hn2 : nOK (lfm_ll σ j a9) := nOK_cg hn (by simp only [lfm_ll, St.kinds, St.refs, St.depths, St.waters, St.bR, St.bU, St.wears, St.order, St.waits, St.hR, St.hU, St.oR, St.oU, St.press, St.foam, St.pR, St.pU, St.seg, St.pit, St.away, St.mn, St.fc, St.fl, St.fo, St.n, St.ring, St.nh, St.hs, St.nb, St.bo, St.w_kinds, St.w_refs, St.w_depths, St.w_waters, St.w_bR, St.w_bU, St.w_wears, St.w_order, St.w_waits, St.w_hR, St.w_hU, St.w_oR, St.w_oU, St.w_press, St.w_foam, St.w_pR, St.w_pU, St.w_seg, St.w_pit, St.w_away, St.w_mn, St.w_fc, St.w_fl, St.w_fo, St.w_n, St.w_ring, St.w_nh, St.w_hs, St.w_nb, St.w_bo, St.w_course, St.a_ring, St.a_house, St.a_bore])
          have hd2 : dIn (lfm_ll σ j a9) := dIn_cg hd (by simp only [lfm_ll, St.kinds, St.refs, St.depths, St.waters, St.bR, St.bU, St.wears, St.order, St.waits, St.hR, St.hU, St.oR, St.oU, St.press, St.foam, St.pR, St.pU, St.seg, St.pit, St.away, St.mn, St.fc, St.fl, St.fo, St.n, St.ring, St.nh, St.hs, St.nb, St.bo, St.w_kinds, St.w_refs, St.w_depths, St.w_waters, St.w_bR, St.w_bU, St.w_wears, St.w_order, St.w_waits, St.w_hR, St.w_hU, St.w_oR, St.w_oU, St.w_press, St.w_foam, St.w_pR, St.w_pU, St.w_seg, St.w_pit, St.w_away, St.w_mn, St.w_fc, St.w_fl, St.w_fo, St.w_n, St.w_ring, St.w_nh, St.w_hs, St.w_nb, St.w_bo, St.w_course, St.a_ring, St.a_house, St.a_bore])
          have hj2 : j < (lfm_ll σ j a9).nh := by simp only [lfm_ll, St.kinds, St.refs, St.depths, St.waters, St.bR, St.bU, St.wears, St.order, St.waits, St.hR, St.hU, St.oR, St.oU, St.press, St.foam, St.pR, St.pU, St.seg, St.pit, St.away, St.mn, St.fc, St.fl, St.fo, St.n, St.ring, St.nh, St.hs, St.nb, St.bo, St.w_kinds, St.w_refs, St.w_depths, St.w_waters, St.w_bR, St.w_bU, St.w_wears, St.w_order, St.w_waits, St.w_hR, St.w_hU, St.w_oR, St.w_oU, St.w_press, St.w_foam, St.w_pR, St.w_pU, St.w_seg, St.w_pit, St.w_away, St.w_mn, St.w_fc, St.w_fl, St.w_fo, St.w_n, St.w_ring, St.w_nh, St.w_hs, St.w_nb, St.w_bo, St.w_course, St.a_ring, St.a_house, St.a_bore] at hj ⊢; exact hj
          refine s_aload_n hC dX11_lift_102 rfl rfl 0 rfl ?_
          refine s_iload_n hC dX11_lift_103 rfl rfl 1 rfl ?_
          refine s_iload_n hC dX11_lift_104 rfl rfl 2 rfl ?_
          refine s_callV hC (ct_X11_settled l g _ _ _ _ hR_101 hk2 hrk2 hn2 hd2 hh2 _ hj2 _) ce_X11_settled cs_X11 (RepM.f_main hR_101) tw_1745 rfl rfl ⟨⟨le_b rfl, le_b rfl⟩, le_b rfl, le_b rfl⟩ (le_b rfl) dX11_lift_105 rfl (dvk1 ?_) nokx
          refine s_iret hC hr dX11_lift_108 (le_b rfl) (le_b rfl) ?_
          have hcd : cd_lift σ (nI j) true a9 = 0 := by simp [cd_lift, c9, c9, hcl, c_1, c_2, c_3, c_4, c_5, c_6]
          have hv := lfm_ll_vl σ j a9 hcl
          have hRx := RepM.cg hR_101 (lfm_ll_nx σ j a9 hcl)
          exact okM_ok hcd rfl hv hRx rfl rfl rfl (lift_gr hgr hcl)
      · refine s_iconst hC (v := 1) dX11_lift_50 rfl (by decide) ?_
        refine s_goto hC (tgt := 55) dX11_lift_51 (by decide) ?_
        refine s_iconst hC (v := 3) dX11_lift_55 rfl (by decide) ?_
        refine s_callV hC (ct_X11_fails_t l g _ _ _ _ hR_1 (by first | rfl | exact hth) _ (by decide)) ce_X11_fails cs_X11 (RepM.f_main hR_1) tw_1422 rfl rfl ⟨⟨le_b rfl, le_b rfl⟩, le_b rfl, le_b rfl⟩ (le_b rfl) dX11_lift_56 rfl (dvk1 ?_) nokx
        refine WP.rm (RepM.s_main_0 hR_1 _) (fun hR_56 => ?_)
        refine z_if_eq hC (tgt := 64) dX11_lift_59 rfl (by decide) (fun c_7 => ((absurd c_7 (by decide) : False)).elim) (fun c_7 => ?_)
        refine s_iconst hC (v := (-1)) dX11_lift_62 rfl (by decide) ?_
        refine s_iret hC hr dX11_lift_63 (le_b rfl) (le_b rfl) ?_
        exact okM_no 3 (by simp [cd_lift, c9, hcl, c_1, c_2, c_3, c_4, c_7]) (by decide) (by rfl) hR_56 rfl rfl hgr
    · refine s_iconst hC (v := 1) dX11_lift_25 rfl (by decide) ?_
      refine s_goto hC (tgt := 30) dX11_lift_26 (by decide) ?_
      refine s_iconst hC (v := 2) dX11_lift_30 rfl (by decide) ?_
      refine s_callV hC (ct_X11_fails_t l g _ _ _ _ hR_1 (by first | rfl | exact hth) _ (by decide)) ce_X11_fails cs_X11 (RepM.f_main hR_1) tw_1422 rfl rfl ⟨⟨le_b rfl, le_b rfl⟩, le_b rfl, le_b rfl⟩ (le_b rfl) dX11_lift_31 rfl (dvk1 ?_) nokx
      refine WP.rm (RepM.s_main_0 hR_1 _) (fun hR_31 => ?_)
      refine z_if_ne hC (tgt := 62) dX11_lift_34 rfl (by decide) (fun c_8 => ?_) (fun c_8 => ((absurd c_8 (by decide) : False)).elim)
      refine s_iconst hC (v := (-1)) dX11_lift_62 rfl (by decide) ?_
      refine s_iret hC hr dX11_lift_63 (le_b rfl) (le_b rfl) ?_
      exact okM_no 2 (by simp [cd_lift, c9, hcl, c_1, c_2, c_8]) (by decide) (by rfl) hR_31 rfl rfl hgr
  · refine WP.rm (RepM.s_main_0 hR_1 _) (fun hR_9 => ?_)
    refine z_if_ne hC (tgt := 62) dX11_lift_9 rfl (by decide) (fun c_9 => ?_) (fun c_9 => ((absurd c_9 (by decide) : False)).elim)
    refine s_iconst hC (v := (-1)) dX11_lift_62 rfl (by decide) ?_
    refine s_iret hC hr dX11_lift_63 (le_b rfl) (le_b rfl) ?_
    exact okM_no 1 (by simp [cd_lift, c9, c_9]) (by decide) (by rfl) hR_9 rfl rfl hgr
def rdm1 (s : St) (j : Nat) : St := s.w_hs (upT s.hs j ((s.hs j).w_wr true))
def rdm2 (s : St) (j : Nat) : St := (rdm1 s j).w_hs (upT (rdm1 s j).hs j (((rdm1 s j).hs j).w_re (iMax (smF (rdm1 s j) ((rdm1 s j).hs j) true) (smF (rdm1 s j) ((rdm1 s j).hs j) false))))
theorem rdm1_hs (s : St) (j : Nat) : (rdm1 s j).hs = upT s.hs j ((s.hs j).w_wr true) := by simp only [rdm1, St.kinds, St.refs, St.depths, St.waters, St.bR, St.bU, St.wears, St.order, St.waits, St.hR, St.hU, St.oR, St.oU, St.press, St.foam, St.pR, St.pU, St.seg, St.pit, St.away, St.mn, St.fc, St.fl, St.fo, St.n, St.ring, St.nh, St.hs, St.nb, St.bo, St.w_kinds, St.w_refs, St.w_depths, St.w_waters, St.w_bR, St.w_bU, St.w_wears, St.w_order, St.w_waits, St.w_hR, St.w_hU, St.w_oR, St.w_oU, St.w_press, St.w_foam, St.w_pR, St.w_pU, St.w_seg, St.w_pit, St.w_away, St.w_mn, St.w_fc, St.w_fl, St.w_fo, St.w_n, St.w_ring, St.w_nh, St.w_hs, St.w_nb, St.w_bo, St.w_course, St.a_ring, St.a_house, St.a_bore]
theorem sm_wr (s : St) (h : Hs) (b : Bool) : smF s (h.w_wr true) b = smF s h b := by
  cases b <;> rfl
theorem rdm1_sm (s : St) (j : Nat) (b : Bool) : smF (rdm1 s j) ((rdm1 s j).hs j) b = smF s (s.hs j) b := by
  rw [rdm1_hs, upT_s, smF_cg (s := s) (s' := rdm1 s j) (by simp only [rdm1, St.kinds, St.refs, St.depths, St.waters, St.bR, St.bU, St.wears, St.order, St.waits, St.hR, St.hU, St.oR, St.oU, St.press, St.foam, St.pR, St.pU, St.seg, St.pit, St.away, St.mn, St.fc, St.fl, St.fo, St.n, St.ring, St.nh, St.hs, St.nb, St.bo, St.w_kinds, St.w_refs, St.w_depths, St.w_waters, St.w_bR, St.w_bU, St.w_wears, St.w_order, St.w_waits, St.w_hR, St.w_hU, St.w_oR, St.w_oU, St.w_press, St.w_foam, St.w_pR, St.w_pU, St.w_seg, St.w_pit, St.w_away, St.w_mn, St.w_fc, St.w_fl, St.w_fo, St.w_n, St.w_ring, St.w_nh, St.w_hs, St.w_nb, St.w_bo, St.w_course, St.a_ring, St.a_house, St.a_bore]) (by simp only [rdm1, St.kinds, St.refs, St.depths, St.waters, St.bR, St.bU, St.wears, St.order, St.waits, St.hR, St.hU, St.oR, St.oU, St.press, St.foam, St.pR, St.pU, St.seg, St.pit, St.away, St.mn, St.fc, St.fl, St.fo, St.n, St.ring, St.nh, St.hs, St.nb, St.bo, St.w_kinds, St.w_refs, St.w_depths, St.w_waters, St.w_bR, St.w_bU, St.w_wears, St.w_order, St.w_waits, St.w_hR, St.w_hU, St.w_oR, St.w_oU, St.w_press, St.w_foam, St.w_pR, St.w_pU, St.w_seg, St.w_pit, St.w_away, St.w_mn, St.w_fc, St.w_fl, St.w_fo, St.w_n, St.w_ring, St.w_nh, St.w_hs, St.w_nb, St.w_bo, St.w_course, St.a_ring, St.a_house, St.a_bore]) (by simp only [rdm1, St.kinds, St.refs, St.depths, St.waters, St.bR, St.bU, St.wears, St.order, St.waits, St.hR, St.hU, St.oR, St.oU, St.press, St.foam, St.pR, St.pU, St.seg, St.pit, St.away, St.mn, St.fc, St.fl, St.fo, St.n, St.ring, St.nh, St.hs, St.nb, St.bo, St.w_kinds, St.w_refs, St.w_depths, St.w_waters, St.w_bR, St.w_bU, St.w_wears, St.w_order, St.w_waits, St.w_hR, St.w_hU, St.w_oR, St.w_oU, St.w_press, St.w_foam, St.w_pR, St.w_pU, St.w_seg, St.w_pit, St.w_away, St.w_mn, St.w_fc, St.w_fl, St.w_fo, St.w_n, St.w_ring, St.w_nh, St.w_hs, St.w_nb, St.w_bo, St.w_course, St.a_ring, St.a_house, St.a_bore]), sm_wr]
theorem rdm_eq (s : St) (j : Nat) : rdm2 s j = rd2 s j := by
  have h2 : (rd1 s j).hs = upT s.hs j ((s.hs j).w_re (iMax (smF s (s.hs j) false) (smF s (s.hs j) true))) := by simp only [rd1, St.kinds, St.refs, St.depths, St.waters, St.bR, St.bU, St.wears, St.order, St.waits, St.hR, St.hU, St.oR, St.oU, St.press, St.foam, St.pR, St.pU, St.seg, St.pit, St.away, St.mn, St.fc, St.fl, St.fo, St.n, St.ring, St.nh, St.hs, St.nb, St.bo, St.w_kinds, St.w_refs, St.w_depths, St.w_waters, St.w_bR, St.w_bU, St.w_wears, St.w_order, St.w_waits, St.w_hR, St.w_hU, St.w_oR, St.w_oU, St.w_press, St.w_foam, St.w_pR, St.w_pU, St.w_seg, St.w_pit, St.w_away, St.w_mn, St.w_fc, St.w_fl, St.w_fo, St.w_n, St.w_ring, St.w_nh, St.w_hs, St.w_nb, St.w_bo, St.w_course, St.a_ring, St.a_house, St.a_bore]
  have e1 : rdm2 s j = s.w_hs (upT s.hs j (((s.hs j).w_wr true).w_re (iMax (smF s (s.hs j) true) (smF s (s.hs j) false)))) := by
    rw [rdm2, rdm1_sm, rdm1_sm, rdm1_hs, upT_s, upT_upT]
    simp only [rdm1, St.kinds, St.refs, St.depths, St.waters, St.bR, St.bU, St.wears, St.order, St.waits, St.hR, St.hU, St.oR, St.oU, St.press, St.foam, St.pR, St.pU, St.seg, St.pit, St.away, St.mn, St.fc, St.fl, St.fo, St.n, St.ring, St.nh, St.hs, St.nb, St.bo, St.w_kinds, St.w_refs, St.w_depths, St.w_waters, St.w_bR, St.w_bU, St.w_wears, St.w_order, St.w_waits, St.w_hR, St.w_hU, St.w_oR, St.w_oU, St.w_press, St.w_foam, St.w_pR, St.w_pU, St.w_seg, St.w_pit, St.w_away, St.w_mn, St.w_fc, St.w_fl, St.w_fo, St.w_n, St.w_ring, St.w_nh, St.w_hs, St.w_nb, St.w_bo, St.w_course, St.a_ring, St.a_house, St.a_bore]
  have e2 : rd2 s j = s.w_hs (upT s.hs j (((s.hs j).w_re (iMax (smF s (s.hs j) false) (smF s (s.hs j) true))).w_wr true)) := by
    rw [rd2, h2, upT_s, upT_upT]
    simp only [rd1, St.kinds, St.refs, St.depths, St.waters, St.bR, St.bU, St.wears, St.order, St.waits, St.hR, St.hU, St.oR, St.oU, St.press, St.foam, St.pR, St.pU, St.seg, St.pit, St.away, St.mn, St.fc, St.fl, St.fo, St.n, St.ring, St.nh, St.hs, St.nb, St.bo, St.w_kinds, St.w_refs, St.w_depths, St.w_waters, St.w_bR, St.w_bU, St.w_wears, St.w_order, St.w_waits, St.w_hR, St.w_hU, St.w_oR, St.w_oU, St.w_press, St.w_foam, St.w_pR, St.w_pU, St.w_seg, St.w_pit, St.w_away, St.w_mn, St.w_fc, St.w_fl, St.w_fo, St.w_n, St.w_ring, St.w_nh, St.w_hs, St.w_nb, St.w_bo, St.w_course, St.a_ring, St.a_house, St.a_bore]
  rw [e1, e2, iMax_c]
  rfl
theorem rdm_re (s : St) (j : Nat) : hsA ((rdm2 s j).hs j) 6 = ((rd2 s j).hs j).re := by
  rw [rdm_eq]
  rfl
set_option maxHeartbeats 1000000 in
set_option maxRecDepth 100000 in
theorem ct_X11_read (l : Launch) (g : Gl) (ω : Wd) (ad : Iy → Nat) (y : Ey) (σ : St) (hR : RepM g ad y σ ω) (r9 : Int32) (hgr : grOK σ y) (hk : kIn σ) (hrk : rkOK σ) (hn : nOK σ) (hd : dIn σ) (hh : hIn σ) : CT l g yX11_read cX11_read 2 (some .int) 5 113 0 0 [.ref (ad .main), .int r9] ω (okM g ad (cd_read σ r9) Value.int (vl_read σ r9) (nx_read σ r9) σ) (nox) := by
  refine CT.of (own := "BoringheadModel") rfl rfl (le_b rfl) rfl ?_
  intro p e s m args below meth c sz0 hC hr htab hin
  refine s_aload_n hC dX11_read_0 rfl rfl 0 rfl ?_
  refine s_callV hC (ct_X11_begins l g _ _ _ _ hR) ce_X11_begins cs_X11 (RepM.f_main hR) tw_1324 rfl rfl ⟨⟨le_b rfl, le_b rfl⟩, le_b rfl, le_b rfl⟩ (le_b rfl) dX11_read_1 rfl (dvk0 ?_) nokx
  refine WP.rm (RepM.s_main_0 hR 0) (fun hR_1 => ?_)
  refine s_aload_n hC dX11_read_4 rfl rfl 0 rfl ?_
  refine s_iload_n hC dX11_read_5 rfl rfl 1 rfl ?_
  refine s_callV hC (ct_X11_noHouse l g _ _ _ _ hR_1 rfl _) ce_X11_noHouse cs_X11 (RepM.f_main hR_1) tw_1741 rfl rfl ⟨⟨le_b rfl, le_b rfl⟩, le_b rfl, le_b rfl⟩ (le_b rfl) dX11_read_6 rfl (fun r w h9 => ?_) nokx
  rcases h9 with ⟨c9, rfl, rfl⟩ | ⟨c9, rfl, rfl⟩
  · obtain ⟨j, rfl, hj⟩ := inL_of (Nat.lt_of_le_of_lt (RepM.b_house hR) (by decide)) c9
    have hcl : (nI j).toNatClampNeg = j := nI_clamp (by have := RepM.b_house hR; omega)
    refine z_if_eq hC (tgt := 14) dX11_read_9 rfl (by decide) (fun c_1 => ?_) (fun c_1 => ((absurd c_1 (by decide) : False)).elim)
    refine s_aload_n hC dX11_read_14 rfl rfl 0 rfl ?_
    refine s_getf hC cs_X11 10 tw_1259 (le_b rfl) (RepM.f_main hR_1) rfl dX11_read_15 rfl ?_
    refine s_iload_n hC dX11_read_18 rfl rfl 1 rfl ?_
    refine s_callF hC (nA := 1) 3 (ct_Jx4a65c_get_915e3 l g _ _ _ _ _ (RepM.f_houses hR_1) _ _ (RepM.p_house hR_1 hj).2.1 (RepM.p_house hR_1 hj).2.2.1 _ _ (RepM.p_house hR_1 hj).2.2.2.1 hj (RepM.p_house hR_1 hj).2.2.2.2) rfl tw_288 tw_5 tw_286 tw_1610 (by decide +kernel) cs_Jx4a65c (RepM.f_houses hR_1) tw_1607 rfl rfl ⟨⟨le_b rfl, le_b rfl⟩, le_b rfl, le_b rfl⟩ (le_b rfl) dX11_read_19 rfl (dvk1 ?_) nokx
    refine s_castI hC tw_1544 (RepM.f_house hR_1 hj) dX11_read_24 rfl ?_
    refine s_iconst hC (v := 5) dX11_read_27 rfl (by decide) ?_
    refine s_iconst hC (v := 1) dX11_read_28 rfl (by decide) ?_
    refine s_iast hC (RepM.f_house hR_1 hj) (vp_in_nI (by decide : 5 < 7) (by decide)) dX11_read_29 rfl ?_
    rw [show Int32.toNatClampNeg 5 = 5 from rfl]
    rw [show (1 : Int32) = bI true from rfl]
    refine WP.rm (RepM.h_5 hR_1 hj (true)) (fun hR_29 => ?_)
    change RepM g ad _ (rdm1 σ j) _ at hR_29
    have hh2 : hIn (rdm1 σ j) := hIn_up hh (by simp only [rdm1, St.kinds, St.refs, St.depths, St.waters, St.bR, St.bU, St.wears, St.order, St.waits, St.hR, St.hU, St.oR, St.oU, St.press, St.foam, St.pR, St.pU, St.seg, St.pit, St.away, St.mn, St.fc, St.fl, St.fo, St.n, St.ring, St.nh, St.hs, St.nb, St.bo, St.w_kinds, St.w_refs, St.w_depths, St.w_waters, St.w_bR, St.w_bU, St.w_wears, St.w_order, St.w_waits, St.w_hR, St.w_hU, St.w_oR, St.w_oU, St.w_press, St.w_foam, St.w_pR, St.w_pU, St.w_seg, St.w_pit, St.w_away, St.w_mn, St.w_fc, St.w_fl, St.w_fo, St.w_n, St.w_ring, St.w_nh, St.w_hs, St.w_nb, St.w_bo, St.w_course, St.a_ring, St.a_house, St.a_bore]) (rdm1_hs σ j) rfl rfl rfl
    have hk2 : kIn (rdm1 σ j) := kIn_cg hk (by simp only [rdm1, St.kinds, St.refs, St.depths, St.waters, St.bR, St.bU, St.wears, St.order, St.waits, St.hR, St.hU, St.oR, St.oU, St.press, St.foam, St.pR, St.pU, St.seg, St.pit, St.away, St.mn, St.fc, St.fl, St.fo, St.n, St.ring, St.nh, St.hs, St.nb, St.bo, St.w_kinds, St.w_refs, St.w_depths, St.w_waters, St.w_bR, St.w_bU, St.w_wears, St.w_order, St.w_waits, St.w_hR, St.w_hU, St.w_oR, St.w_oU, St.w_press, St.w_foam, St.w_pR, St.w_pU, St.w_seg, St.w_pit, St.w_away, St.w_mn, St.w_fc, St.w_fl, St.w_fo, St.w_n, St.w_ring, St.w_nh, St.w_hs, St.w_nb, St.w_bo, St.w_course, St.a_ring, St.a_house, St.a_bore])
    have hrk2 : rkOK (rdm1 σ j) := rkOK_cg hrk (by simp only [rdm1, St.kinds, St.refs, St.depths, St.waters, St.bR, St.bU, St.wears, St.order, St.waits, St.hR, St.hU, St.oR, St.oU, St.press, St.foam, St.pR, St.pU, St.seg, St.pit, St.away, St.mn, St.fc, St.fl, St.fo, St.n, St.ring, St.nh, St.hs, St.nb, St.bo, St.w_kinds, St.w_refs, St.w_depths, St.w_waters, St.w_bR, St.w_bU, St.w_wears, St.w_order, St.w_waits, St.w_hR, St.w_hU, St.w_oR, St.w_oU, St.w_press, St.w_foam, St.w_pR, St.w_pU, St.w_seg, St.w_pit, St.w_away, St.w_mn, St.w_fc, St.w_fl, St.w_fo, St.w_n, St.w_ring, St.w_nh, St.w_hs, St.w_nb, St.w_bo, St.w_course, St.a_ring, St.a_house, St.a_bore]) (by simp only [rdm1, St.kinds, St.refs, St.depths, St.waters, St.bR, St.bU, St.wears, St.order, St.waits, St.hR, St.hU, St.oR, St.oU, St.press, St.foam, St.pR, St.pU, St.seg, St.pit, St.away, St.mn, St.fc, St.fl, St.fo, St.n, St.ring, St.nh, St.hs, St.nb, St.bo, St.w_kinds, St.w_refs, St.w_depths, St.w_waters, St.w_bR, St.w_bU, St.w_wears, St.w_order, St.w_waits, St.w_hR, St.w_hU, St.w_oR, St.w_oU, St.w_press, St.w_foam, St.w_pR, St.w_pU, St.w_seg, St.w_pit, St.w_away, St.w_mn, St.w_fc, St.w_fl, St.w_fo, St.w_n, St.w_ring, St.w_nh, St.w_hs, St.w_nb, St.w_bo, St.w_course, St.a_ring, St.a_house, St.a_bore]) (by simp only [rdm1, St.kinds, St.refs, St.depths, St.waters, St.bR, St.bU, St.wears, St.order, St.waits, St.hR, St.hU, St.oR, St.oU, St.press, St.foam, St.pR, St.pU, St.seg, St.pit, St.away, St.mn, St.fc, St.fl, St.fo, St.n, St.ring, St.nh, St.hs, St.nb, St.bo, St.w_kinds, St.w_refs, St.w_depths, St.w_waters, St.w_bR, St.w_bU, St.w_wears, St.w_order, St.w_waits, St.w_hR, St.w_hU, St.w_oR, St.w_oU, St.w_press, St.w_foam, St.w_pR, St.w_pU, St.w_seg, St.w_pit, St.w_away, St.w_mn, St.w_fc, St.w_fl, St.w_fo, St.w_n, St.w_ring, St.w_nh, St.w_hs, St.w_nb, St.w_bo, St.w_course, St.a_ring, St.a_house, St.a_bore])
    have hn2 : nOK (rdm1 σ j) := nOK_cg hn (by simp only [rdm1, St.kinds, St.refs, St.depths, St.waters, St.bR, St.bU, St.wears, St.order, St.waits, St.hR, St.hU, St.oR, St.oU, St.press, St.foam, St.pR, St.pU, St.seg, St.pit, St.away, St.mn, St.fc, St.fl, St.fo, St.n, St.ring, St.nh, St.hs, St.nb, St.bo, St.w_kinds, St.w_refs, St.w_depths, St.w_waters, St.w_bR, St.w_bU, St.w_wears, St.w_order, St.w_waits, St.w_hR, St.w_hU, St.w_oR, St.w_oU, St.w_press, St.w_foam, St.w_pR, St.w_pU, St.w_seg, St.w_pit, St.w_away, St.w_mn, St.w_fc, St.w_fl, St.w_fo, St.w_n, St.w_ring, St.w_nh, St.w_hs, St.w_nb, St.w_bo, St.w_course, St.a_ring, St.a_house, St.a_bore])
    have hd2 : dIn (rdm1 σ j) := dIn_cg hd (by simp only [rdm1, St.kinds, St.refs, St.depths, St.waters, St.bR, St.bU, St.wears, St.order, St.waits, St.hR, St.hU, St.oR, St.oU, St.press, St.foam, St.pR, St.pU, St.seg, St.pit, St.away, St.mn, St.fc, St.fl, St.fo, St.n, St.ring, St.nh, St.hs, St.nb, St.bo, St.w_kinds, St.w_refs, St.w_depths, St.w_waters, St.w_bR, St.w_bU, St.w_wears, St.w_order, St.w_waits, St.w_hR, St.w_hU, St.w_oR, St.w_oU, St.w_press, St.w_foam, St.w_pR, St.w_pU, St.w_seg, St.w_pit, St.w_away, St.w_mn, St.w_fc, St.w_fl, St.w_fo, St.w_n, St.w_ring, St.w_nh, St.w_hs, St.w_nb, St.w_bo, St.w_course, St.a_ring, St.a_house, St.a_bore])
    have hj2 : j < (rdm1 σ j).nh := by simp only [rdm1, St.kinds, St.refs, St.depths, St.waters, St.bR, St.bU, St.wears, St.order, St.waits, St.hR, St.hU, St.oR, St.oU, St.press, St.foam, St.pR, St.pU, St.seg, St.pit, St.away, St.mn, St.fc, St.fl, St.fo, St.n, St.ring, St.nh, St.hs, St.nb, St.bo, St.w_kinds, St.w_refs, St.w_depths, St.w_waters, St.w_bR, St.w_bU, St.w_wears, St.w_order, St.w_waits, St.w_hR, St.w_hU, St.w_oR, St.w_oU, St.w_press, St.w_foam, St.w_pR, St.w_pU, St.w_seg, St.w_pit, St.w_away, St.w_mn, St.w_fc, St.w_fl, St.w_fo, St.w_n, St.w_ring, St.w_nh, St.w_hs, St.w_nb, St.w_bo, St.w_course, St.a_ring, St.a_house, St.a_bore] at hj ⊢; exact hj
    refine s_aload_n hC dX11_read_30 rfl rfl 0 rfl ?_
    refine s_getf hC cs_X11 10 tw_1259 (le_b rfl) (RepM.f_main hR_29) rfl dX11_read_31 rfl ?_
    refine s_iload_n hC dX11_read_34 rfl rfl 1 rfl ?_
    refine s_callF hC (nA := 1) 3 (ct_Jx4a65c_get_915e3 l g _ _ _ _ _ (RepM.f_houses hR_29) _ _ (RepM.p_house hR_29 hj2).2.1 (RepM.p_house hR_29 hj2).2.2.1 _ _ (RepM.p_house hR_29 hj2).2.2.2.1 hj2 (RepM.p_house hR_29 hj2).2.2.2.2) rfl tw_288 tw_5 tw_286 tw_1610 (by decide +kernel) cs_Jx4a65c (RepM.f_houses hR_29) tw_1607 rfl rfl ⟨⟨le_b rfl, le_b rfl⟩, le_b rfl, le_b rfl⟩ (le_b rfl) dX11_read_35 rfl (dvk1 ?_) nokx
    refine s_castI hC tw_1544 (RepM.f_house hR_29 hj2) dX11_read_40 rfl ?_
    refine s_bipush hC (v := 6) dX11_read_43 rfl (by decide) ?_
    refine s_aload_n hC dX11_read_45 rfl rfl 0 rfl ?_
    refine s_iload_n hC dX11_read_46 rfl rfl 1 rfl ?_
    refine s_iconst hC (v := 1) dX11_read_47 rfl (by decide) ?_
    refine s_callV hC (ct_X11_settled l g _ _ _ _ hR_29 hk2 hrk2 hn2 hd2 hh2 _ hj2 true) ce_X11_settled cs_X11 (RepM.f_main hR_29) tw_1745 rfl rfl ⟨⟨le_b rfl, le_b rfl⟩, le_b rfl, le_b rfl⟩ (le_b rfl) dX11_read_48 rfl (dvk1 ?_) nokx
    refine s_aload_n hC dX11_read_51 rfl rfl 0 rfl ?_
    refine s_iload_n hC dX11_read_52 rfl rfl 1 rfl ?_
    refine s_iconst hC (v := 0) dX11_read_53 rfl (by decide) ?_
    refine s_callV hC (ct_X11_settled l g _ _ _ _ hR_29 hk2 hrk2 hn2 hd2 hh2 _ hj2 false) ce_X11_settled cs_X11 (RepM.f_main hR_29) tw_1745 rfl rfl ⟨⟨le_b rfl, le_b rfl⟩, le_b rfl, le_b rfl⟩ (le_b rfl) dX11_read_54 rfl (dvk1 ?_) nokx
    refine s_max hC tw_1546 ⟨le_b rfl, le_b rfl, le_b rfl, le_b rfl⟩ dX11_read_57 rfl ?_
    refine s_iast hC (RepM.f_house hR_29 hj2) (vp_in_nI (by decide : 6 < 7) (by decide)) dX11_read_60 rfl ?_
    rw [show Int32.toNatClampNeg 6 = 6 from rfl]
    refine WP.rm (RepM.h_6 hR_29 hj2 (iMax (smF (rdm1 σ j) ((rdm1 σ j).hs j) true) (smF (rdm1 σ j) ((rdm1 σ j).hs j) false))) (fun hR_60 => ?_)
    change RepM g ad _ (rdm2 σ j) _ at hR_60
    have hj3 : j < (rdm2 σ j).nh := by simp only [rdm2, rdm1, St.kinds, St.refs, St.depths, St.waters, St.bR, St.bU, St.wears, St.order, St.waits, St.hR, St.hU, St.oR, St.oU, St.press, St.foam, St.pR, St.pU, St.seg, St.pit, St.away, St.mn, St.fc, St.fl, St.fo, St.n, St.ring, St.nh, St.hs, St.nb, St.bo, St.w_kinds, St.w_refs, St.w_depths, St.w_waters, St.w_bR, St.w_bU, St.w_wears, St.w_order, St.w_waits, St.w_hR, St.w_hU, St.w_oR, St.w_oU, St.w_press, St.w_foam, St.w_pR, St.w_pU, St.w_seg, St.w_pit, St.w_away, St.w_mn, St.w_fc, St.w_fl, St.w_fo, St.w_n, St.w_ring, St.w_nh, St.w_hs, St.w_nb, St.w_bo, St.w_course, St.a_ring, St.a_house, St.a_bore] at hj ⊢; exact hj
    refine s_aload_n hC dX11_read_61 rfl rfl 0 rfl ?_
    refine s_getf hC cs_X11 10 tw_1259 (le_b rfl) (RepM.f_main hR_60) rfl dX11_read_62 rfl ?_
    refine s_iload_n hC dX11_read_65 rfl rfl 1 rfl ?_
    refine s_callF hC (nA := 1) 3 (ct_Jx4a65c_get_915e3 l g _ _ _ _ _ (RepM.f_houses hR_60) _ _ (RepM.p_house hR_60 hj3).2.1 (RepM.p_house hR_60 hj3).2.2.1 _ _ (RepM.p_house hR_60 hj3).2.2.2.1 hj3 (RepM.p_house hR_60 hj3).2.2.2.2) rfl tw_288 tw_5 tw_286 tw_1610 (by decide +kernel) cs_Jx4a65c (RepM.f_houses hR_60) tw_1607 rfl rfl ⟨⟨le_b rfl, le_b rfl⟩, le_b rfl, le_b rfl⟩ (le_b rfl) dX11_read_66 rfl (dvk1 ?_) nokx
    refine s_castI hC tw_1544 (RepM.f_house hR_60 hj3) dX11_read_71 rfl ?_
    refine s_bipush hC (v := 6) dX11_read_74 rfl (by decide) ?_
    refine s_ialdK hC (Or.inl (RepM.f_house hR_60 hj3)) (vp_in_nI (by decide : 6 < 7) (by decide)) dX11_read_76 rfl ?_
    refine s_iret hC hr dX11_read_77 (le_b rfl) (le_b rfl) ?_
    have hcd : cd_read σ (nI j) = 0 := by simp [cd_read, c9]
    have hx : rdm2 σ j = nx_read σ (nI j) := by rw [nx_read, hcl]; exact rdm_eq σ j
    have hv : hsA ((rdm2 σ j).hs j) (Int32.toNatClampNeg 6) = vl_read σ (nI j) := by rw [vl_read, hcl]; exact rdm_re σ j
    have hg2 : grOK (rdm2 σ j) (y.w_th 0) := grOK_cg hgr (by simp only [rdm2, rdm1, St.kinds, St.refs, St.depths, St.waters, St.bR, St.bU, St.wears, St.order, St.waits, St.hR, St.hU, St.oR, St.oU, St.press, St.foam, St.pR, St.pU, St.seg, St.pit, St.away, St.mn, St.fc, St.fl, St.fo, St.n, St.ring, St.nh, St.hs, St.nb, St.bo, St.w_kinds, St.w_refs, St.w_depths, St.w_waters, St.w_bR, St.w_bU, St.w_wears, St.w_order, St.w_waits, St.w_hR, St.w_hU, St.w_oR, St.w_oU, St.w_press, St.w_foam, St.w_pR, St.w_pU, St.w_seg, St.w_pit, St.w_away, St.w_mn, St.w_fc, St.w_fl, St.w_fo, St.w_n, St.w_ring, St.w_nh, St.w_hs, St.w_nb, St.w_bo, St.w_course, St.a_ring, St.a_house, St.a_bore]) (by simp only [rdm2, rdm1, St.kinds, St.refs, St.depths, St.waters, St.bR, St.bU, St.wears, St.order, St.waits, St.hR, St.hU, St.oR, St.oU, St.press, St.foam, St.pR, St.pU, St.seg, St.pit, St.away, St.mn, St.fc, St.fl, St.fo, St.n, St.ring, St.nh, St.hs, St.nb, St.bo, St.w_kinds, St.w_refs, St.w_depths, St.w_waters, St.w_bR, St.w_bU, St.w_wears, St.w_order, St.w_waits, St.w_hR, St.w_hU, St.w_oR, St.w_oU, St.w_press, St.w_foam, St.w_pR, St.w_pU, St.w_seg, St.w_pit, St.w_away, St.w_mn, St.w_fc, St.w_fl, St.w_fo, St.w_n, St.w_ring, St.w_nh, St.w_hs, St.w_nb, St.w_bo, St.w_course, St.a_ring, St.a_house, St.a_bore]) rfl
    exact okM_ok hcd rfl hv hR_60 hx rfl rfl hg2
  · refine WP.rm (RepM.s_main_0 hR_1 _) (fun hR_9 => ?_)
    refine z_if_eq hC (tgt := 14) dX11_read_9 rfl (by decide) (fun c_2 => ((absurd c_2 (by decide) : False)).elim) (fun c_2 => ?_)
    refine s_iconst hC (v := (-1)) dX11_read_12 rfl (by decide) ?_
    refine s_iret hC hr dX11_read_13 (le_b rfl) (le_b rfl) ?_
    exact okM_no 1 (by simp [cd_read, c9, c_2]) (by decide) (by rfl) hR_9 rfl rfl hgr
