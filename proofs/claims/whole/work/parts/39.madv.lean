section WPJ
variable {p : Program} {l : Launch} {e : Env} {R : Room} {s : State} {m : MethodId} {args : Array Value} {below : List Frame} {meth : Method} {c : Code} {nL : Nat} {g : Gl} {ω0 : Wd} {sz0 : Nat} {Q : State → Prop} {ω : Wd} {k n pc : Nat} {L : List (Nat × Value)} {rest : List Value}
theorem wp_join (pcj : Nat) (Lj : List (Nat × Value)) (stj : List Value) (kj : WP p l e R s m args below meth c g ω0 sz0 Q nL ω k n pcj Lj stj) (kp : WP p l e R s m args below meth c g ω0 sz0 Q nL ω k n pcj Lj stj → WP p l e R s m args below meth c g ω0 sz0 Q nL ω k n pc L rest) : WP p l e R s m args below meth c g ω0 sz0 Q nL ω k n pc L rest := kp kj
end WPJ
theorem bl0_1 {s : St} {t : Int32} (h : inR t 0 7 = true) (hn : s.n < 200) : (bl0 s t).1 = s.hR + (stF [0, 7, 10, 7, 0, -7, -10, -7] t.toNatClampNeg + s.pR - s.bR (nI s.n).toNatClampNeg) := by
  rw [nI_clamp (by omega)]
  show s.hR + (atF 8 _ t + s.pR - atF 200 s.bR (nI s.n)) = _
  rw [(inR_07 h).2, atF_in (by decide) hn]
theorem bl0_2 {s : St} {t : Int32} (h : inR t 0 7 = true) (hn : s.n < 200) : (bl0 s t).2.1 = s.hU + (stF [10, 7, 0, -7, -10, -7, 0, 7] t.toNatClampNeg + s.pU - s.bU (nI s.n).toNatClampNeg) := by
  rw [nI_clamp (by omega)]
  show s.hU + (atF 8 _ t + s.pU - atF 200 s.bU (nI s.n)) = _
  rw [(inR_07 h).2, atF_in (by decide) hn]
theorem snd1_0 {s : St} (h : snd1 s) (hn : s.n = 0) : s.oR = 0 ∧ s.oU = 0 := by
  have h2 := h.2
  rw [hn] at h2
  exact ⟨congrArg (fun c : C4 => c.2.2.1) h2, congrArg (fun c : C4 => c.2.2.2) h2⟩
theorem snd1_s {s : St} (h : snd1 s) (hn : ¬ s.n = 0) : s.oR = (s.ring (s.n - 1)).oR ∧ s.oU = (s.ring (s.n - 1)).oU := by
  have h2 := h.2
  have h1 := h.1 (s.n - 1) (pred_lt hn)
  rw [show s.n - 1 + 1 = s.n by omega, ← h2] at h1
  exact ⟨h1.1.symm, h1.2.symm⟩
theorem barF_120 {s : St} {t : Int32} (hn : s.n ≤ 120) (h : barF s t = 45) : s.n < 120 := by
  unfold barF at h
  by_cases hz : (120 : Int32) ≤ nI s.n
  · rw [if_pos hz] at h
    exact absurd h (by decide)
  · exact lt_of_lit (k := 120) rfl (by decide) (by omega) hz
theorem grOK_add {s s' : St} {y y' : Ey} {r : Rg} (hg : grOK s y) (hn : s'.n = s.n + 1) (hr : s'.ring = upT s.ring s.n r) (hy : y'.gr = upT y.gr s.n (-1)) (h0 : r.fi = 0) : grOK s' y' := by
  intro i hi
  rw [hn] at hi
  rw [hr, hy]
  by_cases h : i = s.n
  · rw [h, upT_s, upT_s, if_pos h0]
  · rw [upT_n h, upT_n h]
    exact hg i (by omega)
theorem adv_n (s : St) (t : Int32) : (nx_advance s t).n = s.n + 1 := by simp only [nx_advance, bl6, bl5, bl4, bl3, bl2, bl1, St.kinds, St.refs, St.depths, St.waters, St.bR, St.bU, St.wears, St.order, St.waits, St.hR, St.hU, St.oR, St.oU, St.press, St.foam, St.pR, St.pU, St.seg, St.pit, St.away, St.mn, St.fc, St.fl, St.fo, St.n, St.ring, St.nh, St.hs, St.nb, St.bo, St.w_kinds, St.w_refs, St.w_depths, St.w_waters, St.w_bR, St.w_bU, St.w_wears, St.w_order, St.w_waits, St.w_hR, St.w_hU, St.w_oR, St.w_oU, St.w_press, St.w_foam, St.w_pR, St.w_pU, St.w_seg, St.w_pit, St.w_away, St.w_mn, St.w_fc, St.w_fl, St.w_fo, St.w_n, St.w_ring, St.w_nh, St.w_hs, St.w_nb, St.w_bo, St.w_course, St.a_ring, St.a_house, St.a_bore]
theorem adv_r (s : St) (t : Int32) : (nx_advance s t).ring = upT s.ring s.n (blr s t (nmF s)) := by simp only [nx_advance, bl6, bl5, bl4, bl3, bl2, bl1, St.kinds, St.refs, St.depths, St.waters, St.bR, St.bU, St.wears, St.order, St.waits, St.hR, St.hU, St.oR, St.oU, St.press, St.foam, St.pR, St.pU, St.seg, St.pit, St.away, St.mn, St.fc, St.fl, St.fo, St.n, St.ring, St.nh, St.hs, St.nb, St.bo, St.w_kinds, St.w_refs, St.w_depths, St.w_waters, St.w_bR, St.w_bU, St.w_wears, St.w_order, St.w_waits, St.w_hR, St.w_hU, St.w_oR, St.w_oU, St.w_press, St.w_foam, St.w_pR, St.w_pU, St.w_seg, St.w_pit, St.w_away, St.w_mn, St.w_fc, St.w_fl, St.w_fo, St.w_n, St.w_ring, St.w_nh, St.w_hs, St.w_nb, St.w_bo, St.w_course, St.a_ring, St.a_house, St.a_bore]
set_option maxHeartbeats 1000000 in
set_option maxRecDepth 100000 in
theorem ct_X10_init (l : Launch) (g : Gl) (ω : Wd) (q : Nat) (v0 v1 v2 v3 v4 v5 v7 v8 : Value) (h0 : ω q = some (.inr (15, [v0, v1, v2, v3, v4, v5, .int 0, v7, v8]))) : CT l g yX10_init cX10_init 1 none 1 20 0 0 [.ref q] ω (dv none (wup ω q (.inr (15, [v0, v1, v2, v3, v4, v5, .int (-1), v7, v8])))) (nox) := by
  refine CT.of (own := "BoringheadModel$Ring") rfl rfl (le_b rfl) rfl ?_
  intro p e s m args below meth c sz0 hC hr htab hin
  refine s_aload_n hC dX10_init_0 rfl rfl 0 rfl ?_
  refine s_objInit hC tw_1637 ⟨le_b rfl, le_b rfl⟩ dX10_init_1 rfl ?_
  refine s_aload_n hC dX10_init_4 rfl rfl 0 rfl ?_
  refine s_iconst hC (v := (-1)) dX10_init_5 rfl (by decide) ?_
  refine s_putf hC cs_X10 6 tw_1644 (le_b rfl) rfl rfl rfl h0 (le_b rfl) dX10_init_6 rfl ?_
  refine s_vret hC hr dX10_init_9 (le_b rfl) (le_b rfl) ?_
  exact ⟨rfl, rfl⟩
theorem VM_cg {ad : Iy → Nat} {y : Ey} {s s' : St} {q : Nat} (h : ∀ k, VM y s k → ad k ≠ q) (e1 : s'.n = s.n) (e2 : s'.nh = s.nh) (e3 : s'.nb = s.nb) : ∀ k, VM y s' k → ad k ≠ q := by
  intro k hk
  refine h k ?_
  rcases k with a | i | i | i
  · exact hk
  · exact (show i < s.n from e1 ▸ (show i < s'.n from hk))
  · exact (show i < s.nh from e2 ▸ (show i < s'.nh from hk))
  · exact (show i < s.nb from e3 ▸ (show i < s'.nb from hk))
theorem bl2_wear (s : St) (t m k : Int32) : wearF (bl2 s t m) k = wearF s k := by
  unfold wearF
  rw [show (bl2 s t m).foam = s.foam from by simp only [bl2, bl1, St.kinds, St.refs, St.depths, St.waters, St.bR, St.bU, St.wears, St.order, St.waits, St.hR, St.hU, St.oR, St.oU, St.press, St.foam, St.pR, St.pU, St.seg, St.pit, St.away, St.mn, St.fc, St.fl, St.fo, St.n, St.ring, St.nh, St.hs, St.nb, St.bo, St.w_kinds, St.w_refs, St.w_depths, St.w_waters, St.w_bR, St.w_bU, St.w_wears, St.w_order, St.w_waits, St.w_hR, St.w_hU, St.w_oR, St.w_oU, St.w_press, St.w_foam, St.w_pR, St.w_pU, St.w_seg, St.w_pit, St.w_away, St.w_mn, St.w_fc, St.w_fl, St.w_fo, St.w_n, St.w_ring, St.w_nh, St.w_hs, St.w_nb, St.w_bo, St.w_course, St.a_ring, St.a_house, St.a_bore]]
theorem wA9 (s : St) (r : Rg) : (s.a_ring r).wears = s.wears := by simp only [St.kinds, St.refs, St.depths, St.waters, St.bR, St.bU, St.wears, St.order, St.waits, St.hR, St.hU, St.oR, St.oU, St.press, St.foam, St.pR, St.pU, St.seg, St.pit, St.away, St.mn, St.fc, St.fl, St.fo, St.n, St.ring, St.nh, St.hs, St.nb, St.bo, St.w_kinds, St.w_refs, St.w_depths, St.w_waters, St.w_bR, St.w_bU, St.w_wears, St.w_order, St.w_waits, St.w_hR, St.w_hU, St.w_oR, St.w_oU, St.w_press, St.w_foam, St.w_pR, St.w_pU, St.w_seg, St.w_pit, St.w_away, St.w_mn, St.w_fc, St.w_fl, St.w_fo, St.w_n, St.w_ring, St.w_nh, St.w_hs, St.w_nb, St.w_bo, St.w_course, St.a_ring, St.a_house, St.a_bore]
theorem wP9 (s : St) (v : Int32) : (s.w_pit v).wears = s.wears := by simp only [St.kinds, St.refs, St.depths, St.waters, St.bR, St.bU, St.wears, St.order, St.waits, St.hR, St.hU, St.oR, St.oU, St.press, St.foam, St.pR, St.pU, St.seg, St.pit, St.away, St.mn, St.fc, St.fl, St.fo, St.n, St.ring, St.nh, St.hs, St.nb, St.bo, St.w_kinds, St.w_refs, St.w_depths, St.w_waters, St.w_bR, St.w_bU, St.w_wears, St.w_order, St.w_waits, St.w_hR, St.w_hU, St.w_oR, St.w_oU, St.w_press, St.w_foam, St.w_pR, St.w_pU, St.w_seg, St.w_pit, St.w_away, St.w_mn, St.w_fc, St.w_fl, St.w_fo, St.w_n, St.w_ring, St.w_nh, St.w_hs, St.w_nb, St.w_bo, St.w_course, St.a_ring, St.a_house, St.a_bore]
theorem wS9 (s : St) (v : Int32) : (s.w_seg v).wears = s.wears := by simp only [St.kinds, St.refs, St.depths, St.waters, St.bR, St.bU, St.wears, St.order, St.waits, St.hR, St.hU, St.oR, St.oU, St.press, St.foam, St.pR, St.pU, St.seg, St.pit, St.away, St.mn, St.fc, St.fl, St.fo, St.n, St.ring, St.nh, St.hs, St.nb, St.bo, St.w_kinds, St.w_refs, St.w_depths, St.w_waters, St.w_bR, St.w_bU, St.w_wears, St.w_order, St.w_waits, St.w_hR, St.w_hU, St.w_oR, St.w_oU, St.w_press, St.w_foam, St.w_pR, St.w_pU, St.w_seg, St.w_pit, St.w_away, St.w_mn, St.w_fc, St.w_fl, St.w_fo, St.w_n, St.w_ring, St.w_nh, St.w_hs, St.w_nb, St.w_bo, St.w_course, St.a_ring, St.a_house, St.a_bore]
theorem wW9 (s : St) (v : Nat → Int32) : (s.w_wears v).wears = v := by simp only [St.kinds, St.refs, St.depths, St.waters, St.bR, St.bU, St.wears, St.order, St.waits, St.hR, St.hU, St.oR, St.oU, St.press, St.foam, St.pR, St.pU, St.seg, St.pit, St.away, St.mn, St.fc, St.fl, St.fo, St.n, St.ring, St.nh, St.hs, St.nb, St.bo, St.w_kinds, St.w_refs, St.w_depths, St.w_waters, St.w_bR, St.w_bU, St.w_wears, St.w_order, St.w_waits, St.w_hR, St.w_hU, St.w_oR, St.w_oU, St.w_press, St.w_foam, St.w_pR, St.w_pU, St.w_seg, St.w_pit, St.w_away, St.w_mn, St.w_fc, St.w_fl, St.w_fo, St.w_n, St.w_ring, St.w_nh, St.w_hs, St.w_nb, St.w_bo, St.w_course, St.a_ring, St.a_house, St.a_bore]
theorem adv_wears (s : St) (t : Int32) : (nx_advance s t).wears = wrF s.wears (wearF s (blk s)) 8 := by
  rw [nx_advance, bl6, wA9, bl5, wP9, bl4, wS9, bl3, wW9, bl2_wear]
  rw [show (bl2 s t (nmF s)).wears = s.wears from by simp only [bl2, bl1, St.kinds, St.refs, St.depths, St.waters, St.bR, St.bU, St.wears, St.order, St.waits, St.hR, St.hU, St.oR, St.oU, St.press, St.foam, St.pR, St.pU, St.seg, St.pit, St.away, St.mn, St.fc, St.fl, St.fo, St.n, St.ring, St.nh, St.hs, St.nb, St.bo, St.w_kinds, St.w_refs, St.w_depths, St.w_waters, St.w_bR, St.w_bU, St.w_wears, St.w_order, St.w_waits, St.w_hR, St.w_hU, St.w_oR, St.w_oU, St.w_press, St.w_foam, St.w_pR, St.w_pU, St.w_seg, St.w_pit, St.w_away, St.w_mn, St.w_fc, St.w_fl, St.w_fo, St.w_n, St.w_ring, St.w_nh, St.w_hs, St.w_nb, St.w_bo, St.w_course, St.a_ring, St.a_house, St.a_bore]]
theorem adv_rd (s : St) (t : Int32) {s1 s2 s3 s4 s5 s6 : St} (h1 : s1 = s.w_wears (wrF s.wears (wearF s (blk s)) 8)) (h2 : s2 = s1.w_hR (bl0 s t).1) (h3 : s3 = s2.w_hU (bl0 s t).2.1) (h4 : s4 = s3.w_pit (s.pit + muckF (blk s) (bI s.foam))) (h5 : s5 = s4.w_seg (s.seg - 1)) (h6 : s6 = s5.w_mn (bl2 s t (nmF s)).mn) : RdM (s6.a_ring (blr s t (nmF s))) (nx_advance s t) := by
  have hw := adv_wears s t
  subst h1 h2 h3 h4 h5 h6
  refine ⟨by simp only [nx_advance, bl6, bl5, bl4, bl3, bl2, bl1, St.kinds, St.refs, St.depths, St.waters, St.bR, St.bU, St.wears, St.order, St.waits, St.hR, St.hU, St.oR, St.oU, St.press, St.foam, St.pR, St.pU, St.seg, St.pit, St.away, St.mn, St.fc, St.fl, St.fo, St.n, St.ring, St.nh, St.hs, St.nb, St.bo, St.w_kinds, St.w_refs, St.w_depths, St.w_waters, St.w_bR, St.w_bU, St.w_wears, St.w_order, St.w_waits, St.w_hR, St.w_hU, St.w_oR, St.w_oU, St.w_press, St.w_foam, St.w_pR, St.w_pU, St.w_seg, St.w_pit, St.w_away, St.w_mn, St.w_fc, St.w_fl, St.w_fo, St.w_n, St.w_ring, St.w_nh, St.w_hs, St.w_nb, St.w_bo, St.w_course, St.a_ring, St.a_house, St.a_bore], by simp only [nx_advance, bl6, bl5, bl4, bl3, bl2, bl1, St.kinds, St.refs, St.depths, St.waters, St.bR, St.bU, St.wears, St.order, St.waits, St.hR, St.hU, St.oR, St.oU, St.press, St.foam, St.pR, St.pU, St.seg, St.pit, St.away, St.mn, St.fc, St.fl, St.fo, St.n, St.ring, St.nh, St.hs, St.nb, St.bo, St.w_kinds, St.w_refs, St.w_depths, St.w_waters, St.w_bR, St.w_bU, St.w_wears, St.w_order, St.w_waits, St.w_hR, St.w_hU, St.w_oR, St.w_oU, St.w_press, St.w_foam, St.w_pR, St.w_pU, St.w_seg, St.w_pit, St.w_away, St.w_mn, St.w_fc, St.w_fl, St.w_fo, St.w_n, St.w_ring, St.w_nh, St.w_hs, St.w_nb, St.w_bo, St.w_course, St.a_ring, St.a_house, St.a_bore], by simp only [nx_advance, bl6, bl5, bl4, bl3, bl2, bl1, St.kinds, St.refs, St.depths, St.waters, St.bR, St.bU, St.wears, St.order, St.waits, St.hR, St.hU, St.oR, St.oU, St.press, St.foam, St.pR, St.pU, St.seg, St.pit, St.away, St.mn, St.fc, St.fl, St.fo, St.n, St.ring, St.nh, St.hs, St.nb, St.bo, St.w_kinds, St.w_refs, St.w_depths, St.w_waters, St.w_bR, St.w_bU, St.w_wears, St.w_order, St.w_waits, St.w_hR, St.w_hU, St.w_oR, St.w_oU, St.w_press, St.w_foam, St.w_pR, St.w_pU, St.w_seg, St.w_pit, St.w_away, St.w_mn, St.w_fc, St.w_fl, St.w_fo, St.w_n, St.w_ring, St.w_nh, St.w_hs, St.w_nb, St.w_bo, St.w_course, St.a_ring, St.a_house, St.a_bore], by simp only [nx_advance, bl6, bl5, bl4, bl3, bl2, bl1, St.kinds, St.refs, St.depths, St.waters, St.bR, St.bU, St.wears, St.order, St.waits, St.hR, St.hU, St.oR, St.oU, St.press, St.foam, St.pR, St.pU, St.seg, St.pit, St.away, St.mn, St.fc, St.fl, St.fo, St.n, St.ring, St.nh, St.hs, St.nb, St.bo, St.w_kinds, St.w_refs, St.w_depths, St.w_waters, St.w_bR, St.w_bU, St.w_wears, St.w_order, St.w_waits, St.w_hR, St.w_hU, St.w_oR, St.w_oU, St.w_press, St.w_foam, St.w_pR, St.w_pU, St.w_seg, St.w_pit, St.w_away, St.w_mn, St.w_fc, St.w_fl, St.w_fo, St.w_n, St.w_ring, St.w_nh, St.w_hs, St.w_nb, St.w_bo, St.w_course, St.a_ring, St.a_house, St.a_bore], by simp only [nx_advance, bl6, bl5, bl4, bl3, bl2, bl1, St.kinds, St.refs, St.depths, St.waters, St.bR, St.bU, St.wears, St.order, St.waits, St.hR, St.hU, St.oR, St.oU, St.press, St.foam, St.pR, St.pU, St.seg, St.pit, St.away, St.mn, St.fc, St.fl, St.fo, St.n, St.ring, St.nh, St.hs, St.nb, St.bo, St.w_kinds, St.w_refs, St.w_depths, St.w_waters, St.w_bR, St.w_bU, St.w_wears, St.w_order, St.w_waits, St.w_hR, St.w_hU, St.w_oR, St.w_oU, St.w_press, St.w_foam, St.w_pR, St.w_pU, St.w_seg, St.w_pit, St.w_away, St.w_mn, St.w_fc, St.w_fl, St.w_fo, St.w_n, St.w_ring, St.w_nh, St.w_hs, St.w_nb, St.w_bo, St.w_course, St.a_ring, St.a_house, St.a_bore], by simp only [nx_advance, bl6, bl5, bl4, bl3, bl2, bl1, St.kinds, St.refs, St.depths, St.waters, St.bR, St.bU, St.wears, St.order, St.waits, St.hR, St.hU, St.oR, St.oU, St.press, St.foam, St.pR, St.pU, St.seg, St.pit, St.away, St.mn, St.fc, St.fl, St.fo, St.n, St.ring, St.nh, St.hs, St.nb, St.bo, St.w_kinds, St.w_refs, St.w_depths, St.w_waters, St.w_bR, St.w_bU, St.w_wears, St.w_order, St.w_waits, St.w_hR, St.w_hU, St.w_oR, St.w_oU, St.w_press, St.w_foam, St.w_pR, St.w_pU, St.w_seg, St.w_pit, St.w_away, St.w_mn, St.w_fc, St.w_fl, St.w_fo, St.w_n, St.w_ring, St.w_nh, St.w_hs, St.w_nb, St.w_bo, St.w_course, St.a_ring, St.a_house, St.a_bore], by rw [hw]; simp only [St.kinds, St.refs, St.depths, St.waters, St.bR, St.bU, St.wears, St.order, St.waits, St.hR, St.hU, St.oR, St.oU, St.press, St.foam, St.pR, St.pU, St.seg, St.pit, St.away, St.mn, St.fc, St.fl, St.fo, St.n, St.ring, St.nh, St.hs, St.nb, St.bo, St.w_kinds, St.w_refs, St.w_depths, St.w_waters, St.w_bR, St.w_bU, St.w_wears, St.w_order, St.w_waits, St.w_hR, St.w_hU, St.w_oR, St.w_oU, St.w_press, St.w_foam, St.w_pR, St.w_pU, St.w_seg, St.w_pit, St.w_away, St.w_mn, St.w_fc, St.w_fl, St.w_fo, St.w_n, St.w_ring, St.w_nh, St.w_hs, St.w_nb, St.w_bo, St.w_course, St.a_ring, St.a_house, St.a_bore], by simp only [nx_advance, bl6, bl5, bl4, bl3, bl2, bl1, St.kinds, St.refs, St.depths, St.waters, St.bR, St.bU, St.wears, St.order, St.waits, St.hR, St.hU, St.oR, St.oU, St.press, St.foam, St.pR, St.pU, St.seg, St.pit, St.away, St.mn, St.fc, St.fl, St.fo, St.n, St.ring, St.nh, St.hs, St.nb, St.bo, St.w_kinds, St.w_refs, St.w_depths, St.w_waters, St.w_bR, St.w_bU, St.w_wears, St.w_order, St.w_waits, St.w_hR, St.w_hU, St.w_oR, St.w_oU, St.w_press, St.w_foam, St.w_pR, St.w_pU, St.w_seg, St.w_pit, St.w_away, St.w_mn, St.w_fc, St.w_fl, St.w_fo, St.w_n, St.w_ring, St.w_nh, St.w_hs, St.w_nb, St.w_bo, St.w_course, St.a_ring, St.a_house, St.a_bore], by simp only [nx_advance, bl6, bl5, bl4, bl3, bl2, bl1, St.kinds, St.refs, St.depths, St.waters, St.bR, St.bU, St.wears, St.order, St.waits, St.hR, St.hU, St.oR, St.oU, St.press, St.foam, St.pR, St.pU, St.seg, St.pit, St.away, St.mn, St.fc, St.fl, St.fo, St.n, St.ring, St.nh, St.hs, St.nb, St.bo, St.w_kinds, St.w_refs, St.w_depths, St.w_waters, St.w_bR, St.w_bU, St.w_wears, St.w_order, St.w_waits, St.w_hR, St.w_hU, St.w_oR, St.w_oU, St.w_press, St.w_foam, St.w_pR, St.w_pU, St.w_seg, St.w_pit, St.w_away, St.w_mn, St.w_fc, St.w_fl, St.w_fo, St.w_n, St.w_ring, St.w_nh, St.w_hs, St.w_nb, St.w_bo, St.w_course, St.a_ring, St.a_house, St.a_bore], by simp only [nx_advance, bl6, bl5, bl4, bl3, bl2, bl1, St.kinds, St.refs, St.depths, St.waters, St.bR, St.bU, St.wears, St.order, St.waits, St.hR, St.hU, St.oR, St.oU, St.press, St.foam, St.pR, St.pU, St.seg, St.pit, St.away, St.mn, St.fc, St.fl, St.fo, St.n, St.ring, St.nh, St.hs, St.nb, St.bo, St.w_kinds, St.w_refs, St.w_depths, St.w_waters, St.w_bR, St.w_bU, St.w_wears, St.w_order, St.w_waits, St.w_hR, St.w_hU, St.w_oR, St.w_oU, St.w_press, St.w_foam, St.w_pR, St.w_pU, St.w_seg, St.w_pit, St.w_away, St.w_mn, St.w_fc, St.w_fl, St.w_fo, St.w_n, St.w_ring, St.w_nh, St.w_hs, St.w_nb, St.w_bo, St.w_course, St.a_ring, St.a_house, St.a_bore], by simp only [nx_advance, bl6, bl5, bl4, bl3, bl2, bl1, St.kinds, St.refs, St.depths, St.waters, St.bR, St.bU, St.wears, St.order, St.waits, St.hR, St.hU, St.oR, St.oU, St.press, St.foam, St.pR, St.pU, St.seg, St.pit, St.away, St.mn, St.fc, St.fl, St.fo, St.n, St.ring, St.nh, St.hs, St.nb, St.bo, St.w_kinds, St.w_refs, St.w_depths, St.w_waters, St.w_bR, St.w_bU, St.w_wears, St.w_order, St.w_waits, St.w_hR, St.w_hU, St.w_oR, St.w_oU, St.w_press, St.w_foam, St.w_pR, St.w_pU, St.w_seg, St.w_pit, St.w_away, St.w_mn, St.w_fc, St.w_fl, St.w_fo, St.w_n, St.w_ring, St.w_nh, St.w_hs, St.w_nb, St.w_bo, St.w_course, St.a_ring, St.a_house, St.a_bore], by simp only [nx_advance, bl6, bl5, bl4, bl3, bl2, bl1, St.kinds, St.refs, St.depths, St.waters, St.bR, St.bU, St.wears, St.order, St.waits, St.hR, St.hU, St.oR, St.oU, St.press, St.foam, St.pR, St.pU, St.seg, St.pit, St.away, St.mn, St.fc, St.fl, St.fo, St.n, St.ring, St.nh, St.hs, St.nb, St.bo, St.w_kinds, St.w_refs, St.w_depths, St.w_waters, St.w_bR, St.w_bU, St.w_wears, St.w_order, St.w_waits, St.w_hR, St.w_hU, St.w_oR, St.w_oU, St.w_press, St.w_foam, St.w_pR, St.w_pU, St.w_seg, St.w_pit, St.w_away, St.w_mn, St.w_fc, St.w_fl, St.w_fo, St.w_n, St.w_ring, St.w_nh, St.w_hs, St.w_nb, St.w_bo, St.w_course, St.a_ring, St.a_house, St.a_bore], by simp only [nx_advance, bl6, bl5, bl4, bl3, bl2, bl1, St.kinds, St.refs, St.depths, St.waters, St.bR, St.bU, St.wears, St.order, St.waits, St.hR, St.hU, St.oR, St.oU, St.press, St.foam, St.pR, St.pU, St.seg, St.pit, St.away, St.mn, St.fc, St.fl, St.fo, St.n, St.ring, St.nh, St.hs, St.nb, St.bo, St.w_kinds, St.w_refs, St.w_depths, St.w_waters, St.w_bR, St.w_bU, St.w_wears, St.w_order, St.w_waits, St.w_hR, St.w_hU, St.w_oR, St.w_oU, St.w_press, St.w_foam, St.w_pR, St.w_pU, St.w_seg, St.w_pit, St.w_away, St.w_mn, St.w_fc, St.w_fl, St.w_fo, St.w_n, St.w_ring, St.w_nh, St.w_hs, St.w_nb, St.w_bo, St.w_course, St.a_ring, St.a_house, St.a_bore], by simp only [nx_advance, bl6, bl5, bl4, bl3, bl2, bl1, St.kinds, St.refs, St.depths, St.waters, St.bR, St.bU, St.wears, St.order, St.waits, St.hR, St.hU, St.oR, St.oU, St.press, St.foam, St.pR, St.pU, St.seg, St.pit, St.away, St.mn, St.fc, St.fl, St.fo, St.n, St.ring, St.nh, St.hs, St.nb, St.bo, St.w_kinds, St.w_refs, St.w_depths, St.w_waters, St.w_bR, St.w_bU, St.w_wears, St.w_order, St.w_waits, St.w_hR, St.w_hU, St.w_oR, St.w_oU, St.w_press, St.w_foam, St.w_pR, St.w_pU, St.w_seg, St.w_pit, St.w_away, St.w_mn, St.w_fc, St.w_fl, St.w_fo, St.w_n, St.w_ring, St.w_nh, St.w_hs, St.w_nb, St.w_bo, St.w_course, St.a_ring, St.a_house, St.a_bore], by simp only [nx_advance, bl6, bl5, bl4, bl3, bl2, bl1, St.kinds, St.refs, St.depths, St.waters, St.bR, St.bU, St.wears, St.order, St.waits, St.hR, St.hU, St.oR, St.oU, St.press, St.foam, St.pR, St.pU, St.seg, St.pit, St.away, St.mn, St.fc, St.fl, St.fo, St.n, St.ring, St.nh, St.hs, St.nb, St.bo, St.w_kinds, St.w_refs, St.w_depths, St.w_waters, St.w_bR, St.w_bU, St.w_wears, St.w_order, St.w_waits, St.w_hR, St.w_hU, St.w_oR, St.w_oU, St.w_press, St.w_foam, St.w_pR, St.w_pU, St.w_seg, St.w_pit, St.w_away, St.w_mn, St.w_fc, St.w_fl, St.w_fo, St.w_n, St.w_ring, St.w_nh, St.w_hs, St.w_nb, St.w_bo, St.w_course, St.a_ring, St.a_house, St.a_bore], by simp only [nx_advance, bl6, bl5, bl4, bl3, bl2, bl1, St.kinds, St.refs, St.depths, St.waters, St.bR, St.bU, St.wears, St.order, St.waits, St.hR, St.hU, St.oR, St.oU, St.press, St.foam, St.pR, St.pU, St.seg, St.pit, St.away, St.mn, St.fc, St.fl, St.fo, St.n, St.ring, St.nh, St.hs, St.nb, St.bo, St.w_kinds, St.w_refs, St.w_depths, St.w_waters, St.w_bR, St.w_bU, St.w_wears, St.w_order, St.w_waits, St.w_hR, St.w_hU, St.w_oR, St.w_oU, St.w_press, St.w_foam, St.w_pR, St.w_pU, St.w_seg, St.w_pit, St.w_away, St.w_mn, St.w_fc, St.w_fl, St.w_fo, St.w_n, St.w_ring, St.w_nh, St.w_hs, St.w_nb, St.w_bo, St.w_course, St.a_ring, St.a_house, St.a_bore], by simp only [nx_advance, bl6, bl5, bl4, bl3, bl2, bl1, St.kinds, St.refs, St.depths, St.waters, St.bR, St.bU, St.wears, St.order, St.waits, St.hR, St.hU, St.oR, St.oU, St.press, St.foam, St.pR, St.pU, St.seg, St.pit, St.away, St.mn, St.fc, St.fl, St.fo, St.n, St.ring, St.nh, St.hs, St.nb, St.bo, St.w_kinds, St.w_refs, St.w_depths, St.w_waters, St.w_bR, St.w_bU, St.w_wears, St.w_order, St.w_waits, St.w_hR, St.w_hU, St.w_oR, St.w_oU, St.w_press, St.w_foam, St.w_pR, St.w_pU, St.w_seg, St.w_pit, St.w_away, St.w_mn, St.w_fc, St.w_fl, St.w_fo, St.w_n, St.w_ring, St.w_nh, St.w_hs, St.w_nb, St.w_bo, St.w_course, St.a_ring, St.a_house, St.a_bore], by simp only [nx_advance, bl6, bl5, bl4, bl3, bl2, bl1, St.kinds, St.refs, St.depths, St.waters, St.bR, St.bU, St.wears, St.order, St.waits, St.hR, St.hU, St.oR, St.oU, St.press, St.foam, St.pR, St.pU, St.seg, St.pit, St.away, St.mn, St.fc, St.fl, St.fo, St.n, St.ring, St.nh, St.hs, St.nb, St.bo, St.w_kinds, St.w_refs, St.w_depths, St.w_waters, St.w_bR, St.w_bU, St.w_wears, St.w_order, St.w_waits, St.w_hR, St.w_hU, St.w_oR, St.w_oU, St.w_press, St.w_foam, St.w_pR, St.w_pU, St.w_seg, St.w_pit, St.w_away, St.w_mn, St.w_fc, St.w_fl, St.w_fo, St.w_n, St.w_ring, St.w_nh, St.w_hs, St.w_nb, St.w_bo, St.w_course, St.a_ring, St.a_house, St.a_bore], by simp only [nx_advance, bl6, bl5, bl4, bl3, bl2, bl1, St.kinds, St.refs, St.depths, St.waters, St.bR, St.bU, St.wears, St.order, St.waits, St.hR, St.hU, St.oR, St.oU, St.press, St.foam, St.pR, St.pU, St.seg, St.pit, St.away, St.mn, St.fc, St.fl, St.fo, St.n, St.ring, St.nh, St.hs, St.nb, St.bo, St.w_kinds, St.w_refs, St.w_depths, St.w_waters, St.w_bR, St.w_bU, St.w_wears, St.w_order, St.w_waits, St.w_hR, St.w_hU, St.w_oR, St.w_oU, St.w_press, St.w_foam, St.w_pR, St.w_pU, St.w_seg, St.w_pit, St.w_away, St.w_mn, St.w_fc, St.w_fl, St.w_fo, St.w_n, St.w_ring, St.w_nh, St.w_hs, St.w_nb, St.w_bo, St.w_course, St.a_ring, St.a_house, St.a_bore], by simp only [nx_advance, bl6, bl5, bl4, bl3, bl2, bl1, St.kinds, St.refs, St.depths, St.waters, St.bR, St.bU, St.wears, St.order, St.waits, St.hR, St.hU, St.oR, St.oU, St.press, St.foam, St.pR, St.pU, St.seg, St.pit, St.away, St.mn, St.fc, St.fl, St.fo, St.n, St.ring, St.nh, St.hs, St.nb, St.bo, St.w_kinds, St.w_refs, St.w_depths, St.w_waters, St.w_bR, St.w_bU, St.w_wears, St.w_order, St.w_waits, St.w_hR, St.w_hU, St.w_oR, St.w_oU, St.w_press, St.w_foam, St.w_pR, St.w_pU, St.w_seg, St.w_pit, St.w_away, St.w_mn, St.w_fc, St.w_fl, St.w_fo, St.w_n, St.w_ring, St.w_nh, St.w_hs, St.w_nb, St.w_bo, St.w_course, St.a_ring, St.a_house, St.a_bore], by simp only [nx_advance, bl6, bl5, bl4, bl3, bl2, bl1, St.kinds, St.refs, St.depths, St.waters, St.bR, St.bU, St.wears, St.order, St.waits, St.hR, St.hU, St.oR, St.oU, St.press, St.foam, St.pR, St.pU, St.seg, St.pit, St.away, St.mn, St.fc, St.fl, St.fo, St.n, St.ring, St.nh, St.hs, St.nb, St.bo, St.w_kinds, St.w_refs, St.w_depths, St.w_waters, St.w_bR, St.w_bU, St.w_wears, St.w_order, St.w_waits, St.w_hR, St.w_hU, St.w_oR, St.w_oU, St.w_press, St.w_foam, St.w_pR, St.w_pU, St.w_seg, St.w_pit, St.w_away, St.w_mn, St.w_fc, St.w_fl, St.w_fo, St.w_n, St.w_ring, St.w_nh, St.w_hs, St.w_nb, St.w_bo, St.w_course, St.a_ring, St.a_house, St.a_bore], by simp only [nx_advance, bl6, bl5, bl4, bl3, bl2, bl1, St.kinds, St.refs, St.depths, St.waters, St.bR, St.bU, St.wears, St.order, St.waits, St.hR, St.hU, St.oR, St.oU, St.press, St.foam, St.pR, St.pU, St.seg, St.pit, St.away, St.mn, St.fc, St.fl, St.fo, St.n, St.ring, St.nh, St.hs, St.nb, St.bo, St.w_kinds, St.w_refs, St.w_depths, St.w_waters, St.w_bR, St.w_bU, St.w_wears, St.w_order, St.w_waits, St.w_hR, St.w_hU, St.w_oR, St.w_oU, St.w_press, St.w_foam, St.w_pR, St.w_pU, St.w_seg, St.w_pit, St.w_away, St.w_mn, St.w_fc, St.w_fl, St.w_fo, St.w_n, St.w_ring, St.w_nh, St.w_hs, St.w_nb, St.w_bo, St.w_course, St.a_ring, St.a_house, St.a_bore], by simp only [nx_advance, bl6, bl5, bl4, bl3, bl2, bl1, St.kinds, St.refs, St.depths, St.waters, St.bR, St.bU, St.wears, St.order, St.waits, St.hR, St.hU, St.oR, St.oU, St.press, St.foam, St.pR, St.pU, St.seg, St.pit, St.away, St.mn, St.fc, St.fl, St.fo, St.n, St.ring, St.nh, St.hs, St.nb, St.bo, St.w_kinds, St.w_refs, St.w_depths, St.w_waters, St.w_bR, St.w_bU, St.w_wears, St.w_order, St.w_waits, St.w_hR, St.w_hU, St.w_oR, St.w_oU, St.w_press, St.w_foam, St.w_pR, St.w_pU, St.w_seg, St.w_pit, St.w_away, St.w_mn, St.w_fc, St.w_fl, St.w_fo, St.w_n, St.w_ring, St.w_nh, St.w_hs, St.w_nb, St.w_bo, St.w_course, St.a_ring, St.a_house, St.a_bore], by simp only [nx_advance, bl6, bl5, bl4, bl3, bl2, bl1, St.kinds, St.refs, St.depths, St.waters, St.bR, St.bU, St.wears, St.order, St.waits, St.hR, St.hU, St.oR, St.oU, St.press, St.foam, St.pR, St.pU, St.seg, St.pit, St.away, St.mn, St.fc, St.fl, St.fo, St.n, St.ring, St.nh, St.hs, St.nb, St.bo, St.w_kinds, St.w_refs, St.w_depths, St.w_waters, St.w_bR, St.w_bU, St.w_wears, St.w_order, St.w_waits, St.w_hR, St.w_hU, St.w_oR, St.w_oU, St.w_press, St.w_foam, St.w_pR, St.w_pU, St.w_seg, St.w_pit, St.w_away, St.w_mn, St.w_fc, St.w_fl, St.w_fo, St.w_n, St.w_ring, St.w_nh, St.w_hs, St.w_nb, St.w_bo, St.w_course, St.a_ring, St.a_house, St.a_bore, implies_true]⟩
theorem blr_mfs (s : St) (t m : Int32) : mfs (blr s t m) (-1) = [.int t, .int (bl0 s t).2.2.1, .int (bl0 s t).2.2.2, .int m, .int (bl2 s t m).mn, .int 0, .int (-1), .int (bI false), .int (bI false)] := by
  simp only [mfs, blr, bl2, bl1, St.kinds, St.refs, St.depths, St.waters, St.bR, St.bU, St.wears, St.order, St.waits, St.hR, St.hU, St.oR, St.oU, St.press, St.foam, St.pR, St.pU, St.seg, St.pit, St.away, St.mn, St.fc, St.fl, St.fo, St.n, St.ring, St.nh, St.hs, St.nb, St.bo, St.w_kinds, St.w_refs, St.w_depths, St.w_waters, St.w_bR, St.w_bU, St.w_wears, St.w_order, St.w_waits, St.w_hR, St.w_hU, St.w_oR, St.w_oU, St.w_press, St.w_foam, St.w_pR, St.w_pU, St.w_seg, St.w_pit, St.w_away, St.w_mn, St.w_fc, St.w_fl, St.w_fo, St.w_n, St.w_ring, St.w_nh, St.w_hs, St.w_nb, St.w_bo, St.w_course, St.a_ring, St.a_house, St.a_bore, Rg.turn, Rg.kind, Rg.pR, Rg.pU, Rg.fo, Rg.oR, Rg.oU, Rg.mi, Rg.en, Rg.mo, Rg.no, Rg.it, Rg.fi, Rg.ff, Rg.w_turn, Rg.w_kind, Rg.w_pR, Rg.w_pU, Rg.w_fo, Rg.w_oR, Rg.w_oU, Rg.w_mi, Rg.w_en, Rg.w_mo, Rg.w_no, Rg.w_it, Rg.w_fi, Rg.w_ff]
theorem bl0_o (s : St) (t : Int32) : (bl0 s t).2.2.1 = s.oR + (bl0 s t).1 ∧ (bl0 s t).2.2.2 = s.oU + (bl0 s t).2.1 := by
  simp only [bl0, go9, goG, cr0, and_self]
set_option maxHeartbeats 4000000 in
set_option maxRecDepth 100000 in
theorem ct_X11_advance (l : Launch) (g : Gl) (ω : Wd) (ad : Iy → Nat) (y : Ey) (σ : St) (hR : RepM g ad y σ ω) (t9 : Int32) (hgr : grOK σ y) (hk : kIn σ) (hn : nOK σ) (hh : hIn σ) (hl : hLe σ) (hsg : 0 ≤ σ.seg) (hs1 : snd1 σ) : CT l g yX11_advance cX11_advance 7 (some .int) 7 152 3 176 [.ref (ad .main), .int t9] ω (okM g ad (cd_advance σ t9) Value.int (vl_advance σ t9) (nx_advance σ t9) σ) (nox) := by
  have hn120 : σ.n ≤ 120 := hn
  refine CT.of (own := "BoringheadModel") rfl rfl (le_b rfl) rfl ?_
  intro p e s m args below meth c sz0 hC hr htab hin
  refine s_aload_n hC dX11_advance_0 rfl rfl 0 rfl ?_
  refine s_callV hC (ct_X11_begins l g _ _ _ _ hR) ce_X11_begins cs_X11 (RepM.f_main hR) tw_1324 rfl rfl ⟨⟨le_b rfl, le_b rfl⟩, le_b rfl, le_b rfl⟩ (le_b rfl) dX11_advance_1 rfl (dvk0 ?_) nokx
  refine WP.rm (RepM.s_main_0 hR 0) (fun hR_1 => ?_)
  refine s_aload_n hC dX11_advance_4 rfl rfl 0 rfl ?_
  refine s_iload_n hC dX11_advance_5 rfl rfl 1 rfl ?_
  refine s_i2l hC dX11_advance_6 rfl rfl ?_
  refine s_lconst hC (v := 0) dX11_advance_7 rfl (by decide) ?_
  refine s_ldc2 hC tw_1583 dX11_advance_8 rfl ?_
  refine s_callS hC (ct_X11_in l g _ _ _ _) ce_X11_in tw_1419 rfl rfl ⟨⟨le_b rfl, le_b rfl⟩, le_b rfl, le_b rfl⟩ (le_b rfl) dX11_advance_11 rfl (dvk1 ?_) nokx
  rw [inJ_inR t9 0 7 (by first | rfl | decide) (by first | rfl | decide)]
  refine z_if_neB hC (tgt := 21) dX11_advance_14 rfl (by decide) (fun c_1 => ?_) (fun c_1 => ?_)
  · refine s_iconst hC (v := 0) dX11_advance_21 rfl (by decide) ?_
    refine s_iconst hC (v := 1) dX11_advance_22 rfl (by decide) ?_
    refine s_callV hC (ct_X11_fails_f l g _ _ _ _ hR_1 (by first | rfl | exact hth) _) ce_X11_fails cs_X11 (RepM.f_main hR_1) tw_1422 rfl rfl ⟨⟨le_b rfl, le_b rfl⟩, le_b rfl, le_b rfl⟩ (le_b rfl) dX11_advance_23 rfl (dvk1 ?_) nokx
    refine z_if_ne hC (tgt := 52) dX11_advance_26 rfl (by decide) (fun c_2 => ((absurd c_2 (by decide) : False)).elim) (fun c_2 => ?_)
    refine s_aload_n hC dX11_advance_29 rfl rfl 0 rfl ?_
    refine s_aload_n hC dX11_advance_30 rfl rfl 0 rfl ?_
    refine s_iload_n hC dX11_advance_31 rfl rfl 1 rfl ?_
    refine s_callV hC (ct_X11_barsNow l g _ _ _ _ hR_1 _ c_1 hk hn hh hl hsg) ce_X11_barsNow cs_X11 (RepM.f_main hR_1) tw_1599 rfl rfl ⟨⟨le_b rfl, le_b rfl⟩, le_b rfl, le_b rfl⟩ (le_b rfl) dX11_advance_32 rfl (fun r w h9 => ?_) nokx
    obtain ⟨rfl, hRb⟩ := h9
    refine s_bipush hC (v := 45) dX11_advance_35 rfl (by decide) ?_
    refine z_icmp_eq hC (tgt := 44) dX11_advance_37 rfl (by decide) (fun c_3 => ?_) (fun c_3 => ?_)
    · refine s_iconst hC (v := 0) dX11_advance_44 rfl (by decide) ?_
      refine s_iconst hC (v := 2) dX11_advance_45 rfl (by decide) ?_
      refine s_callV hC (ct_X11_fails_f l g _ _ _ _ hRb (by first | rfl | exact hth) _) ce_X11_fails cs_X11 (RepM.f_main hRb) tw_1422 rfl rfl ⟨⟨le_b rfl, le_b rfl⟩, le_b rfl, le_b rfl⟩ (le_b rfl) dX11_advance_46 rfl (dvk1 ?_) nokx
      refine z_if_eq hC (tgt := 54) dX11_advance_49 rfl (by decide) (fun c_4 => ?_) (fun c_4 => ((absurd c_4 (by decide) : False)).elim)
      have hn1 := barF_120 hn120 c_3
      obtain ⟨q, hq, hk9⟩ := hk σ.n (by omega)
      have hbk : blk σ = nI q := by rw [blk, atF_in (by decide) (by omega), hk9]
      refine s_aload_n hC dX11_advance_54 rfl rfl 0 rfl ?_
      refine s_getf hC cs_X11 8 tw_1257 (le_b rfl) (RepM.f_main hRb) rfl dX11_advance_55 rfl ?_
      refine s_callF hC (nA := 0) 0 (ct_Jx4a65c_size_8abf5 l g _ _ _ _ _ (RepM.f_rings hRb)) rfl tw_276 tw_5 tw_274 tw_1431 (by decide +kernel) cs_Jx4a65c (RepM.f_rings hRb) tw_1427 rfl rfl ⟨⟨le_b rfl, le_b rfl⟩, le_b rfl, le_b rfl⟩ (le_b rfl) dX11_advance_58 rfl (dvk1 ?_) nokx
      refine s_istore_n hC (L' := [(2, _), (0, _), (1, _)]) dX11_advance_63 rfl rfl (le_b rfl) rfl ?_
      refine s_aload_n hC dX11_advance_64 rfl rfl 1 rfl ?_
      refine s_getf hC cs_X11 1 tw_1250 (le_b rfl) (RepM.f_main hRb) rfl dX11_advance_65 rfl ?_
      refine s_iload_n hC dX11_advance_68 rfl rfl 0 rfl ?_
      refine s_ialdK hC (Or.inl (RepM.f_kinds hRb)) (vp_in_nI (by omega : σ.n < 200) (by decide)) dX11_advance_69 rfl ?_
      rw [nI_clamp (show σ.n < 2 ^ 31 by omega), hk9]
      refine s_istore_n hC (L' := [(3, _), (2, _), (0, _), (1, _)]) dX11_advance_70 rfl rfl (le_b rfl) rfl ?_
      refine s_gets hC 15 rfl tw_1624 dX11_advance_71 rfl ?_
      refine s_iload_n hC dX11_advance_74 rfl rfl 0 rfl ?_
      refine s_ialdK hC (Or.inr ⟨15, _, _, _, _, rfl, rfl, rfl, rfl⟩) (vp_in_nI hq (by decide)) dX11_advance_75 rfl ?_
      refine s_bipush hC (v := 10) dX11_advance_76 rfl (by decide) ?_
      refine s_iload_n hC dX11_advance_78 rfl rfl 1 rfl ?_
      refine s_bipush hC (v := 10) dX11_advance_79 rfl (by decide) ?_
      refine s_idiv hC dX11_advance_81 rfl (by decide) ?_
      refine s_min hC tw_1626 ⟨le_b rfl, le_b rfl, le_b rfl, le_b rfl⟩ dX11_advance_82 rfl ?_
      refine s_isub hC dX11_advance_85 rfl ?_
      refine WP.top (.int (nmF σ)) (congrArg Value.int (by rw [nmF, show atF 200 σ.kinds (nI σ.n) = nI q from hbk, atF_in (by decide) hq, nI_clamp (show q < 2 ^ 31 by omega), iMin_c])) ?_
      refine s_istore hC (L' := [(4, _), (3, _), (2, _), (0, _), (1, _)]) dX11_advance_86 rfl (le_b rfl) rfl ?_
      refine s_aload_n hC dX11_advance_88 rfl rfl 3 rfl ?_
      refine s_aload_n hC dX11_advance_89 rfl rfl 3 rfl ?_
      refine s_getf hC cs_X11 19 tw_1268 (le_b rfl) (RepM.f_main hRb) rfl dX11_advance_90 rfl ?_
      refine s_iload hC dX11_advance_93 rfl 0 rfl ?_
      refine s_iadd hC dX11_advance_95 rfl ?_
      refine s_ldcI hC tw_1588 dX11_advance_96 rfl ?_
      refine z_icmp_le hC (tgt := 105) dX11_advance_98 rfl (by decide) (fun c_5 => ?_) (fun c_5 => ?_)
      · refine s_iconst hC (v := 0) dX11_advance_105 rfl (by decide) ?_
        refine s_iconst hC (v := 3) dX11_advance_106 rfl (by decide) ?_
        refine s_callV hC (ct_X11_fails_f l g _ _ _ _ hRb (by first | rfl | exact hth) _) ce_X11_fails cs_X11 (RepM.f_main hRb) tw_1422 rfl rfl ⟨⟨le_b rfl, le_b rfl⟩, le_b rfl, le_b rfl⟩ (le_b rfl) dX11_advance_107 rfl (dvk1 ?_) nokx
        refine z_if_eq hC (tgt := 115) dX11_advance_110 rfl (by decide) (fun c_6 => ?_) (fun c_6 => ((absurd c_6 (by decide) : False)).elim)
        refine wp_join 147 [(4, .int (nmF σ)), (3, .int (nI q)), (2, .int (nI σ.n)), (0, .ref (ad .main)), (1, .int t9)] [.int (wearF σ (blk σ))] ?_ (fun hjn => ?_)
        · refine s_istore hC (L' := [(5, _), (4, _), (3, _), (2, _), (0, _), (1, _)]) dX11_advance_147 rfl (le_b rfl) rfl ?_
          refine s_iconst hC (v := 0) dX11_advance_149 rfl (by decide) ?_
          refine s_istore hC (L' := [(6, _), (5, _), (4, _), (3, _), (2, _), (0, _), (1, _)]) dX11_advance_150 rfl (le_b rfl) rfl ?_
          refine WP.sub (L' := [(0, _), (1, _), (2, _), (3, _), (4, _), (5, _), (6, _)]) [5, 6, 4, 3, 2, 1, 0] rfl ?_
          refine wp_loop (σ := Int32 × Wd × Nat) (I := fun (i, W, j) => i = nI j ∧ j ≤ 8 ∧ W = wup w (ad .wears) (.inl (g.2.1 0, 8, .inl (wrF σ.wears (wearF σ (blk σ)) j)))) (ωf := fun (i, W, j) => W) (Lf := fun (i, W, j) => [(0, .ref (ad .main)), (1, .int t9), (2, .int (nI σ.n)), (3, .int (nI q)), (4, .int (nmF σ)), (5, .int (wearF σ (blk σ))), (6, .int i)]) (μ := fun (i, W, j) => 8 - j) (x0 := (_, _, 0)) ?_ ?_
          · exact ⟨rfl, Nat.zero_le _, (wup_self (RepM.f_wears hRb)).symm⟩
          · rintro ⟨i, W, j⟩ hI ih
            dsimp only at hI ih ⊢
            obtain ⟨rfl, hj, rfl⟩ := hI
            have hin9 : ¬ nI 8 ≤ nI j → j < 8 := nI_ltc (by decide) hj
            have hW := RepM.w_wears hRb (wrF σ.wears (wearF σ (blk σ)) j)
            refine s_iload hC dX11_advance_152 rfl 6 rfl ?_
            refine s_bipush hC (v := 8) dX11_advance_154 rfl (by decide) ?_
            refine z_icmp_ge hC (tgt := 190) dX11_advance_156 rfl (by decide) (fun c_7 => ?_) (fun c_7 => ?_)
            · obtain rfl := nI_lec (by decide : 8 < 2 ^ 31) hj c_7
              obtain ⟨σ1, hσ1⟩ : ∃ s, s = σ.w_wears (wrF σ.wears (wearF σ (blk σ)) 8) := ⟨_, rfl⟩
              rw [← hσ1] at hW
              refine s_aload_n hC dX11_advance_190 rfl rfl 0 rfl ?_
              refine s_dup hC dX11_advance_191 rfl rfl ?_
              refine s_getf hC cs_X11 15 tw_1264 (le_b rfl) (RepM.f_main hW) rfl dX11_advance_192 rfl ?_
              refine s_gets hC 17 rfl tw_1629 dX11_advance_195 rfl ?_
              refine s_iload_n hC dX11_advance_198 rfl rfl 1 rfl ?_
              refine s_ialdK hC (Or.inr ⟨17, _, _, _, _, rfl, rfl, rfl, rfl⟩) (inR_07 c_1).1 dX11_advance_199 rfl ?_
              refine s_aload_n hC dX11_advance_200 rfl rfl 0 rfl ?_
              refine s_getf hC cs_X11 13 tw_1262 (le_b rfl) (RepM.f_main hW) rfl dX11_advance_201 rfl ?_
              refine s_iadd hC dX11_advance_204 rfl ?_
              refine s_aload_n hC dX11_advance_205 rfl rfl 0 rfl ?_
              refine s_getf hC cs_X11 5 tw_1254 (le_b rfl) (RepM.f_main hW) rfl dX11_advance_206 rfl ?_
              refine s_iload_n hC dX11_advance_209 rfl rfl 2 rfl ?_
              refine s_ialdK hC (Or.inl (RepM.f_bR hW)) (vp_in_nI (by omega : σ.n < 200) (by decide)) dX11_advance_210 rfl ?_
              refine s_isub hC dX11_advance_211 rfl ?_
              refine s_iadd hC dX11_advance_212 rfl ?_
              refine WP.top (.int (bl0 σ t9).1) (congrArg Value.int (by rw [bl0_1 c_1 (by omega), hσ1]; simp only [St.kinds, St.refs, St.depths, St.waters, St.bR, St.bU, St.wears, St.order, St.waits, St.hR, St.hU, St.oR, St.oU, St.press, St.foam, St.pR, St.pU, St.seg, St.pit, St.away, St.mn, St.fc, St.fl, St.fo, St.n, St.ring, St.nh, St.hs, St.nb, St.bo, St.w_kinds, St.w_refs, St.w_depths, St.w_waters, St.w_bR, St.w_bU, St.w_wears, St.w_order, St.w_waits, St.w_hR, St.w_hU, St.w_oR, St.w_oU, St.w_press, St.w_foam, St.w_pR, St.w_pU, St.w_seg, St.w_pit, St.w_away, St.w_mn, St.w_fc, St.w_fl, St.w_fo, St.w_n, St.w_ring, St.w_nh, St.w_hs, St.w_nb, St.w_bo, St.w_course, St.a_ring, St.a_house, St.a_bore])) ?_
              refine s_putf hC cs_X11 15 tw_1264 (le_b rfl) rfl rfl rfl (RepM.f_main hW) (le_b rfl) dX11_advance_213 rfl ?_
              refine WP.rm (RepM.s_main_15 hW _) (fun hR_213 => ?_)
              obtain ⟨σ2, hσ2⟩ : ∃ s, s = σ1.w_hR (bl0 σ t9).1 := ⟨_, rfl⟩
              rw [← hσ2] at hR_213
              refine s_aload_n hC dX11_advance_216 rfl rfl 0 rfl ?_
              refine s_dup hC dX11_advance_217 rfl rfl ?_
              refine s_getf hC cs_X11 16 tw_1265 (le_b rfl) (RepM.f_main hR_213) rfl dX11_advance_218 rfl ?_
              refine s_gets hC 18 rfl tw_1631 dX11_advance_221 rfl ?_
              refine s_iload_n hC dX11_advance_224 rfl rfl 1 rfl ?_
              refine s_ialdK hC (Or.inr ⟨18, _, _, _, _, rfl, rfl, rfl, rfl⟩) (inR_07 c_1).1 dX11_advance_225 rfl ?_
              refine s_aload_n hC dX11_advance_226 rfl rfl 0 rfl ?_
              refine s_getf hC cs_X11 14 tw_1263 (le_b rfl) (RepM.f_main hR_213) rfl dX11_advance_227 rfl ?_
              refine s_iadd hC dX11_advance_230 rfl ?_
              refine s_aload_n hC dX11_advance_231 rfl rfl 0 rfl ?_
              refine s_getf hC cs_X11 6 tw_1255 (le_b rfl) (RepM.f_main hR_213) rfl dX11_advance_232 rfl ?_
              refine s_iload_n hC dX11_advance_235 rfl rfl 2 rfl ?_
              refine s_ialdK hC (Or.inl (RepM.f_bU hR_213)) (vp_in_nI (by omega : σ.n < 200) (by decide)) dX11_advance_236 rfl ?_
              refine s_isub hC dX11_advance_237 rfl ?_
              refine s_iadd hC dX11_advance_238 rfl ?_
              refine WP.top (.int (bl0 σ t9).2.1) (congrArg Value.int (by rw [bl0_2 c_1 (by omega), hσ2, hσ1]; simp only [St.kinds, St.refs, St.depths, St.waters, St.bR, St.bU, St.wears, St.order, St.waits, St.hR, St.hU, St.oR, St.oU, St.press, St.foam, St.pR, St.pU, St.seg, St.pit, St.away, St.mn, St.fc, St.fl, St.fo, St.n, St.ring, St.nh, St.hs, St.nb, St.bo, St.w_kinds, St.w_refs, St.w_depths, St.w_waters, St.w_bR, St.w_bU, St.w_wears, St.w_order, St.w_waits, St.w_hR, St.w_hU, St.w_oR, St.w_oU, St.w_press, St.w_foam, St.w_pR, St.w_pU, St.w_seg, St.w_pit, St.w_away, St.w_mn, St.w_fc, St.w_fl, St.w_fo, St.w_n, St.w_ring, St.w_nh, St.w_hs, St.w_nb, St.w_bo, St.w_course, St.a_ring, St.a_house, St.a_bore])) ?_
              refine s_putf hC cs_X11 16 tw_1265 (le_b rfl) rfl rfl rfl (RepM.f_main hR_213) (le_b rfl) dX11_advance_239 rfl ?_
              refine WP.rm (RepM.s_main_16 hR_213 _) (fun hR_239 => ?_)
              obtain ⟨σ3, hσ3⟩ : ∃ s, s = σ2.w_hU (bl0 σ t9).2.1 := ⟨_, rfl⟩
              rw [← hσ3] at hR_239
              have hk3 : kIn σ3 := kIn_cg hk (by rw [hσ3, hσ2, hσ1]; simp only [St.kinds, St.refs, St.depths, St.waters, St.bR, St.bU, St.wears, St.order, St.waits, St.hR, St.hU, St.oR, St.oU, St.press, St.foam, St.pR, St.pU, St.seg, St.pit, St.away, St.mn, St.fc, St.fl, St.fo, St.n, St.ring, St.nh, St.hs, St.nb, St.bo, St.w_kinds, St.w_refs, St.w_depths, St.w_waters, St.w_bR, St.w_bU, St.w_wears, St.w_order, St.w_waits, St.w_hR, St.w_hU, St.w_oR, St.w_oU, St.w_press, St.w_foam, St.w_pR, St.w_pU, St.w_seg, St.w_pit, St.w_away, St.w_mn, St.w_fc, St.w_fl, St.w_fo, St.w_n, St.w_ring, St.w_nh, St.w_hs, St.w_nb, St.w_bo, St.w_course, St.a_ring, St.a_house, St.a_bore])
              refine s_new hC cs_X10 (fs := [.int 0, .int 0, .int 0, .int 0, .int 0, .int 0, .int 0, .int 0, .int 0]) tw_1613 tw_1633 tw_33 (fun j hj => by rcases (show j = 0 ∨ j = 1 ∨ j = 2 ∨ j = 3 ∨ j = 4 ∨ j = 5 ∨ j = 6 ∨ j = 7 ∨ j = 8 by omega) with rfl | rfl | rfl | rfl | rfl | rfl | rfl | rfl | rfl <;> rfl) (le_b rfl) (le_b rfl) dX11_advance_242 rfl (fun q_242 hq_242 => ?_)
              have hn_q_242 := RepM.ne hR_239 hq_242
              refine WP.rm (RepM.new hR_239 hq_242 _) (fun hR_q_242 => ?_)
              refine s_dup hC dX11_advance_245 rfl rfl ?_
              refine s_callIN hC (ct_X10_init l g _ _ _ _ _ _ _ _ _ _ (wup_s _ _ _)) ce_X10_init tw_1634 rfl rfl ⟨⟨le_b rfl, le_b rfl⟩, le_b rfl, le_b rfl⟩ (le_b rfl) dX11_advance_246 rfl (dvk0 ?_) nokx
              refine WP.rm (RepM.by hR_q_242 hn_q_242 _) (fun hR_246 => ?_)
              refine s_astore hC (L' := [(6, _), (0, _), (1, _), (2, _), (3, _), (4, _), (5, _)]) dX11_advance_249 rfl (le_b rfl) rfl ?_
              refine s_aload hC dX11_advance_251 rfl 0 rfl ?_
              refine s_iload_n hC dX11_advance_253 rfl rfl 2 rfl ?_
              refine s_putfN hC cs_X10 0 tw_1638 (le_b rfl) rfl rfl rfl (wup_s _ _ _) (le_b rfl) dX11_advance_254 rfl ?_
              refine WP.rm (RepM.by hR_246 hn_q_242 _) (fun hR_254 => ?_)
              by_cases hz : σ.n = 0
              · obtain ⟨hoR, hoU⟩ := snd1_0 hs1 hz
                refine s_aload hC dX11_advance_257 rfl 0 rfl ?_
                refine s_iload_n hC dX11_advance_259 rfl rfl 3 rfl ?_
                refine z_if_ne hC (tgt := 267) dX11_advance_260 rfl (by decide) (fun c_8 => (c_8 (by rw [hz]; rfl)).elim) (fun c_8 => ?_)
                refine s_iconst hC (v := 0) dX11_advance_263 rfl (by decide) ?_
                refine s_goto hC (tgt := 285) dX11_advance_264 (by decide) ?_
                refine s_aload_n hC dX11_advance_285 rfl rfl 1 rfl ?_
                refine s_getf hC cs_X11 15 tw_1264 (le_b rfl) (RepM.f_main hR_254) rfl dX11_advance_286 rfl ?_
                refine s_iadd hC dX11_advance_289 rfl ?_
                refine WP.top (.int (bl0 σ t9).2.2.1) (congrArg Value.int (by rw [(bl0_o σ t9).1, hoR, hσ3, hσ2, hσ1]; simp only [St.kinds, St.refs, St.depths, St.waters, St.bR, St.bU, St.wears, St.order, St.waits, St.hR, St.hU, St.oR, St.oU, St.press, St.foam, St.pR, St.pU, St.seg, St.pit, St.away, St.mn, St.fc, St.fl, St.fo, St.n, St.ring, St.nh, St.hs, St.nb, St.bo, St.w_kinds, St.w_refs, St.w_depths, St.w_waters, St.w_bR, St.w_bU, St.w_wears, St.w_order, St.w_waits, St.w_hR, St.w_hU, St.w_oR, St.w_oU, St.w_press, St.w_foam, St.w_pR, St.w_pU, St.w_seg, St.w_pit, St.w_away, St.w_mn, St.w_fc, St.w_fl, St.w_fo, St.w_n, St.w_ring, St.w_nh, St.w_hs, St.w_nb, St.w_bo, St.w_course, St.a_ring, St.a_house, St.a_bore])) ?_
                refine s_putfN hC cs_X10 1 tw_1639 (le_b rfl) rfl rfl rfl (wup_s _ _ _) (le_b rfl) dX11_advance_290 rfl ?_
                refine WP.rm (RepM.by hR_254 hn_q_242 _) (fun hR_290 => ?_)
                refine s_aload hC dX11_advance_293 rfl 0 rfl ?_
                refine s_iload_n hC dX11_advance_295 rfl rfl 3 rfl ?_
                refine z_if_ne hC (tgt := 303) dX11_advance_296 rfl (by decide) (fun c_9 => (c_9 (by rw [hz]; rfl)).elim) (fun c_9 => ?_)
                refine s_iconst hC (v := 0) dX11_advance_299 rfl (by decide) ?_
                refine s_goto hC (tgt := 321) dX11_advance_300 (by decide) ?_
                refine s_aload_n hC dX11_advance_321 rfl rfl 1 rfl ?_
                refine s_getf hC cs_X11 16 tw_1265 (le_b rfl) (RepM.f_main hR_290) rfl dX11_advance_322 rfl ?_
                refine s_iadd hC dX11_advance_325 rfl ?_
                refine WP.top (.int (bl0 σ t9).2.2.2) (congrArg Value.int (by rw [(bl0_o σ t9).2, hoU, hσ3, hσ2, hσ1]; simp only [St.kinds, St.refs, St.depths, St.waters, St.bR, St.bU, St.wears, St.order, St.waits, St.hR, St.hU, St.oR, St.oU, St.press, St.foam, St.pR, St.pU, St.seg, St.pit, St.away, St.mn, St.fc, St.fl, St.fo, St.n, St.ring, St.nh, St.hs, St.nb, St.bo, St.w_kinds, St.w_refs, St.w_depths, St.w_waters, St.w_bR, St.w_bU, St.w_wears, St.w_order, St.w_waits, St.w_hR, St.w_hU, St.w_oR, St.w_oU, St.w_press, St.w_foam, St.w_pR, St.w_pU, St.w_seg, St.w_pit, St.w_away, St.w_mn, St.w_fc, St.w_fl, St.w_fo, St.w_n, St.w_ring, St.w_nh, St.w_hs, St.w_nb, St.w_bo, St.w_course, St.a_ring, St.a_house, St.a_bore])) ?_
                refine s_putfN hC cs_X10 2 tw_1640 (le_b rfl) rfl rfl rfl (wup_s _ _ _) (le_b rfl) dX11_advance_326 rfl ?_
                refine WP.rm (RepM.by hR_290 hn_q_242 _) (fun hR_326 => ?_)
                refine s_aload hC dX11_advance_329 rfl 0 rfl ?_
                refine s_iload hC dX11_advance_331 rfl 5 rfl ?_
                refine s_putfN hC cs_X10 3 tw_1641 (le_b rfl) rfl rfl rfl (wup_s _ _ _) (le_b rfl) dX11_advance_333 rfl ?_
                refine WP.rm (RepM.by hR_326 hn_q_242 _) (fun hR_333 => ?_)
                refine s_aload_n hC dX11_advance_336 rfl rfl 1 rfl ?_
                refine s_dup hC dX11_advance_337 rfl rfl ?_
                refine s_getf hC cs_X11 18 tw_1267 (le_b rfl) (RepM.f_main hR_333) rfl dX11_advance_338 rfl ?_
                refine s_aload_n hC dX11_advance_341 rfl rfl 1 rfl ?_
                refine s_iload_n hC dX11_advance_342 rfl rfl 3 rfl ?_
                refine s_callV hC (ct_X11_muckOf l g _ _ _ _ hR_333 hk3 _ (show σ.n < 200 by omega)) ce_X11_muckOf cs_X11 (RepM.f_main hR_333) tw_1614 rfl rfl ⟨⟨le_b rfl, le_b rfl⟩, le_b rfl, le_b rfl⟩ (le_b rfl) dX11_advance_343 rfl (dvk1 ?_) nokx
                refine s_iadd hC dX11_advance_346 rfl ?_
                refine WP.top (.int (σ.pit + muckF (blk σ) (bI σ.foam))) (congrArg Value.int (by rw [show blk σ = σ.kinds σ.n from hbk.trans hk9.symm, hσ3, hσ2, hσ1]; simp only [St.kinds, St.refs, St.depths, St.waters, St.bR, St.bU, St.wears, St.order, St.waits, St.hR, St.hU, St.oR, St.oU, St.press, St.foam, St.pR, St.pU, St.seg, St.pit, St.away, St.mn, St.fc, St.fl, St.fo, St.n, St.ring, St.nh, St.hs, St.nb, St.bo, St.w_kinds, St.w_refs, St.w_depths, St.w_waters, St.w_bR, St.w_bU, St.w_wears, St.w_order, St.w_waits, St.w_hR, St.w_hU, St.w_oR, St.w_oU, St.w_press, St.w_foam, St.w_pR, St.w_pU, St.w_seg, St.w_pit, St.w_away, St.w_mn, St.w_fc, St.w_fl, St.w_fo, St.w_n, St.w_ring, St.w_nh, St.w_hs, St.w_nb, St.w_bo, St.w_course, St.a_ring, St.a_house, St.a_bore])) ?_
                refine s_putf hC cs_X11 18 tw_1267 (le_b rfl) rfl rfl rfl (RepM.f_main hR_333) (le_b rfl) dX11_advance_347 rfl ?_
                refine WP.rm (RepM.s_main_18 hR_333 _) (fun hR_347 => ?_)
                obtain ⟨σ4, hσ4⟩ : ∃ s, s = σ3.w_pit (σ.pit + muckF (blk σ) (bI σ.foam)) := ⟨_, rfl⟩
                rw [← hσ4] at hR_347
                have hn_q_242 := VM_cg hn_q_242 (s' := σ4) (by rw [hσ4]; simp only [St.kinds, St.refs, St.depths, St.waters, St.bR, St.bU, St.wears, St.order, St.waits, St.hR, St.hU, St.oR, St.oU, St.press, St.foam, St.pR, St.pU, St.seg, St.pit, St.away, St.mn, St.fc, St.fl, St.fo, St.n, St.ring, St.nh, St.hs, St.nb, St.bo, St.w_kinds, St.w_refs, St.w_depths, St.w_waters, St.w_bR, St.w_bU, St.w_wears, St.w_order, St.w_waits, St.w_hR, St.w_hU, St.w_oR, St.w_oU, St.w_press, St.w_foam, St.w_pR, St.w_pU, St.w_seg, St.w_pit, St.w_away, St.w_mn, St.w_fc, St.w_fl, St.w_fo, St.w_n, St.w_ring, St.w_nh, St.w_hs, St.w_nb, St.w_bo, St.w_course, St.a_ring, St.a_house, St.a_bore]) (by rw [hσ4]; simp only [St.kinds, St.refs, St.depths, St.waters, St.bR, St.bU, St.wears, St.order, St.waits, St.hR, St.hU, St.oR, St.oU, St.press, St.foam, St.pR, St.pU, St.seg, St.pit, St.away, St.mn, St.fc, St.fl, St.fo, St.n, St.ring, St.nh, St.hs, St.nb, St.bo, St.w_kinds, St.w_refs, St.w_depths, St.w_waters, St.w_bR, St.w_bU, St.w_wears, St.w_order, St.w_waits, St.w_hR, St.w_hU, St.w_oR, St.w_oU, St.w_press, St.w_foam, St.w_pR, St.w_pU, St.w_seg, St.w_pit, St.w_away, St.w_mn, St.w_fc, St.w_fl, St.w_fo, St.w_n, St.w_ring, St.w_nh, St.w_hs, St.w_nb, St.w_bo, St.w_course, St.a_ring, St.a_house, St.a_bore]) (by rw [hσ4]; simp only [St.kinds, St.refs, St.depths, St.waters, St.bR, St.bU, St.wears, St.order, St.waits, St.hR, St.hU, St.oR, St.oU, St.press, St.foam, St.pR, St.pU, St.seg, St.pit, St.away, St.mn, St.fc, St.fl, St.fo, St.n, St.ring, St.nh, St.hs, St.nb, St.bo, St.w_kinds, St.w_refs, St.w_depths, St.w_waters, St.w_bR, St.w_bU, St.w_wears, St.w_order, St.w_waits, St.w_hR, St.w_hU, St.w_oR, St.w_oU, St.w_press, St.w_foam, St.w_pR, St.w_pU, St.w_seg, St.w_pit, St.w_away, St.w_mn, St.w_fc, St.w_fl, St.w_fo, St.w_n, St.w_ring, St.w_nh, St.w_hs, St.w_nb, St.w_bo, St.w_course, St.a_ring, St.a_house, St.a_bore])
                refine s_aload_n hC dX11_advance_350 rfl rfl 1 rfl ?_
                refine s_dup hC dX11_advance_351 rfl rfl ?_
                refine s_getf hC cs_X11 17 tw_1266 (le_b rfl) (RepM.f_main hR_347) rfl dX11_advance_352 rfl ?_
                refine s_iconst hC (v := 1) dX11_advance_355 rfl (by decide) ?_
                refine s_isub hC dX11_advance_356 rfl ?_
                refine WP.top (.int (σ.seg - 1)) (congrArg Value.int (by rw [hσ4, hσ3, hσ2, hσ1]; simp only [St.kinds, St.refs, St.depths, St.waters, St.bR, St.bU, St.wears, St.order, St.waits, St.hR, St.hU, St.oR, St.oU, St.press, St.foam, St.pR, St.pU, St.seg, St.pit, St.away, St.mn, St.fc, St.fl, St.fo, St.n, St.ring, St.nh, St.hs, St.nb, St.bo, St.w_kinds, St.w_refs, St.w_depths, St.w_waters, St.w_bR, St.w_bU, St.w_wears, St.w_order, St.w_waits, St.w_hR, St.w_hU, St.w_oR, St.w_oU, St.w_press, St.w_foam, St.w_pR, St.w_pU, St.w_seg, St.w_pit, St.w_away, St.w_mn, St.w_fc, St.w_fl, St.w_fo, St.w_n, St.w_ring, St.w_nh, St.w_hs, St.w_nb, St.w_bo, St.w_course, St.a_ring, St.a_house, St.a_bore])) ?_
                refine s_putf hC cs_X11 17 tw_1266 (le_b rfl) rfl rfl rfl (RepM.f_main hR_347) (le_b rfl) dX11_advance_357 rfl ?_
                refine WP.rm (RepM.s_main_17 hR_347 _) (fun hR_357 => ?_)
                obtain ⟨σ5, hσ5⟩ : ∃ s, s = σ4.w_seg (σ.seg - 1) := ⟨_, rfl⟩
                rw [← hσ5] at hR_357
                have hn_q_242 := VM_cg hn_q_242 (s' := σ5) (by rw [hσ5]; simp only [St.kinds, St.refs, St.depths, St.waters, St.bR, St.bU, St.wears, St.order, St.waits, St.hR, St.hU, St.oR, St.oU, St.press, St.foam, St.pR, St.pU, St.seg, St.pit, St.away, St.mn, St.fc, St.fl, St.fo, St.n, St.ring, St.nh, St.hs, St.nb, St.bo, St.w_kinds, St.w_refs, St.w_depths, St.w_waters, St.w_bR, St.w_bU, St.w_wears, St.w_order, St.w_waits, St.w_hR, St.w_hU, St.w_oR, St.w_oU, St.w_press, St.w_foam, St.w_pR, St.w_pU, St.w_seg, St.w_pit, St.w_away, St.w_mn, St.w_fc, St.w_fl, St.w_fo, St.w_n, St.w_ring, St.w_nh, St.w_hs, St.w_nb, St.w_bo, St.w_course, St.a_ring, St.a_house, St.a_bore]) (by rw [hσ5]; simp only [St.kinds, St.refs, St.depths, St.waters, St.bR, St.bU, St.wears, St.order, St.waits, St.hR, St.hU, St.oR, St.oU, St.press, St.foam, St.pR, St.pU, St.seg, St.pit, St.away, St.mn, St.fc, St.fl, St.fo, St.n, St.ring, St.nh, St.hs, St.nb, St.bo, St.w_kinds, St.w_refs, St.w_depths, St.w_waters, St.w_bR, St.w_bU, St.w_wears, St.w_order, St.w_waits, St.w_hR, St.w_hU, St.w_oR, St.w_oU, St.w_press, St.w_foam, St.w_pR, St.w_pU, St.w_seg, St.w_pit, St.w_away, St.w_mn, St.w_fc, St.w_fl, St.w_fo, St.w_n, St.w_ring, St.w_nh, St.w_hs, St.w_nb, St.w_bo, St.w_course, St.a_ring, St.a_house, St.a_bore]) (by rw [hσ5]; simp only [St.kinds, St.refs, St.depths, St.waters, St.bR, St.bU, St.wears, St.order, St.waits, St.hR, St.hU, St.oR, St.oU, St.press, St.foam, St.pR, St.pU, St.seg, St.pit, St.away, St.mn, St.fc, St.fl, St.fo, St.n, St.ring, St.nh, St.hs, St.nb, St.bo, St.w_kinds, St.w_refs, St.w_depths, St.w_waters, St.w_bR, St.w_bU, St.w_wears, St.w_order, St.w_waits, St.w_hR, St.w_hU, St.w_oR, St.w_oU, St.w_press, St.w_foam, St.w_pR, St.w_pU, St.w_seg, St.w_pit, St.w_away, St.w_mn, St.w_fc, St.w_fl, St.w_fo, St.w_n, St.w_ring, St.w_nh, St.w_hs, St.w_nb, St.w_bo, St.w_course, St.a_ring, St.a_house, St.a_bore])
                refine s_aload_n hC dX11_advance_360 rfl rfl 1 rfl ?_
                refine s_dup hC dX11_advance_361 rfl rfl ?_
                refine s_getf hC cs_X11 19 tw_1268 (le_b rfl) (RepM.f_main hR_357) rfl dX11_advance_362 rfl ?_
                refine s_iload hC dX11_advance_365 rfl 5 rfl ?_
                refine s_iadd hC dX11_advance_367 rfl ?_
                refine WP.top (.int (bl2 σ t9 (nmF σ)).mn) (congrArg Value.int (by rw [hσ5, hσ4, hσ3, hσ2, hσ1]; simp only [bl2, bl1, St.kinds, St.refs, St.depths, St.waters, St.bR, St.bU, St.wears, St.order, St.waits, St.hR, St.hU, St.oR, St.oU, St.press, St.foam, St.pR, St.pU, St.seg, St.pit, St.away, St.mn, St.fc, St.fl, St.fo, St.n, St.ring, St.nh, St.hs, St.nb, St.bo, St.w_kinds, St.w_refs, St.w_depths, St.w_waters, St.w_bR, St.w_bU, St.w_wears, St.w_order, St.w_waits, St.w_hR, St.w_hU, St.w_oR, St.w_oU, St.w_press, St.w_foam, St.w_pR, St.w_pU, St.w_seg, St.w_pit, St.w_away, St.w_mn, St.w_fc, St.w_fl, St.w_fo, St.w_n, St.w_ring, St.w_nh, St.w_hs, St.w_nb, St.w_bo, St.w_course, St.a_ring, St.a_house, St.a_bore])) ?_
                refine s_putf hC cs_X11 19 tw_1268 (le_b rfl) rfl rfl rfl (RepM.f_main hR_357) (le_b rfl) dX11_advance_368 rfl ?_
                refine WP.rm (RepM.s_main_19 hR_357 _) (fun hR_368 => ?_)
                obtain ⟨σ6, hσ6⟩ : ∃ s, s = σ5.w_mn (bl2 σ t9 (nmF σ)).mn := ⟨_, rfl⟩
                rw [← hσ6] at hR_368
                have hn_q_242 := VM_cg hn_q_242 (s' := σ6) (by rw [hσ6]; simp only [St.kinds, St.refs, St.depths, St.waters, St.bR, St.bU, St.wears, St.order, St.waits, St.hR, St.hU, St.oR, St.oU, St.press, St.foam, St.pR, St.pU, St.seg, St.pit, St.away, St.mn, St.fc, St.fl, St.fo, St.n, St.ring, St.nh, St.hs, St.nb, St.bo, St.w_kinds, St.w_refs, St.w_depths, St.w_waters, St.w_bR, St.w_bU, St.w_wears, St.w_order, St.w_waits, St.w_hR, St.w_hU, St.w_oR, St.w_oU, St.w_press, St.w_foam, St.w_pR, St.w_pU, St.w_seg, St.w_pit, St.w_away, St.w_mn, St.w_fc, St.w_fl, St.w_fo, St.w_n, St.w_ring, St.w_nh, St.w_hs, St.w_nb, St.w_bo, St.w_course, St.a_ring, St.a_house, St.a_bore]) (by rw [hσ6]; simp only [St.kinds, St.refs, St.depths, St.waters, St.bR, St.bU, St.wears, St.order, St.waits, St.hR, St.hU, St.oR, St.oU, St.press, St.foam, St.pR, St.pU, St.seg, St.pit, St.away, St.mn, St.fc, St.fl, St.fo, St.n, St.ring, St.nh, St.hs, St.nb, St.bo, St.w_kinds, St.w_refs, St.w_depths, St.w_waters, St.w_bR, St.w_bU, St.w_wears, St.w_order, St.w_waits, St.w_hR, St.w_hU, St.w_oR, St.w_oU, St.w_press, St.w_foam, St.w_pR, St.w_pU, St.w_seg, St.w_pit, St.w_away, St.w_mn, St.w_fc, St.w_fl, St.w_fo, St.w_n, St.w_ring, St.w_nh, St.w_hs, St.w_nb, St.w_bo, St.w_course, St.a_ring, St.a_house, St.a_bore]) (by rw [hσ6]; simp only [St.kinds, St.refs, St.depths, St.waters, St.bR, St.bU, St.wears, St.order, St.waits, St.hR, St.hU, St.oR, St.oU, St.press, St.foam, St.pR, St.pU, St.seg, St.pit, St.away, St.mn, St.fc, St.fl, St.fo, St.n, St.ring, St.nh, St.hs, St.nb, St.bo, St.w_kinds, St.w_refs, St.w_depths, St.w_waters, St.w_bR, St.w_bU, St.w_wears, St.w_order, St.w_waits, St.w_hR, St.w_hU, St.w_oR, St.w_oU, St.w_press, St.w_foam, St.w_pR, St.w_pU, St.w_seg, St.w_pit, St.w_away, St.w_mn, St.w_fc, St.w_fl, St.w_fo, St.w_n, St.w_ring, St.w_nh, St.w_hs, St.w_nb, St.w_bo, St.w_course, St.a_ring, St.a_house, St.a_bore])
                have hn6e : σ6.n = σ.n := by rw [hσ6, hσ5, hσ4, hσ3, hσ2, hσ1]; simp only [St.kinds, St.refs, St.depths, St.waters, St.bR, St.bU, St.wears, St.order, St.waits, St.hR, St.hU, St.oR, St.oU, St.press, St.foam, St.pR, St.pU, St.seg, St.pit, St.away, St.mn, St.fc, St.fl, St.fo, St.n, St.ring, St.nh, St.hs, St.nb, St.bo, St.w_kinds, St.w_refs, St.w_depths, St.w_waters, St.w_bR, St.w_bU, St.w_wears, St.w_order, St.w_waits, St.w_hR, St.w_hU, St.w_oR, St.w_oU, St.w_press, St.w_foam, St.w_pR, St.w_pU, St.w_seg, St.w_pit, St.w_away, St.w_mn, St.w_fc, St.w_fl, St.w_fo, St.w_n, St.w_ring, St.w_nh, St.w_hs, St.w_nb, St.w_bo, St.w_course, St.a_ring, St.a_house, St.a_bore]
                have hn6 : σ6.n < 163 := by rw [hn6e]; omega
                refine s_aload hC dX11_advance_371 rfl 0 rfl ?_
                refine s_aload_n hC dX11_advance_373 rfl rfl 1 rfl ?_
                refine s_getf hC cs_X11 19 tw_1268 (le_b rfl) (RepM.f_main hR_368) rfl dX11_advance_374 rfl ?_
                refine WP.top (.int (bl2 σ t9 (nmF σ)).mn) (congrArg Value.int (by rw [hσ6]; simp only [St.kinds, St.refs, St.depths, St.waters, St.bR, St.bU, St.wears, St.order, St.waits, St.hR, St.hU, St.oR, St.oU, St.press, St.foam, St.pR, St.pU, St.seg, St.pit, St.away, St.mn, St.fc, St.fl, St.fo, St.n, St.ring, St.nh, St.hs, St.nb, St.bo, St.w_kinds, St.w_refs, St.w_depths, St.w_waters, St.w_bR, St.w_bU, St.w_wears, St.w_order, St.w_waits, St.w_hR, St.w_hU, St.w_oR, St.w_oU, St.w_press, St.w_foam, St.w_pR, St.w_pU, St.w_seg, St.w_pit, St.w_away, St.w_mn, St.w_fc, St.w_fl, St.w_fo, St.w_n, St.w_ring, St.w_nh, St.w_hs, St.w_nb, St.w_bo, St.w_course, St.a_ring, St.a_house, St.a_bore])) ?_
                refine s_putfN hC cs_X10 4 tw_1642 (le_b rfl) rfl rfl rfl ((wup_n (Ne.symm (hn_q_242 .main trivial))).trans ((wup_n (Ne.symm (hn_q_242 .main trivial))).trans ((wup_n (Ne.symm (hn_q_242 .main trivial))).trans (wup_s _ _ _)))) (le_b rfl) dX11_advance_377 rfl ?_
                refine WP.rm (RepM.by hR_368 hn_q_242 _) (fun hR_377 => ?_)
                refine s_aload_n hC dX11_advance_380 rfl rfl 1 rfl ?_
                refine s_getf hC cs_X11 8 tw_1257 (le_b rfl) (RepM.f_main hR_377) rfl dX11_advance_381 rfl ?_
                refine s_aload hC dX11_advance_384 rfl 0 rfl ?_
                refine s_callF hC (nA := 1) 1 (ct_Jx4a65c_add_9ea2d l g _ _ _ _ _ (RepM.f_rings hR_377) _ _ _ (hR_377).lB.1 (hR_377).lB.2.1 hn6 (RepM.e_ring hR_377) (Or.inl ⟨15, _, _, _, _, (wup_s _ _ _), rfl, tw_2114⟩) (RepM.l_ring hR_377) (hR_377).hg) rfl tw_622 tw_5 tw_620 tw_1464 (by decide +kernel) cs_Jx4a65c (RepM.f_rings hR_377) tw_1461 rfl rfl ⟨⟨le_b rfl, le_b rfl⟩, le_b rfl, le_b rfl⟩ (le_b rfl) dX11_advance_386 rfl (fun r w h9 => ?_) nokx
                obtain ⟨rfl, ed2, cap2, f2, a1, a2, a3, a4, a5, a6, a7, a8⟩ := h9
                have hA := RepM.a_ring hR_377 (r := blr σ t9 (nmF σ)) (v := -1) (Eq.trans (wup_s _ _ _) (congrArg (fun f => some (Sum.inr (15, f) : va_E)) (blr_mfs σ t9 (nmF σ)).symm)) hn_q_242 a1 a2 a3 a4 a5 a6 a7 a8
                refine s_pop hC dX11_advance_391 rfl rfl ?_
                refine s_iload hC dX11_advance_392 rfl 5 rfl ?_
                refine s_iret hC hr dX11_advance_394 (le_b rfl) (le_b rfl) ?_
                have hRd := adv_rd σ t9 hσ1 hσ2 hσ3 hσ4 hσ5 hσ6
                have hRx := RepM.cg hA hRd
                exact okM_ok (by simp only [cd_advance, c_1, c_3, c_5, if_true, if_false]) rfl rfl hRx rfl rfl rfl (grOK_add hgr (adv_n σ t9) (adv_r σ t9) (by rw [show σ6.n = σ.n from by rw [hσ6, hσ5, hσ4, hσ3, hσ2, hσ1]; simp only [St.kinds, St.refs, St.depths, St.waters, St.bR, St.bU, St.wears, St.order, St.waits, St.hR, St.hU, St.oR, St.oU, St.press, St.foam, St.pR, St.pU, St.seg, St.pit, St.away, St.mn, St.fc, St.fl, St.fo, St.n, St.ring, St.nh, St.hs, St.nb, St.bo, St.w_kinds, St.w_refs, St.w_depths, St.w_waters, St.w_bR, St.w_bU, St.w_wears, St.w_order, St.w_waits, St.w_hR, St.w_hU, St.w_oR, St.w_oU, St.w_press, St.w_foam, St.w_pR, St.w_pU, St.w_seg, St.w_pit, St.w_away, St.w_mn, St.w_fc, St.w_fl, St.w_fo, St.w_n, St.w_ring, St.w_nh, St.w_hs, St.w_nb, St.w_bo, St.w_course, St.a_ring, St.a_house, St.a_bore]]; rfl) rfl)
              · obtain ⟨hoR, hoU⟩ := snd1_s hs1 hz
                have hpr : nI σ.n - 1 = nI (σ.n - 1) := by obtain ⟨n9, hn9⟩ := Nat.exists_eq_succ_of_ne_zero hz; rw [hn9]; exact nI_pred n9
                have hpl : σ.n - 1 < σ.n := pred_lt hz
                have hpl3 : σ.n - 1 < σ3.n := by rw [show σ3.n = σ.n from by rw [hσ3, hσ2, hσ1]; simp only [St.kinds, St.refs, St.depths, St.waters, St.bR, St.bU, St.wears, St.order, St.waits, St.hR, St.hU, St.oR, St.oU, St.press, St.foam, St.pR, St.pU, St.seg, St.pit, St.away, St.mn, St.fc, St.fl, St.fo, St.n, St.ring, St.nh, St.hs, St.nb, St.bo, St.w_kinds, St.w_refs, St.w_depths, St.w_waters, St.w_bR, St.w_bU, St.w_wears, St.w_order, St.w_waits, St.w_hR, St.w_hU, St.w_oR, St.w_oU, St.w_press, St.w_foam, St.w_pR, St.w_pU, St.w_seg, St.w_pit, St.w_away, St.w_mn, St.w_fc, St.w_fl, St.w_fo, St.w_n, St.w_ring, St.w_nh, St.w_hs, St.w_nb, St.w_bo, St.w_course, St.a_ring, St.a_house, St.a_bore]]; exact hpl
                refine s_aload hC dX11_advance_257 rfl 0 rfl ?_
                refine s_iload_n hC dX11_advance_259 rfl rfl 3 rfl ?_
                refine z_if_ne hC (tgt := 267) dX11_advance_260 rfl (by decide) (fun c_10 => ?_) (fun c_10 => (hz ((nI_eq (by omega) (by decide : 0 < 2 ^ 31)).mp c_10)).elim)
                refine s_aload_n hC dX11_advance_267 rfl rfl 1 rfl ?_
                refine s_getf hC cs_X11 8 tw_1257 (le_b rfl) (RepM.f_main hR_254) rfl dX11_advance_268 rfl ?_
                refine s_iload_n hC dX11_advance_271 rfl rfl 3 rfl ?_
                refine s_iconst hC (v := 1) dX11_advance_272 rfl (by decide) ?_
                refine s_isub hC dX11_advance_273 rfl ?_
                rw [hpr]
                refine s_callF hC (nA := 1) 3 (ct_Jx4a65c_get_915e3 l g _ _ _ _ _ (RepM.f_rings hR_254) _ _ (RepM.p_ring hR_254 hpl3).2.1 (RepM.p_ring hR_254 hpl3).2.2.1 _ _ (RepM.p_ring hR_254 hpl3).2.2.2.1 hpl3 (RepM.p_ring hR_254 hpl3).2.2.2.2) rfl tw_288 tw_5 tw_286 tw_1610 (by decide +kernel) cs_Jx4a65c (RepM.f_rings hR_254) tw_1607 rfl rfl ⟨⟨le_b rfl, le_b rfl⟩, le_b rfl, le_b rfl⟩ (le_b rfl) dX11_advance_274 rfl (dvk1 ?_) nokx
                refine s_cast hC cs_X10 tw_1613 (RepM.f_ring hR_254 hpl3) dX11_advance_279 rfl ?_
                refine s_getfN hC cs_X10 1 tw_1639 (le_b rfl) (RepM.f_ring hR_254 hpl3) rfl dX11_advance_282 rfl ?_
                refine s_aload_n hC dX11_advance_285 rfl rfl 1 rfl ?_
                refine s_getf hC cs_X11 15 tw_1264 (le_b rfl) (RepM.f_main hR_254) rfl dX11_advance_286 rfl ?_
                refine s_iadd hC dX11_advance_289 rfl ?_
                refine WP.top (.int (bl0 σ t9).2.2.1) (congrArg Value.int (by rw [(bl0_o σ t9).1, hoR, hσ3, hσ2, hσ1]; simp only [St.kinds, St.refs, St.depths, St.waters, St.bR, St.bU, St.wears, St.order, St.waits, St.hR, St.hU, St.oR, St.oU, St.press, St.foam, St.pR, St.pU, St.seg, St.pit, St.away, St.mn, St.fc, St.fl, St.fo, St.n, St.ring, St.nh, St.hs, St.nb, St.bo, St.w_kinds, St.w_refs, St.w_depths, St.w_waters, St.w_bR, St.w_bU, St.w_wears, St.w_order, St.w_waits, St.w_hR, St.w_hU, St.w_oR, St.w_oU, St.w_press, St.w_foam, St.w_pR, St.w_pU, St.w_seg, St.w_pit, St.w_away, St.w_mn, St.w_fc, St.w_fl, St.w_fo, St.w_n, St.w_ring, St.w_nh, St.w_hs, St.w_nb, St.w_bo, St.w_course, St.a_ring, St.a_house, St.a_bore])) ?_
                refine s_putfN hC cs_X10 1 tw_1639 (le_b rfl) rfl rfl rfl (wup_s _ _ _) (le_b rfl) dX11_advance_290 rfl ?_
                refine WP.rm (RepM.by hR_254 hn_q_242 _) (fun hR_290 => ?_)
                refine s_aload hC dX11_advance_293 rfl 0 rfl ?_
                refine s_iload_n hC dX11_advance_295 rfl rfl 3 rfl ?_
                refine z_if_ne hC (tgt := 303) dX11_advance_296 rfl (by decide) (fun c_11 => ?_) (fun c_11 => (hz ((nI_eq (by omega) (by decide : 0 < 2 ^ 31)).mp c_11)).elim)
                refine s_aload_n hC dX11_advance_303 rfl rfl 1 rfl ?_
                refine s_getf hC cs_X11 8 tw_1257 (le_b rfl) (RepM.f_main hR_290) rfl dX11_advance_304 rfl ?_
                refine s_iload_n hC dX11_advance_307 rfl rfl 3 rfl ?_
                refine s_iconst hC (v := 1) dX11_advance_308 rfl (by decide) ?_
                refine s_isub hC dX11_advance_309 rfl ?_
                rw [hpr]
                refine s_callF hC (nA := 1) 3 (ct_Jx4a65c_get_915e3 l g _ _ _ _ _ (RepM.f_rings hR_290) _ _ (RepM.p_ring hR_290 hpl3).2.1 (RepM.p_ring hR_290 hpl3).2.2.1 _ _ (RepM.p_ring hR_290 hpl3).2.2.2.1 hpl3 (RepM.p_ring hR_290 hpl3).2.2.2.2) rfl tw_288 tw_5 tw_286 tw_1610 (by decide +kernel) cs_Jx4a65c (RepM.f_rings hR_290) tw_1607 rfl rfl ⟨⟨le_b rfl, le_b rfl⟩, le_b rfl, le_b rfl⟩ (le_b rfl) dX11_advance_310 rfl (dvk1 ?_) nokx
                refine s_cast hC cs_X10 tw_1613 (RepM.f_ring hR_290 hpl3) dX11_advance_315 rfl ?_
                refine s_getfN hC cs_X10 2 tw_1640 (le_b rfl) (RepM.f_ring hR_290 hpl3) rfl dX11_advance_318 rfl ?_
                refine s_aload_n hC dX11_advance_321 rfl rfl 1 rfl ?_
                refine s_getf hC cs_X11 16 tw_1265 (le_b rfl) (RepM.f_main hR_290) rfl dX11_advance_322 rfl ?_
                refine s_iadd hC dX11_advance_325 rfl ?_
                refine WP.top (.int (bl0 σ t9).2.2.2) (congrArg Value.int (by rw [(bl0_o σ t9).2, hoU, hσ3, hσ2, hσ1]; simp only [St.kinds, St.refs, St.depths, St.waters, St.bR, St.bU, St.wears, St.order, St.waits, St.hR, St.hU, St.oR, St.oU, St.press, St.foam, St.pR, St.pU, St.seg, St.pit, St.away, St.mn, St.fc, St.fl, St.fo, St.n, St.ring, St.nh, St.hs, St.nb, St.bo, St.w_kinds, St.w_refs, St.w_depths, St.w_waters, St.w_bR, St.w_bU, St.w_wears, St.w_order, St.w_waits, St.w_hR, St.w_hU, St.w_oR, St.w_oU, St.w_press, St.w_foam, St.w_pR, St.w_pU, St.w_seg, St.w_pit, St.w_away, St.w_mn, St.w_fc, St.w_fl, St.w_fo, St.w_n, St.w_ring, St.w_nh, St.w_hs, St.w_nb, St.w_bo, St.w_course, St.a_ring, St.a_house, St.a_bore])) ?_
                refine s_putfN hC cs_X10 2 tw_1640 (le_b rfl) rfl rfl rfl (wup_s _ _ _) (le_b rfl) dX11_advance_326 rfl ?_
                refine WP.rm (RepM.by hR_290 hn_q_242 _) (fun hR_326 => ?_)
                refine s_aload hC dX11_advance_329 rfl 0 rfl ?_
                refine s_iload hC dX11_advance_331 rfl 5 rfl ?_
                refine s_putfN hC cs_X10 3 tw_1641 (le_b rfl) rfl rfl rfl (wup_s _ _ _) (le_b rfl) dX11_advance_333 rfl ?_
                refine WP.rm (RepM.by hR_326 hn_q_242 _) (fun hR_333 => ?_)
                refine s_aload_n hC dX11_advance_336 rfl rfl 1 rfl ?_
                refine s_dup hC dX11_advance_337 rfl rfl ?_
                refine s_getf hC cs_X11 18 tw_1267 (le_b rfl) (RepM.f_main hR_333) rfl dX11_advance_338 rfl ?_
                refine s_aload_n hC dX11_advance_341 rfl rfl 1 rfl ?_
                refine s_iload_n hC dX11_advance_342 rfl rfl 3 rfl ?_
                refine s_callV hC (ct_X11_muckOf l g _ _ _ _ hR_333 hk3 _ (show σ.n < 200 by omega)) ce_X11_muckOf cs_X11 (RepM.f_main hR_333) tw_1614 rfl rfl ⟨⟨le_b rfl, le_b rfl⟩, le_b rfl, le_b rfl⟩ (le_b rfl) dX11_advance_343 rfl (dvk1 ?_) nokx
                refine s_iadd hC dX11_advance_346 rfl ?_
                refine WP.top (.int (σ.pit + muckF (blk σ) (bI σ.foam))) (congrArg Value.int (by rw [show blk σ = σ.kinds σ.n from hbk.trans hk9.symm, hσ3, hσ2, hσ1]; simp only [St.kinds, St.refs, St.depths, St.waters, St.bR, St.bU, St.wears, St.order, St.waits, St.hR, St.hU, St.oR, St.oU, St.press, St.foam, St.pR, St.pU, St.seg, St.pit, St.away, St.mn, St.fc, St.fl, St.fo, St.n, St.ring, St.nh, St.hs, St.nb, St.bo, St.w_kinds, St.w_refs, St.w_depths, St.w_waters, St.w_bR, St.w_bU, St.w_wears, St.w_order, St.w_waits, St.w_hR, St.w_hU, St.w_oR, St.w_oU, St.w_press, St.w_foam, St.w_pR, St.w_pU, St.w_seg, St.w_pit, St.w_away, St.w_mn, St.w_fc, St.w_fl, St.w_fo, St.w_n, St.w_ring, St.w_nh, St.w_hs, St.w_nb, St.w_bo, St.w_course, St.a_ring, St.a_house, St.a_bore])) ?_
                refine s_putf hC cs_X11 18 tw_1267 (le_b rfl) rfl rfl rfl (RepM.f_main hR_333) (le_b rfl) dX11_advance_347 rfl ?_
                refine WP.rm (RepM.s_main_18 hR_333 _) (fun hR_347 => ?_)
                obtain ⟨σ4, hσ4⟩ : ∃ s, s = σ3.w_pit (σ.pit + muckF (blk σ) (bI σ.foam)) := ⟨_, rfl⟩
                rw [← hσ4] at hR_347
                have hn_q_242 := VM_cg hn_q_242 (s' := σ4) (by rw [hσ4]; simp only [St.kinds, St.refs, St.depths, St.waters, St.bR, St.bU, St.wears, St.order, St.waits, St.hR, St.hU, St.oR, St.oU, St.press, St.foam, St.pR, St.pU, St.seg, St.pit, St.away, St.mn, St.fc, St.fl, St.fo, St.n, St.ring, St.nh, St.hs, St.nb, St.bo, St.w_kinds, St.w_refs, St.w_depths, St.w_waters, St.w_bR, St.w_bU, St.w_wears, St.w_order, St.w_waits, St.w_hR, St.w_hU, St.w_oR, St.w_oU, St.w_press, St.w_foam, St.w_pR, St.w_pU, St.w_seg, St.w_pit, St.w_away, St.w_mn, St.w_fc, St.w_fl, St.w_fo, St.w_n, St.w_ring, St.w_nh, St.w_hs, St.w_nb, St.w_bo, St.w_course, St.a_ring, St.a_house, St.a_bore]) (by rw [hσ4]; simp only [St.kinds, St.refs, St.depths, St.waters, St.bR, St.bU, St.wears, St.order, St.waits, St.hR, St.hU, St.oR, St.oU, St.press, St.foam, St.pR, St.pU, St.seg, St.pit, St.away, St.mn, St.fc, St.fl, St.fo, St.n, St.ring, St.nh, St.hs, St.nb, St.bo, St.w_kinds, St.w_refs, St.w_depths, St.w_waters, St.w_bR, St.w_bU, St.w_wears, St.w_order, St.w_waits, St.w_hR, St.w_hU, St.w_oR, St.w_oU, St.w_press, St.w_foam, St.w_pR, St.w_pU, St.w_seg, St.w_pit, St.w_away, St.w_mn, St.w_fc, St.w_fl, St.w_fo, St.w_n, St.w_ring, St.w_nh, St.w_hs, St.w_nb, St.w_bo, St.w_course, St.a_ring, St.a_house, St.a_bore]) (by rw [hσ4]; simp only [St.kinds, St.refs, St.depths, St.waters, St.bR, St.bU, St.wears, St.order, St.waits, St.hR, St.hU, St.oR, St.oU, St.press, St.foam, St.pR, St.pU, St.seg, St.pit, St.away, St.mn, St.fc, St.fl, St.fo, St.n, St.ring, St.nh, St.hs, St.nb, St.bo, St.w_kinds, St.w_refs, St.w_depths, St.w_waters, St.w_bR, St.w_bU, St.w_wears, St.w_order, St.w_waits, St.w_hR, St.w_hU, St.w_oR, St.w_oU, St.w_press, St.w_foam, St.w_pR, St.w_pU, St.w_seg, St.w_pit, St.w_away, St.w_mn, St.w_fc, St.w_fl, St.w_fo, St.w_n, St.w_ring, St.w_nh, St.w_hs, St.w_nb, St.w_bo, St.w_course, St.a_ring, St.a_house, St.a_bore])
                refine s_aload_n hC dX11_advance_350 rfl rfl 1 rfl ?_
                refine s_dup hC dX11_advance_351 rfl rfl ?_
                refine s_getf hC cs_X11 17 tw_1266 (le_b rfl) (RepM.f_main hR_347) rfl dX11_advance_352 rfl ?_
                refine s_iconst hC (v := 1) dX11_advance_355 rfl (by decide) ?_
                refine s_isub hC dX11_advance_356 rfl ?_
                refine WP.top (.int (σ.seg - 1)) (congrArg Value.int (by rw [hσ4, hσ3, hσ2, hσ1]; simp only [St.kinds, St.refs, St.depths, St.waters, St.bR, St.bU, St.wears, St.order, St.waits, St.hR, St.hU, St.oR, St.oU, St.press, St.foam, St.pR, St.pU, St.seg, St.pit, St.away, St.mn, St.fc, St.fl, St.fo, St.n, St.ring, St.nh, St.hs, St.nb, St.bo, St.w_kinds, St.w_refs, St.w_depths, St.w_waters, St.w_bR, St.w_bU, St.w_wears, St.w_order, St.w_waits, St.w_hR, St.w_hU, St.w_oR, St.w_oU, St.w_press, St.w_foam, St.w_pR, St.w_pU, St.w_seg, St.w_pit, St.w_away, St.w_mn, St.w_fc, St.w_fl, St.w_fo, St.w_n, St.w_ring, St.w_nh, St.w_hs, St.w_nb, St.w_bo, St.w_course, St.a_ring, St.a_house, St.a_bore])) ?_
                refine s_putf hC cs_X11 17 tw_1266 (le_b rfl) rfl rfl rfl (RepM.f_main hR_347) (le_b rfl) dX11_advance_357 rfl ?_
                refine WP.rm (RepM.s_main_17 hR_347 _) (fun hR_357 => ?_)
                obtain ⟨σ5, hσ5⟩ : ∃ s, s = σ4.w_seg (σ.seg - 1) := ⟨_, rfl⟩
                rw [← hσ5] at hR_357
                have hn_q_242 := VM_cg hn_q_242 (s' := σ5) (by rw [hσ5]; simp only [St.kinds, St.refs, St.depths, St.waters, St.bR, St.bU, St.wears, St.order, St.waits, St.hR, St.hU, St.oR, St.oU, St.press, St.foam, St.pR, St.pU, St.seg, St.pit, St.away, St.mn, St.fc, St.fl, St.fo, St.n, St.ring, St.nh, St.hs, St.nb, St.bo, St.w_kinds, St.w_refs, St.w_depths, St.w_waters, St.w_bR, St.w_bU, St.w_wears, St.w_order, St.w_waits, St.w_hR, St.w_hU, St.w_oR, St.w_oU, St.w_press, St.w_foam, St.w_pR, St.w_pU, St.w_seg, St.w_pit, St.w_away, St.w_mn, St.w_fc, St.w_fl, St.w_fo, St.w_n, St.w_ring, St.w_nh, St.w_hs, St.w_nb, St.w_bo, St.w_course, St.a_ring, St.a_house, St.a_bore]) (by rw [hσ5]; simp only [St.kinds, St.refs, St.depths, St.waters, St.bR, St.bU, St.wears, St.order, St.waits, St.hR, St.hU, St.oR, St.oU, St.press, St.foam, St.pR, St.pU, St.seg, St.pit, St.away, St.mn, St.fc, St.fl, St.fo, St.n, St.ring, St.nh, St.hs, St.nb, St.bo, St.w_kinds, St.w_refs, St.w_depths, St.w_waters, St.w_bR, St.w_bU, St.w_wears, St.w_order, St.w_waits, St.w_hR, St.w_hU, St.w_oR, St.w_oU, St.w_press, St.w_foam, St.w_pR, St.w_pU, St.w_seg, St.w_pit, St.w_away, St.w_mn, St.w_fc, St.w_fl, St.w_fo, St.w_n, St.w_ring, St.w_nh, St.w_hs, St.w_nb, St.w_bo, St.w_course, St.a_ring, St.a_house, St.a_bore]) (by rw [hσ5]; simp only [St.kinds, St.refs, St.depths, St.waters, St.bR, St.bU, St.wears, St.order, St.waits, St.hR, St.hU, St.oR, St.oU, St.press, St.foam, St.pR, St.pU, St.seg, St.pit, St.away, St.mn, St.fc, St.fl, St.fo, St.n, St.ring, St.nh, St.hs, St.nb, St.bo, St.w_kinds, St.w_refs, St.w_depths, St.w_waters, St.w_bR, St.w_bU, St.w_wears, St.w_order, St.w_waits, St.w_hR, St.w_hU, St.w_oR, St.w_oU, St.w_press, St.w_foam, St.w_pR, St.w_pU, St.w_seg, St.w_pit, St.w_away, St.w_mn, St.w_fc, St.w_fl, St.w_fo, St.w_n, St.w_ring, St.w_nh, St.w_hs, St.w_nb, St.w_bo, St.w_course, St.a_ring, St.a_house, St.a_bore])
                refine s_aload_n hC dX11_advance_360 rfl rfl 1 rfl ?_
                refine s_dup hC dX11_advance_361 rfl rfl ?_
                refine s_getf hC cs_X11 19 tw_1268 (le_b rfl) (RepM.f_main hR_357) rfl dX11_advance_362 rfl ?_
                refine s_iload hC dX11_advance_365 rfl 5 rfl ?_
                refine s_iadd hC dX11_advance_367 rfl ?_
                refine WP.top (.int (bl2 σ t9 (nmF σ)).mn) (congrArg Value.int (by rw [hσ5, hσ4, hσ3, hσ2, hσ1]; simp only [bl2, bl1, St.kinds, St.refs, St.depths, St.waters, St.bR, St.bU, St.wears, St.order, St.waits, St.hR, St.hU, St.oR, St.oU, St.press, St.foam, St.pR, St.pU, St.seg, St.pit, St.away, St.mn, St.fc, St.fl, St.fo, St.n, St.ring, St.nh, St.hs, St.nb, St.bo, St.w_kinds, St.w_refs, St.w_depths, St.w_waters, St.w_bR, St.w_bU, St.w_wears, St.w_order, St.w_waits, St.w_hR, St.w_hU, St.w_oR, St.w_oU, St.w_press, St.w_foam, St.w_pR, St.w_pU, St.w_seg, St.w_pit, St.w_away, St.w_mn, St.w_fc, St.w_fl, St.w_fo, St.w_n, St.w_ring, St.w_nh, St.w_hs, St.w_nb, St.w_bo, St.w_course, St.a_ring, St.a_house, St.a_bore])) ?_
                refine s_putf hC cs_X11 19 tw_1268 (le_b rfl) rfl rfl rfl (RepM.f_main hR_357) (le_b rfl) dX11_advance_368 rfl ?_
                refine WP.rm (RepM.s_main_19 hR_357 _) (fun hR_368 => ?_)
                obtain ⟨σ6, hσ6⟩ : ∃ s, s = σ5.w_mn (bl2 σ t9 (nmF σ)).mn := ⟨_, rfl⟩
                rw [← hσ6] at hR_368
                have hn_q_242 := VM_cg hn_q_242 (s' := σ6) (by rw [hσ6]; simp only [St.kinds, St.refs, St.depths, St.waters, St.bR, St.bU, St.wears, St.order, St.waits, St.hR, St.hU, St.oR, St.oU, St.press, St.foam, St.pR, St.pU, St.seg, St.pit, St.away, St.mn, St.fc, St.fl, St.fo, St.n, St.ring, St.nh, St.hs, St.nb, St.bo, St.w_kinds, St.w_refs, St.w_depths, St.w_waters, St.w_bR, St.w_bU, St.w_wears, St.w_order, St.w_waits, St.w_hR, St.w_hU, St.w_oR, St.w_oU, St.w_press, St.w_foam, St.w_pR, St.w_pU, St.w_seg, St.w_pit, St.w_away, St.w_mn, St.w_fc, St.w_fl, St.w_fo, St.w_n, St.w_ring, St.w_nh, St.w_hs, St.w_nb, St.w_bo, St.w_course, St.a_ring, St.a_house, St.a_bore]) (by rw [hσ6]; simp only [St.kinds, St.refs, St.depths, St.waters, St.bR, St.bU, St.wears, St.order, St.waits, St.hR, St.hU, St.oR, St.oU, St.press, St.foam, St.pR, St.pU, St.seg, St.pit, St.away, St.mn, St.fc, St.fl, St.fo, St.n, St.ring, St.nh, St.hs, St.nb, St.bo, St.w_kinds, St.w_refs, St.w_depths, St.w_waters, St.w_bR, St.w_bU, St.w_wears, St.w_order, St.w_waits, St.w_hR, St.w_hU, St.w_oR, St.w_oU, St.w_press, St.w_foam, St.w_pR, St.w_pU, St.w_seg, St.w_pit, St.w_away, St.w_mn, St.w_fc, St.w_fl, St.w_fo, St.w_n, St.w_ring, St.w_nh, St.w_hs, St.w_nb, St.w_bo, St.w_course, St.a_ring, St.a_house, St.a_bore]) (by rw [hσ6]; simp only [St.kinds, St.refs, St.depths, St.waters, St.bR, St.bU, St.wears, St.order, St.waits, St.hR, St.hU, St.oR, St.oU, St.press, St.foam, St.pR, St.pU, St.seg, St.pit, St.away, St.mn, St.fc, St.fl, St.fo, St.n, St.ring, St.nh, St.hs, St.nb, St.bo, St.w_kinds, St.w_refs, St.w_depths, St.w_waters, St.w_bR, St.w_bU, St.w_wears, St.w_order, St.w_waits, St.w_hR, St.w_hU, St.w_oR, St.w_oU, St.w_press, St.w_foam, St.w_pR, St.w_pU, St.w_seg, St.w_pit, St.w_away, St.w_mn, St.w_fc, St.w_fl, St.w_fo, St.w_n, St.w_ring, St.w_nh, St.w_hs, St.w_nb, St.w_bo, St.w_course, St.a_ring, St.a_house, St.a_bore])
                have hn6e : σ6.n = σ.n := by rw [hσ6, hσ5, hσ4, hσ3, hσ2, hσ1]; simp only [St.kinds, St.refs, St.depths, St.waters, St.bR, St.bU, St.wears, St.order, St.waits, St.hR, St.hU, St.oR, St.oU, St.press, St.foam, St.pR, St.pU, St.seg, St.pit, St.away, St.mn, St.fc, St.fl, St.fo, St.n, St.ring, St.nh, St.hs, St.nb, St.bo, St.w_kinds, St.w_refs, St.w_depths, St.w_waters, St.w_bR, St.w_bU, St.w_wears, St.w_order, St.w_waits, St.w_hR, St.w_hU, St.w_oR, St.w_oU, St.w_press, St.w_foam, St.w_pR, St.w_pU, St.w_seg, St.w_pit, St.w_away, St.w_mn, St.w_fc, St.w_fl, St.w_fo, St.w_n, St.w_ring, St.w_nh, St.w_hs, St.w_nb, St.w_bo, St.w_course, St.a_ring, St.a_house, St.a_bore]
                have hn6 : σ6.n < 163 := by rw [hn6e]; omega
                refine s_aload hC dX11_advance_371 rfl 0 rfl ?_
                refine s_aload_n hC dX11_advance_373 rfl rfl 1 rfl ?_
                refine s_getf hC cs_X11 19 tw_1268 (le_b rfl) (RepM.f_main hR_368) rfl dX11_advance_374 rfl ?_
                refine WP.top (.int (bl2 σ t9 (nmF σ)).mn) (congrArg Value.int (by rw [hσ6]; simp only [St.kinds, St.refs, St.depths, St.waters, St.bR, St.bU, St.wears, St.order, St.waits, St.hR, St.hU, St.oR, St.oU, St.press, St.foam, St.pR, St.pU, St.seg, St.pit, St.away, St.mn, St.fc, St.fl, St.fo, St.n, St.ring, St.nh, St.hs, St.nb, St.bo, St.w_kinds, St.w_refs, St.w_depths, St.w_waters, St.w_bR, St.w_bU, St.w_wears, St.w_order, St.w_waits, St.w_hR, St.w_hU, St.w_oR, St.w_oU, St.w_press, St.w_foam, St.w_pR, St.w_pU, St.w_seg, St.w_pit, St.w_away, St.w_mn, St.w_fc, St.w_fl, St.w_fo, St.w_n, St.w_ring, St.w_nh, St.w_hs, St.w_nb, St.w_bo, St.w_course, St.a_ring, St.a_house, St.a_bore])) ?_
                refine s_putfN hC cs_X10 4 tw_1642 (le_b rfl) rfl rfl rfl ((wup_n (Ne.symm (hn_q_242 .main trivial))).trans ((wup_n (Ne.symm (hn_q_242 .main trivial))).trans ((wup_n (Ne.symm (hn_q_242 .main trivial))).trans (wup_s _ _ _)))) (le_b rfl) dX11_advance_377 rfl ?_
                refine WP.rm (RepM.by hR_368 hn_q_242 _) (fun hR_377 => ?_)
                refine s_aload_n hC dX11_advance_380 rfl rfl 1 rfl ?_
                refine s_getf hC cs_X11 8 tw_1257 (le_b rfl) (RepM.f_main hR_377) rfl dX11_advance_381 rfl ?_
                refine s_aload hC dX11_advance_384 rfl 0 rfl ?_
                refine s_callF hC (nA := 1) 1 (ct_Jx4a65c_add_9ea2d l g _ _ _ _ _ (RepM.f_rings hR_377) _ _ _ (hR_377).lB.1 (hR_377).lB.2.1 hn6 (RepM.e_ring hR_377) (Or.inl ⟨15, _, _, _, _, (wup_s _ _ _), rfl, tw_2114⟩) (RepM.l_ring hR_377) (hR_377).hg) rfl tw_622 tw_5 tw_620 tw_1464 (by decide +kernel) cs_Jx4a65c (RepM.f_rings hR_377) tw_1461 rfl rfl ⟨⟨le_b rfl, le_b rfl⟩, le_b rfl, le_b rfl⟩ (le_b rfl) dX11_advance_386 rfl (fun r w h9 => ?_) nokx
                obtain ⟨rfl, ed2, cap2, f2, a1, a2, a3, a4, a5, a6, a7, a8⟩ := h9
                have hA := RepM.a_ring hR_377 (r := blr σ t9 (nmF σ)) (v := -1) (Eq.trans (wup_s _ _ _) (congrArg (fun f => some (Sum.inr (15, f) : va_E)) (blr_mfs σ t9 (nmF σ)).symm)) hn_q_242 a1 a2 a3 a4 a5 a6 a7 a8
                refine s_pop hC dX11_advance_391 rfl rfl ?_
                refine s_iload hC dX11_advance_392 rfl 5 rfl ?_
                refine s_iret hC hr dX11_advance_394 (le_b rfl) (le_b rfl) ?_
                have hRd := adv_rd σ t9 hσ1 hσ2 hσ3 hσ4 hσ5 hσ6
                have hRx := RepM.cg hA hRd
                exact okM_ok (by simp only [cd_advance, c_1, c_3, c_5, if_true, if_false]) rfl rfl hRx rfl rfl rfl (grOK_add hgr (adv_n σ t9) (adv_r σ t9) (by rw [show σ6.n = σ.n from by rw [hσ6, hσ5, hσ4, hσ3, hσ2, hσ1]; simp only [St.kinds, St.refs, St.depths, St.waters, St.bR, St.bU, St.wears, St.order, St.waits, St.hR, St.hU, St.oR, St.oU, St.press, St.foam, St.pR, St.pU, St.seg, St.pit, St.away, St.mn, St.fc, St.fl, St.fo, St.n, St.ring, St.nh, St.hs, St.nb, St.bo, St.w_kinds, St.w_refs, St.w_depths, St.w_waters, St.w_bR, St.w_bU, St.w_wears, St.w_order, St.w_waits, St.w_hR, St.w_hU, St.w_oR, St.w_oU, St.w_press, St.w_foam, St.w_pR, St.w_pU, St.w_seg, St.w_pit, St.w_away, St.w_mn, St.w_fc, St.w_fl, St.w_fo, St.w_n, St.w_ring, St.w_nh, St.w_hs, St.w_nb, St.w_bo, St.w_course, St.a_ring, St.a_house, St.a_bore]]; rfl) rfl)
            · refine s_aload_n hC dX11_advance_159 rfl rfl 0 rfl ?_
              refine s_getf hC cs_X11 9 tw_1258 (le_b rfl) (RepM.f_main hW) rfl dX11_advance_160 rfl ?_
              refine s_iload hC dX11_advance_163 rfl 6 rfl ?_
              refine s_dup2_11 hC dX11_advance_165 rfl rfl rfl ?_
              refine s_ialdK hC (Or.inl (RepM.f_wears hW)) (vp_in_nI (hin9 c_7) (by decide)) dX11_advance_166 rfl ?_
              rw [nI_clamp (show j < 2 ^ 31 by have := hin9 c_7; omega)]
              refine s_iload hC dX11_advance_167 rfl 6 rfl ?_
              refine s_iconst hC (v := 2) dX11_advance_169 rfl (by decide) ?_
              refine z_icmp_ge hC (tgt := 180) dX11_advance_170 rfl (by decide) (fun c_12 => ?_) (fun c_12 => ?_)
              · refine s_iload hC dX11_advance_180 rfl 5 rfl ?_
                refine s_iadd hC dX11_advance_182 rfl ?_
                refine s_iast hC (RepM.f_wears hW) (vp_in_nI (hin9 c_7) (by decide)) dX11_advance_183 rfl ?_
                refine WP.rm (RepM.w_wears hW _) (fun hR_183 => ?_)
                refine s_iinc hC (v := _ + 1) (j9 := 6) (L' := [(6, _), (0, _), (1, _), (2, _), (3, _), (4, _), (5, _)]) dX11_advance_184 rfl rfl rfl (le_b rfl) rfl ?_
                refine s_goto hC (tgt := 152) dX11_advance_187 (by decide) ?_
                refine WP.sub (L' := [(0, _), (1, _), (2, _), (3, _), (4, _), (5, _), (6, _)]) [1, 2, 3, 4, 5, 6, 0] rfl ?_
                refine ih (_, (wup _ _ _), j + 1) ?_ ?_
                · dsimp only
                  have h9 := hin9 c_7
                  refine ⟨nI_1 j, h9, ?_⟩
                  rw [wup_wup, nI_clamp (show j < 2 ^ 31 by omega)]
                  first
                    | exact congrArg (fun z => wup w (ad .wears) (.inl (g.2.1 0, 8, .inl (upd (wrF σ.wears (wearF σ (blk σ)) j) j (wrF σ.wears (wearF σ (blk σ)) j j + z))))) (if_pos c_12).symm
                    | exact congrArg (fun z => wup w (ad .wears) (.inl (g.2.1 0, 8, .inl (upd (wrF σ.wears (wearF σ (blk σ)) j) j (wrF σ.wears (wearF σ (blk σ)) j j + z))))) (if_neg c_12).symm
                · dsimp only
                  have h9 := hin9 c_7; omega
              · refine s_iconst hC (v := 2) dX11_advance_173 rfl (by decide) ?_
                refine s_iload hC dX11_advance_174 rfl 5 rfl ?_
                refine s_imul hC dX11_advance_176 rfl ?_
                refine s_goto hC (tgt := 182) dX11_advance_177 (by decide) ?_
                refine s_iadd hC dX11_advance_182 rfl ?_
                refine s_iast hC (RepM.f_wears hW) (vp_in_nI (hin9 c_7) (by decide)) dX11_advance_183 rfl ?_
                refine WP.rm (RepM.w_wears hW _) (fun hR_183 => ?_)
                refine s_iinc hC (v := _ + 1) (j9 := 6) (L' := [(6, _), (0, _), (1, _), (2, _), (3, _), (4, _), (5, _)]) dX11_advance_184 rfl rfl rfl (le_b rfl) rfl ?_
                refine s_goto hC (tgt := 152) dX11_advance_187 (by decide) ?_
                refine WP.sub (L' := [(0, _), (1, _), (2, _), (3, _), (4, _), (5, _), (6, _)]) [1, 2, 3, 4, 5, 6, 0] rfl ?_
                refine ih (_, (wup _ _ _), j + 1) ?_ ?_
                · dsimp only
                  have h9 := hin9 c_7
                  refine ⟨nI_1 j, h9, ?_⟩
                  rw [wup_wup, nI_clamp (show j < 2 ^ 31 by omega)]
                  first
                    | exact congrArg (fun z => wup w (ad .wears) (.inl (g.2.1 0, 8, .inl (upd (wrF σ.wears (wearF σ (blk σ)) j) j (wrF σ.wears (wearF σ (blk σ)) j j + z))))) (if_pos c_12).symm
                    | exact congrArg (fun z => wup w (ad .wears) (.inl (g.2.1 0, 8, .inl (upd (wrF σ.wears (wearF σ (blk σ)) j) j (wrF σ.wears (wearF σ (blk σ)) j j + z))))) (if_neg c_12).symm
                · dsimp only
                  have h9 := hin9 c_7; omega
        · refine s_aload_n hC dX11_advance_115 rfl rfl 3 rfl ?_
          refine s_getf hC cs_X11 12 tw_1261 (le_b rfl) (RepM.f_main hRb) rfl dX11_advance_116 rfl ?_
          refine z_if_eqB hC (tgt := 142) dX11_advance_119 rfl (by decide) (fun c_13 => ?_) (fun c_13 => ?_)
          · refine s_gets hC 13 rfl tw_1627 dX11_advance_142 rfl ?_
            refine s_iload_n hC dX11_advance_145 rfl rfl 1 rfl ?_
            refine s_ialdK hC (Or.inr ⟨13, _, _, _, _, rfl, rfl, rfl, rfl⟩) (vp_in_nI hq (by decide)) dX11_advance_146 rfl ?_
            refine WP.top (.int (wearF σ (blk σ))) (congrArg Value.int (by rw [hbk, wearF, atF_in (show 4 < 2 ^ 31 by decide) hq, nI_clamp (show q < 2 ^ 31 by omega), if_neg (fun h9 => by rw [c_13] at h9; cases h9)])) ?_
            exact hjn
          · refine s_iload_n hC dX11_advance_122 rfl rfl 1 rfl ?_
            refine s_iconst hC (v := 1) dX11_advance_123 rfl (by decide) ?_
            refine z_icmp_eq hC (tgt := 132) dX11_advance_124 rfl (by decide) (fun c_14 => ?_) (fun c_14 => ?_)
            · refine s_gets hC 13 rfl tw_1627 dX11_advance_132 rfl ?_
              refine s_iload_n hC dX11_advance_135 rfl rfl 1 rfl ?_
              refine s_ialdK hC (Or.inr ⟨13, _, _, _, _, rfl, rfl, rfl, rfl⟩) (vp_in_nI hq (by decide)) dX11_advance_136 rfl ?_
              refine s_iconst hC (v := 2) dX11_advance_137 rfl (by decide) ?_
              refine s_idiv hC dX11_advance_138 rfl (by decide) ?_
              refine s_goto hC (tgt := 147) dX11_advance_139 (by decide) ?_
              refine WP.top (.int (wearF σ (blk σ))) (congrArg Value.int (by rw [hbk, wearF, atF_in (show 4 < 2 ^ 31 by decide) hq, nI_clamp (show q < 2 ^ 31 by omega), if_pos c_13, if_pos c_14])) ?_
              exact hjn
            · refine s_iload_n hC dX11_advance_127 rfl rfl 1 rfl ?_
              refine s_iconst hC (v := 3) dX11_advance_128 rfl (by decide) ?_
              refine z_icmp_ne hC (tgt := 142) dX11_advance_129 rfl (by decide) (fun c_15 => ?_) (fun c_15 => ?_)
              · refine s_gets hC 13 rfl tw_1627 dX11_advance_142 rfl ?_
                refine s_iload_n hC dX11_advance_145 rfl rfl 1 rfl ?_
                refine s_ialdK hC (Or.inr ⟨13, _, _, _, _, rfl, rfl, rfl, rfl⟩) (vp_in_nI hq (by decide)) dX11_advance_146 rfl ?_
                refine WP.top (.int (wearF σ (blk σ))) (congrArg Value.int (by rw [hbk, wearF, atF_in (show 4 < 2 ^ 31 by decide) hq, nI_clamp (show q < 2 ^ 31 by omega), if_pos c_13, if_neg c_14, if_neg c_15])) ?_
                exact hjn
              · refine s_gets hC 13 rfl tw_1627 dX11_advance_132 rfl ?_
                refine s_iload_n hC dX11_advance_135 rfl rfl 1 rfl ?_
                refine s_ialdK hC (Or.inr ⟨13, _, _, _, _, rfl, rfl, rfl, rfl⟩) (vp_in_nI hq (by decide)) dX11_advance_136 rfl ?_
                refine s_iconst hC (v := 2) dX11_advance_137 rfl (by decide) ?_
                refine s_idiv hC dX11_advance_138 rfl (by decide) ?_
                refine s_goto hC (tgt := 147) dX11_advance_139 (by decide) ?_
                refine WP.top (.int (wearF σ (blk σ))) (congrArg Value.int (by rw [hbk, wearF, atF_in (show 4 < 2 ^ 31 by decide) hq, nI_clamp (show q < 2 ^ 31 by omega), if_pos c_13, if_neg c_14, if_pos c_15])) ?_
                exact hjn
      · refine s_iconst hC (v := 1) dX11_advance_101 rfl (by decide) ?_
        refine s_goto hC (tgt := 106) dX11_advance_102 (by decide) ?_
        refine s_iconst hC (v := 3) dX11_advance_106 rfl (by decide) ?_
        refine s_callV hC (ct_X11_fails_t l g _ _ _ _ hRb (by first | rfl | exact hth) _ (by decide)) ce_X11_fails cs_X11 (RepM.f_main hRb) tw_1422 rfl rfl ⟨⟨le_b rfl, le_b rfl⟩, le_b rfl, le_b rfl⟩ (le_b rfl) dX11_advance_107 rfl (dvk1 ?_) nokx
        refine WP.rm (RepM.s_main_0 hRb _) (fun hR_107 => ?_)
        refine z_if_eq hC (tgt := 115) dX11_advance_110 rfl (by decide) (fun c_16 => ((absurd c_16 (by decide) : False)).elim) (fun c_16 => ?_)
        refine s_iconst hC (v := (-1)) dX11_advance_113 rfl (by decide) ?_
        refine s_iret hC hr dX11_advance_114 (le_b rfl) (le_b rfl) ?_
        exact okM_no 3 (by simp only [cd_advance, c_1, c_3, c_5, if_true, if_false]) (by decide) (by rfl) hR_107 rfl rfl hgr
    · refine s_iconst hC (v := 1) dX11_advance_40 rfl (by decide) ?_
      refine s_goto hC (tgt := 45) dX11_advance_41 (by decide) ?_
      refine s_iconst hC (v := 2) dX11_advance_45 rfl (by decide) ?_
      refine s_callV hC (ct_X11_fails_t l g _ _ _ _ hRb (by first | rfl | exact hth) _ (by decide)) ce_X11_fails cs_X11 (RepM.f_main hRb) tw_1422 rfl rfl ⟨⟨le_b rfl, le_b rfl⟩, le_b rfl, le_b rfl⟩ (le_b rfl) dX11_advance_46 rfl (dvk1 ?_) nokx
      refine WP.rm (RepM.s_main_0 hRb _) (fun hR_46 => ?_)
      refine z_if_eq hC (tgt := 54) dX11_advance_49 rfl (by decide) (fun c_17 => ((absurd c_17 (by decide) : False)).elim) (fun c_17 => ?_)
      refine s_iconst hC (v := (-1)) dX11_advance_52 rfl (by decide) ?_
      refine s_iret hC hr dX11_advance_53 (le_b rfl) (le_b rfl) ?_
      exact okM_no 2 (by simp only [cd_advance, c_1, c_3, if_true, if_false]) (by decide) (by rfl) hR_46 rfl rfl hgr
  · refine s_iconst hC (v := 1) dX11_advance_17 rfl (by decide) ?_
    refine s_goto hC (tgt := 22) dX11_advance_18 (by decide) ?_
    refine s_iconst hC (v := 1) dX11_advance_22 rfl (by decide) ?_
    refine s_callV hC (ct_X11_fails_t l g _ _ _ _ hR_1 (by first | rfl | exact hth) _ (by decide)) ce_X11_fails cs_X11 (RepM.f_main hR_1) tw_1422 rfl rfl ⟨⟨le_b rfl, le_b rfl⟩, le_b rfl, le_b rfl⟩ (le_b rfl) dX11_advance_23 rfl (dvk1 ?_) nokx
    refine WP.rm (RepM.s_main_0 hR_1 _) (fun hR_23 => ?_)
    refine z_if_ne hC (tgt := 52) dX11_advance_26 rfl (by decide) (fun c_18 => ?_) (fun c_18 => ((absurd c_18 (by decide) : False)).elim)
    refine s_iconst hC (v := (-1)) dX11_advance_52 rfl (by decide) ?_
    refine s_iret hC hr dX11_advance_53 (le_b rfl) (le_b rfl) ?_
    exact okM_no 1 (by simp [cd_advance, c_1]) (by decide) (by rfl) hR_23 rfl rfl hgr
