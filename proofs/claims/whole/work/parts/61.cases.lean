theorem chg_m {g : Gl} {adm : Iy → Nat} {y : Ey} {σ : St} {c9 : Int32} {w : Wd} {cd : Nat} (h : RepM g adm y (if cd = 0 then ((σ.w_mn (σ.mn + (if atF 200 σ.waters (nI σ.n) ≤ 10 then 20 else if atF 200 σ.waters (nI σ.n) ≤ 20 then 50 else if atF 200 σ.waters (nI σ.n) ≤ 30 then 80 else 140))).w_wears (upd σ.wears c9.toNatClampNeg 0)) else σ) w) : RepM g adm y (if cd = 0 then nx_change σ c9 else σ) w := by
  by_cases z : cd = 0
  · rw [if_pos z] at h ⊢
    exact RepM.cg h (by simp only [RdM, nx_change, St.kinds, St.refs, St.depths, St.waters, St.bR, St.bU, St.wears, St.order, St.waits, St.hR, St.hU, St.oR, St.oU, St.press, St.foam, St.pR, St.pU, St.seg, St.pit, St.away, St.mn, St.fc, St.fl, St.fo, St.n, St.ring, St.nh, St.hs, St.nb, St.bo, St.w_kinds, St.w_refs, St.w_depths, St.w_waters, St.w_bR, St.w_bU, St.w_wears, St.w_order, St.w_waits, St.w_hR, St.w_hU, St.w_oR, St.w_oU, St.w_press, St.w_foam, St.w_pR, St.w_pU, St.w_seg, St.w_pit, St.w_away, St.w_mn, St.w_fc, St.w_fl, St.w_fo, St.w_n, St.w_ring, St.w_nh, St.w_hs, St.w_nb, St.w_bo, St.w_course, St.a_ring, St.a_house, St.a_bore, and_self, implies_true])
  · rw [if_neg z] at h ⊢
    exact h
theorem chg_g {y : Ey} {σ : St} {c9 : Int32} {cd : Nat} (h : grOK (if cd = 0 then ((σ.w_mn (σ.mn + (if atF 200 σ.waters (nI σ.n) ≤ 10 then 20 else if atF 200 σ.waters (nI σ.n) ≤ 20 then 50 else if atF 200 σ.waters (nI σ.n) ≤ 30 then 80 else 140))).w_wears (upd σ.wears c9.toNatClampNeg 0)) else σ) y) : grOK (if cd = 0 then nx_change σ c9 else σ) y := by
  by_cases z : cd = 0
  · rw [if_pos z] at h ⊢
    exact grOK_cg h (by simp only [nx_change, St.kinds, St.refs, St.depths, St.waters, St.bR, St.bU, St.wears, St.order, St.waits, St.hR, St.hU, St.oR, St.oU, St.press, St.foam, St.pR, St.pU, St.seg, St.pit, St.away, St.mn, St.fc, St.fl, St.fo, St.n, St.ring, St.nh, St.hs, St.nb, St.bo, St.w_kinds, St.w_refs, St.w_depths, St.w_waters, St.w_bR, St.w_bU, St.w_wears, St.w_order, St.w_waits, St.w_hR, St.w_hU, St.w_oR, St.w_oU, St.w_press, St.w_foam, St.w_pR, St.w_pU, St.w_seg, St.w_pit, St.w_away, St.w_mn, St.w_fc, St.w_fl, St.w_fo, St.w_n, St.w_ring, St.w_nh, St.w_hs, St.w_nb, St.w_bo, St.w_course, St.a_ring, St.a_house, St.a_bore]) (by simp only [nx_change, St.kinds, St.refs, St.depths, St.waters, St.bR, St.bU, St.wears, St.order, St.waits, St.hR, St.hU, St.oR, St.oU, St.press, St.foam, St.pR, St.pU, St.seg, St.pit, St.away, St.mn, St.fc, St.fl, St.fo, St.n, St.ring, St.nh, St.hs, St.nb, St.bo, St.w_kinds, St.w_refs, St.w_depths, St.w_waters, St.w_bR, St.w_bU, St.w_wears, St.w_order, St.w_waits, St.w_hR, St.w_hU, St.w_oR, St.w_oU, St.w_press, St.w_foam, St.w_pR, St.w_pU, St.w_seg, St.w_pit, St.w_away, St.w_mn, St.w_fc, St.w_fl, St.w_fo, St.w_n, St.w_ring, St.w_nh, St.w_hs, St.w_nb, St.w_bo, St.w_course, St.a_ring, St.a_house, St.a_bore]) rfl
  · rw [if_neg z] at h ⊢
    exact h
set_option maxHeartbeats 1000000 in
set_option maxRecDepth 100000 in
theorem lc_ground {p : Program} {l : Launch} {e : Env} {R : Room} {s : State} {m : MethodId} {args : Array Value} {below : List Frame} {meth : Method} {c : Code} {g : Gl} {ω0 : Wd} {sz0 : Nat} {Q : State → Prop} {k n : Nat} (hC : Cx p l e R s m args below meth c cL_law 9 "BoringheadLaw" g ω0 sz0) (hst : l.stackTraces = false) (hN : NCs s) {b Ls : Nat} {xs : Nat → Int32} (hX : LX g ω0 sz0 s b Ls xs) (hRf : 60 ≤ R.frames) (hRl : 2000 ≤ R.locals) (hRk : k + 670 ≤ R.cells) (hRn : n + 2700 ≤ R.slots) {i0 : Nat} (hi : i0 + 5 ≤ Ls) {mC mM lo lD : Nat} {σ : St} (hI : Inv σ) {ω : Wd} (hL : LH g mC mM lo lD ω σ)
    (kk : ∀ ω' σ', Inv σ' → LH g mC mM lo lD ω' σ' → WP p l e R s m args below meth c g ω0 sz0 Q 9 ω' (k + 670) (n + 2700) 2920 (lwL b mC mM lo lD (nI i0)) []) : WP p l e R s m args below meth c g ω0 sz0 Q 9 ω k n 252 (lwL b mC mM lo lD (nI i0)) [] := by
  obtain ⟨th, fl, fd, ωc, ωm, ωo, adc, x, adm, y, hRc, hmC, hRm, hmM, -, hgr, rfl, hd1, hd2, hlo, hlD⟩ := hL
  have hM := RepM.f_main hRm
  rw [hmM] at hM
  refine s_aload_n hC dL_law_252 rfl rfl 2 rfl ?_
  refine s_aload_n hC dL_law_253 rfl rfl 1 rfl ?_
  refine s_iload hC dL_law_254 rfl 0 rfl ?_
  refine s_iconst hC (v := 1) dL_law_256 rfl (by decide) ?_
  refine s_iadd hC dL_law_257 rfl ?_
  refine s_sldX hC hX (i0 + 1) (nI_add i0 1) (by omega) dL_law_258 rfl ?_
  refine s_aload_n hC dL_law_259 rfl rfl 1 rfl ?_
  refine s_iload hC dL_law_260 rfl 0 rfl ?_
  refine s_iconst hC (v := 2) dL_law_262 rfl (by decide) ?_
  refine s_iadd hC dL_law_263 rfl ?_
  refine s_sldX hC hX (i0 + 2) (nI_add i0 2) (by omega) dL_law_264 rfl ?_
  refine s_aload_n hC dL_law_265 rfl rfl 1 rfl ?_
  refine s_iload hC dL_law_266 rfl 0 rfl ?_
  refine s_iconst hC (v := 3) dL_law_268 rfl (by decide) ?_
  refine s_iadd hC dL_law_269 rfl ?_
  refine s_sldX hC hX (i0 + 3) (nI_add i0 3) (by omega) dL_law_270 rfl ?_
  refine s_i2c hC dL_law_271 rfl rfl ?_
  refine s_aload_n hC dL_law_272 rfl rfl 4 rfl ?_
  have ct := ct_L_ground l g hst ωc (wjn ωm ωo) hd1 adc x σ hRc (xs (i0 + 1)) (xs (i0 + 2)) (((xs (i0 + 3)).toUInt32 % 65536).toInt32) lo 1 fl ((wjn_r (djn_at hd2 hlo)).trans hlo) (by decide) (by decide)
  rw [hmC] at ct
  refine s_callSX hC hN ct ce_L_ground tw_423 rfl rfl ⟨⟨Nat.le_trans (le_b rfl) hRf, Nat.le_trans (le_b rfl) hRl⟩, by omega, by omega⟩ (le_b rfl) dL_law_273 rfl (fun r w h9 => ?_)
  obtain ⟨w1, w2, ad2, x2, rfl, hRc2, hmC2, rfl, hd3, hw2⟩ := h9
  obtain ⟨ωo2, f2, rfl, hd4, hlo2, hlD2, hv2⟩ := out_L hd2 hlo hlD hd3 hw2
  refine s_istore hC (L' := [(6, _), (5, _), (0, _), (1, _), (2, _), (3, _), (4, _)]) dL_law_276 rfl (le_b rfl) rfl ?_
  refine s_aload_n hC dL_law_278 rfl rfl 4 rfl ?_
  refine s_aload_n hC dL_law_279 rfl rfl 2 rfl ?_
  refine s_iload hC dL_law_280 rfl 1 rfl ?_
  refine s_iconst hC (v := 1) dL_law_282 rfl (by decide) ?_
  refine s_iadd hC dL_law_283 rfl ?_
  refine s_sldX hC hX (i0 + 1) (nI_add i0 1) (by omega) dL_law_284 rfl ?_
  refine s_aload_n hC dL_law_285 rfl rfl 2 rfl ?_
  refine s_iload hC dL_law_286 rfl 1 rfl ?_
  refine s_iconst hC (v := 2) dL_law_288 rfl (by decide) ?_
  refine s_iadd hC dL_law_289 rfl ?_
  refine s_sldX hC hX (i0 + 2) (nI_add i0 2) (by omega) dL_law_290 rfl ?_
  refine s_aload_n hC dL_law_291 rfl rfl 2 rfl ?_
  refine s_iload hC dL_law_292 rfl 1 rfl ?_
  refine s_iconst hC (v := 3) dL_law_294 rfl (by decide) ?_
  refine s_iadd hC dL_law_295 rfl ?_
  refine s_sldX hC hX (i0 + 3) (nI_add i0 3) (by omega) dL_law_296 rfl ?_
  refine s_i2c hC dL_law_297 rfl rfl ?_
  have ct2 := CT.mid (ct_X11_ground l g ωm adm y σ hRm (xs (i0 + 1)) (xs (i0 + 2)) (((xs (i0 + 3)).toUInt32 % 65536).toInt32) hgr) hd3 hd4
  rw [hmM] at ct2
  refine s_callV hC ct2 ce_X11_ground cs_X11 ((wjn_r (djn_at hd3 (wjn_l hM))).trans (wjn_l hM)) tw_1316 rfl rfl ⟨⟨Nat.le_trans (le_b rfl) hRf, Nat.le_trans (le_b rfl) hRl⟩, by omega, by omega⟩ (le_b rfl) dL_law_298 rfl (fun r w h9 => ?_) (fun E w h9 => h9.choose_spec.1.elim)
  obtain ⟨wm, ⟨v, adm2, y2, rfl, hv3, hRm2, hmM2, hth2, hgr2⟩, rfl, hd5, hd6⟩ := h9
  have hcd : (cd_ground σ (xs (i0 + 1)) (xs (i0 + 2)) (((xs (i0 + 3)).toUInt32 % 65536).toInt32)) < 2 ^ 31 := by
    unfold cd_ground cd_tellKind_kinds
    (repeat' split) <;> decide
  have hI2 : Inv (if (cd_ground σ (xs (i0 + 1)) (xs (i0 + 2)) (((xs (i0 + 3)).toUInt32 % 65536).toInt32)) = 0 then nx_ground σ (xs (i0 + 1)) (xs (i0 + 2)) (((xs (i0 + 3)).toUInt32 % 65536).toInt32) else σ) := inv_if hI (fun z => hI.m_ground z)
  exact lw_tail hC (k := k + 670) (n := n + 2700) hRf hRl (by omega) (by omega) hRk hRn hcd hI2 ⟨w1, wm, ωo2, ad2, x2, adm2, y2, hRc2, hmC2.trans hmC, hRm2, hmM2.trans hmM, hth2, hgr2, rfl, hd5, hd6, hlo2, hlD2⟩ (fun z => ⟨hv2 z, hv3 z⟩) (t1 := 314) (t2 := 331) rfl rfl (by decide) dL_law_301 dL_law_303 dL_law_304 dL_law_307 dL_law_309 dL_law_314 dL_law_316 dL_law_319 dL_law_320 dL_law_321 dL_law_322 dL_law_324 dL_law_325 dL_law_326 dL_law_331 kk
set_option maxHeartbeats 1000000 in
set_option maxRecDepth 100000 in
theorem lc_reference {p : Program} {l : Launch} {e : Env} {R : Room} {s : State} {m : MethodId} {args : Array Value} {below : List Frame} {meth : Method} {c : Code} {g : Gl} {ω0 : Wd} {sz0 : Nat} {Q : State → Prop} {k n : Nat} (hC : Cx p l e R s m args below meth c cL_law 9 "BoringheadLaw" g ω0 sz0) (hst : l.stackTraces = false) (hN : NCs s) {b Ls : Nat} {xs : Nat → Int32} (hX : LX g ω0 sz0 s b Ls xs) (hRf : 60 ≤ R.frames) (hRl : 2000 ≤ R.locals) (hRk : k + 670 ≤ R.cells) (hRn : n + 2700 ≤ R.slots) {i0 : Nat} (hi : i0 + 5 ≤ Ls) {mC mM lo lD : Nat} {σ : St} (hI : Inv σ) {ω : Wd} (hL : LH g mC mM lo lD ω σ)
    (kk : ∀ ω' σ', Inv σ' → LH g mC mM lo lD ω' σ' → WP p l e R s m args below meth c g ω0 sz0 Q 9 ω' (k + 670) (n + 2700) 2920 (lwL b mC mM lo lD (nI i0)) []) : WP p l e R s m args below meth c g ω0 sz0 Q 9 ω k n 334 (lwL b mC mM lo lD (nI i0)) [] := by
  obtain ⟨th, fl, fd, ωc, ωm, ωo, adc, x, adm, y, hRc, hmC, hRm, hmM, -, hgr, rfl, hd1, hd2, hlo, hlD⟩ := hL
  have hM := RepM.f_main hRm
  rw [hmM] at hM
  refine s_aload_n hC dL_law_334 rfl rfl 2 rfl ?_
  refine s_aload_n hC dL_law_335 rfl rfl 1 rfl ?_
  refine s_iload hC dL_law_336 rfl 0 rfl ?_
  refine s_iconst hC (v := 1) dL_law_338 rfl (by decide) ?_
  refine s_iadd hC dL_law_339 rfl ?_
  refine s_sldX hC hX (i0 + 1) (nI_add i0 1) (by omega) dL_law_340 rfl ?_
  refine s_aload_n hC dL_law_341 rfl rfl 1 rfl ?_
  refine s_iload hC dL_law_342 rfl 0 rfl ?_
  refine s_iconst hC (v := 2) dL_law_344 rfl (by decide) ?_
  refine s_iadd hC dL_law_345 rfl ?_
  refine s_sldX hC hX (i0 + 2) (nI_add i0 2) (by omega) dL_law_346 rfl ?_
  refine s_aload_n hC dL_law_347 rfl rfl 1 rfl ?_
  refine s_iload hC dL_law_348 rfl 0 rfl ?_
  refine s_iconst hC (v := 3) dL_law_350 rfl (by decide) ?_
  refine s_iadd hC dL_law_351 rfl ?_
  refine s_sldX hC hX (i0 + 3) (nI_add i0 3) (by omega) dL_law_352 rfl ?_
  refine s_i2c hC dL_law_353 rfl rfl ?_
  refine s_aload_n hC dL_law_354 rfl rfl 4 rfl ?_
  have ct := ct_L_reference l g hst ωc (wjn ωm ωo) hd1 adc x σ hRc (xs (i0 + 1)) (xs (i0 + 2)) (((xs (i0 + 3)).toUInt32 % 65536).toInt32) lo 1 fl ((wjn_r (djn_at hd2 hlo)).trans hlo) (by decide) (by decide)
  rw [hmC] at ct
  refine s_callSX hC hN ct ce_L_reference tw_545 rfl rfl ⟨⟨Nat.le_trans (le_b rfl) hRf, Nat.le_trans (le_b rfl) hRl⟩, by omega, by omega⟩ (le_b rfl) dL_law_355 rfl (fun r w h9 => ?_)
  obtain ⟨w1, w2, ad2, x2, rfl, hRc2, hmC2, rfl, hd3, hw2⟩ := h9
  obtain ⟨ωo2, f2, rfl, hd4, hlo2, hlD2, hv2⟩ := out_L hd2 hlo hlD hd3 hw2
  refine s_istore hC (L' := [(6, _), (5, _), (0, _), (1, _), (2, _), (3, _), (4, _)]) dL_law_358 rfl (le_b rfl) rfl ?_
  refine s_aload_n hC dL_law_360 rfl rfl 4 rfl ?_
  refine s_aload_n hC dL_law_361 rfl rfl 2 rfl ?_
  refine s_iload hC dL_law_362 rfl 1 rfl ?_
  refine s_iconst hC (v := 1) dL_law_364 rfl (by decide) ?_
  refine s_iadd hC dL_law_365 rfl ?_
  refine s_sldX hC hX (i0 + 1) (nI_add i0 1) (by omega) dL_law_366 rfl ?_
  refine s_aload_n hC dL_law_367 rfl rfl 2 rfl ?_
  refine s_iload hC dL_law_368 rfl 1 rfl ?_
  refine s_iconst hC (v := 2) dL_law_370 rfl (by decide) ?_
  refine s_iadd hC dL_law_371 rfl ?_
  refine s_sldX hC hX (i0 + 2) (nI_add i0 2) (by omega) dL_law_372 rfl ?_
  refine s_aload_n hC dL_law_373 rfl rfl 2 rfl ?_
  refine s_iload hC dL_law_374 rfl 1 rfl ?_
  refine s_iconst hC (v := 3) dL_law_376 rfl (by decide) ?_
  refine s_iadd hC dL_law_377 rfl ?_
  refine s_sldX hC hX (i0 + 3) (nI_add i0 3) (by omega) dL_law_378 rfl ?_
  refine s_i2c hC dL_law_379 rfl rfl ?_
  have ct2 := CT.mid (ct_X11_reference l g ωm adm y σ hRm (xs (i0 + 1)) (xs (i0 + 2)) (((xs (i0 + 3)).toUInt32 % 65536).toInt32) hgr) hd3 hd4
  rw [hmM] at ct2
  refine s_callV hC ct2 ce_X11_reference cs_X11 ((wjn_r (djn_at hd3 (wjn_l hM))).trans (wjn_l hM)) tw_1434 rfl rfl ⟨⟨Nat.le_trans (le_b rfl) hRf, Nat.le_trans (le_b rfl) hRl⟩, by omega, by omega⟩ (le_b rfl) dL_law_380 rfl (fun r w h9 => ?_) (fun E w h9 => h9.choose_spec.1.elim)
  obtain ⟨wm, ⟨v, adm2, y2, rfl, hv3, hRm2, hmM2, hth2, hgr2⟩, rfl, hd5, hd6⟩ := h9
  have hcd : (cd_reference σ (xs (i0 + 1)) (xs (i0 + 2)) (((xs (i0 + 3)).toUInt32 % 65536).toInt32)) < 2 ^ 31 := by
    unfold cd_reference cd_tellKind_refs
    (repeat' split) <;> decide
  have hI2 : Inv (if (cd_reference σ (xs (i0 + 1)) (xs (i0 + 2)) (((xs (i0 + 3)).toUInt32 % 65536).toInt32)) = 0 then nx_reference σ (xs (i0 + 1)) (xs (i0 + 2)) (((xs (i0 + 3)).toUInt32 % 65536).toInt32) else σ) := inv_if hI (fun z => hI.m_reference z)
  exact lw_tail hC (k := k + 670) (n := n + 2700) hRf hRl (by omega) (by omega) hRk hRn hcd hI2 ⟨w1, wm, ωo2, ad2, x2, adm2, y2, hRc2, hmC2.trans hmC, hRm2, hmM2.trans hmM, hth2, hgr2, rfl, hd5, hd6, hlo2, hlD2⟩ (fun z => ⟨hv2 z, hv3 z⟩) (t1 := 396) (t2 := 413) rfl rfl (by decide) dL_law_383 dL_law_385 dL_law_386 dL_law_389 dL_law_391 dL_law_396 dL_law_398 dL_law_401 dL_law_402 dL_law_403 dL_law_404 dL_law_406 dL_law_407 dL_law_408 dL_law_413 kk
set_option maxHeartbeats 1000000 in
set_option maxRecDepth 100000 in
theorem lc_depth {p : Program} {l : Launch} {e : Env} {R : Room} {s : State} {m : MethodId} {args : Array Value} {below : List Frame} {meth : Method} {c : Code} {g : Gl} {ω0 : Wd} {sz0 : Nat} {Q : State → Prop} {k n : Nat} (hC : Cx p l e R s m args below meth c cL_law 9 "BoringheadLaw" g ω0 sz0) (hst : l.stackTraces = false) (hN : NCs s) {b Ls : Nat} {xs : Nat → Int32} (hX : LX g ω0 sz0 s b Ls xs) (hRf : 60 ≤ R.frames) (hRl : 2000 ≤ R.locals) (hRk : k + 670 ≤ R.cells) (hRn : n + 2700 ≤ R.slots) {i0 : Nat} (hi : i0 + 5 ≤ Ls) {mC mM lo lD : Nat} {σ : St} (hI : Inv σ) {ω : Wd} (hL : LH g mC mM lo lD ω σ)
    (kk : ∀ ω' σ', Inv σ' → LH g mC mM lo lD ω' σ' → WP p l e R s m args below meth c g ω0 sz0 Q 9 ω' (k + 670) (n + 2700) 2920 (lwL b mC mM lo lD (nI i0)) []) : WP p l e R s m args below meth c g ω0 sz0 Q 9 ω k n 416 (lwL b mC mM lo lD (nI i0)) [] := by
  obtain ⟨th, fl, fd, ωc, ωm, ωo, adc, x, adm, y, hRc, hmC, hRm, hmM, -, hgr, rfl, hd1, hd2, hlo, hlD⟩ := hL
  have hM := RepM.f_main hRm
  rw [hmM] at hM
  refine s_aload_n hC dL_law_416 rfl rfl 2 rfl ?_
  refine s_aload_n hC dL_law_417 rfl rfl 1 rfl ?_
  refine s_iload hC dL_law_418 rfl 0 rfl ?_
  refine s_iconst hC (v := 1) dL_law_420 rfl (by decide) ?_
  refine s_iadd hC dL_law_421 rfl ?_
  refine s_sldX hC hX (i0 + 1) (nI_add i0 1) (by omega) dL_law_422 rfl ?_
  refine s_aload_n hC dL_law_423 rfl rfl 1 rfl ?_
  refine s_iload hC dL_law_424 rfl 0 rfl ?_
  refine s_iconst hC (v := 2) dL_law_426 rfl (by decide) ?_
  refine s_iadd hC dL_law_427 rfl ?_
  refine s_sldX hC hX (i0 + 2) (nI_add i0 2) (by omega) dL_law_428 rfl ?_
  refine s_aload_n hC dL_law_429 rfl rfl 1 rfl ?_
  refine s_iload hC dL_law_430 rfl 0 rfl ?_
  refine s_iconst hC (v := 3) dL_law_432 rfl (by decide) ?_
  refine s_iadd hC dL_law_433 rfl ?_
  refine s_sldX hC hX (i0 + 3) (nI_add i0 3) (by omega) dL_law_434 rfl ?_
  refine s_aload_n hC dL_law_435 rfl rfl 4 rfl ?_
  have ct := ct_L_depth l g hst ωc (wjn ωm ωo) hd1 adc x σ hRc (xs (i0 + 1)) (xs (i0 + 2)) (xs (i0 + 3)) lo 1 fl ((wjn_r (djn_at hd2 hlo)).trans hlo) (by decide) (by decide)
  rw [hmC] at ct
  refine s_callSX hC hN ct ce_L_depth tw_552 rfl rfl ⟨⟨Nat.le_trans (le_b rfl) hRf, Nat.le_trans (le_b rfl) hRl⟩, by omega, by omega⟩ (le_b rfl) dL_law_436 rfl (fun r w h9 => ?_)
  obtain ⟨w1, w2, ad2, x2, rfl, hRc2, hmC2, rfl, hd3, hw2⟩ := h9
  obtain ⟨ωo2, f2, rfl, hd4, hlo2, hlD2, hv2⟩ := out_L hd2 hlo hlD hd3 hw2
  refine s_istore hC (L' := [(6, _), (5, _), (0, _), (1, _), (2, _), (3, _), (4, _)]) dL_law_439 rfl (le_b rfl) rfl ?_
  refine s_aload_n hC dL_law_441 rfl rfl 4 rfl ?_
  refine s_aload_n hC dL_law_442 rfl rfl 2 rfl ?_
  refine s_iload hC dL_law_443 rfl 1 rfl ?_
  refine s_iconst hC (v := 1) dL_law_445 rfl (by decide) ?_
  refine s_iadd hC dL_law_446 rfl ?_
  refine s_sldX hC hX (i0 + 1) (nI_add i0 1) (by omega) dL_law_447 rfl ?_
  refine s_aload_n hC dL_law_448 rfl rfl 2 rfl ?_
  refine s_iload hC dL_law_449 rfl 1 rfl ?_
  refine s_iconst hC (v := 2) dL_law_451 rfl (by decide) ?_
  refine s_iadd hC dL_law_452 rfl ?_
  refine s_sldX hC hX (i0 + 2) (nI_add i0 2) (by omega) dL_law_453 rfl ?_
  refine s_aload_n hC dL_law_454 rfl rfl 2 rfl ?_
  refine s_iload hC dL_law_455 rfl 1 rfl ?_
  refine s_iconst hC (v := 3) dL_law_457 rfl (by decide) ?_
  refine s_iadd hC dL_law_458 rfl ?_
  refine s_sldX hC hX (i0 + 3) (nI_add i0 3) (by omega) dL_law_459 rfl ?_
  have ct2 := CT.mid (ct_X11_depth l g ωm adm y σ hRm (xs (i0 + 1)) (xs (i0 + 2)) (xs (i0 + 3)) hgr) hd3 hd4
  rw [hmM] at ct2
  refine s_callV hC ct2 ce_X11_depth cs_X11 ((wjn_r (djn_at hd3 (wjn_l hM))).trans (wjn_l hM)) tw_1438 rfl rfl ⟨⟨Nat.le_trans (le_b rfl) hRf, Nat.le_trans (le_b rfl) hRl⟩, by omega, by omega⟩ (le_b rfl) dL_law_460 rfl (fun r w h9 => ?_) (fun E w h9 => h9.choose_spec.1.elim)
  obtain ⟨wm, ⟨v, adm2, y2, rfl, hv3, hRm2, hmM2, hth2, hgr2⟩, rfl, hd5, hd6⟩ := h9
  have hcd : (cd_depth σ (xs (i0 + 1)) (xs (i0 + 2)) (xs (i0 + 3))) < 2 ^ 31 := by
    unfold cd_depth cd_tellNumber_depths
    (repeat' split) <;> decide
  have hI2 : Inv (if (cd_depth σ (xs (i0 + 1)) (xs (i0 + 2)) (xs (i0 + 3))) = 0 then nx_depth σ (xs (i0 + 1)) (xs (i0 + 2)) (xs (i0 + 3)) else σ) := inv_if hI (fun z => hI.m_depth z)
  exact lw_tail hC (k := k + 670) (n := n + 2700) hRf hRl (by omega) (by omega) hRk hRn hcd hI2 ⟨w1, wm, ωo2, ad2, x2, adm2, y2, hRc2, hmC2.trans hmC, hRm2, hmM2.trans hmM, hth2, hgr2, rfl, hd5, hd6, hlo2, hlD2⟩ (fun z => ⟨hv2 z, hv3 z⟩) (t1 := 476) (t2 := 493) rfl rfl (by decide) dL_law_463 dL_law_465 dL_law_466 dL_law_469 dL_law_471 dL_law_476 dL_law_478 dL_law_481 dL_law_482 dL_law_483 dL_law_484 dL_law_486 dL_law_487 dL_law_488 dL_law_493 kk
set_option maxHeartbeats 1000000 in
set_option maxRecDepth 100000 in
theorem lc_water {p : Program} {l : Launch} {e : Env} {R : Room} {s : State} {m : MethodId} {args : Array Value} {below : List Frame} {meth : Method} {c : Code} {g : Gl} {ω0 : Wd} {sz0 : Nat} {Q : State → Prop} {k n : Nat} (hC : Cx p l e R s m args below meth c cL_law 9 "BoringheadLaw" g ω0 sz0) (hst : l.stackTraces = false) (hN : NCs s) {b Ls : Nat} {xs : Nat → Int32} (hX : LX g ω0 sz0 s b Ls xs) (hRf : 60 ≤ R.frames) (hRl : 2000 ≤ R.locals) (hRk : k + 670 ≤ R.cells) (hRn : n + 2700 ≤ R.slots) {i0 : Nat} (hi : i0 + 5 ≤ Ls) {mC mM lo lD : Nat} {σ : St} (hI : Inv σ) {ω : Wd} (hL : LH g mC mM lo lD ω σ)
    (kk : ∀ ω' σ', Inv σ' → LH g mC mM lo lD ω' σ' → WP p l e R s m args below meth c g ω0 sz0 Q 9 ω' (k + 670) (n + 2700) 2920 (lwL b mC mM lo lD (nI i0)) []) : WP p l e R s m args below meth c g ω0 sz0 Q 9 ω k n 496 (lwL b mC mM lo lD (nI i0)) [] := by
  obtain ⟨th, fl, fd, ωc, ωm, ωo, adc, x, adm, y, hRc, hmC, hRm, hmM, -, hgr, rfl, hd1, hd2, hlo, hlD⟩ := hL
  have hM := RepM.f_main hRm
  rw [hmM] at hM
  refine s_aload_n hC dL_law_496 rfl rfl 2 rfl ?_
  refine s_aload_n hC dL_law_497 rfl rfl 1 rfl ?_
  refine s_iload hC dL_law_498 rfl 0 rfl ?_
  refine s_iconst hC (v := 1) dL_law_500 rfl (by decide) ?_
  refine s_iadd hC dL_law_501 rfl ?_
  refine s_sldX hC hX (i0 + 1) (nI_add i0 1) (by omega) dL_law_502 rfl ?_
  refine s_aload_n hC dL_law_503 rfl rfl 1 rfl ?_
  refine s_iload hC dL_law_504 rfl 0 rfl ?_
  refine s_iconst hC (v := 2) dL_law_506 rfl (by decide) ?_
  refine s_iadd hC dL_law_507 rfl ?_
  refine s_sldX hC hX (i0 + 2) (nI_add i0 2) (by omega) dL_law_508 rfl ?_
  refine s_aload_n hC dL_law_509 rfl rfl 1 rfl ?_
  refine s_iload hC dL_law_510 rfl 0 rfl ?_
  refine s_iconst hC (v := 3) dL_law_512 rfl (by decide) ?_
  refine s_iadd hC dL_law_513 rfl ?_
  refine s_sldX hC hX (i0 + 3) (nI_add i0 3) (by omega) dL_law_514 rfl ?_
  refine s_aload_n hC dL_law_515 rfl rfl 4 rfl ?_
  have ct := ct_L_water l g hst ωc (wjn ωm ωo) hd1 adc x σ hRc (xs (i0 + 1)) (xs (i0 + 2)) (xs (i0 + 3)) lo 1 fl ((wjn_r (djn_at hd2 hlo)).trans hlo) (by decide) (by decide)
  rw [hmC] at ct
  refine s_callSX hC hN ct ce_L_water tw_564 rfl rfl ⟨⟨Nat.le_trans (le_b rfl) hRf, Nat.le_trans (le_b rfl) hRl⟩, by omega, by omega⟩ (le_b rfl) dL_law_516 rfl (fun r w h9 => ?_)
  obtain ⟨w1, w2, ad2, x2, rfl, hRc2, hmC2, rfl, hd3, hw2⟩ := h9
  obtain ⟨ωo2, f2, rfl, hd4, hlo2, hlD2, hv2⟩ := out_L hd2 hlo hlD hd3 hw2
  refine s_istore hC (L' := [(6, _), (5, _), (0, _), (1, _), (2, _), (3, _), (4, _)]) dL_law_519 rfl (le_b rfl) rfl ?_
  refine s_aload_n hC dL_law_521 rfl rfl 4 rfl ?_
  refine s_aload_n hC dL_law_522 rfl rfl 2 rfl ?_
  refine s_iload hC dL_law_523 rfl 1 rfl ?_
  refine s_iconst hC (v := 1) dL_law_525 rfl (by decide) ?_
  refine s_iadd hC dL_law_526 rfl ?_
  refine s_sldX hC hX (i0 + 1) (nI_add i0 1) (by omega) dL_law_527 rfl ?_
  refine s_aload_n hC dL_law_528 rfl rfl 2 rfl ?_
  refine s_iload hC dL_law_529 rfl 1 rfl ?_
  refine s_iconst hC (v := 2) dL_law_531 rfl (by decide) ?_
  refine s_iadd hC dL_law_532 rfl ?_
  refine s_sldX hC hX (i0 + 2) (nI_add i0 2) (by omega) dL_law_533 rfl ?_
  refine s_aload_n hC dL_law_534 rfl rfl 2 rfl ?_
  refine s_iload hC dL_law_535 rfl 1 rfl ?_
  refine s_iconst hC (v := 3) dL_law_537 rfl (by decide) ?_
  refine s_iadd hC dL_law_538 rfl ?_
  refine s_sldX hC hX (i0 + 3) (nI_add i0 3) (by omega) dL_law_539 rfl ?_
  have ct2 := CT.mid (ct_X11_water l g ωm adm y σ hRm (xs (i0 + 1)) (xs (i0 + 2)) (xs (i0 + 3)) hgr) hd3 hd4
  rw [hmM] at ct2
  refine s_callV hC ct2 ce_X11_water cs_X11 ((wjn_r (djn_at hd3 (wjn_l hM))).trans (wjn_l hM)) tw_1446 rfl rfl ⟨⟨Nat.le_trans (le_b rfl) hRf, Nat.le_trans (le_b rfl) hRl⟩, by omega, by omega⟩ (le_b rfl) dL_law_540 rfl (fun r w h9 => ?_) (fun E w h9 => h9.choose_spec.1.elim)
  obtain ⟨wm, ⟨v, adm2, y2, rfl, hv3, hRm2, hmM2, hth2, hgr2⟩, rfl, hd5, hd6⟩ := h9
  have hcd : (cd_water σ (xs (i0 + 1)) (xs (i0 + 2)) (xs (i0 + 3))) < 2 ^ 31 := by
    unfold cd_water cd_tellNumber_waters
    (repeat' split) <;> decide
  have hI2 : Inv (if (cd_water σ (xs (i0 + 1)) (xs (i0 + 2)) (xs (i0 + 3))) = 0 then nx_water σ (xs (i0 + 1)) (xs (i0 + 2)) (xs (i0 + 3)) else σ) := inv_if hI (fun z => hI.m_water z)
  exact lw_tail hC (k := k + 670) (n := n + 2700) hRf hRl (by omega) (by omega) hRk hRn hcd hI2 ⟨w1, wm, ωo2, ad2, x2, adm2, y2, hRc2, hmC2.trans hmC, hRm2, hmM2.trans hmM, hth2, hgr2, rfl, hd5, hd6, hlo2, hlD2⟩ (fun z => ⟨hv2 z, hv3 z⟩) (t1 := 556) (t2 := 573) rfl rfl (by decide) dL_law_543 dL_law_545 dL_law_546 dL_law_549 dL_law_551 dL_law_556 dL_law_558 dL_law_561 dL_law_562 dL_law_563 dL_law_564 dL_law_566 dL_law_567 dL_law_568 dL_law_573 kk
set_option maxHeartbeats 1000000 in
set_option maxRecDepth 100000 in
theorem lc_bend {p : Program} {l : Launch} {e : Env} {R : Room} {s : State} {m : MethodId} {args : Array Value} {below : List Frame} {meth : Method} {c : Code} {g : Gl} {ω0 : Wd} {sz0 : Nat} {Q : State → Prop} {k n : Nat} (hC : Cx p l e R s m args below meth c cL_law 9 "BoringheadLaw" g ω0 sz0) (hst : l.stackTraces = false) (hN : NCs s) {b Ls : Nat} {xs : Nat → Int32} (hX : LX g ω0 sz0 s b Ls xs) (hRf : 60 ≤ R.frames) (hRl : 2000 ≤ R.locals) (hRk : k + 670 ≤ R.cells) (hRn : n + 2700 ≤ R.slots) {i0 : Nat} (hi : i0 + 5 ≤ Ls) {mC mM lo lD : Nat} {σ : St} (hI : Inv σ) {ω : Wd} (hL : LH g mC mM lo lD ω σ)
    (kk : ∀ ω' σ', Inv σ' → LH g mC mM lo lD ω' σ' → WP p l e R s m args below meth c g ω0 sz0 Q 9 ω' (k + 670) (n + 2700) 2920 (lwL b mC mM lo lD (nI i0)) []) : WP p l e R s m args below meth c g ω0 sz0 Q 9 ω k n 576 (lwL b mC mM lo lD (nI i0)) [] := by
  obtain ⟨th, fl, fd, ωc, ωm, ωo, adc, x, adm, y, hRc, hmC, hRm, hmM, -, hgr, rfl, hd1, hd2, hlo, hlD⟩ := hL
  have hM := RepM.f_main hRm
  rw [hmM] at hM
  refine s_aload_n hC dL_law_576 rfl rfl 2 rfl ?_
  refine s_aload_n hC dL_law_577 rfl rfl 1 rfl ?_
  refine s_iload hC dL_law_578 rfl 0 rfl ?_
  refine s_iconst hC (v := 1) dL_law_580 rfl (by decide) ?_
  refine s_iadd hC dL_law_581 rfl ?_
  refine s_sldX hC hX (i0 + 1) (nI_add i0 1) (by omega) dL_law_582 rfl ?_
  refine s_aload_n hC dL_law_583 rfl rfl 1 rfl ?_
  refine s_iload hC dL_law_584 rfl 0 rfl ?_
  refine s_iconst hC (v := 2) dL_law_586 rfl (by decide) ?_
  refine s_iadd hC dL_law_587 rfl ?_
  refine s_sldX hC hX (i0 + 2) (nI_add i0 2) (by omega) dL_law_588 rfl ?_
  refine s_aload_n hC dL_law_589 rfl rfl 1 rfl ?_
  refine s_iload hC dL_law_590 rfl 0 rfl ?_
  refine s_iconst hC (v := 3) dL_law_592 rfl (by decide) ?_
  refine s_iadd hC dL_law_593 rfl ?_
  refine s_sldX hC hX (i0 + 3) (nI_add i0 3) (by omega) dL_law_594 rfl ?_
  refine s_aload_n hC dL_law_595 rfl rfl 1 rfl ?_
  refine s_iload hC dL_law_596 rfl 0 rfl ?_
  refine s_iconst hC (v := 4) dL_law_598 rfl (by decide) ?_
  refine s_iadd hC dL_law_599 rfl ?_
  refine s_sldX hC hX (i0 + 4) (nI_add i0 4) (by omega) dL_law_600 rfl ?_
  refine s_aload_n hC dL_law_601 rfl rfl 4 rfl ?_
  have ct := ct_L_bend l g hst ωc (wjn ωm ωo) hd1 adc x σ hRc (xs (i0 + 1)) (xs (i0 + 2)) (xs (i0 + 3)) (xs (i0 + 4)) lo 1 fl ((wjn_r (djn_at hd2 hlo)).trans hlo) (by decide) (by decide)
  rw [hmC] at ct
  refine s_callSX hC hN ct ce_L_bend tw_571 rfl rfl ⟨⟨Nat.le_trans (le_b rfl) hRf, Nat.le_trans (le_b rfl) hRl⟩, by omega, by omega⟩ (le_b rfl) dL_law_602 rfl (fun r w h9 => ?_)
  obtain ⟨w1, w2, ad2, x2, rfl, hRc2, hmC2, rfl, hd3, hw2⟩ := h9
  obtain ⟨ωo2, f2, rfl, hd4, hlo2, hlD2, hv2⟩ := out_L hd2 hlo hlD hd3 hw2
  refine s_istore hC (L' := [(6, _), (5, _), (0, _), (1, _), (2, _), (3, _), (4, _)]) dL_law_605 rfl (le_b rfl) rfl ?_
  refine s_aload_n hC dL_law_607 rfl rfl 4 rfl ?_
  refine s_aload_n hC dL_law_608 rfl rfl 2 rfl ?_
  refine s_iload hC dL_law_609 rfl 1 rfl ?_
  refine s_iconst hC (v := 1) dL_law_611 rfl (by decide) ?_
  refine s_iadd hC dL_law_612 rfl ?_
  refine s_sldX hC hX (i0 + 1) (nI_add i0 1) (by omega) dL_law_613 rfl ?_
  refine s_aload_n hC dL_law_614 rfl rfl 2 rfl ?_
  refine s_iload hC dL_law_615 rfl 1 rfl ?_
  refine s_iconst hC (v := 2) dL_law_617 rfl (by decide) ?_
  refine s_iadd hC dL_law_618 rfl ?_
  refine s_sldX hC hX (i0 + 2) (nI_add i0 2) (by omega) dL_law_619 rfl ?_
  refine s_aload_n hC dL_law_620 rfl rfl 2 rfl ?_
  refine s_iload hC dL_law_621 rfl 1 rfl ?_
  refine s_iconst hC (v := 3) dL_law_623 rfl (by decide) ?_
  refine s_iadd hC dL_law_624 rfl ?_
  refine s_sldX hC hX (i0 + 3) (nI_add i0 3) (by omega) dL_law_625 rfl ?_
  refine s_aload_n hC dL_law_626 rfl rfl 2 rfl ?_
  refine s_iload hC dL_law_627 rfl 1 rfl ?_
  refine s_iconst hC (v := 4) dL_law_629 rfl (by decide) ?_
  refine s_iadd hC dL_law_630 rfl ?_
  refine s_sldX hC hX (i0 + 4) (nI_add i0 4) (by omega) dL_law_631 rfl ?_
  have ct2 := CT.mid (ct_X11_bend l g ωm adm y σ hRm (xs (i0 + 1)) (xs (i0 + 2)) (xs (i0 + 3)) (xs (i0 + 4)) hgr) hd3 hd4
  rw [hmM] at ct2
  refine s_callV hC ct2 ce_X11_bend cs_X11 ((wjn_r (djn_at hd3 (wjn_l hM))).trans (wjn_l hM)) tw_1450 rfl rfl ⟨⟨Nat.le_trans (le_b rfl) hRf, Nat.le_trans (le_b rfl) hRl⟩, by omega, by omega⟩ (le_b rfl) dL_law_632 rfl (fun r w h9 => ?_) (fun E w h9 => h9.choose_spec.1.elim)
  obtain ⟨wm, ⟨v, adm2, y2, rfl, hv3, hRm2, hmM2, hth2, hgr2⟩, rfl, hd5, hd6⟩ := h9
  have hcd : (cd_bend σ (xs (i0 + 1)) (xs (i0 + 2)) (xs (i0 + 3)) (xs (i0 + 4))) < 2 ^ 31 := by
    unfold cd_bend
    (repeat' split) <;> decide
  have hI2 : Inv (if (cd_bend σ (xs (i0 + 1)) (xs (i0 + 2)) (xs (i0 + 3)) (xs (i0 + 4))) = 0 then nx_bend σ (xs (i0 + 1)) (xs (i0 + 2)) (xs (i0 + 3)) (xs (i0 + 4)) else σ) := inv_if hI (fun z => hI.m_bend z)
  exact lw_tail hC (k := k + 670) (n := n + 2700) hRf hRl (by omega) (by omega) hRk hRn hcd hI2 ⟨w1, wm, ωo2, ad2, x2, adm2, y2, hRc2, hmC2.trans hmC, hRm2, hmM2.trans hmM, hth2, hgr2, rfl, hd5, hd6, hlo2, hlD2⟩ (fun z => ⟨hv2 z, hv3 z⟩) (t1 := 648) (t2 := 665) rfl rfl (by decide) dL_law_635 dL_law_637 dL_law_638 dL_law_641 dL_law_643 dL_law_648 dL_law_650 dL_law_653 dL_law_654 dL_law_655 dL_law_656 dL_law_658 dL_law_659 dL_law_660 dL_law_665 kk
set_option maxHeartbeats 1000000 in
set_option maxRecDepth 100000 in
theorem lc_bore {p : Program} {l : Launch} {e : Env} {R : Room} {s : State} {m : MethodId} {args : Array Value} {below : List Frame} {meth : Method} {c : Code} {g : Gl} {ω0 : Wd} {sz0 : Nat} {Q : State → Prop} {k n : Nat} (hC : Cx p l e R s m args below meth c cL_law 9 "BoringheadLaw" g ω0 sz0) (hst : l.stackTraces = false) (hN : NCs s) {b Ls : Nat} {xs : Nat → Int32} (hX : LX g ω0 sz0 s b Ls xs) (hRf : 60 ≤ R.frames) (hRl : 2000 ≤ R.locals) (hRk : k + 670 ≤ R.cells) (hRn : n + 2700 ≤ R.slots) {i0 : Nat} (hi : i0 + 5 ≤ Ls) {mC mM lo lD : Nat} {σ : St} (hI : Inv σ) {ω : Wd} (hL : LH g mC mM lo lD ω σ)
    (kk : ∀ ω' σ', Inv σ' → LH g mC mM lo lD ω' σ' → WP p l e R s m args below meth c g ω0 sz0 Q 9 ω' (k + 670) (n + 2700) 2920 (lwL b mC mM lo lD (nI i0)) []) : WP p l e R s m args below meth c g ω0 sz0 Q 9 ω k n 668 (lwL b mC mM lo lD (nI i0)) [] := by
  obtain ⟨th, fl, fd, ωc, ωm, ωo, adc, x, adm, y, hRc, hmC, hRm, hmM, -, hgr, rfl, hd1, hd2, hlo, hlD⟩ := hL
  have hM := RepM.f_main hRm
  rw [hmM] at hM
  refine s_aload_n hC dL_law_668 rfl rfl 2 rfl ?_
  refine s_aload_n hC dL_law_669 rfl rfl 1 rfl ?_
  refine s_iload hC dL_law_670 rfl 0 rfl ?_
  refine s_iconst hC (v := 1) dL_law_672 rfl (by decide) ?_
  refine s_iadd hC dL_law_673 rfl ?_
  refine s_sldX hC hX (i0 + 1) (nI_add i0 1) (by omega) dL_law_674 rfl ?_
  refine s_aload_n hC dL_law_675 rfl rfl 1 rfl ?_
  refine s_iload hC dL_law_676 rfl 0 rfl ?_
  refine s_iconst hC (v := 2) dL_law_678 rfl (by decide) ?_
  refine s_iadd hC dL_law_679 rfl ?_
  refine s_sldX hC hX (i0 + 2) (nI_add i0 2) (by omega) dL_law_680 rfl ?_
  refine s_i2c hC dL_law_681 rfl rfl ?_
  refine s_aload_n hC dL_law_682 rfl rfl 4 rfl ?_
  have ct := ct_L_bore l g hst ωc (wjn ωm ωo) hd1 adc x σ hRc (xs (i0 + 1)) (((xs (i0 + 2)).toUInt32 % 65536).toInt32) lo 1 fl ((wjn_r (djn_at hd2 hlo)).trans hlo) (by decide) (by decide)
  rw [hmC] at ct
  refine s_callSX hC hN ct ce_L_bore tw_579 rfl rfl ⟨⟨Nat.le_trans (le_b rfl) hRf, Nat.le_trans (le_b rfl) hRl⟩, by omega, by omega⟩ (le_b rfl) dL_law_683 rfl (fun r w h9 => ?_)
  obtain ⟨w1, w2, ad2, x2, rfl, hRc2, hmC2, rfl, hd3, hw2⟩ := h9
  obtain ⟨ωo2, f2, rfl, hd4, hlo2, hlD2, hv2⟩ := out_L hd2 hlo hlD hd3 hw2
  refine s_istore hC (L' := [(6, _), (5, _), (0, _), (1, _), (2, _), (3, _), (4, _)]) dL_law_686 rfl (le_b rfl) rfl ?_
  refine s_aload_n hC dL_law_688 rfl rfl 4 rfl ?_
  refine s_aload_n hC dL_law_689 rfl rfl 2 rfl ?_
  refine s_iload hC dL_law_690 rfl 1 rfl ?_
  refine s_iconst hC (v := 1) dL_law_692 rfl (by decide) ?_
  refine s_iadd hC dL_law_693 rfl ?_
  refine s_sldX hC hX (i0 + 1) (nI_add i0 1) (by omega) dL_law_694 rfl ?_
  refine s_aload_n hC dL_law_695 rfl rfl 2 rfl ?_
  refine s_iload hC dL_law_696 rfl 1 rfl ?_
  refine s_iconst hC (v := 2) dL_law_698 rfl (by decide) ?_
  refine s_iadd hC dL_law_699 rfl ?_
  refine s_sldX hC hX (i0 + 2) (nI_add i0 2) (by omega) dL_law_700 rfl ?_
  refine s_i2c hC dL_law_701 rfl rfl ?_
  have ct2 := CT.mid (ct_X11_bore l g ωm adm y σ hRm (xs (i0 + 1)) (((xs (i0 + 2)).toUInt32 % 65536).toInt32) hgr hI.x_bOK) hd3 hd4
  rw [hmM] at ct2
  refine s_callV hC ct2 ce_X11_bore cs_X11 ((wjn_r (djn_at hd3 (wjn_l hM))).trans (wjn_l hM)) tw_1456 rfl rfl ⟨⟨Nat.le_trans (le_b rfl) hRf, Nat.le_trans (le_b rfl) hRl⟩, by omega, by omega⟩ (le_b rfl) dL_law_702 rfl (fun r w h9 => ?_) (fun E w h9 => h9.choose_spec.1.elim)
  obtain ⟨wm, ⟨v, adm2, y2, rfl, hv3, hRm2, hmM2, hth2, hgr2⟩, rfl, hd5, hd6⟩ := h9
  have hcd : (cd_bore σ (xs (i0 + 1)) (((xs (i0 + 2)).toUInt32 % 65536).toInt32)) < 2 ^ 31 := by
    unfold cd_bore
    (repeat' split) <;> decide
  have hI2 : Inv (if (cd_bore σ (xs (i0 + 1)) (((xs (i0 + 2)).toUInt32 % 65536).toInt32)) = 0 then nx_bore σ (xs (i0 + 1)) (((xs (i0 + 2)).toUInt32 % 65536).toInt32) else σ) := inv_if hI (fun z => hI.m_bore z)
  exact lw_tail hC (k := k + 670) (n := n + 2700) hRf hRl (by omega) (by omega) hRk hRn hcd hI2 ⟨w1, wm, ωo2, ad2, x2, adm2, y2, hRc2, hmC2.trans hmC, hRm2, hmM2.trans hmM, hth2, hgr2, rfl, hd5, hd6, hlo2, hlD2⟩ (fun z => ⟨hv2 z, hv3 z⟩) (t1 := 718) (t2 := 735) rfl rfl (by decide) dL_law_705 dL_law_707 dL_law_708 dL_law_711 dL_law_713 dL_law_718 dL_law_720 dL_law_723 dL_law_724 dL_law_725 dL_law_726 dL_law_728 dL_law_729 dL_law_730 dL_law_735 kk
set_option maxHeartbeats 1000000 in
set_option maxRecDepth 100000 in
theorem lc_guess {p : Program} {l : Launch} {e : Env} {R : Room} {s : State} {m : MethodId} {args : Array Value} {below : List Frame} {meth : Method} {c : Code} {g : Gl} {ω0 : Wd} {sz0 : Nat} {Q : State → Prop} {k n : Nat} (hC : Cx p l e R s m args below meth c cL_law 9 "BoringheadLaw" g ω0 sz0) (hst : l.stackTraces = false) (hN : NCs s) {b Ls : Nat} {xs : Nat → Int32} (hX : LX g ω0 sz0 s b Ls xs) (hRf : 60 ≤ R.frames) (hRl : 2000 ≤ R.locals) (hRk : k + 670 ≤ R.cells) (hRn : n + 2700 ≤ R.slots) {i0 : Nat} (hi : i0 + 5 ≤ Ls) {mC mM lo lD : Nat} {σ : St} (hI : Inv σ) {ω : Wd} (hL : LH g mC mM lo lD ω σ)
    (kk : ∀ ω' σ', Inv σ' → LH g mC mM lo lD ω' σ' → WP p l e R s m args below meth c g ω0 sz0 Q 9 ω' (k + 670) (n + 2700) 2920 (lwL b mC mM lo lD (nI i0)) []) : WP p l e R s m args below meth c g ω0 sz0 Q 9 ω k n 738 (lwL b mC mM lo lD (nI i0)) [] := by
  obtain ⟨th, fl, fd, ωc, ωm, ωo, adc, x, adm, y, hRc, hmC, hRm, hmM, -, hgr, rfl, hd1, hd2, hlo, hlD⟩ := hL
  have hM := RepM.f_main hRm
  rw [hmM] at hM
  refine s_aload_n hC dL_law_738 rfl rfl 2 rfl ?_
  refine s_aload_n hC dL_law_739 rfl rfl 1 rfl ?_
  refine s_iload hC dL_law_740 rfl 0 rfl ?_
  refine s_iconst hC (v := 1) dL_law_742 rfl (by decide) ?_
  refine s_iadd hC dL_law_743 rfl ?_
  refine s_sldX hC hX (i0 + 1) (nI_add i0 1) (by omega) dL_law_744 rfl ?_
  refine s_aload_n hC dL_law_745 rfl rfl 4 rfl ?_
  have ct := ct_L_guess l g hst ωc (wjn ωm ωo) hd1 adc x σ hRc (xs (i0 + 1)) lo 1 fl ((wjn_r (djn_at hd2 hlo)).trans hlo) (by decide) (by decide)
  rw [hmC] at ct
  refine s_callSX hC hN ct ce_L_guess tw_686 rfl rfl ⟨⟨Nat.le_trans (le_b rfl) hRf, Nat.le_trans (le_b rfl) hRl⟩, by omega, by omega⟩ (le_b rfl) dL_law_746 rfl (fun r w h9 => ?_)
  obtain ⟨w1, w2, ad2, x2, rfl, hRc2, hmC2, rfl, hd3, hw2⟩ := h9
  obtain ⟨ωo2, f2, rfl, hd4, hlo2, hlD2, hv2⟩ := out_L hd2 hlo hlD hd3 hw2
  refine s_istore hC (L' := [(6, _), (5, _), (0, _), (1, _), (2, _), (3, _), (4, _)]) dL_law_749 rfl (le_b rfl) rfl ?_
  refine s_aload_n hC dL_law_751 rfl rfl 4 rfl ?_
  refine s_aload_n hC dL_law_752 rfl rfl 2 rfl ?_
  refine s_iload hC dL_law_753 rfl 1 rfl ?_
  refine s_iconst hC (v := 1) dL_law_755 rfl (by decide) ?_
  refine s_iadd hC dL_law_756 rfl ?_
  refine s_sldX hC hX (i0 + 1) (nI_add i0 1) (by omega) dL_law_757 rfl ?_
  have ct2 := CT.mid (ct_X11_guess l g ωm adm y σ hRm (xs (i0 + 1)) hgr hI.x_kIn hI.x_bIn hI.x_bOK) hd3 hd4
  rw [hmM] at ct2
  refine s_callV hC ct2 ce_X11_guess cs_X11 ((wjn_r (djn_at hd3 (wjn_l hM))).trans (wjn_l hM)) tw_1467 rfl rfl ⟨⟨Nat.le_trans (le_b rfl) hRf, Nat.le_trans (le_b rfl) hRl⟩, by omega, by omega⟩ (le_b rfl) dL_law_758 rfl (fun r w h9 => ?_) (fun E w h9 => h9.choose_spec.1.elim)
  obtain ⟨wm, ⟨v, adm2, y2, rfl, hv3, hRm2, hmM2, hth2, hgr2⟩, rfl, hd5, hd6⟩ := h9
  have hcd : (cd_guess σ (xs (i0 + 1))) < 2 ^ 31 := by
    unfold cd_guess
    (repeat' split) <;> decide
  have hI2 : Inv (if (cd_guess σ (xs (i0 + 1))) = 0 then σ else σ) := inv_if hI (fun z => hI)
  exact lw_tail hC (k := k + 670) (n := n + 2700) hRf hRl (by omega) (by omega) hRk hRn hcd hI2 ⟨w1, wm, ωo2, ad2, x2, adm2, y2, hRc2, hmC2.trans hmC, hRm2, hmM2.trans hmM, hth2, hgr2, rfl, hd5, hd6, hlo2, hlD2⟩ (fun z => ⟨hv2 z, hv3 z⟩) (t1 := 774) (t2 := 791) rfl rfl (by decide) dL_law_761 dL_law_763 dL_law_764 dL_law_767 dL_law_769 dL_law_774 dL_law_776 dL_law_779 dL_law_780 dL_law_781 dL_law_782 dL_law_784 dL_law_785 dL_law_786 dL_law_791 kk
set_option maxHeartbeats 1000000 in
set_option maxRecDepth 100000 in
theorem lc_doubt {p : Program} {l : Launch} {e : Env} {R : Room} {s : State} {m : MethodId} {args : Array Value} {below : List Frame} {meth : Method} {c : Code} {g : Gl} {ω0 : Wd} {sz0 : Nat} {Q : State → Prop} {k n : Nat} (hC : Cx p l e R s m args below meth c cL_law 9 "BoringheadLaw" g ω0 sz0) (hst : l.stackTraces = false) (hN : NCs s) {b Ls : Nat} {xs : Nat → Int32} (hX : LX g ω0 sz0 s b Ls xs) (hRf : 60 ≤ R.frames) (hRl : 2000 ≤ R.locals) (hRk : k + 670 ≤ R.cells) (hRn : n + 2700 ≤ R.slots) {i0 : Nat} (hi : i0 + 5 ≤ Ls) {mC mM lo lD : Nat} {σ : St} (hI : Inv σ) {ω : Wd} (hL : LH g mC mM lo lD ω σ)
    (kk : ∀ ω' σ', Inv σ' → LH g mC mM lo lD ω' σ' → WP p l e R s m args below meth c g ω0 sz0 Q 9 ω' (k + 670) (n + 2700) 2920 (lwL b mC mM lo lD (nI i0)) []) : WP p l e R s m args below meth c g ω0 sz0 Q 9 ω k n 794 (lwL b mC mM lo lD (nI i0)) [] := by
  obtain ⟨th, fl, fd, ωc, ωm, ωo, adc, x, adm, y, hRc, hmC, hRm, hmM, -, hgr, rfl, hd1, hd2, hlo, hlD⟩ := hL
  have hM := RepM.f_main hRm
  rw [hmM] at hM
  refine s_aload_n hC dL_law_794 rfl rfl 2 rfl ?_
  refine s_aload_n hC dL_law_795 rfl rfl 1 rfl ?_
  refine s_iload hC dL_law_796 rfl 0 rfl ?_
  refine s_iconst hC (v := 1) dL_law_798 rfl (by decide) ?_
  refine s_iadd hC dL_law_799 rfl ?_
  refine s_sldX hC hX (i0 + 1) (nI_add i0 1) (by omega) dL_law_800 rfl ?_
  refine s_aload_n hC dL_law_801 rfl rfl 4 rfl ?_
  have ct := ct_L_doubt l g hst ωc (wjn ωm ωo) hd1 adc x σ hRc (xs (i0 + 1)) lo 1 fl ((wjn_r (djn_at hd2 hlo)).trans hlo) (by decide) (by decide)
  rw [hmC] at ct
  refine s_callSX hC hN ct ce_L_doubt tw_710 rfl rfl ⟨⟨Nat.le_trans (le_b rfl) hRf, Nat.le_trans (le_b rfl) hRl⟩, by omega, by omega⟩ (le_b rfl) dL_law_802 rfl (fun r w h9 => ?_)
  obtain ⟨w1, w2, ad2, x2, rfl, hRc2, hmC2, rfl, hd3, hw2⟩ := h9
  obtain ⟨ωo2, f2, rfl, hd4, hlo2, hlD2, hv2⟩ := out_L hd2 hlo hlD hd3 hw2
  refine s_istore hC (L' := [(6, _), (5, _), (0, _), (1, _), (2, _), (3, _), (4, _)]) dL_law_805 rfl (le_b rfl) rfl ?_
  refine s_aload_n hC dL_law_807 rfl rfl 4 rfl ?_
  refine s_aload_n hC dL_law_808 rfl rfl 2 rfl ?_
  refine s_iload hC dL_law_809 rfl 1 rfl ?_
  refine s_iconst hC (v := 1) dL_law_811 rfl (by decide) ?_
  refine s_iadd hC dL_law_812 rfl ?_
  refine s_sldX hC hX (i0 + 1) (nI_add i0 1) (by omega) dL_law_813 rfl ?_
  have ct2 := CT.mid (ct_X11_doubt l g ωm adm y σ hRm (xs (i0 + 1)) hgr hI.x_kIn hI.x_bIn hI.x_bOK) hd3 hd4
  rw [hmM] at ct2
  refine s_callV hC ct2 ce_X11_doubt cs_X11 ((wjn_r (djn_at hd3 (wjn_l hM))).trans (wjn_l hM)) tw_1550 rfl rfl ⟨⟨Nat.le_trans (le_b rfl) hRf, Nat.le_trans (le_b rfl) hRl⟩, by omega, by omega⟩ (le_b rfl) dL_law_814 rfl (fun r w h9 => ?_) (fun E w h9 => h9.choose_spec.1.elim)
  obtain ⟨wm, ⟨v, adm2, y2, rfl, hv3, hRm2, hmM2, hth2, hgr2⟩, rfl, hd5, hd6⟩ := h9
  have hcd : (cd_doubt σ (xs (i0 + 1))) < 2 ^ 31 := by
    unfold cd_doubt
    (repeat' split) <;> decide
  have hI2 : Inv (if (cd_doubt σ (xs (i0 + 1))) = 0 then σ else σ) := inv_if hI (fun z => hI)
  exact lw_tail hC (k := k + 670) (n := n + 2700) hRf hRl (by omega) (by omega) hRk hRn hcd hI2 ⟨w1, wm, ωo2, ad2, x2, adm2, y2, hRc2, hmC2.trans hmC, hRm2, hmM2.trans hmM, hth2, hgr2, rfl, hd5, hd6, hlo2, hlD2⟩ (fun z => ⟨hv2 z, hv3 z⟩) (t1 := 830) (t2 := 847) rfl rfl (by decide) dL_law_817 dL_law_819 dL_law_820 dL_law_823 dL_law_825 dL_law_830 dL_law_832 dL_law_835 dL_law_836 dL_law_837 dL_law_838 dL_law_840 dL_law_841 dL_law_842 dL_law_847 kk
set_option maxHeartbeats 1000000 in
set_option maxRecDepth 100000 in
theorem lc_pressure {p : Program} {l : Launch} {e : Env} {R : Room} {s : State} {m : MethodId} {args : Array Value} {below : List Frame} {meth : Method} {c : Code} {g : Gl} {ω0 : Wd} {sz0 : Nat} {Q : State → Prop} {k n : Nat} (hC : Cx p l e R s m args below meth c cL_law 9 "BoringheadLaw" g ω0 sz0) (hst : l.stackTraces = false) (hN : NCs s) {b Ls : Nat} {xs : Nat → Int32} (hX : LX g ω0 sz0 s b Ls xs) (hRf : 60 ≤ R.frames) (hRl : 2000 ≤ R.locals) (hRk : k + 670 ≤ R.cells) (hRn : n + 2700 ≤ R.slots) {i0 : Nat} (hi : i0 + 5 ≤ Ls) {mC mM lo lD : Nat} {σ : St} (hI : Inv σ) {ω : Wd} (hL : LH g mC mM lo lD ω σ)
    (kk : ∀ ω' σ', Inv σ' → LH g mC mM lo lD ω' σ' → WP p l e R s m args below meth c g ω0 sz0 Q 9 ω' (k + 670) (n + 2700) 2920 (lwL b mC mM lo lD (nI i0)) []) : WP p l e R s m args below meth c g ω0 sz0 Q 9 ω k n 850 (lwL b mC mM lo lD (nI i0)) [] := by
  obtain ⟨th, fl, fd, ωc, ωm, ωo, adc, x, adm, y, hRc, hmC, hRm, hmM, -, hgr, rfl, hd1, hd2, hlo, hlD⟩ := hL
  have hM := RepM.f_main hRm
  rw [hmM] at hM
  refine s_aload_n hC dL_law_850 rfl rfl 2 rfl ?_
  refine s_aload_n hC dL_law_851 rfl rfl 1 rfl ?_
  refine s_iload hC dL_law_852 rfl 0 rfl ?_
  refine s_iconst hC (v := 1) dL_law_854 rfl (by decide) ?_
  refine s_iadd hC dL_law_855 rfl ?_
  refine s_sldX hC hX (i0 + 1) (nI_add i0 1) (by omega) dL_law_856 rfl ?_
  refine s_aload_n hC dL_law_857 rfl rfl 4 rfl ?_
  have ct := ct_L_pressure l g hst ωc (wjn ωm ωo) hd1 adc x σ hRc (xs (i0 + 1)) lo 1 fl ((wjn_r (djn_at hd2 hlo)).trans hlo) (by decide) (by decide)
  rw [hmC] at ct
  refine s_callSX hC hN ct ce_L_pressure tw_722 rfl rfl ⟨⟨Nat.le_trans (le_b rfl) hRf, Nat.le_trans (le_b rfl) hRl⟩, by omega, by omega⟩ (le_b rfl) dL_law_858 rfl (fun r w h9 => ?_)
  obtain ⟨w1, w2, ad2, x2, rfl, hRc2, hmC2, rfl, hd3, hw2⟩ := h9
  obtain ⟨ωo2, f2, rfl, hd4, hlo2, hlD2, hv2⟩ := out_L hd2 hlo hlD hd3 hw2
  refine s_istore hC (L' := [(6, _), (5, _), (0, _), (1, _), (2, _), (3, _), (4, _)]) dL_law_861 rfl (le_b rfl) rfl ?_
  refine s_aload_n hC dL_law_863 rfl rfl 4 rfl ?_
  refine s_aload_n hC dL_law_864 rfl rfl 2 rfl ?_
  refine s_iload hC dL_law_865 rfl 1 rfl ?_
  refine s_iconst hC (v := 1) dL_law_867 rfl (by decide) ?_
  refine s_iadd hC dL_law_868 rfl ?_
  refine s_sldX hC hX (i0 + 1) (nI_add i0 1) (by omega) dL_law_869 rfl ?_
  have ct2 := CT.mid (ct_X11_pressure l g ωm adm y σ hRm (xs (i0 + 1)) hgr) hd3 hd4
  rw [hmM] at ct2
  refine s_callV hC ct2 ce_X11_pressure cs_X11 ((wjn_r (djn_at hd3 (wjn_l hM))).trans (wjn_l hM)) tw_1554 rfl rfl ⟨⟨Nat.le_trans (le_b rfl) hRf, Nat.le_trans (le_b rfl) hRl⟩, by omega, by omega⟩ (le_b rfl) dL_law_870 rfl (fun r w h9 => ?_) (fun E w h9 => h9.choose_spec.1.elim)
  obtain ⟨wm, ⟨v, adm2, y2, rfl, hv3, hRm2, hmM2, hth2, hgr2⟩, rfl, hd5, hd6⟩ := h9
  have hcd : (cd_pressure σ (xs (i0 + 1))) < 2 ^ 31 := by
    unfold cd_pressure
    (repeat' split) <;> decide
  have hI2 : Inv (if (cd_pressure σ (xs (i0 + 1))) = 0 then nx_pressure σ (xs (i0 + 1)) else σ) := inv_if hI (fun z => hI.m_pressure _)
  exact lw_tail hC (k := k + 670) (n := n + 2700) hRf hRl (by omega) (by omega) hRk hRn hcd hI2 ⟨w1, wm, ωo2, ad2, x2, adm2, y2, hRc2, hmC2.trans hmC, hRm2, hmM2.trans hmM, hth2, hgr2, rfl, hd5, hd6, hlo2, hlD2⟩ (fun z => ⟨hv2 z, hv3 z⟩) (t1 := 886) (t2 := 903) rfl rfl (by decide) dL_law_873 dL_law_875 dL_law_876 dL_law_879 dL_law_881 dL_law_886 dL_law_888 dL_law_891 dL_law_892 dL_law_893 dL_law_894 dL_law_896 dL_law_897 dL_law_898 dL_law_903 kk
set_option maxHeartbeats 1000000 in
set_option maxRecDepth 100000 in
theorem lc_lower {p : Program} {l : Launch} {e : Env} {R : Room} {s : State} {m : MethodId} {args : Array Value} {below : List Frame} {meth : Method} {c : Code} {g : Gl} {ω0 : Wd} {sz0 : Nat} {Q : State → Prop} {k n : Nat} (hC : Cx p l e R s m args below meth c cL_law 9 "BoringheadLaw" g ω0 sz0) (hst : l.stackTraces = false) (hN : NCs s) {b Ls : Nat} {xs : Nat → Int32} (hX : LX g ω0 sz0 s b Ls xs) (hRf : 60 ≤ R.frames) (hRl : 2000 ≤ R.locals) (hRk : k + 670 ≤ R.cells) (hRn : n + 2700 ≤ R.slots) {i0 : Nat} (hi : i0 + 5 ≤ Ls) {mC mM lo lD : Nat} {σ : St} (hI : Inv σ) {ω : Wd} (hL : LH g mC mM lo lD ω σ)
    (kk : ∀ ω' σ', Inv σ' → LH g mC mM lo lD ω' σ' → WP p l e R s m args below meth c g ω0 sz0 Q 9 ω' (k + 670) (n + 2700) 2920 (lwL b mC mM lo lD (nI i0)) []) : WP p l e R s m args below meth c g ω0 sz0 Q 9 ω k n 906 (lwL b mC mM lo lD (nI i0)) [] := by
  obtain ⟨th, fl, fd, ωc, ωm, ωo, adc, x, adm, y, hRc, hmC, hRm, hmM, -, hgr, rfl, hd1, hd2, hlo, hlD⟩ := hL
  have hM := RepM.f_main hRm
  rw [hmM] at hM
  refine s_aload_n hC dL_law_906 rfl rfl 2 rfl ?_
  refine s_aload_n hC dL_law_907 rfl rfl 1 rfl ?_
  refine s_iload hC dL_law_908 rfl 0 rfl ?_
  refine s_iconst hC (v := 1) dL_law_910 rfl (by decide) ?_
  refine s_iadd hC dL_law_911 rfl ?_
  refine s_sldX hC hX (i0 + 1) (nI_add i0 1) (by omega) dL_law_912 rfl ?_
  refine s_aload_n hC dL_law_913 rfl rfl 4 rfl ?_
  have ct := ct_L_lower l g hst ωc (wjn ωm ωo) hd1 adc x σ hRc (xs (i0 + 1)) lo 1 fl ((wjn_r (djn_at hd2 hlo)).trans hlo) (by decide) (by decide)
  rw [hmC] at ct
  refine s_callSX hC hN ct ce_L_lower tw_730 rfl rfl ⟨⟨Nat.le_trans (le_b rfl) hRf, Nat.le_trans (le_b rfl) hRl⟩, by omega, by omega⟩ (le_b rfl) dL_law_914 rfl (fun r w h9 => ?_)
  obtain ⟨w1, w2, ad2, x2, rfl, hRc2, hmC2, rfl, hd3, hw2⟩ := h9
  obtain ⟨ωo2, f2, rfl, hd4, hlo2, hlD2, hv2⟩ := out_L hd2 hlo hlD hd3 hw2
  refine s_istore hC (L' := [(6, _), (5, _), (0, _), (1, _), (2, _), (3, _), (4, _)]) dL_law_917 rfl (le_b rfl) rfl ?_
  refine s_aload_n hC dL_law_919 rfl rfl 4 rfl ?_
  refine s_aload_n hC dL_law_920 rfl rfl 2 rfl ?_
  refine s_iload hC dL_law_921 rfl 1 rfl ?_
  refine s_iconst hC (v := 1) dL_law_923 rfl (by decide) ?_
  refine s_iadd hC dL_law_924 rfl ?_
  refine s_sldX hC hX (i0 + 1) (nI_add i0 1) (by omega) dL_law_925 rfl ?_
  have ct2 := CT.mid (ct_X11_lower l g ωm adm y σ hRm (xs (i0 + 1)) hgr hI.x_kIn) hd3 hd4
  rw [hmM] at ct2
  refine s_callV hC ct2 ce_X11_lower cs_X11 ((wjn_r (djn_at hd3 (wjn_l hM))).trans (wjn_l hM)) tw_1559 rfl rfl ⟨⟨Nat.le_trans (le_b rfl) hRf, Nat.le_trans (le_b rfl) hRl⟩, by omega, by omega⟩ (le_b rfl) dL_law_926 rfl (fun r w h9 => ?_) (fun E w h9 => h9.choose_spec.1.elim)
  obtain ⟨wm, ⟨v, adm2, y2, rfl, hv3, hRm2, hmM2, hth2, hgr2⟩, rfl, hd5, hd6⟩ := h9
  have hcd : (cd_lower σ (xs (i0 + 1))) < 2 ^ 31 := by
    unfold cd_lower
    (repeat' split) <;> decide
  have hI2 : Inv (if (cd_lower σ (xs (i0 + 1))) = 0 then σ else σ) := inv_if hI (fun z => hI)
  exact lw_tail hC (k := k + 670) (n := n + 2700) hRf hRl (by omega) (by omega) hRk hRn hcd hI2 ⟨w1, wm, ωo2, ad2, x2, adm2, y2, hRc2, hmC2.trans hmC, hRm2, hmM2.trans hmM, hth2, hgr2, rfl, hd5, hd6, hlo2, hlD2⟩ (fun z => ⟨hv2 z, hv3 z⟩) (t1 := 942) (t2 := 959) rfl rfl (by decide) dL_law_929 dL_law_931 dL_law_932 dL_law_935 dL_law_937 dL_law_942 dL_law_944 dL_law_947 dL_law_948 dL_law_949 dL_law_950 dL_law_952 dL_law_953 dL_law_954 dL_law_959 kk
set_option maxHeartbeats 1000000 in
set_option maxRecDepth 100000 in
theorem lc_upper {p : Program} {l : Launch} {e : Env} {R : Room} {s : State} {m : MethodId} {args : Array Value} {below : List Frame} {meth : Method} {c : Code} {g : Gl} {ω0 : Wd} {sz0 : Nat} {Q : State → Prop} {k n : Nat} (hC : Cx p l e R s m args below meth c cL_law 9 "BoringheadLaw" g ω0 sz0) (hst : l.stackTraces = false) (hN : NCs s) {b Ls : Nat} {xs : Nat → Int32} (hX : LX g ω0 sz0 s b Ls xs) (hRf : 60 ≤ R.frames) (hRl : 2000 ≤ R.locals) (hRk : k + 670 ≤ R.cells) (hRn : n + 2700 ≤ R.slots) {i0 : Nat} (hi : i0 + 5 ≤ Ls) {mC mM lo lD : Nat} {σ : St} (hI : Inv σ) {ω : Wd} (hL : LH g mC mM lo lD ω σ)
    (kk : ∀ ω' σ', Inv σ' → LH g mC mM lo lD ω' σ' → WP p l e R s m args below meth c g ω0 sz0 Q 9 ω' (k + 670) (n + 2700) 2920 (lwL b mC mM lo lD (nI i0)) []) : WP p l e R s m args below meth c g ω0 sz0 Q 9 ω k n 962 (lwL b mC mM lo lD (nI i0)) [] := by
  obtain ⟨th, fl, fd, ωc, ωm, ωo, adc, x, adm, y, hRc, hmC, hRm, hmM, -, hgr, rfl, hd1, hd2, hlo, hlD⟩ := hL
  have hM := RepM.f_main hRm
  rw [hmM] at hM
  refine s_aload_n hC dL_law_962 rfl rfl 2 rfl ?_
  refine s_aload_n hC dL_law_963 rfl rfl 1 rfl ?_
  refine s_iload hC dL_law_964 rfl 0 rfl ?_
  refine s_iconst hC (v := 1) dL_law_966 rfl (by decide) ?_
  refine s_iadd hC dL_law_967 rfl ?_
  refine s_sldX hC hX (i0 + 1) (nI_add i0 1) (by omega) dL_law_968 rfl ?_
  refine s_aload_n hC dL_law_969 rfl rfl 4 rfl ?_
  have ct := ct_L_upper l g hst ωc (wjn ωm ωo) hd1 adc x σ hRc (xs (i0 + 1)) lo 1 fl ((wjn_r (djn_at hd2 hlo)).trans hlo) (by decide) (by decide)
  rw [hmC] at ct
  refine s_callSX hC hN ct ce_L_upper tw_743 rfl rfl ⟨⟨Nat.le_trans (le_b rfl) hRf, Nat.le_trans (le_b rfl) hRl⟩, by omega, by omega⟩ (le_b rfl) dL_law_970 rfl (fun r w h9 => ?_)
  obtain ⟨w1, w2, ad2, x2, rfl, hRc2, hmC2, rfl, hd3, hw2⟩ := h9
  obtain ⟨ωo2, f2, rfl, hd4, hlo2, hlD2, hv2⟩ := out_L hd2 hlo hlD hd3 hw2
  refine s_istore hC (L' := [(6, _), (5, _), (0, _), (1, _), (2, _), (3, _), (4, _)]) dL_law_973 rfl (le_b rfl) rfl ?_
  refine s_aload_n hC dL_law_975 rfl rfl 4 rfl ?_
  refine s_aload_n hC dL_law_976 rfl rfl 2 rfl ?_
  refine s_iload hC dL_law_977 rfl 1 rfl ?_
  refine s_iconst hC (v := 1) dL_law_979 rfl (by decide) ?_
  refine s_iadd hC dL_law_980 rfl ?_
  refine s_sldX hC hX (i0 + 1) (nI_add i0 1) (by omega) dL_law_981 rfl ?_
  have ct2 := CT.mid (ct_X11_upper l g ωm adm y σ hRm (xs (i0 + 1)) hgr hI.x_kIn) hd3 hd4
  rw [hmM] at ct2
  refine s_callV hC ct2 ce_X11_upper cs_X11 ((wjn_r (djn_at hd3 (wjn_l hM))).trans (wjn_l hM)) tw_1569 rfl rfl ⟨⟨Nat.le_trans (le_b rfl) hRf, Nat.le_trans (le_b rfl) hRl⟩, by omega, by omega⟩ (le_b rfl) dL_law_982 rfl (fun r w h9 => ?_) (fun E w h9 => h9.choose_spec.1.elim)
  obtain ⟨wm, ⟨v, adm2, y2, rfl, hv3, hRm2, hmM2, hth2, hgr2⟩, rfl, hd5, hd6⟩ := h9
  have hcd : (cd_upper σ (xs (i0 + 1))) < 2 ^ 31 := by
    unfold cd_upper
    (repeat' split) <;> decide
  have hI2 : Inv (if (cd_upper σ (xs (i0 + 1))) = 0 then σ else σ) := inv_if hI (fun z => hI)
  exact lw_tail hC (k := k + 670) (n := n + 2700) hRf hRl (by omega) (by omega) hRk hRn hcd hI2 ⟨w1, wm, ωo2, ad2, x2, adm2, y2, hRc2, hmC2.trans hmC, hRm2, hmM2.trans hmM, hth2, hgr2, rfl, hd5, hd6, hlo2, hlD2⟩ (fun z => ⟨hv2 z, hv3 z⟩) (t1 := 998) (t2 := 1015) rfl rfl (by decide) dL_law_985 dL_law_987 dL_law_988 dL_law_991 dL_law_993 dL_law_998 dL_law_1000 dL_law_1003 dL_law_1004 dL_law_1005 dL_law_1006 dL_law_1008 dL_law_1009 dL_law_1010 dL_law_1015 kk
set_option maxHeartbeats 1000000 in
set_option maxRecDepth 100000 in
theorem lc_foam {p : Program} {l : Launch} {e : Env} {R : Room} {s : State} {m : MethodId} {args : Array Value} {below : List Frame} {meth : Method} {c : Code} {g : Gl} {ω0 : Wd} {sz0 : Nat} {Q : State → Prop} {k n : Nat} (hC : Cx p l e R s m args below meth c cL_law 9 "BoringheadLaw" g ω0 sz0) (hst : l.stackTraces = false) (hN : NCs s) {b Ls : Nat} {xs : Nat → Int32} (hX : LX g ω0 sz0 s b Ls xs) (hRf : 60 ≤ R.frames) (hRl : 2000 ≤ R.locals) (hRk : k + 670 ≤ R.cells) (hRn : n + 2700 ≤ R.slots) {i0 : Nat} (hi : i0 + 5 ≤ Ls) {mC mM lo lD : Nat} {σ : St} (hI : Inv σ) {ω : Wd} (hL : LH g mC mM lo lD ω σ)
    (kk : ∀ ω' σ', Inv σ' → LH g mC mM lo lD ω' σ' → WP p l e R s m args below meth c g ω0 sz0 Q 9 ω' (k + 670) (n + 2700) 2920 (lwL b mC mM lo lD (nI i0)) []) : WP p l e R s m args below meth c g ω0 sz0 Q 9 ω k n 1018 (lwL b mC mM lo lD (nI i0)) [] := by
  obtain ⟨th, fl, fd, ωc, ωm, ωo, adc, x, adm, y, hRc, hmC, hRm, hmM, -, hgr, rfl, hd1, hd2, hlo, hlD⟩ := hL
  have hM := RepM.f_main hRm
  rw [hmM] at hM
  have hM1 := RepC.f_main hRc
  rw [hmC] at hM1
  refine s_aload_n hC dL_law_1018 rfl rfl 2 rfl ?_
  refine s_aload_n hC dL_law_1019 rfl rfl 1 rfl ?_
  refine s_iload hC dL_law_1020 rfl 0 rfl ?_
  refine s_iconst hC (v := 1) dL_law_1022 rfl (by decide) ?_
  refine s_iadd hC dL_law_1023 rfl ?_
  refine s_sldX hC hX (i0 + 1) (nI_add i0 1) (by omega) dL_law_1024 rfl ?_
  refine s_nz hC (tf := 1032) (tj := 1033) dL_law_1025 dL_law_1028 dL_law_1029 dL_law_1032 rfl rfl ?_
  have ct := CT.frame (ct_X9_foam l g ωc adc x σ hRc (decide (¬ xs (i0 + 1) = 0))) hd1
  rw [hmC] at ct
  refine s_callV hC ct ce_X9_foam cs_X9 (wjn_l hM1) tw_265 rfl rfl ⟨⟨Nat.le_trans (le_b rfl) hRf, Nat.le_trans (le_b rfl) hRl⟩, by omega, by omega⟩ (le_b rfl) dL_law_1033 rfl (fun r w h9 => ?_) (fun E w h9 => h9.choose_spec.1.elim)
  obtain ⟨w1, ⟨-, rfl, ad2, x2, hRc2, hmC2⟩, rfl, hd3⟩ := h9
  refine s_aload_n hC dL_law_1036 rfl rfl 3 rfl ?_
  refine s_aload_n hC dL_law_1037 rfl rfl 1 rfl ?_
  refine s_iload hC dL_law_1038 rfl 0 rfl ?_
  refine s_iconst hC (v := 1) dL_law_1040 rfl (by decide) ?_
  refine s_iadd hC dL_law_1041 rfl ?_
  refine s_sldX hC hX (i0 + 1) (nI_add i0 1) (by omega) dL_law_1042 rfl ?_
  refine s_nz hC (tf := 1050) (tj := 1051) dL_law_1043 dL_law_1046 dL_law_1047 dL_law_1050 rfl rfl ?_
  have ct2 := CT.mid (ct_X11_foam l g ωm adm y σ hRm (decide (¬ xs (i0 + 1) = 0)) hgr) hd3 hd2
  rw [hmM] at ct2
  refine s_callV hC ct2 ce_X11_foam cs_X11 ((wjn_r (djn_at hd3 (wjn_l hM))).trans (wjn_l hM)) tw_1575 rfl rfl ⟨⟨Nat.le_trans (le_b rfl) hRf, Nat.le_trans (le_b rfl) hRl⟩, by omega, by omega⟩ (le_b rfl) dL_law_1051 rfl (fun r w h9 => ?_) (fun E w h9 => h9.choose_spec.1.elim)
  obtain ⟨wm, ⟨v, adm2, y2, rfl, hv3, hRm2, hmM2, hth2, hgr2⟩, rfl, hd5, hd6⟩ := h9
  rw [if_pos rfl] at hRm2 hgr2
  have hv3 := hv3 rfl
  subst hv3
  exact s_icmp_eq hC (tgt := 2920) dL_law_1054 rfl (by decide) (fun _ => WP.widen (by omega) (by omega) (kk _ _ (hI.m_foam _) ⟨_, _, _, w1, wm, ωo, ad2, x2, adm2, y2, hRc2, hmC2.trans hmC, hRm2, hmM2.trans hmM, rfl, hgr2, rfl, hd5, hd6, hlo, hlD⟩)) (fun z => absurd rfl z)
set_option maxHeartbeats 1000000 in
set_option maxRecDepth 100000 in
theorem lc_worn {p : Program} {l : Launch} {e : Env} {R : Room} {s : State} {m : MethodId} {args : Array Value} {below : List Frame} {meth : Method} {c : Code} {g : Gl} {ω0 : Wd} {sz0 : Nat} {Q : State → Prop} {k n : Nat} (hC : Cx p l e R s m args below meth c cL_law 9 "BoringheadLaw" g ω0 sz0) (hst : l.stackTraces = false) (hN : NCs s) {b Ls : Nat} {xs : Nat → Int32} (hX : LX g ω0 sz0 s b Ls xs) (hRf : 60 ≤ R.frames) (hRl : 2000 ≤ R.locals) (hRk : k + 670 ≤ R.cells) (hRn : n + 2700 ≤ R.slots) {i0 : Nat} (hi : i0 + 5 ≤ Ls) {mC mM lo lD : Nat} {σ : St} (hI : Inv σ) {ω : Wd} (hL : LH g mC mM lo lD ω σ)
    (kk : ∀ ω' σ', Inv σ' → LH g mC mM lo lD ω' σ' → WP p l e R s m args below meth c g ω0 sz0 Q 9 ω' (k + 670) (n + 2700) 2920 (lwL b mC mM lo lD (nI i0)) []) : WP p l e R s m args below meth c g ω0 sz0 Q 9 ω k n 1059 (lwL b mC mM lo lD (nI i0)) [] := by
  obtain ⟨th, fl, fd, ωc, ωm, ωo, adc, x, adm, y, hRc, hmC, hRm, hmM, -, hgr, rfl, hd1, hd2, hlo, hlD⟩ := hL
  have hM := RepM.f_main hRm
  rw [hmM] at hM
  refine s_aload_n hC dL_law_1059 rfl rfl 2 rfl ?_
  refine s_aload_n hC dL_law_1060 rfl rfl 1 rfl ?_
  refine s_iload hC dL_law_1061 rfl 0 rfl ?_
  refine s_iconst hC (v := 1) dL_law_1063 rfl (by decide) ?_
  refine s_iadd hC dL_law_1064 rfl ?_
  refine s_sldX hC hX (i0 + 1) (nI_add i0 1) (by omega) dL_law_1065 rfl ?_
  refine s_aload_n hC dL_law_1066 rfl rfl 4 rfl ?_
  have ct := ct_L_worn l g hst ωc (wjn ωm ωo) hd1 adc x σ hRc (xs (i0 + 1)) lo 1 fl ((wjn_r (djn_at hd2 hlo)).trans hlo) (by decide) (by decide)
  rw [hmC] at ct
  refine s_callSX hC hN ct ce_L_worn tw_752 rfl rfl ⟨⟨Nat.le_trans (le_b rfl) hRf, Nat.le_trans (le_b rfl) hRl⟩, by omega, by omega⟩ (le_b rfl) dL_law_1067 rfl (fun r w h9 => ?_)
  obtain ⟨w1, w2, ad2, x2, rfl, hRc2, hmC2, rfl, hd3, hw2⟩ := h9
  obtain ⟨ωo2, f2, rfl, hd4, hlo2, hlD2, hv2⟩ := out_L hd2 hlo hlD hd3 hw2
  refine s_istore hC (L' := [(6, _), (5, _), (0, _), (1, _), (2, _), (3, _), (4, _)]) dL_law_1070 rfl (le_b rfl) rfl ?_
  refine s_aload_n hC dL_law_1072 rfl rfl 4 rfl ?_
  refine s_aload_n hC dL_law_1073 rfl rfl 2 rfl ?_
  refine s_iload hC dL_law_1074 rfl 1 rfl ?_
  refine s_iconst hC (v := 1) dL_law_1076 rfl (by decide) ?_
  refine s_iadd hC dL_law_1077 rfl ?_
  refine s_sldX hC hX (i0 + 1) (nI_add i0 1) (by omega) dL_law_1078 rfl ?_
  have ct2 := CT.mid (ct_X11_worn l g ωm adm y σ hRm (xs (i0 + 1)) hgr) hd3 hd4
  rw [hmM] at ct2
  refine s_callV hC ct2 ce_X11_worn cs_X11 ((wjn_r (djn_at hd3 (wjn_l hM))).trans (wjn_l hM)) tw_1579 rfl rfl ⟨⟨Nat.le_trans (le_b rfl) hRf, Nat.le_trans (le_b rfl) hRl⟩, by omega, by omega⟩ (le_b rfl) dL_law_1079 rfl (fun r w h9 => ?_) (fun E w h9 => h9.choose_spec.1.elim)
  obtain ⟨wm, ⟨v, adm2, y2, rfl, hv3, hRm2, hmM2, hth2, hgr2⟩, rfl, hd5, hd6⟩ := h9
  have hcd : (cd_worn σ (xs (i0 + 1))) < 2 ^ 31 := by
    unfold cd_worn
    (repeat' split) <;> decide
  have hI2 : Inv (if (cd_worn σ (xs (i0 + 1))) = 0 then σ else σ) := inv_if hI (fun z => hI)
  exact lw_tail hC (k := k + 670) (n := n + 2700) hRf hRl (by omega) (by omega) hRk hRn hcd hI2 ⟨w1, wm, ωo2, ad2, x2, adm2, y2, hRc2, hmC2.trans hmC, hRm2, hmM2.trans hmM, hth2, hgr2, rfl, hd5, hd6, hlo2, hlD2⟩ (fun z => ⟨hv2 z, hv3 z⟩) (t1 := 1095) (t2 := 1112) rfl rfl (by decide) dL_law_1082 dL_law_1084 dL_law_1085 dL_law_1088 dL_law_1090 dL_law_1095 dL_law_1097 dL_law_1100 dL_law_1101 dL_law_1102 dL_law_1103 dL_law_1105 dL_law_1106 dL_law_1107 dL_law_1112 kk
set_option maxHeartbeats 1000000 in
set_option maxRecDepth 100000 in
theorem lc_change {p : Program} {l : Launch} {e : Env} {R : Room} {s : State} {m : MethodId} {args : Array Value} {below : List Frame} {meth : Method} {c : Code} {g : Gl} {ω0 : Wd} {sz0 : Nat} {Q : State → Prop} {k n : Nat} (hC : Cx p l e R s m args below meth c cL_law 9 "BoringheadLaw" g ω0 sz0) (hst : l.stackTraces = false) (hN : NCs s) {b Ls : Nat} {xs : Nat → Int32} (hX : LX g ω0 sz0 s b Ls xs) (hRf : 60 ≤ R.frames) (hRl : 2000 ≤ R.locals) (hRk : k + 670 ≤ R.cells) (hRn : n + 2700 ≤ R.slots) {i0 : Nat} (hi : i0 + 5 ≤ Ls) {mC mM lo lD : Nat} {σ : St} (hI : Inv σ) {ω : Wd} (hL : LH g mC mM lo lD ω σ)
    (kk : ∀ ω' σ', Inv σ' → LH g mC mM lo lD ω' σ' → WP p l e R s m args below meth c g ω0 sz0 Q 9 ω' (k + 670) (n + 2700) 2920 (lwL b mC mM lo lD (nI i0)) []) : WP p l e R s m args below meth c g ω0 sz0 Q 9 ω k n 1115 (lwL b mC mM lo lD (nI i0)) [] := by
  obtain ⟨th, fl, fd, ωc, ωm, ωo, adc, x, adm, y, hRc, hmC, hRm, hmM, -, hgr, rfl, hd1, hd2, hlo, hlD⟩ := hL
  have hM := RepM.f_main hRm
  rw [hmM] at hM
  refine s_aload_n hC dL_law_1115 rfl rfl 2 rfl ?_
  refine s_aload_n hC dL_law_1116 rfl rfl 1 rfl ?_
  refine s_iload hC dL_law_1117 rfl 0 rfl ?_
  refine s_iconst hC (v := 1) dL_law_1119 rfl (by decide) ?_
  refine s_iadd hC dL_law_1120 rfl ?_
  refine s_sldX hC hX (i0 + 1) (nI_add i0 1) (by omega) dL_law_1121 rfl ?_
  refine s_aload_n hC dL_law_1122 rfl rfl 4 rfl ?_
  have ct := ct_L_change l g hst ωc (wjn ωm ωo) hd1 adc x σ hRc (xs (i0 + 1)) lo 1 fl ((wjn_r (djn_at hd2 hlo)).trans hlo) (by decide) (by decide)
  rw [hmC] at ct
  refine s_callSX hC hN ct ce_L_change tw_796 rfl rfl ⟨⟨Nat.le_trans (le_b rfl) hRf, Nat.le_trans (le_b rfl) hRl⟩, by omega, by omega⟩ (le_b rfl) dL_law_1123 rfl (fun r w h9 => ?_)
  obtain ⟨w1, w2, ad2, x2, rfl, hRc2, hmC2, rfl, hd3, hw2⟩ := h9
  obtain ⟨ωo2, f2, rfl, hd4, hlo2, hlD2, hv2⟩ := out_L hd2 hlo hlD hd3 hw2
  refine s_istore hC (L' := [(6, _), (5, _), (0, _), (1, _), (2, _), (3, _), (4, _)]) dL_law_1126 rfl (le_b rfl) rfl ?_
  refine s_aload_n hC dL_law_1128 rfl rfl 4 rfl ?_
  refine s_aload_n hC dL_law_1129 rfl rfl 2 rfl ?_
  refine s_iload hC dL_law_1130 rfl 1 rfl ?_
  refine s_iconst hC (v := 1) dL_law_1132 rfl (by decide) ?_
  refine s_iadd hC dL_law_1133 rfl ?_
  refine s_sldX hC hX (i0 + 1) (nI_add i0 1) (by omega) dL_law_1134 rfl ?_
  have ct2 := CT.mid (ct_X11_change l g ωm adm y σ hRm (xs (i0 + 1)) hgr hI.x_nOK) hd3 hd4
  rw [hmM] at ct2
  refine s_callV hC ct2 ce_X11_change cs_X11 ((wjn_r (djn_at hd3 (wjn_l hM))).trans (wjn_l hM)) tw_1584 rfl rfl ⟨⟨Nat.le_trans (le_b rfl) hRf, Nat.le_trans (le_b rfl) hRl⟩, by omega, by omega⟩ (le_b rfl) dL_law_1135 rfl (fun r w h9 => ?_) (fun E w h9 => h9.choose_spec.1.elim)
  obtain ⟨wm, ⟨v, adm2, y2, rfl, hv3, hRm2, hmM2, hth2, hgr2⟩, rfl, hd5, hd6⟩ := h9
  have hRm2 := chg_m hRm2
  have hgr2 := chg_g hgr2
  have hcd : (cd_change σ (xs (i0 + 1))) < 2 ^ 31 := by
    unfold cd_change
    (repeat' split) <;> decide
  have hI2 : Inv (if (cd_change σ (xs (i0 + 1))) = 0 then nx_change σ (xs (i0 + 1)) else σ) := inv_if hI (fun z => hI.m_change z)
  exact lw_tail hC (k := k + 670) (n := n + 2700) hRf hRl (by omega) (by omega) hRk hRn hcd hI2 ⟨w1, wm, ωo2, ad2, x2, adm2, y2, hRc2, hmC2.trans hmC, hRm2, hmM2.trans hmM, hth2, hgr2, rfl, hd5, hd6, hlo2, hlD2⟩ (fun z => ⟨hv2 z, hv3 z⟩) (t1 := 1151) (t2 := 1168) rfl rfl (by decide) dL_law_1138 dL_law_1140 dL_law_1141 dL_law_1144 dL_law_1146 dL_law_1151 dL_law_1153 dL_law_1156 dL_law_1157 dL_law_1158 dL_law_1159 dL_law_1161 dL_law_1162 dL_law_1163 dL_law_1168 kk
set_option maxHeartbeats 1000000 in
set_option maxRecDepth 100000 in
theorem lc_steer {p : Program} {l : Launch} {e : Env} {R : Room} {s : State} {m : MethodId} {args : Array Value} {below : List Frame} {meth : Method} {c : Code} {g : Gl} {ω0 : Wd} {sz0 : Nat} {Q : State → Prop} {k n : Nat} (hC : Cx p l e R s m args below meth c cL_law 9 "BoringheadLaw" g ω0 sz0) (hst : l.stackTraces = false) (hN : NCs s) {b Ls : Nat} {xs : Nat → Int32} (hX : LX g ω0 sz0 s b Ls xs) (hRf : 60 ≤ R.frames) (hRl : 2000 ≤ R.locals) (hRk : k + 670 ≤ R.cells) (hRn : n + 2700 ≤ R.slots) {i0 : Nat} (hi : i0 + 5 ≤ Ls) {mC mM lo lD : Nat} {σ : St} (hI : Inv σ) {ω : Wd} (hL : LH g mC mM lo lD ω σ)
    (kk : ∀ ω' σ', Inv σ' → LH g mC mM lo lD ω' σ' → WP p l e R s m args below meth c g ω0 sz0 Q 9 ω' (k + 670) (n + 2700) 2920 (lwL b mC mM lo lD (nI i0)) []) : WP p l e R s m args below meth c g ω0 sz0 Q 9 ω k n 1171 (lwL b mC mM lo lD (nI i0)) [] := by
  obtain ⟨th, fl, fd, ωc, ωm, ωo, adc, x, adm, y, hRc, hmC, hRm, hmM, -, hgr, rfl, hd1, hd2, hlo, hlD⟩ := hL
  have hM := RepM.f_main hRm
  rw [hmM] at hM
  refine s_aload_n hC dL_law_1171 rfl rfl 2 rfl ?_
  refine s_aload_n hC dL_law_1172 rfl rfl 1 rfl ?_
  refine s_iload hC dL_law_1173 rfl 0 rfl ?_
  refine s_iconst hC (v := 1) dL_law_1175 rfl (by decide) ?_
  refine s_iadd hC dL_law_1176 rfl ?_
  refine s_sldX hC hX (i0 + 1) (nI_add i0 1) (by omega) dL_law_1177 rfl ?_
  refine s_aload_n hC dL_law_1178 rfl rfl 1 rfl ?_
  refine s_iload hC dL_law_1179 rfl 0 rfl ?_
  refine s_iconst hC (v := 2) dL_law_1181 rfl (by decide) ?_
  refine s_iadd hC dL_law_1182 rfl ?_
  refine s_sldX hC hX (i0 + 2) (nI_add i0 2) (by omega) dL_law_1183 rfl ?_
  refine s_aload_n hC dL_law_1184 rfl rfl 4 rfl ?_
  have ct := ct_L_steer l g hst ωc (wjn ωm ωo) hd1 adc x σ hRc (xs (i0 + 1)) (xs (i0 + 2)) lo 1 fl ((wjn_r (djn_at hd2 hlo)).trans hlo) (by decide) (by decide)
  rw [hmC] at ct
  refine s_callSX hC hN ct ce_L_steer tw_816 rfl rfl ⟨⟨Nat.le_trans (le_b rfl) hRf, Nat.le_trans (le_b rfl) hRl⟩, by omega, by omega⟩ (le_b rfl) dL_law_1185 rfl (fun r w h9 => ?_)
  obtain ⟨w1, w2, ad2, x2, rfl, hRc2, hmC2, rfl, hd3, hw2⟩ := h9
  obtain ⟨ωo2, f2, rfl, hd4, hlo2, hlD2, hv2⟩ := out_L hd2 hlo hlD hd3 hw2
  refine s_istore hC (L' := [(6, _), (5, _), (0, _), (1, _), (2, _), (3, _), (4, _)]) dL_law_1188 rfl (le_b rfl) rfl ?_
  refine s_aload_n hC dL_law_1190 rfl rfl 4 rfl ?_
  refine s_aload_n hC dL_law_1191 rfl rfl 2 rfl ?_
  refine s_iload hC dL_law_1192 rfl 1 rfl ?_
  refine s_iconst hC (v := 1) dL_law_1194 rfl (by decide) ?_
  refine s_iadd hC dL_law_1195 rfl ?_
  refine s_sldX hC hX (i0 + 1) (nI_add i0 1) (by omega) dL_law_1196 rfl ?_
  refine s_aload_n hC dL_law_1197 rfl rfl 2 rfl ?_
  refine s_iload hC dL_law_1198 rfl 1 rfl ?_
  refine s_iconst hC (v := 2) dL_law_1200 rfl (by decide) ?_
  refine s_iadd hC dL_law_1201 rfl ?_
  refine s_sldX hC hX (i0 + 2) (nI_add i0 2) (by omega) dL_law_1202 rfl ?_
  have ct2 := CT.mid (ct_X11_steer l g ωm adm y σ hRm (xs (i0 + 1)) (xs (i0 + 2)) hgr) hd3 hd4
  rw [hmM] at ct2
  refine s_callV hC ct2 ce_X11_steer cs_X11 ((wjn_r (djn_at hd3 (wjn_l hM))).trans (wjn_l hM)) tw_1589 rfl rfl ⟨⟨Nat.le_trans (le_b rfl) hRf, Nat.le_trans (le_b rfl) hRl⟩, by omega, by omega⟩ (le_b rfl) dL_law_1203 rfl (fun r w h9 => ?_) (fun E w h9 => h9.choose_spec.1.elim)
  obtain ⟨wm, ⟨v, adm2, y2, rfl, hv3, hRm2, hmM2, hth2, hgr2⟩, rfl, hd5, hd6⟩ := h9
  have hcd : (cd_steer σ (xs (i0 + 1)) (xs (i0 + 2))) < 2 ^ 31 := by
    unfold cd_steer
    (repeat' split) <;> decide
  have hI2 : Inv (if (cd_steer σ (xs (i0 + 1)) (xs (i0 + 2))) = 0 then nx_steer σ (xs (i0 + 1)) (xs (i0 + 2)) else σ) := inv_if hI (fun z => hI.m_steer z)
  exact lw_tail hC (k := k + 670) (n := n + 2700) hRf hRl (by omega) (by omega) hRk hRn hcd hI2 ⟨w1, wm, ωo2, ad2, x2, adm2, y2, hRc2, hmC2.trans hmC, hRm2, hmM2.trans hmM, hth2, hgr2, rfl, hd5, hd6, hlo2, hlD2⟩ (fun z => ⟨hv2 z, hv3 z⟩) (t1 := 1219) (t2 := 1236) rfl rfl (by decide) dL_law_1206 dL_law_1208 dL_law_1209 dL_law_1212 dL_law_1214 dL_law_1219 dL_law_1221 dL_law_1224 dL_law_1225 dL_law_1226 dL_law_1227 dL_law_1229 dL_law_1230 dL_law_1231 dL_law_1236 kk
set_option maxHeartbeats 1000000 in
set_option maxRecDepth 100000 in
theorem lc_bars {p : Program} {l : Launch} {e : Env} {R : Room} {s : State} {m : MethodId} {args : Array Value} {below : List Frame} {meth : Method} {c : Code} {g : Gl} {ω0 : Wd} {sz0 : Nat} {Q : State → Prop} {k n : Nat} (hC : Cx p l e R s m args below meth c cL_law 9 "BoringheadLaw" g ω0 sz0) (hst : l.stackTraces = false) (hN : NCs s) {b Ls : Nat} {xs : Nat → Int32} (hX : LX g ω0 sz0 s b Ls xs) (hRf : 60 ≤ R.frames) (hRl : 2000 ≤ R.locals) (hRk : k + 670 ≤ R.cells) (hRn : n + 2700 ≤ R.slots) {i0 : Nat} (hi : i0 + 5 ≤ Ls) {mC mM lo lD : Nat} {σ : St} (hI : Inv σ) {ω : Wd} (hL : LH g mC mM lo lD ω σ)
    (kk : ∀ ω' σ', Inv σ' → LH g mC mM lo lD ω' σ' → WP p l e R s m args below meth c g ω0 sz0 Q 9 ω' (k + 670) (n + 2700) 2920 (lwL b mC mM lo lD (nI i0)) []) : WP p l e R s m args below meth c g ω0 sz0 Q 9 ω k n 1239 (lwL b mC mM lo lD (nI i0)) [] := by
  obtain ⟨th, fl, fd, ωc, ωm, ωo, adc, x, adm, y, hRc, hmC, hRm, hmM, -, hgr, rfl, hd1, hd2, hlo, hlD⟩ := hL
  have hM := RepM.f_main hRm
  rw [hmM] at hM
  refine s_aload_n hC dL_law_1239 rfl rfl 2 rfl ?_
  refine s_aload_n hC dL_law_1240 rfl rfl 1 rfl ?_
  refine s_iload hC dL_law_1241 rfl 0 rfl ?_
  refine s_iconst hC (v := 1) dL_law_1243 rfl (by decide) ?_
  refine s_iadd hC dL_law_1244 rfl ?_
  refine s_sldX hC hX (i0 + 1) (nI_add i0 1) (by omega) dL_law_1245 rfl ?_
  refine s_aload_n hC dL_law_1246 rfl rfl 4 rfl ?_
  have ct := ct_L_bars l g hst ωc (wjn ωm ωo) hd1 adc x σ hRc (xs (i0 + 1)) lo 1 fl ((wjn_r (djn_at hd2 hlo)).trans hlo) (by decide) (by decide)
  rw [hmC] at ct
  refine s_callSX hC hN ct ce_L_bars tw_824 rfl rfl ⟨⟨Nat.le_trans (le_b rfl) hRf, Nat.le_trans (le_b rfl) hRl⟩, by omega, by omega⟩ (le_b rfl) dL_law_1247 rfl (fun r w h9 => ?_)
  obtain ⟨w1, w2, ad2, x2, rfl, hRc2, hmC2, rfl, hd3, hw2⟩ := h9
  obtain ⟨ωo2, f2, rfl, hd4, hlo2, hlD2, hv2⟩ := out_L hd2 hlo hlD hd3 hw2
  refine s_istore hC (L' := [(6, _), (5, _), (0, _), (1, _), (2, _), (3, _), (4, _)]) dL_law_1250 rfl (le_b rfl) rfl ?_
  refine s_aload_n hC dL_law_1252 rfl rfl 4 rfl ?_
  refine s_aload_n hC dL_law_1253 rfl rfl 2 rfl ?_
  refine s_iload hC dL_law_1254 rfl 1 rfl ?_
  refine s_iconst hC (v := 1) dL_law_1256 rfl (by decide) ?_
  refine s_iadd hC dL_law_1257 rfl ?_
  refine s_sldX hC hX (i0 + 1) (nI_add i0 1) (by omega) dL_law_1258 rfl ?_
  have ct2 := CT.mid (ct_X11_bars l g ωm adm y σ hRm (xs (i0 + 1)) hgr hI.x_kIn hI.x_nOK hI.x_hIn hI.x_hLe hI.x_seg) hd3 hd4
  rw [hmM] at ct2
  refine s_callV hC ct2 ce_X11_bars cs_X11 ((wjn_r (djn_at hd3 (wjn_l hM))).trans (wjn_l hM)) tw_1595 rfl rfl ⟨⟨Nat.le_trans (le_b rfl) hRf, Nat.le_trans (le_b rfl) hRl⟩, by omega, by omega⟩ (le_b rfl) dL_law_1259 rfl (fun r w h9 => ?_) (fun E w h9 => h9.choose_spec.1.elim)
  obtain ⟨wm, ⟨v, adm2, y2, rfl, hv3, hRm2, hmM2, hth2, hgr2⟩, rfl, hd5, hd6⟩ := h9
  have hcd : (cd_bars σ (xs (i0 + 1))) < 2 ^ 31 := by
    unfold cd_bars
    (repeat' split) <;> decide
  have hI2 : Inv (if (cd_bars σ (xs (i0 + 1))) = 0 then σ else σ) := inv_if hI (fun z => hI)
  exact lw_tail hC (k := k + 670) (n := n + 2700) hRf hRl (by omega) (by omega) hRk hRn hcd hI2 ⟨w1, wm, ωo2, ad2, x2, adm2, y2, hRc2, hmC2.trans hmC, hRm2, hmM2.trans hmM, hth2, hgr2, rfl, hd5, hd6, hlo2, hlD2⟩ (fun z => ⟨hv2 z, hv3 z⟩) (t1 := 1275) (t2 := 1292) rfl rfl (by decide) dL_law_1262 dL_law_1264 dL_law_1265 dL_law_1268 dL_law_1270 dL_law_1275 dL_law_1277 dL_law_1280 dL_law_1281 dL_law_1282 dL_law_1283 dL_law_1285 dL_law_1286 dL_law_1287 dL_law_1292 kk
set_option maxHeartbeats 1000000 in
set_option maxRecDepth 100000 in
theorem lc_advance {p : Program} {l : Launch} {e : Env} {R : Room} {s : State} {m : MethodId} {args : Array Value} {below : List Frame} {meth : Method} {c : Code} {g : Gl} {ω0 : Wd} {sz0 : Nat} {Q : State → Prop} {k n : Nat} (hC : Cx p l e R s m args below meth c cL_law 9 "BoringheadLaw" g ω0 sz0) (hst : l.stackTraces = false) (hN : NCs s) {b Ls : Nat} {xs : Nat → Int32} (hX : LX g ω0 sz0 s b Ls xs) (hRf : 60 ≤ R.frames) (hRl : 2000 ≤ R.locals) (hRk : k + 670 ≤ R.cells) (hRn : n + 2700 ≤ R.slots) {i0 : Nat} (hi : i0 + 5 ≤ Ls) {mC mM lo lD : Nat} {σ : St} (hI : Inv σ) {ω : Wd} (hL : LH g mC mM lo lD ω σ)
    (kk : ∀ ω' σ', Inv σ' → LH g mC mM lo lD ω' σ' → WP p l e R s m args below meth c g ω0 sz0 Q 9 ω' (k + 670) (n + 2700) 2920 (lwL b mC mM lo lD (nI i0)) []) : WP p l e R s m args below meth c g ω0 sz0 Q 9 ω k n 1295 (lwL b mC mM lo lD (nI i0)) [] := by
  obtain ⟨th, fl, fd, ωc, ωm, ωo, adc, x, adm, y, hRc, hmC, hRm, hmM, -, hgr, rfl, hd1, hd2, hlo, hlD⟩ := hL
  have hM := RepM.f_main hRm
  rw [hmM] at hM
  refine s_aload_n hC dL_law_1295 rfl rfl 2 rfl ?_
  refine s_aload_n hC dL_law_1296 rfl rfl 1 rfl ?_
  refine s_iload hC dL_law_1297 rfl 0 rfl ?_
  refine s_iconst hC (v := 1) dL_law_1299 rfl (by decide) ?_
  refine s_iadd hC dL_law_1300 rfl ?_
  refine s_sldX hC hX (i0 + 1) (nI_add i0 1) (by omega) dL_law_1301 rfl ?_
  refine s_aload_n hC dL_law_1302 rfl rfl 4 rfl ?_
  have ct := ct_L_advance l g hst ωc (wjn ωm ωo) hd1 adc x σ hRc (xs (i0 + 1)) lo 1 fl ((wjn_r (djn_at hd2 hlo)).trans hlo) (by decide) (by decide)
  rw [hmC] at ct
  refine s_callSX hC hN ct ce_L_advance tw_862 rfl rfl ⟨⟨Nat.le_trans (le_b rfl) hRf, Nat.le_trans (le_b rfl) hRl⟩, by omega, by omega⟩ (le_b rfl) dL_law_1303 rfl (fun r w h9 => ?_)
  obtain ⟨w1, w2, ad2, x2, rfl, hRc2, hmC2, rfl, hd3, hw2⟩ := h9
  obtain ⟨ωo2, f2, rfl, hd4, hlo2, hlD2, hv2⟩ := out_L hd2 hlo hlD hd3 hw2
  refine s_istore hC (L' := [(6, _), (5, _), (0, _), (1, _), (2, _), (3, _), (4, _)]) dL_law_1306 rfl (le_b rfl) rfl ?_
  refine s_aload_n hC dL_law_1308 rfl rfl 4 rfl ?_
  refine s_aload_n hC dL_law_1309 rfl rfl 2 rfl ?_
  refine s_iload hC dL_law_1310 rfl 1 rfl ?_
  refine s_iconst hC (v := 1) dL_law_1312 rfl (by decide) ?_
  refine s_iadd hC dL_law_1313 rfl ?_
  refine s_sldX hC hX (i0 + 1) (nI_add i0 1) (by omega) dL_law_1314 rfl ?_
  have ct2 := CT.mid (ct_X11_advance l g ωm adm y σ hRm (xs (i0 + 1)) hgr hI.x_kIn hI.x_nOK hI.x_hIn hI.x_hLe hI.x_seg hI.x_snd1) hd3 hd4
  rw [hmM] at ct2
  refine s_callV hC ct2 ce_X11_advance cs_X11 ((wjn_r (djn_at hd3 (wjn_l hM))).trans (wjn_l hM)) tw_1620 rfl rfl ⟨⟨Nat.le_trans (le_b rfl) hRf, Nat.le_trans (le_b rfl) hRl⟩, by omega, by omega⟩ (le_b rfl) dL_law_1315 rfl (fun r w h9 => ?_) (fun E w h9 => h9.choose_spec.1.elim)
  obtain ⟨wm, ⟨v, adm2, y2, rfl, hv3, hRm2, hmM2, hth2, hgr2⟩, rfl, hd5, hd6⟩ := h9
  have hcd : (cd_advance σ (xs (i0 + 1))) < 2 ^ 31 := by
    unfold cd_advance
    (repeat' split) <;> decide
  have hI2 : Inv (if (cd_advance σ (xs (i0 + 1))) = 0 then nx_advance σ (xs (i0 + 1)) else σ) := inv_if hI (fun z => hI.m_advance z)
  exact lw_tail hC (k := k + 670) (n := n + 2700) hRf hRl (by omega) (by omega) hRk hRn hcd hI2 ⟨w1, wm, ωo2, ad2, x2, adm2, y2, hRc2, hmC2.trans hmC, hRm2, hmM2.trans hmM, hth2, hgr2, rfl, hd5, hd6, hlo2, hlD2⟩ (fun z => ⟨hv2 z, hv3 z⟩) (t1 := 1331) (t2 := 1348) rfl rfl (by decide) dL_law_1318 dL_law_1320 dL_law_1321 dL_law_1324 dL_law_1326 dL_law_1331 dL_law_1333 dL_law_1336 dL_law_1337 dL_law_1338 dL_law_1339 dL_law_1341 dL_law_1342 dL_law_1343 dL_law_1348 kk
set_option maxHeartbeats 1000000 in
set_option maxRecDepth 100000 in
theorem lc_rings {p : Program} {l : Launch} {e : Env} {R : Room} {s : State} {m : MethodId} {args : Array Value} {below : List Frame} {meth : Method} {c : Code} {g : Gl} {ω0 : Wd} {sz0 : Nat} {Q : State → Prop} {k n : Nat} (hC : Cx p l e R s m args below meth c cL_law 9 "BoringheadLaw" g ω0 sz0) (hst : l.stackTraces = false) (hN : NCs s) {b Ls : Nat} {xs : Nat → Int32} (hX : LX g ω0 sz0 s b Ls xs) (hRf : 60 ≤ R.frames) (hRl : 2000 ≤ R.locals) (hRk : k + 670 ≤ R.cells) (hRn : n + 2700 ≤ R.slots) {i0 : Nat} (hi : i0 + 5 ≤ Ls) {mC mM lo lD : Nat} {σ : St} (hI : Inv σ) {ω : Wd} (hL : LH g mC mM lo lD ω σ)
    (kk : ∀ ω' σ', Inv σ' → LH g mC mM lo lD ω' σ' → WP p l e R s m args below meth c g ω0 sz0 Q 9 ω' (k + 670) (n + 2700) 2920 (lwL b mC mM lo lD (nI i0)) []) : WP p l e R s m args below meth c g ω0 sz0 Q 9 ω k n 1351 (lwL b mC mM lo lD (nI i0)) [] := by
  obtain ⟨th, fl, fd, ωc, ωm, ωo, adc, x, adm, y, hRc, hmC, hRm, hmM, -, hgr, rfl, hd1, hd2, hlo, hlD⟩ := hL
  have hM := RepM.f_main hRm
  rw [hmM] at hM
  have hM1 := RepC.f_main hRc
  rw [hmC] at hM1
  refine s_aload_n hC dL_law_1351 rfl rfl 2 rfl ?_
  have ct := CT.frame (ct_X9_rings l g ωc adc x σ hRc) hd1
  rw [hmC] at ct
  refine s_callV hC ct ce_X9_rings cs_X9 (wjn_l hM1) tw_269 rfl rfl ⟨⟨Nat.le_trans (le_b rfl) hRf, Nat.le_trans (le_b rfl) hRl⟩, by omega, by omega⟩ (le_b rfl) dL_law_1352 rfl (fun r w h9 => ?_) (fun E w h9 => h9.choose_spec.1.elim)
  obtain ⟨w1, ⟨-, rfl, ad2, x2, hRc2, hmC2⟩, rfl, hd3⟩ := h9
  refine s_aload_n hC dL_law_1355 rfl rfl 3 rfl ?_
  have ct2 := CT.mid (ct_X11_rings l g ωm adm y σ hRm hgr) hd3 hd2
  rw [hmM] at ct2
  refine s_callV hC ct2 ce_X11_rings cs_X11 ((wjn_r (djn_at hd3 (wjn_l hM))).trans (wjn_l hM)) tw_1667 rfl rfl ⟨⟨Nat.le_trans (le_b rfl) hRf, Nat.le_trans (le_b rfl) hRl⟩, by omega, by omega⟩ (le_b rfl) dL_law_1356 rfl (fun r w h9 => ?_) (fun E w h9 => h9.choose_spec.1.elim)
  obtain ⟨wm, ⟨v, adm2, y2, rfl, hv3, hRm2, hmM2, hth2, hgr2⟩, rfl, hd5, hd6⟩ := h9
  rw [if_pos rfl] at hRm2 hgr2
  have hv3 := hv3 rfl
  subst hv3
  exact s_icmp_eq hC (tgt := 2920) dL_law_1359 rfl (by decide) (fun _ => WP.widen (by omega) (by omega) (kk _ _ (hI) ⟨_, _, _, w1, wm, ωo, ad2, x2, adm2, y2, hRc2, hmC2.trans hmC, hRm2, hmM2.trans hmM, rfl, hgr2, rfl, hd5, hd6, hlo, hlD⟩)) (fun z => absurd rfl z)
set_option maxHeartbeats 1000000 in
set_option maxRecDepth 100000 in
theorem lc_off {p : Program} {l : Launch} {e : Env} {R : Room} {s : State} {m : MethodId} {args : Array Value} {below : List Frame} {meth : Method} {c : Code} {g : Gl} {ω0 : Wd} {sz0 : Nat} {Q : State → Prop} {k n : Nat} (hC : Cx p l e R s m args below meth c cL_law 9 "BoringheadLaw" g ω0 sz0) (hst : l.stackTraces = false) (hN : NCs s) {b Ls : Nat} {xs : Nat → Int32} (hX : LX g ω0 sz0 s b Ls xs) (hRf : 60 ≤ R.frames) (hRl : 2000 ≤ R.locals) (hRk : k + 670 ≤ R.cells) (hRn : n + 2700 ≤ R.slots) {i0 : Nat} (hi : i0 + 5 ≤ Ls) {mC mM lo lD : Nat} {σ : St} (hI : Inv σ) {ω : Wd} (hL : LH g mC mM lo lD ω σ)
    (kk : ∀ ω' σ', Inv σ' → LH g mC mM lo lD ω' σ' → WP p l e R s m args below meth c g ω0 sz0 Q 9 ω' (k + 670) (n + 2700) 2920 (lwL b mC mM lo lD (nI i0)) []) : WP p l e R s m args below meth c g ω0 sz0 Q 9 ω k n 1364 (lwL b mC mM lo lD (nI i0)) [] := by
  obtain ⟨th, fl, fd, ωc, ωm, ωo, adc, x, adm, y, hRc, hmC, hRm, hmM, -, hgr, rfl, hd1, hd2, hlo, hlD⟩ := hL
  have hM := RepM.f_main hRm
  rw [hmM] at hM
  refine s_aload_n hC dL_law_1364 rfl rfl 2 rfl ?_
  refine s_aload_n hC dL_law_1365 rfl rfl 1 rfl ?_
  refine s_iload hC dL_law_1366 rfl 0 rfl ?_
  refine s_iconst hC (v := 1) dL_law_1368 rfl (by decide) ?_
  refine s_iadd hC dL_law_1369 rfl ?_
  refine s_sldX hC hX (i0 + 1) (nI_add i0 1) (by omega) dL_law_1370 rfl ?_
  refine s_aload_n hC dL_law_1371 rfl rfl 1 rfl ?_
  refine s_iload hC dL_law_1372 rfl 0 rfl ?_
  refine s_iconst hC (v := 2) dL_law_1374 rfl (by decide) ?_
  refine s_iadd hC dL_law_1375 rfl ?_
  refine s_sldX hC hX (i0 + 2) (nI_add i0 2) (by omega) dL_law_1376 rfl ?_
  refine s_nz hC (tf := 1384) (tj := 1385) dL_law_1377 dL_law_1380 dL_law_1381 dL_law_1384 rfl rfl ?_
  refine s_aload_n hC dL_law_1385 rfl rfl 4 rfl ?_
  have ct := ct_L_off l g hst ωc (wjn ωm ωo) hd1 adc x σ hRc (xs (i0 + 1)) (decide (¬ xs (i0 + 2) = 0)) lo 1 fl ((wjn_r (djn_at hd2 hlo)).trans hlo) (by decide) (by decide)
  rw [hmC] at ct
  refine s_callSX hC hN ct ce_L_off tw_949 rfl rfl ⟨⟨Nat.le_trans (le_b rfl) hRf, Nat.le_trans (le_b rfl) hRl⟩, by omega, by omega⟩ (le_b rfl) dL_law_1386 rfl (fun r w h9 => ?_)
  obtain ⟨w1, w2, ad2, x2, rfl, hRc2, hmC2, rfl, hd3, hw2⟩ := h9
  obtain ⟨ωo2, f2, rfl, hd4, hlo2, hlD2, hv2⟩ := out_L hd2 hlo hlD hd3 hw2
  refine s_istore hC (L' := [(6, _), (5, _), (0, _), (1, _), (2, _), (3, _), (4, _)]) dL_law_1389 rfl (le_b rfl) rfl ?_
  refine s_aload_n hC dL_law_1391 rfl rfl 4 rfl ?_
  refine s_aload_n hC dL_law_1392 rfl rfl 2 rfl ?_
  refine s_iload hC dL_law_1393 rfl 1 rfl ?_
  refine s_iconst hC (v := 1) dL_law_1395 rfl (by decide) ?_
  refine s_iadd hC dL_law_1396 rfl ?_
  refine s_sldX hC hX (i0 + 1) (nI_add i0 1) (by omega) dL_law_1397 rfl ?_
  refine s_aload_n hC dL_law_1398 rfl rfl 2 rfl ?_
  refine s_iload hC dL_law_1399 rfl 1 rfl ?_
  refine s_iconst hC (v := 2) dL_law_1401 rfl (by decide) ?_
  refine s_iadd hC dL_law_1402 rfl ?_
  refine s_sldX hC hX (i0 + 2) (nI_add i0 2) (by omega) dL_law_1403 rfl ?_
  refine s_nz hC (tf := 1411) (tj := 1412) dL_law_1404 dL_law_1407 dL_law_1408 dL_law_1411 rfl rfl ?_
  have ct2 := CT.mid (ct_X11_off l g ωm adm y σ hRm (xs (i0 + 1)) (decide (¬ xs (i0 + 2) = 0)) hgr) hd3 hd4
  rw [hmM] at ct2
  refine s_callV hC ct2 ce_X11_off cs_X11 ((wjn_r (djn_at hd3 (wjn_l hM))).trans (wjn_l hM)) tw_1671 rfl rfl ⟨⟨Nat.le_trans (le_b rfl) hRf, Nat.le_trans (le_b rfl) hRl⟩, by omega, by omega⟩ (le_b rfl) dL_law_1412 rfl (fun r w h9 => ?_) (fun E w h9 => h9.choose_spec.1.elim)
  obtain ⟨wm, ⟨v, adm2, y2, rfl, hv3, hRm2, hmM2, hth2, hgr2⟩, rfl, hd5, hd6⟩ := h9
  have hcd : (cd_off σ (xs (i0 + 1)) (decide (¬ xs (i0 + 2) = 0))) < 2 ^ 31 := by
    unfold cd_off
    (repeat' split) <;> decide
  have hI2 : Inv (if (cd_off σ (xs (i0 + 1)) (decide (¬ xs (i0 + 2) = 0))) = 0 then σ else σ) := inv_if hI (fun z => hI)
  exact lw_tail hC (k := k + 670) (n := n + 2700) hRf hRl (by omega) (by omega) hRk hRn hcd hI2 ⟨w1, wm, ωo2, ad2, x2, adm2, y2, hRc2, hmC2.trans hmC, hRm2, hmM2.trans hmM, hth2, hgr2, rfl, hd5, hd6, hlo2, hlD2⟩ (fun z => ⟨hv2 z, hv3 z⟩) (t1 := 1428) (t2 := 1445) rfl rfl (by decide) dL_law_1415 dL_law_1417 dL_law_1418 dL_law_1421 dL_law_1423 dL_law_1428 dL_law_1430 dL_law_1433 dL_law_1434 dL_law_1435 dL_law_1436 dL_law_1438 dL_law_1439 dL_law_1440 dL_law_1445 kk
set_option maxHeartbeats 1000000 in
set_option maxRecDepth 100000 in
theorem lc_heading {p : Program} {l : Launch} {e : Env} {R : Room} {s : State} {m : MethodId} {args : Array Value} {below : List Frame} {meth : Method} {c : Code} {g : Gl} {ω0 : Wd} {sz0 : Nat} {Q : State → Prop} {k n : Nat} (hC : Cx p l e R s m args below meth c cL_law 9 "BoringheadLaw" g ω0 sz0) (hst : l.stackTraces = false) (hN : NCs s) {b Ls : Nat} {xs : Nat → Int32} (hX : LX g ω0 sz0 s b Ls xs) (hRf : 60 ≤ R.frames) (hRl : 2000 ≤ R.locals) (hRk : k + 670 ≤ R.cells) (hRn : n + 2700 ≤ R.slots) {i0 : Nat} (hi : i0 + 5 ≤ Ls) {mC mM lo lD : Nat} {σ : St} (hI : Inv σ) {ω : Wd} (hL : LH g mC mM lo lD ω σ)
    (kk : ∀ ω' σ', Inv σ' → LH g mC mM lo lD ω' σ' → WP p l e R s m args below meth c g ω0 sz0 Q 9 ω' (k + 670) (n + 2700) 2920 (lwL b mC mM lo lD (nI i0)) []) : WP p l e R s m args below meth c g ω0 sz0 Q 9 ω k n 1448 (lwL b mC mM lo lD (nI i0)) [] := by
  obtain ⟨th, fl, fd, ωc, ωm, ωo, adc, x, adm, y, hRc, hmC, hRm, hmM, -, hgr, rfl, hd1, hd2, hlo, hlD⟩ := hL
  have hM := RepM.f_main hRm
  rw [hmM] at hM
  have hM1 := RepC.f_main hRc
  rw [hmC] at hM1
  refine s_aload_n hC dL_law_1448 rfl rfl 2 rfl ?_
  refine s_aload_n hC dL_law_1449 rfl rfl 1 rfl ?_
  refine s_iload hC dL_law_1450 rfl 0 rfl ?_
  refine s_iconst hC (v := 1) dL_law_1452 rfl (by decide) ?_
  refine s_iadd hC dL_law_1453 rfl ?_
  refine s_sldX hC hX (i0 + 1) (nI_add i0 1) (by omega) dL_law_1454 rfl ?_
  refine s_nz hC (tf := 1462) (tj := 1463) dL_law_1455 dL_law_1458 dL_law_1459 dL_law_1462 rfl rfl ?_
  have ct := CT.frame (ct_X9_heading l g ωc adc x σ hRc (decide (¬ xs (i0 + 1) = 0))) hd1
  rw [hmC] at ct
  refine s_callV hC ct ce_X9_heading cs_X9 (wjn_l hM1) tw_277 rfl rfl ⟨⟨Nat.le_trans (le_b rfl) hRf, Nat.le_trans (le_b rfl) hRl⟩, by omega, by omega⟩ (le_b rfl) dL_law_1463 rfl (fun r w h9 => ?_) (fun E w h9 => h9.choose_spec.1.elim)
  obtain ⟨w1, ⟨-, rfl, ad2, x2, hRc2, hmC2⟩, rfl, hd3⟩ := h9
  refine s_aload_n hC dL_law_1466 rfl rfl 3 rfl ?_
  refine s_aload_n hC dL_law_1467 rfl rfl 1 rfl ?_
  refine s_iload hC dL_law_1468 rfl 0 rfl ?_
  refine s_iconst hC (v := 1) dL_law_1470 rfl (by decide) ?_
  refine s_iadd hC dL_law_1471 rfl ?_
  refine s_sldX hC hX (i0 + 1) (nI_add i0 1) (by omega) dL_law_1472 rfl ?_
  refine s_nz hC (tf := 1480) (tj := 1481) dL_law_1473 dL_law_1476 dL_law_1477 dL_law_1480 rfl rfl ?_
  have ct2 := CT.mid (ct_X11_heading l g ωm adm y σ hRm (decide (¬ xs (i0 + 1) = 0)) hgr) hd3 hd2
  rw [hmM] at ct2
  refine s_callV hC ct2 ce_X11_heading cs_X11 ((wjn_r (djn_at hd3 (wjn_l hM))).trans (wjn_l hM)) tw_1682 rfl rfl ⟨⟨Nat.le_trans (le_b rfl) hRf, Nat.le_trans (le_b rfl) hRl⟩, by omega, by omega⟩ (le_b rfl) dL_law_1481 rfl (fun r w h9 => ?_) (fun E w h9 => h9.choose_spec.1.elim)
  obtain ⟨wm, ⟨v, adm2, y2, rfl, hv3, hRm2, hmM2, hth2, hgr2⟩, rfl, hd5, hd6⟩ := h9
  rw [if_pos rfl] at hRm2 hgr2
  have hv3 := hv3 rfl
  subst hv3
  exact s_icmp_eq hC (tgt := 2920) dL_law_1484 rfl (by decide) (fun _ => WP.widen (by omega) (by omega) (kk _ _ (hI) ⟨_, _, _, w1, wm, ωo, ad2, x2, adm2, y2, hRc2, hmC2.trans hmC, hRm2, hmM2.trans hmM, rfl, hgr2, rfl, hd5, hd6, hlo, hlD⟩)) (fun z => absurd rfl z)
set_option maxHeartbeats 1000000 in
set_option maxRecDepth 100000 in
theorem lc_rotation {p : Program} {l : Launch} {e : Env} {R : Room} {s : State} {m : MethodId} {args : Array Value} {below : List Frame} {meth : Method} {c : Code} {g : Gl} {ω0 : Wd} {sz0 : Nat} {Q : State → Prop} {k n : Nat} (hC : Cx p l e R s m args below meth c cL_law 9 "BoringheadLaw" g ω0 sz0) (hst : l.stackTraces = false) (hN : NCs s) {b Ls : Nat} {xs : Nat → Int32} (hX : LX g ω0 sz0 s b Ls xs) (hRf : 60 ≤ R.frames) (hRl : 2000 ≤ R.locals) (hRk : k + 670 ≤ R.cells) (hRn : n + 2700 ≤ R.slots) {i0 : Nat} (hi : i0 + 5 ≤ Ls) {mC mM lo lD : Nat} {σ : St} (hI : Inv σ) {ω : Wd} (hL : LH g mC mM lo lD ω σ)
    (kk : ∀ ω' σ', Inv σ' → LH g mC mM lo lD ω' σ' → WP p l e R s m args below meth c g ω0 sz0 Q 9 ω' (k + 670) (n + 2700) 2920 (lwL b mC mM lo lD (nI i0)) []) : WP p l e R s m args below meth c g ω0 sz0 Q 9 ω k n 1489 (lwL b mC mM lo lD (nI i0)) [] := by
  obtain ⟨th, fl, fd, ωc, ωm, ωo, adc, x, adm, y, hRc, hmC, hRm, hmM, -, hgr, rfl, hd1, hd2, hlo, hlD⟩ := hL
  have hM := RepM.f_main hRm
  rw [hmM] at hM
  refine s_aload_n hC dL_law_1489 rfl rfl 2 rfl ?_
  refine s_aload_n hC dL_law_1490 rfl rfl 1 rfl ?_
  refine s_iload hC dL_law_1491 rfl 0 rfl ?_
  refine s_iconst hC (v := 1) dL_law_1493 rfl (by decide) ?_
  refine s_iadd hC dL_law_1494 rfl ?_
  refine s_sldX hC hX (i0 + 1) (nI_add i0 1) (by omega) dL_law_1495 rfl ?_
  refine s_aload_n hC dL_law_1496 rfl rfl 4 rfl ?_
  have ct := ct_L_rotation l g hst ωc (wjn ωm ωo) hd1 adc x σ hRc (xs (i0 + 1)) lo 1 fl ((wjn_r (djn_at hd2 hlo)).trans hlo) (by decide) (by decide)
  rw [hmC] at ct
  refine s_callSX hC hN ct ce_L_rotation tw_961 rfl rfl ⟨⟨Nat.le_trans (le_b rfl) hRf, Nat.le_trans (le_b rfl) hRl⟩, by omega, by omega⟩ (le_b rfl) dL_law_1497 rfl (fun r w h9 => ?_)
  obtain ⟨w1, w2, ad2, x2, rfl, hRc2, hmC2, rfl, hd3, hw2⟩ := h9
  obtain ⟨ωo2, f2, rfl, hd4, hlo2, hlD2, hv2⟩ := out_L hd2 hlo hlD hd3 hw2
  refine s_istore hC (L' := [(6, _), (5, _), (0, _), (1, _), (2, _), (3, _), (4, _)]) dL_law_1500 rfl (le_b rfl) rfl ?_
  refine s_aload_n hC dL_law_1502 rfl rfl 4 rfl ?_
  refine s_aload_n hC dL_law_1503 rfl rfl 2 rfl ?_
  refine s_iload hC dL_law_1504 rfl 1 rfl ?_
  refine s_iconst hC (v := 1) dL_law_1506 rfl (by decide) ?_
  refine s_iadd hC dL_law_1507 rfl ?_
  refine s_sldX hC hX (i0 + 1) (nI_add i0 1) (by omega) dL_law_1508 rfl ?_
  have ct2 := CT.mid (ct_X11_rotation l g ωm adm y σ hRm (xs (i0 + 1)) hgr) hd3 hd4
  rw [hmM] at ct2
  refine s_callV hC ct2 ce_X11_rotation cs_X11 ((wjn_r (djn_at hd3 (wjn_l hM))).trans (wjn_l hM)) tw_1686 rfl rfl ⟨⟨Nat.le_trans (le_b rfl) hRf, Nat.le_trans (le_b rfl) hRl⟩, by omega, by omega⟩ (le_b rfl) dL_law_1509 rfl (fun r w h9 => ?_) (fun E w h9 => h9.choose_spec.1.elim)
  obtain ⟨wm, ⟨v, adm2, y2, rfl, hv3, hRm2, hmM2, hth2, hgr2⟩, rfl, hd5, hd6⟩ := h9
  have hcd : (cd_rotation σ (xs (i0 + 1))) < 2 ^ 31 := by
    unfold cd_rotation
    (repeat' split) <;> decide
  have hI2 : Inv (if (cd_rotation σ (xs (i0 + 1))) = 0 then σ else σ) := inv_if hI (fun z => hI)
  exact lw_tail hC (k := k + 670) (n := n + 2700) hRf hRl (by omega) (by omega) hRk hRn hcd hI2 ⟨w1, wm, ωo2, ad2, x2, adm2, y2, hRc2, hmC2.trans hmC, hRm2, hmM2.trans hmM, hth2, hgr2, rfl, hd5, hd6, hlo2, hlD2⟩ (fun z => ⟨hv2 z, hv3 z⟩) (t1 := 1525) (t2 := 1542) rfl rfl (by decide) dL_law_1512 dL_law_1514 dL_law_1515 dL_law_1518 dL_law_1520 dL_law_1525 dL_law_1527 dL_law_1530 dL_law_1531 dL_law_1532 dL_law_1533 dL_law_1535 dL_law_1536 dL_law_1537 dL_law_1542 kk
set_option maxHeartbeats 1000000 in
set_option maxRecDepth 100000 in
theorem lc_plan {p : Program} {l : Launch} {e : Env} {R : Room} {s : State} {m : MethodId} {args : Array Value} {below : List Frame} {meth : Method} {c : Code} {g : Gl} {ω0 : Wd} {sz0 : Nat} {Q : State → Prop} {k n : Nat} (hC : Cx p l e R s m args below meth c cL_law 9 "BoringheadLaw" g ω0 sz0) (hst : l.stackTraces = false) (hN : NCs s) {b Ls : Nat} {xs : Nat → Int32} (hX : LX g ω0 sz0 s b Ls xs) (hRf : 60 ≤ R.frames) (hRl : 2000 ≤ R.locals) (hRk : k + 670 ≤ R.cells) (hRn : n + 2700 ≤ R.slots) {i0 : Nat} (hi : i0 + 5 ≤ Ls) {mC mM lo lD : Nat} {σ : St} (hI : Inv σ) {ω : Wd} (hL : LH g mC mM lo lD ω σ)
    (kk : ∀ ω' σ', Inv σ' → LH g mC mM lo lD ω' σ' → WP p l e R s m args below meth c g ω0 sz0 Q 9 ω' (k + 670) (n + 2700) 2920 (lwL b mC mM lo lD (nI i0)) []) : WP p l e R s m args below meth c g ω0 sz0 Q 9 ω k n 1545 (lwL b mC mM lo lD (nI i0)) [] := by
  obtain ⟨th, fl, fd, ωc, ωm, ωo, adc, x, adm, y, hRc, hmC, hRm, hmM, -, hgr, rfl, hd1, hd2, hlo, hlD⟩ := hL
  have hM := RepM.f_main hRm
  rw [hmM] at hM
  refine s_aload_n hC dL_law_1545 rfl rfl 2 rfl ?_
  refine s_aload_n hC dL_law_1546 rfl rfl 1 rfl ?_
  refine s_iload hC dL_law_1547 rfl 0 rfl ?_
  refine s_iconst hC (v := 1) dL_law_1549 rfl (by decide) ?_
  refine s_iadd hC dL_law_1550 rfl ?_
  refine s_sldX hC hX (i0 + 1) (nI_add i0 1) (by omega) dL_law_1551 rfl ?_
  refine s_aload_n hC dL_law_1552 rfl rfl 4 rfl ?_
  have ct := ct_L_plan l g hst ωc (wjn ωm ωo) hd1 adc x σ hRc (xs (i0 + 1)) lo 1 fl ((wjn_r (djn_at hd2 hlo)).trans hlo) (by decide) (by decide)
  rw [hmC] at ct
  refine s_callSX hC hN ct ce_L_plan tw_968 rfl rfl ⟨⟨Nat.le_trans (le_b rfl) hRf, Nat.le_trans (le_b rfl) hRl⟩, by omega, by omega⟩ (le_b rfl) dL_law_1553 rfl (fun r w h9 => ?_)
  obtain ⟨w1, w2, ad2, x2, rfl, hRc2, hmC2, rfl, hd3, hw2⟩ := h9
  obtain ⟨ωo2, f2, rfl, hd4, hlo2, hlD2, hv2⟩ := out_L hd2 hlo hlD hd3 hw2
  refine s_istore hC (L' := [(6, _), (5, _), (0, _), (1, _), (2, _), (3, _), (4, _)]) dL_law_1556 rfl (le_b rfl) rfl ?_
  refine s_aload_n hC dL_law_1558 rfl rfl 4 rfl ?_
  refine s_aload_n hC dL_law_1559 rfl rfl 2 rfl ?_
  refine s_iload hC dL_law_1560 rfl 1 rfl ?_
  refine s_iconst hC (v := 1) dL_law_1562 rfl (by decide) ?_
  refine s_iadd hC dL_law_1563 rfl ?_
  refine s_sldX hC hX (i0 + 1) (nI_add i0 1) (by omega) dL_law_1564 rfl ?_
  have ct2 := CT.mid (ct_X11_plan l g ωm adm y σ hRm (xs (i0 + 1)) hgr hI.x_nOK hI.x_snd1 hI.pl) hd3 hd4
  rw [hmM] at ct2
  refine s_callV hC ct2 ce_X11_plan cs_X11 ((wjn_r (djn_at hd3 (wjn_l hM))).trans (wjn_l hM)) tw_1690 rfl rfl ⟨⟨Nat.le_trans (le_b rfl) hRf, Nat.le_trans (le_b rfl) hRl⟩, by omega, by omega⟩ (le_b rfl) dL_law_1565 rfl (fun r w h9 => ?_) (fun E w h9 => h9.choose_spec.1.elim)
  obtain ⟨wm, ⟨v, adm2, y2, rfl, hv3, hRm2, hmM2, hth2, hgr2⟩, rfl, hd5, hd6⟩ := h9
  have hcd : (cd_plan σ (xs (i0 + 1))) < 2 ^ 31 := by
    unfold cd_plan
    (repeat' split) <;> decide
  have hI2 : Inv (if (cd_plan σ (xs (i0 + 1))) = 0 then σ else σ) := inv_if hI (fun z => hI)
  exact lw_tail hC (k := k + 670) (n := n + 2700) hRf hRl (by omega) (by omega) hRk hRn hcd hI2 ⟨w1, wm, ωo2, ad2, x2, adm2, y2, hRc2, hmC2.trans hmC, hRm2, hmM2.trans hmM, hth2, hgr2, rfl, hd5, hd6, hlo2, hlD2⟩ (fun z => ⟨hv2 z, hv3 z⟩) (t1 := 1581) (t2 := 1598) rfl rfl (by decide) dL_law_1568 dL_law_1570 dL_law_1571 dL_law_1574 dL_law_1576 dL_law_1581 dL_law_1583 dL_law_1586 dL_law_1587 dL_law_1588 dL_law_1589 dL_law_1591 dL_law_1592 dL_law_1593 dL_law_1598 kk
set_option maxHeartbeats 1000000 in
set_option maxRecDepth 100000 in
theorem lc_squares {p : Program} {l : Launch} {e : Env} {R : Room} {s : State} {m : MethodId} {args : Array Value} {below : List Frame} {meth : Method} {c : Code} {g : Gl} {ω0 : Wd} {sz0 : Nat} {Q : State → Prop} {k n : Nat} (hC : Cx p l e R s m args below meth c cL_law 9 "BoringheadLaw" g ω0 sz0) (hst : l.stackTraces = false) (hN : NCs s) {b Ls : Nat} {xs : Nat → Int32} (hX : LX g ω0 sz0 s b Ls xs) (hRf : 60 ≤ R.frames) (hRl : 2000 ≤ R.locals) (hRk : k + 670 ≤ R.cells) (hRn : n + 2700 ≤ R.slots) {i0 : Nat} (hi : i0 + 5 ≤ Ls) {mC mM lo lD : Nat} {σ : St} (hI : Inv σ) {ω : Wd} (hL : LH g mC mM lo lD ω σ)
    (kk : ∀ ω' σ', Inv σ' → LH g mC mM lo lD ω' σ' → WP p l e R s m args below meth c g ω0 sz0 Q 9 ω' (k + 670) (n + 2700) 2920 (lwL b mC mM lo lD (nI i0)) []) : WP p l e R s m args below meth c g ω0 sz0 Q 9 ω k n 1601 (lwL b mC mM lo lD (nI i0)) [] := by
  obtain ⟨th, fl, fd, ωc, ωm, ωo, adc, x, adm, y, hRc, hmC, hRm, hmM, -, hgr, rfl, hd1, hd2, hlo, hlD⟩ := hL
  have hM := RepM.f_main hRm
  rw [hmM] at hM
  refine s_aload_n hC dL_law_1601 rfl rfl 2 rfl ?_
  refine s_aload_n hC dL_law_1602 rfl rfl 1 rfl ?_
  refine s_iload hC dL_law_1603 rfl 0 rfl ?_
  refine s_iconst hC (v := 1) dL_law_1605 rfl (by decide) ?_
  refine s_iadd hC dL_law_1606 rfl ?_
  refine s_sldX hC hX (i0 + 1) (nI_add i0 1) (by omega) dL_law_1607 rfl ?_
  refine s_aload_n hC dL_law_1608 rfl rfl 4 rfl ?_
  have ct := ct_L_squares l g hst ωc (wjn ωm ωo) hd1 adc x σ hRc (xs (i0 + 1)) lo 1 fl ((wjn_r (djn_at hd2 hlo)).trans hlo) (by decide) (by decide)
  rw [hmC] at ct
  refine s_callSX hC hN ct ce_L_squares tw_996 rfl rfl ⟨⟨Nat.le_trans (le_b rfl) hRf, Nat.le_trans (le_b rfl) hRl⟩, by omega, by omega⟩ (le_b rfl) dL_law_1609 rfl (fun r w h9 => ?_)
  obtain ⟨w1, w2, ad2, x2, rfl, hRc2, hmC2, rfl, hd3, hw2⟩ := h9
  obtain ⟨ωo2, f2, rfl, hd4, hlo2, hlD2, hv2⟩ := out_L hd2 hlo hlD hd3 hw2
  refine s_istore hC (L' := [(6, _), (5, _), (0, _), (1, _), (2, _), (3, _), (4, _)]) dL_law_1612 rfl (le_b rfl) rfl ?_
  refine s_aload_n hC dL_law_1614 rfl rfl 4 rfl ?_
  refine s_aload_n hC dL_law_1615 rfl rfl 2 rfl ?_
  refine s_iload hC dL_law_1616 rfl 1 rfl ?_
  refine s_iconst hC (v := 1) dL_law_1618 rfl (by decide) ?_
  refine s_iadd hC dL_law_1619 rfl ?_
  refine s_sldX hC hX (i0 + 1) (nI_add i0 1) (by omega) dL_law_1620 rfl ?_
  have ct2 := CT.mid (ct_X11_squares l g ωm adm y σ hRm (xs (i0 + 1)) hgr hI.x_nOK hI.x_snd1 hI.pl) hd3 hd4
  rw [hmM] at ct2
  refine s_callV hC ct2 ce_X11_squares cs_X11 ((wjn_r (djn_at hd3 (wjn_l hM))).trans (wjn_l hM)) tw_1705 rfl rfl ⟨⟨Nat.le_trans (le_b rfl) hRf, Nat.le_trans (le_b rfl) hRl⟩, by omega, by omega⟩ (le_b rfl) dL_law_1621 rfl (fun r w h9 => ?_) (fun E w h9 => h9.choose_spec.1.elim)
  obtain ⟨wm, ⟨v, adm2, y2, rfl, hv3, hRm2, hmM2, hth2, hgr2⟩, rfl, hd5, hd6⟩ := h9
  have hcd : (cd_squares σ (xs (i0 + 1))) < 2 ^ 31 := by
    unfold cd_squares
    (repeat' split) <;> decide
  have hI2 : Inv (if (cd_squares σ (xs (i0 + 1))) = 0 then σ else σ) := inv_if hI (fun z => hI)
  have hM2 := RepM.f_main hRm2
  rw [hmM2.trans hmM] at hM2
  have ct3 := CT.mid (ct_X11_thrown l g wm adm2 y2 _ hRm2) hd5 hd6
  rw [hmM2.trans hmM] at ct3
  refine s_lstore hC (L' := [(7, _), (6, _), (5, _), (0, _), (1, _), (2, _), (3, _), (4, _)]) dL_law_1624 rfl (le_b rfl) rfl ?_
  have fin : ∀ V, WP p l e R s m args below meth c g ω0 sz0 Q 9 (wjn w1 (wjn wm ωo2)) (k + 670) (n + 2700) 1653 [(7, V), (6, .int (nI (cd_squares σ (xs (i0 + 1))))), (5, .int (nI i0)), (0, .ref b), (1, .ref mC), (2, .ref mM), (3, .ref lo), (4, .ref lD)] [] := fun V => by
    refine s_goto hC (tgt := 2920) dL_law_1653 (by decide) ?_
    refine WP.sub (L' := lwL b mC mM lo lD (nI i0)) [2, 3, 4, 5, 6, 7] rfl ?_
    exact kk _ _ hI2 ⟨_, _, _, w1, wm, ωo2, ad2, x2, adm2, y2, hRc2, hmC2.trans hmC, hRm2, hmM2.trans hmM, hth2, hgr2, rfl, hd5, hd6, hlo2, hlD2⟩
  refine s_aload_n hC dL_law_1626 rfl rfl 5 rfl ?_
  refine s_callV hC ct3 ce_X11_thrown cs_X11 ((wjn_r (djn_at hd5 (wjn_l hM2))).trans (wjn_l hM2)) tw_1236 rfl rfl ⟨⟨Nat.le_trans (le_b rfl) hRf, Nat.le_trans (le_b rfl) hRl⟩, by omega, by omega⟩ (le_b rfl) dL_law_1627 rfl (fun r w h9 => ?_) (fun E w h9 => h9.choose_spec.1.elim)
  obtain ⟨w9, ⟨rfl, rfl⟩, rfl, -, -⟩ := h9
  rw [hth2]
  refine s_iload hC dL_law_1630 rfl 1 rfl ?_
  refine s_icmp_eq hC (tgt := 1637) dL_law_1632 rfl (by decide) (fun _ => ?_) (fun z => absurd rfl z)
  refine s_iload hC dL_law_1637 rfl 1 rfl ?_
  refine z_if_ne hC (tgt := 1653) dL_law_1639 rfl (by decide) (fun _ => WP.widen (by omega) (by omega) (fin _)) (fun z => ?_)
  have hz := lw_q0 hcd z
  have hv2 := hv2 hz
  have hv3 := hv3 hz
  subst hv3
  refine s_aload_n hC dL_law_1642 rfl rfl 6 rfl ?_
  refine s_iconst hC (v := 0) dL_law_1643 rfl (by decide) ?_
  refine s_lald hC ((wjn_r (djn_at hd5 ((wjn_r (djn_at hd6 hlo2)).trans hlo2))).trans ((wjn_r (djn_at hd6 hlo2)).trans hlo2)) (vp_in_nI (n := 0) (by omega) (by omega)) dL_law_1644 rfl ?_
  rw [show Int32.toNatClampNeg 0 = 0 from rfl, hv2]
  refine s_lload hC dL_law_1645 rfl 0 rfl ?_
  refine s_lcmp hC dL_law_1647 rfl ?_
  exact z_if_eq hC (tgt := 1653) dL_law_1648 rfl (by decide) (fun _ => WP.widen (by omega) (by omega) (fin _)) (fun z => absurd ((lg_cmp_eq _ _).mpr rfl) z)
set_option maxHeartbeats 1000000 in
set_option maxRecDepth 100000 in
theorem lc_offRings {p : Program} {l : Launch} {e : Env} {R : Room} {s : State} {m : MethodId} {args : Array Value} {below : List Frame} {meth : Method} {c : Code} {g : Gl} {ω0 : Wd} {sz0 : Nat} {Q : State → Prop} {k n : Nat} (hC : Cx p l e R s m args below meth c cL_law 9 "BoringheadLaw" g ω0 sz0) (hst : l.stackTraces = false) (hN : NCs s) {b Ls : Nat} {xs : Nat → Int32} (hX : LX g ω0 sz0 s b Ls xs) (hRf : 60 ≤ R.frames) (hRl : 2000 ≤ R.locals) (hRk : k + 670 ≤ R.cells) (hRn : n + 2700 ≤ R.slots) {i0 : Nat} (hi : i0 + 5 ≤ Ls) {mC mM lo lD : Nat} {σ : St} (hI : Inv σ) {ω : Wd} (hL : LH g mC mM lo lD ω σ)
    (kk : ∀ ω' σ', Inv σ' → LH g mC mM lo lD ω' σ' → WP p l e R s m args below meth c g ω0 sz0 Q 9 ω' (k + 670) (n + 2700) 2920 (lwL b mC mM lo lD (nI i0)) []) : WP p l e R s m args below meth c g ω0 sz0 Q 9 ω k n 1656 (lwL b mC mM lo lD (nI i0)) [] := by
  obtain ⟨th, fl, fd, ωc, ωm, ωo, adc, x, adm, y, hRc, hmC, hRm, hmM, -, hgr, rfl, hd1, hd2, hlo, hlD⟩ := hL
  have hM := RepM.f_main hRm
  rw [hmM] at hM
  have hM1 := RepC.f_main hRc
  rw [hmC] at hM1
  refine s_aload_n hC dL_law_1656 rfl rfl 2 rfl ?_
  have ct := CT.frame (ct_X9_offRings l g ωc adc x σ hRc) hd1
  rw [hmC] at ct
  refine s_callV hC ct ce_X9_offRings cs_X9 (wjn_l hM1) tw_281 rfl rfl ⟨⟨Nat.le_trans (le_b rfl) hRf, Nat.le_trans (le_b rfl) hRl⟩, by omega, by omega⟩ (le_b rfl) dL_law_1657 rfl (fun r w h9 => ?_) (fun E w h9 => h9.choose_spec.1.elim)
  obtain ⟨w1, ⟨-, rfl, ad2, x2, hRc2, hmC2⟩, rfl, hd3⟩ := h9
  refine s_aload_n hC dL_law_1660 rfl rfl 3 rfl ?_
  have ct2 := CT.mid (ct_X11_offRings l g ωm adm y σ hRm hgr) hd3 hd2
  rw [hmM] at ct2
  refine s_callV hC ct2 ce_X11_offRings cs_X11 ((wjn_r (djn_at hd3 (wjn_l hM))).trans (wjn_l hM)) tw_1709 rfl rfl ⟨⟨Nat.le_trans (le_b rfl) hRf, Nat.le_trans (le_b rfl) hRl⟩, by omega, by omega⟩ (le_b rfl) dL_law_1661 rfl (fun r w h9 => ?_) (fun E w h9 => h9.choose_spec.1.elim)
  obtain ⟨wm, ⟨v, adm2, y2, rfl, hv3, hRm2, hmM2, hth2, hgr2⟩, rfl, hd5, hd6⟩ := h9
  rw [if_pos rfl] at hRm2 hgr2
  have hv3 := hv3 rfl
  subst hv3
  exact s_icmp_eq hC (tgt := 2920) dL_law_1664 rfl (by decide) (fun _ => WP.widen (by omega) (by omega) (kk _ _ (hI) ⟨_, _, _, w1, wm, ωo, ad2, x2, adm2, y2, hRc2, hmC2.trans hmC, hRm2, hmM2.trans hmM, rfl, hgr2, rfl, hd5, hd6, hlo, hlD⟩)) (fun z => absurd rfl z)
set_option maxHeartbeats 1000000 in
set_option maxRecDepth 100000 in
theorem lc_grout {p : Program} {l : Launch} {e : Env} {R : Room} {s : State} {m : MethodId} {args : Array Value} {below : List Frame} {meth : Method} {c : Code} {g : Gl} {ω0 : Wd} {sz0 : Nat} {Q : State → Prop} {k n : Nat} (hC : Cx p l e R s m args below meth c cL_law 9 "BoringheadLaw" g ω0 sz0) (hst : l.stackTraces = false) (hN : NCs s) {b Ls : Nat} {xs : Nat → Int32} (hX : LX g ω0 sz0 s b Ls xs) (hRf : 60 ≤ R.frames) (hRl : 2000 ≤ R.locals) (hRk : k + 670 ≤ R.cells) (hRn : n + 2700 ≤ R.slots) {i0 : Nat} (hi : i0 + 5 ≤ Ls) {mC mM lo lD : Nat} {σ : St} (hI : Inv σ) {ω : Wd} (hL : LH g mC mM lo lD ω σ)
    (kk : ∀ ω' σ', Inv σ' → LH g mC mM lo lD ω' σ' → WP p l e R s m args below meth c g ω0 sz0 Q 9 ω' (k + 670) (n + 2700) 2920 (lwL b mC mM lo lD (nI i0)) []) : WP p l e R s m args below meth c g ω0 sz0 Q 9 ω k n 1669 (lwL b mC mM lo lD (nI i0)) [] := by
  obtain ⟨th, fl, fd, ωc, ωm, ωo, adc, x, adm, y, hRc, hmC, hRm, hmM, -, hgr, rfl, hd1, hd2, hlo, hlD⟩ := hL
  have hM := RepM.f_main hRm
  rw [hmM] at hM
  refine s_aload_n hC dL_law_1669 rfl rfl 2 rfl ?_
  refine s_aload_n hC dL_law_1670 rfl rfl 1 rfl ?_
  refine s_iload hC dL_law_1671 rfl 0 rfl ?_
  refine s_iconst hC (v := 1) dL_law_1673 rfl (by decide) ?_
  refine s_iadd hC dL_law_1674 rfl ?_
  refine s_sldX hC hX (i0 + 1) (nI_add i0 1) (by omega) dL_law_1675 rfl ?_
  refine s_aload_n hC dL_law_1676 rfl rfl 1 rfl ?_
  refine s_iload hC dL_law_1677 rfl 0 rfl ?_
  refine s_iconst hC (v := 2) dL_law_1679 rfl (by decide) ?_
  refine s_iadd hC dL_law_1680 rfl ?_
  refine s_sldX hC hX (i0 + 2) (nI_add i0 2) (by omega) dL_law_1681 rfl ?_
  refine s_aload_n hC dL_law_1682 rfl rfl 4 rfl ?_
  have ct := ct_L_grout l g hst ωc (wjn ωm ωo) hd1 adc x σ hRc (xs (i0 + 1)) (xs (i0 + 2)) lo 1 fl ((wjn_r (djn_at hd2 hlo)).trans hlo) (by decide) (by decide)
  rw [hmC] at ct
  refine s_callSX hC hN ct ce_L_grout tw_1003 rfl rfl ⟨⟨Nat.le_trans (le_b rfl) hRf, Nat.le_trans (le_b rfl) hRl⟩, by omega, by omega⟩ (le_b rfl) dL_law_1683 rfl (fun r w h9 => ?_)
  obtain ⟨w1, w2, ad2, x2, rfl, hRc2, hmC2, rfl, hd3, hw2⟩ := h9
  obtain ⟨ωo2, f2, rfl, hd4, hlo2, hlD2, hv2⟩ := out_L hd2 hlo hlD hd3 hw2
  refine s_istore hC (L' := [(6, _), (5, _), (0, _), (1, _), (2, _), (3, _), (4, _)]) dL_law_1686 rfl (le_b rfl) rfl ?_
  refine s_aload_n hC dL_law_1688 rfl rfl 4 rfl ?_
  refine s_aload_n hC dL_law_1689 rfl rfl 2 rfl ?_
  refine s_iload hC dL_law_1690 rfl 1 rfl ?_
  refine s_iconst hC (v := 1) dL_law_1692 rfl (by decide) ?_
  refine s_iadd hC dL_law_1693 rfl ?_
  refine s_sldX hC hX (i0 + 1) (nI_add i0 1) (by omega) dL_law_1694 rfl ?_
  refine s_aload_n hC dL_law_1695 rfl rfl 2 rfl ?_
  refine s_iload hC dL_law_1696 rfl 1 rfl ?_
  refine s_iconst hC (v := 2) dL_law_1698 rfl (by decide) ?_
  refine s_iadd hC dL_law_1699 rfl ?_
  refine s_sldX hC hX (i0 + 2) (nI_add i0 2) (by omega) dL_law_1700 rfl ?_
  have ct2 := CT.mid (ct_X11_grout l g ωm adm y σ hRm (xs (i0 + 1)) (xs (i0 + 2)) hgr hI.x_kIn hI.x_rkOK hI.x_nOK hI.x_fiOK) hd3 hd4
  rw [hmM] at ct2
  refine s_callV hC ct2 ce_X11_grout cs_X11 ((wjn_r (djn_at hd3 (wjn_l hM))).trans (wjn_l hM)) tw_1713 rfl rfl ⟨⟨Nat.le_trans (le_b rfl) hRf, Nat.le_trans (le_b rfl) hRl⟩, by omega, by omega⟩ (le_b rfl) dL_law_1701 rfl (fun r w h9 => ?_) (fun E w h9 => h9.choose_spec.1.elim)
  obtain ⟨wm, ⟨v, adm2, y2, rfl, hv3, hRm2, hmM2, hth2, hgr2⟩, rfl, hd5, hd6⟩ := h9
  have hcd : (cd_grout σ (xs (i0 + 1)) (xs (i0 + 2))) < 2 ^ 31 := by
    unfold cd_grout
    (repeat' split) <;> decide
  have hI2 : Inv (if (cd_grout σ (xs (i0 + 1)) (xs (i0 + 2))) = 0 then nx_grout σ (xs (i0 + 1)) (xs (i0 + 2)) else σ) := inv_if hI (fun z => hI.m_grout z)
  exact lw_tail hC (k := k + 670) (n := n + 2700) hRf hRl (by omega) (by omega) hRk hRn hcd hI2 ⟨w1, wm, ωo2, ad2, x2, adm2, y2, hRc2, hmC2.trans hmC, hRm2, hmM2.trans hmM, hth2, hgr2, rfl, hd5, hd6, hlo2, hlD2⟩ (fun z => ⟨hv2 z, hv3 z⟩) (t1 := 1717) (t2 := 1734) rfl rfl (by decide) dL_law_1704 dL_law_1706 dL_law_1707 dL_law_1710 dL_law_1712 dL_law_1717 dL_law_1719 dL_law_1722 dL_law_1723 dL_law_1724 dL_law_1725 dL_law_1727 dL_law_1728 dL_law_1729 dL_law_1734 kk
set_option maxHeartbeats 1000000 in
set_option maxRecDepth 100000 in
theorem lc_lost {p : Program} {l : Launch} {e : Env} {R : Room} {s : State} {m : MethodId} {args : Array Value} {below : List Frame} {meth : Method} {c : Code} {g : Gl} {ω0 : Wd} {sz0 : Nat} {Q : State → Prop} {k n : Nat} (hC : Cx p l e R s m args below meth c cL_law 9 "BoringheadLaw" g ω0 sz0) (hst : l.stackTraces = false) (hN : NCs s) {b Ls : Nat} {xs : Nat → Int32} (hX : LX g ω0 sz0 s b Ls xs) (hRf : 60 ≤ R.frames) (hRl : 2000 ≤ R.locals) (hRk : k + 670 ≤ R.cells) (hRn : n + 2700 ≤ R.slots) {i0 : Nat} (hi : i0 + 5 ≤ Ls) {mC mM lo lD : Nat} {σ : St} (hI : Inv σ) {ω : Wd} (hL : LH g mC mM lo lD ω σ)
    (kk : ∀ ω' σ', Inv σ' → LH g mC mM lo lD ω' σ' → WP p l e R s m args below meth c g ω0 sz0 Q 9 ω' (k + 670) (n + 2700) 2920 (lwL b mC mM lo lD (nI i0)) []) : WP p l e R s m args below meth c g ω0 sz0 Q 9 ω k n 1737 (lwL b mC mM lo lD (nI i0)) [] := by
  obtain ⟨th, fl, fd, ωc, ωm, ωo, adc, x, adm, y, hRc, hmC, hRm, hmM, -, hgr, rfl, hd1, hd2, hlo, hlD⟩ := hL
  have hM := RepM.f_main hRm
  rw [hmM] at hM
  refine s_aload_n hC dL_law_1737 rfl rfl 2 rfl ?_
  refine s_aload_n hC dL_law_1738 rfl rfl 1 rfl ?_
  refine s_iload hC dL_law_1739 rfl 0 rfl ?_
  refine s_iconst hC (v := 1) dL_law_1741 rfl (by decide) ?_
  refine s_iadd hC dL_law_1742 rfl ?_
  refine s_sldX hC hX (i0 + 1) (nI_add i0 1) (by omega) dL_law_1743 rfl ?_
  refine s_aload_n hC dL_law_1744 rfl rfl 4 rfl ?_
  have ct := ct_L_lost l g hst ωc (wjn ωm ωo) hd1 adc x σ hRc (xs (i0 + 1)) lo 1 fl ((wjn_r (djn_at hd2 hlo)).trans hlo) (by decide) (by decide)
  rw [hmC] at ct
  refine s_callSX hC hN ct ce_L_lost tw_1016 rfl rfl ⟨⟨Nat.le_trans (le_b rfl) hRf, Nat.le_trans (le_b rfl) hRl⟩, by omega, by omega⟩ (le_b rfl) dL_law_1745 rfl (fun r w h9 => ?_)
  obtain ⟨w1, w2, ad2, x2, rfl, hRc2, hmC2, rfl, hd3, hw2⟩ := h9
  obtain ⟨ωo2, f2, rfl, hd4, hlo2, hlD2, hv2⟩ := out_L hd2 hlo hlD hd3 hw2
  refine s_istore hC (L' := [(6, _), (5, _), (0, _), (1, _), (2, _), (3, _), (4, _)]) dL_law_1748 rfl (le_b rfl) rfl ?_
  refine s_aload_n hC dL_law_1750 rfl rfl 4 rfl ?_
  refine s_aload_n hC dL_law_1751 rfl rfl 2 rfl ?_
  refine s_iload hC dL_law_1752 rfl 1 rfl ?_
  refine s_iconst hC (v := 1) dL_law_1754 rfl (by decide) ?_
  refine s_iadd hC dL_law_1755 rfl ?_
  refine s_sldX hC hX (i0 + 1) (nI_add i0 1) (by omega) dL_law_1756 rfl ?_
  have ct2 := CT.mid (ct_X11_lost l g ωm adm y σ hRm (xs (i0 + 1)) hgr hI.x_kIn hI.x_rkOK hI.x_nOK) hd3 hd4
  rw [hmM] at ct2
  refine s_callV hC ct2 ce_X11_lost cs_X11 ((wjn_r (djn_at hd3 (wjn_l hM))).trans (wjn_l hM)) tw_1728 rfl rfl ⟨⟨Nat.le_trans (le_b rfl) hRf, Nat.le_trans (le_b rfl) hRl⟩, by omega, by omega⟩ (le_b rfl) dL_law_1757 rfl (fun r w h9 => ?_) (fun E w h9 => h9.choose_spec.1.elim)
  obtain ⟨wm, ⟨v, adm2, y2, rfl, hv3, hRm2, hmM2, hth2, hgr2⟩, rfl, hd5, hd6⟩ := h9
  have hcd : (cd_lost σ (xs (i0 + 1))) < 2 ^ 31 := by
    unfold cd_lost
    (repeat' split) <;> decide
  have hI2 : Inv (if (cd_lost σ (xs (i0 + 1))) = 0 then σ else σ) := inv_if hI (fun z => hI)
  exact lw_tail hC (k := k + 670) (n := n + 2700) hRf hRl (by omega) (by omega) hRk hRn hcd hI2 ⟨w1, wm, ωo2, ad2, x2, adm2, y2, hRc2, hmC2.trans hmC, hRm2, hmM2.trans hmM, hth2, hgr2, rfl, hd5, hd6, hlo2, hlD2⟩ (fun z => ⟨hv2 z, hv3 z⟩) (t1 := 1773) (t2 := 1790) rfl rfl (by decide) dL_law_1760 dL_law_1762 dL_law_1763 dL_law_1766 dL_law_1768 dL_law_1773 dL_law_1775 dL_law_1778 dL_law_1779 dL_law_1780 dL_law_1781 dL_law_1783 dL_law_1784 dL_law_1785 dL_law_1790 kk
set_option maxHeartbeats 1000000 in
set_option maxRecDepth 100000 in
theorem lc_house {p : Program} {l : Launch} {e : Env} {R : Room} {s : State} {m : MethodId} {args : Array Value} {below : List Frame} {meth : Method} {c : Code} {g : Gl} {ω0 : Wd} {sz0 : Nat} {Q : State → Prop} {k n : Nat} (hC : Cx p l e R s m args below meth c cL_law 9 "BoringheadLaw" g ω0 sz0) (hst : l.stackTraces = false) (hN : NCs s) {b Ls : Nat} {xs : Nat → Int32} (hX : LX g ω0 sz0 s b Ls xs) (hRf : 60 ≤ R.frames) (hRl : 2000 ≤ R.locals) (hRk : k + 670 ≤ R.cells) (hRn : n + 2700 ≤ R.slots) {i0 : Nat} (hi : i0 + 5 ≤ Ls) {mC mM lo lD : Nat} {σ : St} (hI : Inv σ) {ω : Wd} (hL : LH g mC mM lo lD ω σ)
    (kk : ∀ ω' σ', Inv σ' → LH g mC mM lo lD ω' σ' → WP p l e R s m args below meth c g ω0 sz0 Q 9 ω' (k + 670) (n + 2700) 2920 (lwL b mC mM lo lD (nI i0)) []) : WP p l e R s m args below meth c g ω0 sz0 Q 9 ω k n 1793 (lwL b mC mM lo lD (nI i0)) [] := by
  obtain ⟨th, fl, fd, ωc, ωm, ωo, adc, x, adm, y, hRc, hmC, hRm, hmM, -, hgr, rfl, hd1, hd2, hlo, hlD⟩ := hL
  have hM := RepM.f_main hRm
  rw [hmM] at hM
  refine s_aload_n hC dL_law_1793 rfl rfl 2 rfl ?_
  refine s_aload_n hC dL_law_1794 rfl rfl 1 rfl ?_
  refine s_iload hC dL_law_1795 rfl 0 rfl ?_
  refine s_iconst hC (v := 1) dL_law_1797 rfl (by decide) ?_
  refine s_iadd hC dL_law_1798 rfl ?_
  refine s_sldX hC hX (i0 + 1) (nI_add i0 1) (by omega) dL_law_1799 rfl ?_
  refine s_aload_n hC dL_law_1800 rfl rfl 1 rfl ?_
  refine s_iload hC dL_law_1801 rfl 0 rfl ?_
  refine s_iconst hC (v := 2) dL_law_1803 rfl (by decide) ?_
  refine s_iadd hC dL_law_1804 rfl ?_
  refine s_sldX hC hX (i0 + 2) (nI_add i0 2) (by omega) dL_law_1805 rfl ?_
  refine s_aload_n hC dL_law_1806 rfl rfl 1 rfl ?_
  refine s_iload hC dL_law_1807 rfl 0 rfl ?_
  refine s_iconst hC (v := 3) dL_law_1809 rfl (by decide) ?_
  refine s_iadd hC dL_law_1810 rfl ?_
  refine s_sldX hC hX (i0 + 3) (nI_add i0 3) (by omega) dL_law_1811 rfl ?_
  refine s_aload_n hC dL_law_1812 rfl rfl 4 rfl ?_
  have ct := ct_L_house l g hst ωc (wjn ωm ωo) hd1 adc x σ hRc (xs (i0 + 1)) (xs (i0 + 2)) (xs (i0 + 3)) lo 1 fl ((wjn_r (djn_at hd2 hlo)).trans hlo) (by decide) (by decide)
  rw [hmC] at ct
  refine s_callSX hC hN ct ce_L_house tw_1023 rfl rfl ⟨⟨Nat.le_trans (le_b rfl) hRf, Nat.le_trans (le_b rfl) hRl⟩, by omega, by omega⟩ (le_b rfl) dL_law_1813 rfl (fun r w h9 => ?_)
  obtain ⟨w1, w2, ad2, x2, rfl, hRc2, hmC2, rfl, hd3, hw2⟩ := h9
  obtain ⟨ωo2, f2, rfl, hd4, hlo2, hlD2, hv2⟩ := out_L hd2 hlo hlD hd3 hw2
  refine s_istore hC (L' := [(6, _), (5, _), (0, _), (1, _), (2, _), (3, _), (4, _)]) dL_law_1816 rfl (le_b rfl) rfl ?_
  refine s_aload_n hC dL_law_1818 rfl rfl 4 rfl ?_
  refine s_aload_n hC dL_law_1819 rfl rfl 2 rfl ?_
  refine s_iload hC dL_law_1820 rfl 1 rfl ?_
  refine s_iconst hC (v := 1) dL_law_1822 rfl (by decide) ?_
  refine s_iadd hC dL_law_1823 rfl ?_
  refine s_sldX hC hX (i0 + 1) (nI_add i0 1) (by omega) dL_law_1824 rfl ?_
  refine s_aload_n hC dL_law_1825 rfl rfl 2 rfl ?_
  refine s_iload hC dL_law_1826 rfl 1 rfl ?_
  refine s_iconst hC (v := 2) dL_law_1828 rfl (by decide) ?_
  refine s_iadd hC dL_law_1829 rfl ?_
  refine s_sldX hC hX (i0 + 2) (nI_add i0 2) (by omega) dL_law_1830 rfl ?_
  refine s_aload_n hC dL_law_1831 rfl rfl 2 rfl ?_
  refine s_iload hC dL_law_1832 rfl 1 rfl ?_
  refine s_iconst hC (v := 3) dL_law_1834 rfl (by decide) ?_
  refine s_iadd hC dL_law_1835 rfl ?_
  refine s_sldX hC hX (i0 + 3) (nI_add i0 3) (by omega) dL_law_1836 rfl ?_
  have ct2 := CT.mid (ct_X11_house l g ωm adm y σ hRm (xs (i0 + 1)) (xs (i0 + 2)) (xs (i0 + 3)) hgr hI.x_hOK) hd3 hd4
  rw [hmM] at ct2
  refine s_callV hC ct2 ce_X11_house cs_X11 ((wjn_r (djn_at hd3 (wjn_l hM))).trans (wjn_l hM)) tw_1732 rfl rfl ⟨⟨Nat.le_trans (le_b rfl) hRf, Nat.le_trans (le_b rfl) hRl⟩, by omega, by omega⟩ (le_b rfl) dL_law_1837 rfl (fun r w h9 => ?_) (fun E w h9 => h9.choose_spec.1.elim)
  obtain ⟨wm, ⟨v, adm2, y2, rfl, hv3, hRm2, hmM2, hth2, hgr2⟩, rfl, hd5, hd6⟩ := h9
  have hcd : (cd_house σ (xs (i0 + 1)) (xs (i0 + 2)) (xs (i0 + 3))) < 2 ^ 31 := by
    unfold cd_house
    (repeat' split) <;> decide
  have hI2 : Inv (if (cd_house σ (xs (i0 + 1)) (xs (i0 + 2)) (xs (i0 + 3))) = 0 then nx_house σ (xs (i0 + 1)) (xs (i0 + 2)) (xs (i0 + 3)) else σ) := inv_if hI (fun z => hI.m_house z)
  exact lw_tail hC (k := k + 670) (n := n + 2700) hRf hRl (by omega) (by omega) hRk hRn hcd hI2 ⟨w1, wm, ωo2, ad2, x2, adm2, y2, hRc2, hmC2.trans hmC, hRm2, hmM2.trans hmM, hth2, hgr2, rfl, hd5, hd6, hlo2, hlD2⟩ (fun z => ⟨hv2 z, hv3 z⟩) (t1 := 1853) (t2 := 1870) rfl rfl (by decide) dL_law_1840 dL_law_1842 dL_law_1843 dL_law_1846 dL_law_1848 dL_law_1853 dL_law_1855 dL_law_1858 dL_law_1859 dL_law_1860 dL_law_1861 dL_law_1863 dL_law_1864 dL_law_1865 dL_law_1870 kk
set_option maxHeartbeats 1000000 in
set_option maxRecDepth 100000 in
theorem lc_settles {p : Program} {l : Launch} {e : Env} {R : Room} {s : State} {m : MethodId} {args : Array Value} {below : List Frame} {meth : Method} {c : Code} {g : Gl} {ω0 : Wd} {sz0 : Nat} {Q : State → Prop} {k n : Nat} (hC : Cx p l e R s m args below meth c cL_law 9 "BoringheadLaw" g ω0 sz0) (hst : l.stackTraces = false) (hN : NCs s) {b Ls : Nat} {xs : Nat → Int32} (hX : LX g ω0 sz0 s b Ls xs) (hRf : 60 ≤ R.frames) (hRl : 2000 ≤ R.locals) (hRk : k + 670 ≤ R.cells) (hRn : n + 2700 ≤ R.slots) {i0 : Nat} (hi : i0 + 5 ≤ Ls) {mC mM lo lD : Nat} {σ : St} (hI : Inv σ) {ω : Wd} (hL : LH g mC mM lo lD ω σ)
    (kk : ∀ ω' σ', Inv σ' → LH g mC mM lo lD ω' σ' → WP p l e R s m args below meth c g ω0 sz0 Q 9 ω' (k + 670) (n + 2700) 2920 (lwL b mC mM lo lD (nI i0)) []) : WP p l e R s m args below meth c g ω0 sz0 Q 9 ω k n 1873 (lwL b mC mM lo lD (nI i0)) [] := by
  obtain ⟨th, fl, fd, ωc, ωm, ωo, adc, x, adm, y, hRc, hmC, hRm, hmM, -, hgr, rfl, hd1, hd2, hlo, hlD⟩ := hL
  have hM := RepM.f_main hRm
  rw [hmM] at hM
  refine s_aload_n hC dL_law_1873 rfl rfl 2 rfl ?_
  refine s_aload_n hC dL_law_1874 rfl rfl 1 rfl ?_
  refine s_iload hC dL_law_1875 rfl 0 rfl ?_
  refine s_iconst hC (v := 1) dL_law_1877 rfl (by decide) ?_
  refine s_iadd hC dL_law_1878 rfl ?_
  refine s_sldX hC hX (i0 + 1) (nI_add i0 1) (by omega) dL_law_1879 rfl ?_
  refine s_aload_n hC dL_law_1880 rfl rfl 1 rfl ?_
  refine s_iload hC dL_law_1881 rfl 0 rfl ?_
  refine s_iconst hC (v := 2) dL_law_1883 rfl (by decide) ?_
  refine s_iadd hC dL_law_1884 rfl ?_
  refine s_sldX hC hX (i0 + 2) (nI_add i0 2) (by omega) dL_law_1885 rfl ?_
  refine s_nz hC (tf := 1893) (tj := 1894) dL_law_1886 dL_law_1889 dL_law_1890 dL_law_1893 rfl rfl ?_
  refine s_aload_n hC dL_law_1894 rfl rfl 4 rfl ?_
  have ct := ct_L_settles l g hst ωc (wjn ωm ωo) hd1 adc x σ hRc (xs (i0 + 1)) (decide (¬ xs (i0 + 2) = 0)) lo 1 fl ((wjn_r (djn_at hd2 hlo)).trans hlo) (by decide) (by decide)
  rw [hmC] at ct
  refine s_callSX hC hN ct ce_L_settles tw_1066 rfl rfl ⟨⟨Nat.le_trans (le_b rfl) hRf, Nat.le_trans (le_b rfl) hRl⟩, by omega, by omega⟩ (le_b rfl) dL_law_1895 rfl (fun r w h9 => ?_)
  obtain ⟨w1, w2, ad2, x2, rfl, hRc2, hmC2, rfl, hd3, hw2⟩ := h9
  obtain ⟨ωo2, f2, rfl, hd4, hlo2, hlD2, hv2⟩ := out_L hd2 hlo hlD hd3 hw2
  refine s_istore hC (L' := [(6, _), (5, _), (0, _), (1, _), (2, _), (3, _), (4, _)]) dL_law_1898 rfl (le_b rfl) rfl ?_
  refine s_aload_n hC dL_law_1900 rfl rfl 4 rfl ?_
  refine s_aload_n hC dL_law_1901 rfl rfl 2 rfl ?_
  refine s_iload hC dL_law_1902 rfl 1 rfl ?_
  refine s_iconst hC (v := 1) dL_law_1904 rfl (by decide) ?_
  refine s_iadd hC dL_law_1905 rfl ?_
  refine s_sldX hC hX (i0 + 1) (nI_add i0 1) (by omega) dL_law_1906 rfl ?_
  refine s_aload_n hC dL_law_1907 rfl rfl 2 rfl ?_
  refine s_iload hC dL_law_1908 rfl 1 rfl ?_
  refine s_iconst hC (v := 2) dL_law_1910 rfl (by decide) ?_
  refine s_iadd hC dL_law_1911 rfl ?_
  refine s_sldX hC hX (i0 + 2) (nI_add i0 2) (by omega) dL_law_1912 rfl ?_
  refine s_nz hC (tf := 1920) (tj := 1921) dL_law_1913 dL_law_1916 dL_law_1917 dL_law_1920 rfl rfl ?_
  have ct2 := CT.mid (ct_X11_settles l g ωm adm y σ hRm (xs (i0 + 1)) (decide (¬ xs (i0 + 2) = 0)) hgr hI.x_kIn hI.x_rkOK hI.x_nOK hI.x_dIn hI.x_hIn) hd3 hd4
  rw [hmM] at ct2
  refine s_callV hC ct2 ce_X11_settles cs_X11 ((wjn_r (djn_at hd3 (wjn_l hM))).trans (wjn_l hM)) tw_1737 rfl rfl ⟨⟨Nat.le_trans (le_b rfl) hRf, Nat.le_trans (le_b rfl) hRl⟩, by omega, by omega⟩ (le_b rfl) dL_law_1921 rfl (fun r w h9 => ?_) (fun E w h9 => h9.choose_spec.1.elim)
  obtain ⟨wm, ⟨v, adm2, y2, rfl, hv3, hRm2, hmM2, hth2, hgr2⟩, rfl, hd5, hd6⟩ := h9
  have hcd : (cd_settles σ (xs (i0 + 1)) (decide (¬ xs (i0 + 2) = 0))) < 2 ^ 31 := by
    unfold cd_settles
    (repeat' split) <;> decide
  have hI2 : Inv (if (cd_settles σ (xs (i0 + 1)) (decide (¬ xs (i0 + 2) = 0))) = 0 then σ else σ) := inv_if hI (fun z => hI)
  exact lw_tail hC (k := k + 670) (n := n + 2700) hRf hRl (by omega) (by omega) hRk hRn hcd hI2 ⟨w1, wm, ωo2, ad2, x2, adm2, y2, hRc2, hmC2.trans hmC, hRm2, hmM2.trans hmM, hth2, hgr2, rfl, hd5, hd6, hlo2, hlD2⟩ (fun z => ⟨hv2 z, hv3 z⟩) (t1 := 1937) (t2 := 1954) rfl rfl (by decide) dL_law_1924 dL_law_1926 dL_law_1927 dL_law_1930 dL_law_1932 dL_law_1937 dL_law_1939 dL_law_1942 dL_law_1943 dL_law_1944 dL_law_1945 dL_law_1947 dL_law_1948 dL_law_1949 dL_law_1954 kk
set_option maxHeartbeats 1000000 in
set_option maxRecDepth 100000 in
theorem lc_tilt {p : Program} {l : Launch} {e : Env} {R : Room} {s : State} {m : MethodId} {args : Array Value} {below : List Frame} {meth : Method} {c : Code} {g : Gl} {ω0 : Wd} {sz0 : Nat} {Q : State → Prop} {k n : Nat} (hC : Cx p l e R s m args below meth c cL_law 9 "BoringheadLaw" g ω0 sz0) (hst : l.stackTraces = false) (hN : NCs s) {b Ls : Nat} {xs : Nat → Int32} (hX : LX g ω0 sz0 s b Ls xs) (hRf : 60 ≤ R.frames) (hRl : 2000 ≤ R.locals) (hRk : k + 670 ≤ R.cells) (hRn : n + 2700 ≤ R.slots) {i0 : Nat} (hi : i0 + 5 ≤ Ls) {mC mM lo lD : Nat} {σ : St} (hI : Inv σ) {ω : Wd} (hL : LH g mC mM lo lD ω σ)
    (kk : ∀ ω' σ', Inv σ' → LH g mC mM lo lD ω' σ' → WP p l e R s m args below meth c g ω0 sz0 Q 9 ω' (k + 670) (n + 2700) 2920 (lwL b mC mM lo lD (nI i0)) []) : WP p l e R s m args below meth c g ω0 sz0 Q 9 ω k n 1957 (lwL b mC mM lo lD (nI i0)) [] := by
  obtain ⟨th, fl, fd, ωc, ωm, ωo, adc, x, adm, y, hRc, hmC, hRm, hmM, -, hgr, rfl, hd1, hd2, hlo, hlD⟩ := hL
  have hM := RepM.f_main hRm
  rw [hmM] at hM
  refine s_aload_n hC dL_law_1957 rfl rfl 2 rfl ?_
  refine s_aload_n hC dL_law_1958 rfl rfl 1 rfl ?_
  refine s_iload hC dL_law_1959 rfl 0 rfl ?_
  refine s_iconst hC (v := 1) dL_law_1961 rfl (by decide) ?_
  refine s_iadd hC dL_law_1962 rfl ?_
  refine s_sldX hC hX (i0 + 1) (nI_add i0 1) (by omega) dL_law_1963 rfl ?_
  refine s_aload_n hC dL_law_1964 rfl rfl 4 rfl ?_
  have ct := ct_L_tilt l g hst ωc (wjn ωm ωo) hd1 adc x σ hRc (xs (i0 + 1)) lo 1 fl ((wjn_r (djn_at hd2 hlo)).trans hlo) (by decide) (by decide)
  rw [hmC] at ct
  refine s_callSX hC hN ct ce_L_tilt tw_1086 rfl rfl ⟨⟨Nat.le_trans (le_b rfl) hRf, Nat.le_trans (le_b rfl) hRl⟩, by omega, by omega⟩ (le_b rfl) dL_law_1965 rfl (fun r w h9 => ?_)
  obtain ⟨w1, w2, ad2, x2, rfl, hRc2, hmC2, rfl, hd3, hw2⟩ := h9
  obtain ⟨ωo2, f2, rfl, hd4, hlo2, hlD2, hv2⟩ := out_L hd2 hlo hlD hd3 hw2
  refine s_istore hC (L' := [(6, _), (5, _), (0, _), (1, _), (2, _), (3, _), (4, _)]) dL_law_1968 rfl (le_b rfl) rfl ?_
  refine s_aload_n hC dL_law_1970 rfl rfl 4 rfl ?_
  refine s_aload_n hC dL_law_1971 rfl rfl 2 rfl ?_
  refine s_iload hC dL_law_1972 rfl 1 rfl ?_
  refine s_iconst hC (v := 1) dL_law_1974 rfl (by decide) ?_
  refine s_iadd hC dL_law_1975 rfl ?_
  refine s_sldX hC hX (i0 + 1) (nI_add i0 1) (by omega) dL_law_1976 rfl ?_
  have ct2 := CT.mid (ct_X11_tilt l g ωm adm y σ hRm (xs (i0 + 1)) hgr hI.x_kIn hI.x_rkOK hI.x_nOK hI.x_dIn hI.x_hIn) hd3 hd4
  rw [hmM] at ct2
  refine s_callV hC ct2 ce_X11_tilt cs_X11 ((wjn_r (djn_at hd3 (wjn_l hM))).trans (wjn_l hM)) tw_1749 rfl rfl ⟨⟨Nat.le_trans (le_b rfl) hRf, Nat.le_trans (le_b rfl) hRl⟩, by omega, by omega⟩ (le_b rfl) dL_law_1977 rfl (fun r w h9 => ?_) (fun E w h9 => h9.choose_spec.1.elim)
  obtain ⟨wm, ⟨v, adm2, y2, rfl, hv3, hRm2, hmM2, hth2, hgr2⟩, rfl, hd5, hd6⟩ := h9
  have hcd : (cd_tilt σ (xs (i0 + 1))) < 2 ^ 31 := by
    unfold cd_tilt
    (repeat' split) <;> decide
  have hI2 : Inv (if (cd_tilt σ (xs (i0 + 1))) = 0 then σ else σ) := inv_if hI (fun z => hI)
  exact lw_tail hC (k := k + 670) (n := n + 2700) hRf hRl (by omega) (by omega) hRk hRn hcd hI2 ⟨w1, wm, ωo2, ad2, x2, adm2, y2, hRc2, hmC2.trans hmC, hRm2, hmM2.trans hmM, hth2, hgr2, rfl, hd5, hd6, hlo2, hlD2⟩ (fun z => ⟨hv2 z, hv3 z⟩) (t1 := 1993) (t2 := 2010) rfl rfl (by decide) dL_law_1980 dL_law_1982 dL_law_1983 dL_law_1986 dL_law_1988 dL_law_1993 dL_law_1995 dL_law_1998 dL_law_1999 dL_law_2000 dL_law_2001 dL_law_2003 dL_law_2004 dL_law_2005 dL_law_2010 kk
set_option maxHeartbeats 1000000 in
set_option maxRecDepth 100000 in
theorem lc_damage {p : Program} {l : Launch} {e : Env} {R : Room} {s : State} {m : MethodId} {args : Array Value} {below : List Frame} {meth : Method} {c : Code} {g : Gl} {ω0 : Wd} {sz0 : Nat} {Q : State → Prop} {k n : Nat} (hC : Cx p l e R s m args below meth c cL_law 9 "BoringheadLaw" g ω0 sz0) (hst : l.stackTraces = false) (hN : NCs s) {b Ls : Nat} {xs : Nat → Int32} (hX : LX g ω0 sz0 s b Ls xs) (hRf : 60 ≤ R.frames) (hRl : 2000 ≤ R.locals) (hRk : k + 670 ≤ R.cells) (hRn : n + 2700 ≤ R.slots) {i0 : Nat} (hi : i0 + 5 ≤ Ls) {mC mM lo lD : Nat} {σ : St} (hI : Inv σ) {ω : Wd} (hL : LH g mC mM lo lD ω σ)
    (kk : ∀ ω' σ', Inv σ' → LH g mC mM lo lD ω' σ' → WP p l e R s m args below meth c g ω0 sz0 Q 9 ω' (k + 670) (n + 2700) 2920 (lwL b mC mM lo lD (nI i0)) []) : WP p l e R s m args below meth c g ω0 sz0 Q 9 ω k n 2013 (lwL b mC mM lo lD (nI i0)) [] := by
  obtain ⟨th, fl, fd, ωc, ωm, ωo, adc, x, adm, y, hRc, hmC, hRm, hmM, -, hgr, rfl, hd1, hd2, hlo, hlD⟩ := hL
  have hM := RepM.f_main hRm
  rw [hmM] at hM
  refine s_aload_n hC dL_law_2013 rfl rfl 2 rfl ?_
  refine s_aload_n hC dL_law_2014 rfl rfl 1 rfl ?_
  refine s_iload hC dL_law_2015 rfl 0 rfl ?_
  refine s_iconst hC (v := 1) dL_law_2017 rfl (by decide) ?_
  refine s_iadd hC dL_law_2018 rfl ?_
  refine s_sldX hC hX (i0 + 1) (nI_add i0 1) (by omega) dL_law_2019 rfl ?_
  refine s_aload_n hC dL_law_2020 rfl rfl 4 rfl ?_
  have ct := ct_L_damage l g hst ωc (wjn ωm ωo) hd1 adc x σ hRc (xs (i0 + 1)) lo 1 fl ((wjn_r (djn_at hd2 hlo)).trans hlo) (by decide) (by decide)
  rw [hmC] at ct
  refine s_callSX hC hN ct ce_L_damage tw_1098 rfl rfl ⟨⟨Nat.le_trans (le_b rfl) hRf, Nat.le_trans (le_b rfl) hRl⟩, by omega, by omega⟩ (le_b rfl) dL_law_2021 rfl (fun r w h9 => ?_)
  obtain ⟨w1, w2, ad2, x2, rfl, hRc2, hmC2, rfl, hd3, hw2⟩ := h9
  obtain ⟨ωo2, f2, rfl, hd4, hlo2, hlD2, hv2⟩ := out_L hd2 hlo hlD hd3 hw2
  refine s_istore hC (L' := [(6, _), (5, _), (0, _), (1, _), (2, _), (3, _), (4, _)]) dL_law_2024 rfl (le_b rfl) rfl ?_
  refine s_aload_n hC dL_law_2026 rfl rfl 4 rfl ?_
  refine s_aload_n hC dL_law_2027 rfl rfl 2 rfl ?_
  refine s_iload hC dL_law_2028 rfl 1 rfl ?_
  refine s_iconst hC (v := 1) dL_law_2030 rfl (by decide) ?_
  refine s_iadd hC dL_law_2031 rfl ?_
  refine s_sldX hC hX (i0 + 1) (nI_add i0 1) (by omega) dL_law_2032 rfl ?_
  have ct2 := CT.mid (ct_X11_damage l g ωm adm y σ hRm (xs (i0 + 1)) hgr hI.x_kIn hI.x_rkOK hI.x_nOK hI.x_dIn hI.x_hIn) hd3 hd4
  rw [hmM] at ct2
  refine s_callV hC ct2 ce_X11_damage cs_X11 ((wjn_r (djn_at hd3 (wjn_l hM))).trans (wjn_l hM)) tw_1757 rfl rfl ⟨⟨Nat.le_trans (le_b rfl) hRf, Nat.le_trans (le_b rfl) hRl⟩, by omega, by omega⟩ (le_b rfl) dL_law_2033 rfl (fun r w h9 => ?_) (fun E w h9 => h9.choose_spec.1.elim)
  obtain ⟨wm, ⟨v, adm2, y2, rfl, hv3, hRm2, hmM2, hth2, hgr2⟩, rfl, hd5, hd6⟩ := h9
  have hcd : (cd_damage σ (xs (i0 + 1))) < 2 ^ 31 := by
    unfold cd_damage
    (repeat' split) <;> decide
  have hI2 : Inv (if (cd_damage σ (xs (i0 + 1))) = 0 then σ else σ) := inv_if hI (fun z => hI)
  exact lw_tail hC (k := k + 670) (n := n + 2700) hRf hRl (by omega) (by omega) hRk hRn hcd hI2 ⟨w1, wm, ωo2, ad2, x2, adm2, y2, hRc2, hmC2.trans hmC, hRm2, hmM2.trans hmM, hth2, hgr2, rfl, hd5, hd6, hlo2, hlD2⟩ (fun z => ⟨hv2 z, hv3 z⟩) (t1 := 2049) (t2 := 2066) rfl rfl (by decide) dL_law_2036 dL_law_2038 dL_law_2039 dL_law_2042 dL_law_2044 dL_law_2049 dL_law_2051 dL_law_2054 dL_law_2055 dL_law_2056 dL_law_2057 dL_law_2059 dL_law_2060 dL_law_2061 dL_law_2066 kk
set_option maxHeartbeats 1000000 in
set_option maxRecDepth 100000 in
theorem lc_read {p : Program} {l : Launch} {e : Env} {R : Room} {s : State} {m : MethodId} {args : Array Value} {below : List Frame} {meth : Method} {c : Code} {g : Gl} {ω0 : Wd} {sz0 : Nat} {Q : State → Prop} {k n : Nat} (hC : Cx p l e R s m args below meth c cL_law 9 "BoringheadLaw" g ω0 sz0) (hst : l.stackTraces = false) (hN : NCs s) {b Ls : Nat} {xs : Nat → Int32} (hX : LX g ω0 sz0 s b Ls xs) (hRf : 60 ≤ R.frames) (hRl : 2000 ≤ R.locals) (hRk : k + 670 ≤ R.cells) (hRn : n + 2700 ≤ R.slots) {i0 : Nat} (hi : i0 + 5 ≤ Ls) {mC mM lo lD : Nat} {σ : St} (hI : Inv σ) {ω : Wd} (hL : LH g mC mM lo lD ω σ)
    (kk : ∀ ω' σ', Inv σ' → LH g mC mM lo lD ω' σ' → WP p l e R s m args below meth c g ω0 sz0 Q 9 ω' (k + 670) (n + 2700) 2920 (lwL b mC mM lo lD (nI i0)) []) : WP p l e R s m args below meth c g ω0 sz0 Q 9 ω k n 2069 (lwL b mC mM lo lD (nI i0)) [] := by
  obtain ⟨th, fl, fd, ωc, ωm, ωo, adc, x, adm, y, hRc, hmC, hRm, hmM, -, hgr, rfl, hd1, hd2, hlo, hlD⟩ := hL
  have hM := RepM.f_main hRm
  rw [hmM] at hM
  refine s_aload_n hC dL_law_2069 rfl rfl 2 rfl ?_
  refine s_aload_n hC dL_law_2070 rfl rfl 1 rfl ?_
  refine s_iload hC dL_law_2071 rfl 0 rfl ?_
  refine s_iconst hC (v := 1) dL_law_2073 rfl (by decide) ?_
  refine s_iadd hC dL_law_2074 rfl ?_
  refine s_sldX hC hX (i0 + 1) (nI_add i0 1) (by omega) dL_law_2075 rfl ?_
  refine s_aload_n hC dL_law_2076 rfl rfl 4 rfl ?_
  have ct := ct_L_read l g hst ωc (wjn ωm ωo) hd1 adc x σ hRc (xs (i0 + 1)) lo 1 fl ((wjn_r (djn_at hd2 hlo)).trans hlo) (by decide) (by decide)
  rw [hmC] at ct
  refine s_callSX hC hN ct ce_L_read tw_1105 rfl rfl ⟨⟨Nat.le_trans (le_b rfl) hRf, Nat.le_trans (le_b rfl) hRl⟩, by omega, by omega⟩ (le_b rfl) dL_law_2077 rfl (fun r w h9 => ?_)
  obtain ⟨w1, w2, ad2, x2, rfl, hRc2, hmC2, rfl, hd3, hw2⟩ := h9
  obtain ⟨ωo2, f2, rfl, hd4, hlo2, hlD2, hv2⟩ := out_L hd2 hlo hlD hd3 hw2
  refine s_istore hC (L' := [(6, _), (5, _), (0, _), (1, _), (2, _), (3, _), (4, _)]) dL_law_2080 rfl (le_b rfl) rfl ?_
  refine s_aload_n hC dL_law_2082 rfl rfl 4 rfl ?_
  refine s_aload_n hC dL_law_2083 rfl rfl 2 rfl ?_
  refine s_iload hC dL_law_2084 rfl 1 rfl ?_
  refine s_iconst hC (v := 1) dL_law_2086 rfl (by decide) ?_
  refine s_iadd hC dL_law_2087 rfl ?_
  refine s_sldX hC hX (i0 + 1) (nI_add i0 1) (by omega) dL_law_2088 rfl ?_
  have ct2 := CT.mid (ct_X11_read l g ωm adm y σ hRm (xs (i0 + 1)) hgr hI.x_kIn hI.x_rkOK hI.x_nOK hI.x_dIn hI.x_hIn) hd3 hd4
  rw [hmM] at ct2
  refine s_callV hC ct2 ce_X11_read cs_X11 ((wjn_r (djn_at hd3 (wjn_l hM))).trans (wjn_l hM)) tw_1761 rfl rfl ⟨⟨Nat.le_trans (le_b rfl) hRf, Nat.le_trans (le_b rfl) hRl⟩, by omega, by omega⟩ (le_b rfl) dL_law_2089 rfl (fun r w h9 => ?_) (fun E w h9 => h9.choose_spec.1.elim)
  obtain ⟨wm, ⟨v, adm2, y2, rfl, hv3, hRm2, hmM2, hth2, hgr2⟩, rfl, hd5, hd6⟩ := h9
  have hcd : (cd_read σ (xs (i0 + 1))) < 2 ^ 31 := by
    unfold cd_read
    (repeat' split) <;> decide
  have hI2 : Inv (if (cd_read σ (xs (i0 + 1))) = 0 then nx_read σ (xs (i0 + 1)) else σ) := inv_if hI (fun z => hI.m_read _)
  exact lw_tail hC (k := k + 670) (n := n + 2700) hRf hRl (by omega) (by omega) hRk hRn hcd hI2 ⟨w1, wm, ωo2, ad2, x2, adm2, y2, hRc2, hmC2.trans hmC, hRm2, hmM2.trans hmM, hth2, hgr2, rfl, hd5, hd6, hlo2, hlD2⟩ (fun z => ⟨hv2 z, hv3 z⟩) (t1 := 2105) (t2 := 2122) rfl rfl (by decide) dL_law_2092 dL_law_2094 dL_law_2095 dL_law_2098 dL_law_2100 dL_law_2105 dL_law_2107 dL_law_2110 dL_law_2111 dL_law_2112 dL_law_2113 dL_law_2115 dL_law_2116 dL_law_2117 dL_law_2122 kk
set_option maxHeartbeats 1000000 in
set_option maxRecDepth 100000 in
theorem lc_alarm {p : Program} {l : Launch} {e : Env} {R : Room} {s : State} {m : MethodId} {args : Array Value} {below : List Frame} {meth : Method} {c : Code} {g : Gl} {ω0 : Wd} {sz0 : Nat} {Q : State → Prop} {k n : Nat} (hC : Cx p l e R s m args below meth c cL_law 9 "BoringheadLaw" g ω0 sz0) (hst : l.stackTraces = false) (hN : NCs s) {b Ls : Nat} {xs : Nat → Int32} (hX : LX g ω0 sz0 s b Ls xs) (hRf : 60 ≤ R.frames) (hRl : 2000 ≤ R.locals) (hRk : k + 670 ≤ R.cells) (hRn : n + 2700 ≤ R.slots) {i0 : Nat} (hi : i0 + 5 ≤ Ls) {mC mM lo lD : Nat} {σ : St} (hI : Inv σ) {ω : Wd} (hL : LH g mC mM lo lD ω σ)
    (kk : ∀ ω' σ', Inv σ' → LH g mC mM lo lD ω' σ' → WP p l e R s m args below meth c g ω0 sz0 Q 9 ω' (k + 670) (n + 2700) 2920 (lwL b mC mM lo lD (nI i0)) []) : WP p l e R s m args below meth c g ω0 sz0 Q 9 ω k n 2125 (lwL b mC mM lo lD (nI i0)) [] := by
  obtain ⟨th, fl, fd, ωc, ωm, ωo, adc, x, adm, y, hRc, hmC, hRm, hmM, -, hgr, rfl, hd1, hd2, hlo, hlD⟩ := hL
  have hM := RepM.f_main hRm
  rw [hmM] at hM
  refine s_aload_n hC dL_law_2125 rfl rfl 2 rfl ?_
  refine s_aload_n hC dL_law_2126 rfl rfl 1 rfl ?_
  refine s_iload hC dL_law_2127 rfl 0 rfl ?_
  refine s_iconst hC (v := 1) dL_law_2129 rfl (by decide) ?_
  refine s_iadd hC dL_law_2130 rfl ?_
  refine s_sldX hC hX (i0 + 1) (nI_add i0 1) (by omega) dL_law_2131 rfl ?_
  refine s_aload_n hC dL_law_2132 rfl rfl 4 rfl ?_
  have ct := ct_L_alarm l g hst ωc (wjn ωm ωo) hd1 adc x σ hRc (xs (i0 + 1)) lo 1 fl ((wjn_r (djn_at hd2 hlo)).trans hlo) (by decide) (by decide)
  rw [hmC] at ct
  refine s_callSX hC hN ct ce_L_alarm tw_1112 rfl rfl ⟨⟨Nat.le_trans (le_b rfl) hRf, Nat.le_trans (le_b rfl) hRl⟩, by omega, by omega⟩ (le_b rfl) dL_law_2133 rfl (fun r w h9 => ?_)
  obtain ⟨w1, w2, ad2, x2, rfl, hRc2, hmC2, rfl, hd3, hw2⟩ := h9
  obtain ⟨ωo2, f2, rfl, hd4, hlo2, hlD2, hv2⟩ := out_L hd2 hlo hlD hd3 hw2
  refine s_istore hC (L' := [(6, _), (5, _), (0, _), (1, _), (2, _), (3, _), (4, _)]) dL_law_2136 rfl (le_b rfl) rfl ?_
  refine s_aload_n hC dL_law_2138 rfl rfl 4 rfl ?_
  refine s_aload_n hC dL_law_2139 rfl rfl 2 rfl ?_
  refine s_iload hC dL_law_2140 rfl 1 rfl ?_
  refine s_iconst hC (v := 1) dL_law_2142 rfl (by decide) ?_
  refine s_iadd hC dL_law_2143 rfl ?_
  refine s_sldX hC hX (i0 + 1) (nI_add i0 1) (by omega) dL_law_2144 rfl ?_
  have ct2 := CT.mid (ct_X11_alarm l g ωm adm y σ hRm (xs (i0 + 1)) hgr) hd3 hd4
  rw [hmM] at ct2
  refine s_callV hC ct2 ce_X11_alarm cs_X11 ((wjn_r (djn_at hd3 (wjn_l hM))).trans (wjn_l hM)) tw_1765 rfl rfl ⟨⟨Nat.le_trans (le_b rfl) hRf, Nat.le_trans (le_b rfl) hRl⟩, by omega, by omega⟩ (le_b rfl) dL_law_2145 rfl (fun r w h9 => ?_) (fun E w h9 => h9.choose_spec.1.elim)
  obtain ⟨wm, ⟨v, adm2, y2, rfl, hv3, hRm2, hmM2, hth2, hgr2⟩, rfl, hd5, hd6⟩ := h9
  have hcd : (cd_alarm σ (xs (i0 + 1))) < 2 ^ 31 := by
    unfold cd_alarm
    (repeat' split) <;> decide
  have hI2 : Inv (if (cd_alarm σ (xs (i0 + 1))) = 0 then σ else σ) := inv_if hI (fun z => hI)
  exact lw_tail hC (k := k + 670) (n := n + 2700) hRf hRl (by omega) (by omega) hRk hRn hcd hI2 ⟨w1, wm, ωo2, ad2, x2, adm2, y2, hRc2, hmC2.trans hmC, hRm2, hmM2.trans hmM, hth2, hgr2, rfl, hd5, hd6, hlo2, hlD2⟩ (fun z => ⟨hv2 z, hv3 z⟩) (t1 := 2161) (t2 := 2178) rfl rfl (by decide) dL_law_2148 dL_law_2150 dL_law_2151 dL_law_2154 dL_law_2156 dL_law_2161 dL_law_2163 dL_law_2166 dL_law_2167 dL_law_2168 dL_law_2169 dL_law_2171 dL_law_2172 dL_law_2173 dL_law_2178 kk
set_option maxHeartbeats 1000000 in
set_option maxRecDepth 100000 in
theorem lc_lift {p : Program} {l : Launch} {e : Env} {R : Room} {s : State} {m : MethodId} {args : Array Value} {below : List Frame} {meth : Method} {c : Code} {g : Gl} {ω0 : Wd} {sz0 : Nat} {Q : State → Prop} {k n : Nat} (hC : Cx p l e R s m args below meth c cL_law 9 "BoringheadLaw" g ω0 sz0) (hst : l.stackTraces = false) (hN : NCs s) {b Ls : Nat} {xs : Nat → Int32} (hX : LX g ω0 sz0 s b Ls xs) (hRf : 60 ≤ R.frames) (hRl : 2000 ≤ R.locals) (hRk : k + 670 ≤ R.cells) (hRn : n + 2700 ≤ R.slots) {i0 : Nat} (hi : i0 + 5 ≤ Ls) {mC mM lo lD : Nat} {σ : St} (hI : Inv σ) {ω : Wd} (hL : LH g mC mM lo lD ω σ)
    (kk : ∀ ω' σ', Inv σ' → LH g mC mM lo lD ω' σ' → WP p l e R s m args below meth c g ω0 sz0 Q 9 ω' (k + 670) (n + 2700) 2920 (lwL b mC mM lo lD (nI i0)) []) : WP p l e R s m args below meth c g ω0 sz0 Q 9 ω k n 2181 (lwL b mC mM lo lD (nI i0)) [] := by
  obtain ⟨th, fl, fd, ωc, ωm, ωo, adc, x, adm, y, hRc, hmC, hRm, hmM, -, hgr, rfl, hd1, hd2, hlo, hlD⟩ := hL
  have hM := RepM.f_main hRm
  rw [hmM] at hM
  refine s_aload_n hC dL_law_2181 rfl rfl 2 rfl ?_
  refine s_aload_n hC dL_law_2182 rfl rfl 1 rfl ?_
  refine s_iload hC dL_law_2183 rfl 0 rfl ?_
  refine s_iconst hC (v := 1) dL_law_2185 rfl (by decide) ?_
  refine s_iadd hC dL_law_2186 rfl ?_
  refine s_sldX hC hX (i0 + 1) (nI_add i0 1) (by omega) dL_law_2187 rfl ?_
  refine s_aload_n hC dL_law_2188 rfl rfl 1 rfl ?_
  refine s_iload hC dL_law_2189 rfl 0 rfl ?_
  refine s_iconst hC (v := 2) dL_law_2191 rfl (by decide) ?_
  refine s_iadd hC dL_law_2192 rfl ?_
  refine s_sldX hC hX (i0 + 2) (nI_add i0 2) (by omega) dL_law_2193 rfl ?_
  refine s_nz hC (tf := 2201) (tj := 2202) dL_law_2194 dL_law_2197 dL_law_2198 dL_law_2201 rfl rfl ?_
  refine s_aload_n hC dL_law_2202 rfl rfl 1 rfl ?_
  refine s_iload hC dL_law_2203 rfl 0 rfl ?_
  refine s_iconst hC (v := 3) dL_law_2205 rfl (by decide) ?_
  refine s_iadd hC dL_law_2206 rfl ?_
  refine s_sldX hC hX (i0 + 3) (nI_add i0 3) (by omega) dL_law_2207 rfl ?_
  refine s_aload_n hC dL_law_2208 rfl rfl 4 rfl ?_
  have ct := ct_L_lift l g hst ωc (wjn ωm ωo) hd1 adc x σ hRc (xs (i0 + 1)) (decide (¬ xs (i0 + 2) = 0)) (xs (i0 + 3)) lo 1 fl ((wjn_r (djn_at hd2 hlo)).trans hlo) (by decide) (by decide)
  rw [hmC] at ct
  refine s_callSX hC hN ct ce_L_lift tw_1119 rfl rfl ⟨⟨Nat.le_trans (le_b rfl) hRf, Nat.le_trans (le_b rfl) hRl⟩, by omega, by omega⟩ (le_b rfl) dL_law_2209 rfl (fun r w h9 => ?_)
  obtain ⟨w1, w2, ad2, x2, rfl, hRc2, hmC2, rfl, hd3, hw2⟩ := h9
  obtain ⟨ωo2, f2, rfl, hd4, hlo2, hlD2, hv2⟩ := out_L hd2 hlo hlD hd3 hw2
  refine s_istore hC (L' := [(6, _), (5, _), (0, _), (1, _), (2, _), (3, _), (4, _)]) dL_law_2212 rfl (le_b rfl) rfl ?_
  refine s_aload_n hC dL_law_2214 rfl rfl 4 rfl ?_
  refine s_aload_n hC dL_law_2215 rfl rfl 2 rfl ?_
  refine s_iload hC dL_law_2216 rfl 1 rfl ?_
  refine s_iconst hC (v := 1) dL_law_2218 rfl (by decide) ?_
  refine s_iadd hC dL_law_2219 rfl ?_
  refine s_sldX hC hX (i0 + 1) (nI_add i0 1) (by omega) dL_law_2220 rfl ?_
  refine s_aload_n hC dL_law_2221 rfl rfl 2 rfl ?_
  refine s_iload hC dL_law_2222 rfl 1 rfl ?_
  refine s_iconst hC (v := 2) dL_law_2224 rfl (by decide) ?_
  refine s_iadd hC dL_law_2225 rfl ?_
  refine s_sldX hC hX (i0 + 2) (nI_add i0 2) (by omega) dL_law_2226 rfl ?_
  refine s_nz hC (tf := 2234) (tj := 2235) dL_law_2227 dL_law_2230 dL_law_2231 dL_law_2234 rfl rfl ?_
  refine s_aload_n hC dL_law_2235 rfl rfl 2 rfl ?_
  refine s_iload hC dL_law_2236 rfl 1 rfl ?_
  refine s_iconst hC (v := 3) dL_law_2238 rfl (by decide) ?_
  refine s_iadd hC dL_law_2239 rfl ?_
  refine s_sldX hC hX (i0 + 3) (nI_add i0 3) (by omega) dL_law_2240 rfl ?_
  have ct2 := CT.mid (ct_X11_lift l g ωm adm y σ hRm (xs (i0 + 1)) (decide (¬ xs (i0 + 2) = 0)) (xs (i0 + 3)) hgr hI.x_kIn hI.x_rkOK hI.x_nOK hI.x_dIn hI.x_hIn) hd3 hd4
  rw [hmM] at ct2
  refine s_callV hC ct2 ce_X11_lift cs_X11 ((wjn_r (djn_at hd3 (wjn_l hM))).trans (wjn_l hM)) tw_1769 rfl rfl ⟨⟨Nat.le_trans (le_b rfl) hRf, Nat.le_trans (le_b rfl) hRl⟩, by omega, by omega⟩ (le_b rfl) dL_law_2241 rfl (fun r w h9 => ?_) (fun E w h9 => h9.choose_spec.1.elim)
  obtain ⟨wm, ⟨v, adm2, y2, rfl, hv3, hRm2, hmM2, hth2, hgr2⟩, rfl, hd5, hd6⟩ := h9
  have hcd : (cd_lift σ (xs (i0 + 1)) (decide (¬ xs (i0 + 2) = 0)) (xs (i0 + 3))) < 2 ^ 31 := by
    unfold cd_lift
    (repeat' split) <;> decide
  have hI2 : Inv (if (cd_lift σ (xs (i0 + 1)) (decide (¬ xs (i0 + 2) = 0)) (xs (i0 + 3))) = 0 then nx_lift σ (xs (i0 + 1)) (decide (¬ xs (i0 + 2) = 0)) (xs (i0 + 3)) else σ) := inv_if hI (fun z => hI.m_lift z)
  exact lw_tail hC (k := k + 670) (n := n + 2700) hRf hRl (by omega) (by omega) hRk hRn hcd hI2 ⟨w1, wm, ωo2, ad2, x2, adm2, y2, hRc2, hmC2.trans hmC, hRm2, hmM2.trans hmM, hth2, hgr2, rfl, hd5, hd6, hlo2, hlD2⟩ (fun z => ⟨hv2 z, hv3 z⟩) (t1 := 2257) (t2 := 2274) rfl rfl (by decide) dL_law_2244 dL_law_2246 dL_law_2247 dL_law_2250 dL_law_2252 dL_law_2257 dL_law_2259 dL_law_2262 dL_law_2263 dL_law_2264 dL_law_2265 dL_law_2267 dL_law_2268 dL_law_2269 dL_law_2274 kk
set_option maxHeartbeats 1000000 in
set_option maxRecDepth 100000 in
theorem lc_deliver {p : Program} {l : Launch} {e : Env} {R : Room} {s : State} {m : MethodId} {args : Array Value} {below : List Frame} {meth : Method} {c : Code} {g : Gl} {ω0 : Wd} {sz0 : Nat} {Q : State → Prop} {k n : Nat} (hC : Cx p l e R s m args below meth c cL_law 9 "BoringheadLaw" g ω0 sz0) (hst : l.stackTraces = false) (hN : NCs s) {b Ls : Nat} {xs : Nat → Int32} (hX : LX g ω0 sz0 s b Ls xs) (hRf : 60 ≤ R.frames) (hRl : 2000 ≤ R.locals) (hRk : k + 670 ≤ R.cells) (hRn : n + 2700 ≤ R.slots) {i0 : Nat} (hi : i0 + 5 ≤ Ls) {mC mM lo lD : Nat} {σ : St} (hI : Inv σ) {ω : Wd} (hL : LH g mC mM lo lD ω σ)
    (kk : ∀ ω' σ', Inv σ' → LH g mC mM lo lD ω' σ' → WP p l e R s m args below meth c g ω0 sz0 Q 9 ω' (k + 670) (n + 2700) 2920 (lwL b mC mM lo lD (nI i0)) []) : WP p l e R s m args below meth c g ω0 sz0 Q 9 ω k n 2277 (lwL b mC mM lo lD (nI i0)) [] := by
  obtain ⟨th, fl, fd, ωc, ωm, ωo, adc, x, adm, y, hRc, hmC, hRm, hmM, -, hgr, rfl, hd1, hd2, hlo, hlD⟩ := hL
  have hM := RepM.f_main hRm
  rw [hmM] at hM
  refine s_aload_n hC dL_law_2277 rfl rfl 2 rfl ?_
  refine s_aload_n hC dL_law_2278 rfl rfl 1 rfl ?_
  refine s_iload hC dL_law_2279 rfl 0 rfl ?_
  refine s_iconst hC (v := 1) dL_law_2281 rfl (by decide) ?_
  refine s_iadd hC dL_law_2282 rfl ?_
  refine s_sldX hC hX (i0 + 1) (nI_add i0 1) (by omega) dL_law_2283 rfl ?_
  refine s_aload_n hC dL_law_2284 rfl rfl 4 rfl ?_
  have ct := ct_L_deliver l g hst ωc (wjn ωm ωo) hd1 adc x σ hRc (xs (i0 + 1)) lo 1 fl ((wjn_r (djn_at hd2 hlo)).trans hlo) (by decide) (by decide)
  rw [hmC] at ct
  refine s_callSX hC hN ct ce_L_deliver tw_1126 rfl rfl ⟨⟨Nat.le_trans (le_b rfl) hRf, Nat.le_trans (le_b rfl) hRl⟩, by omega, by omega⟩ (le_b rfl) dL_law_2285 rfl (fun r w h9 => ?_)
  obtain ⟨w1, w2, ad2, x2, rfl, hRc2, hmC2, rfl, hd3, hw2⟩ := h9
  obtain ⟨ωo2, f2, rfl, hd4, hlo2, hlD2, hv2⟩ := out_L hd2 hlo hlD hd3 hw2
  refine s_istore hC (L' := [(6, _), (5, _), (0, _), (1, _), (2, _), (3, _), (4, _)]) dL_law_2288 rfl (le_b rfl) rfl ?_
  refine s_aload_n hC dL_law_2290 rfl rfl 4 rfl ?_
  refine s_aload_n hC dL_law_2291 rfl rfl 2 rfl ?_
  refine s_iload hC dL_law_2292 rfl 1 rfl ?_
  refine s_iconst hC (v := 1) dL_law_2294 rfl (by decide) ?_
  refine s_iadd hC dL_law_2295 rfl ?_
  refine s_sldX hC hX (i0 + 1) (nI_add i0 1) (by omega) dL_law_2296 rfl ?_
  have ct2 := CT.mid (ct_X11_deliver l g ωm adm y σ hRm (xs (i0 + 1)) hgr) hd3 hd4
  rw [hmM] at ct2
  refine s_callV hC ct2 ce_X11_deliver cs_X11 ((wjn_r (djn_at hd3 (wjn_l hM))).trans (wjn_l hM)) tw_1774 rfl rfl ⟨⟨Nat.le_trans (le_b rfl) hRf, Nat.le_trans (le_b rfl) hRl⟩, by omega, by omega⟩ (le_b rfl) dL_law_2297 rfl (fun r w h9 => ?_) (fun E w h9 => h9.choose_spec.1.elim)
  obtain ⟨wm, ⟨v, adm2, y2, rfl, hv3, hRm2, hmM2, hth2, hgr2⟩, rfl, hd5, hd6⟩ := h9
  have hcd : (cd_deliver σ (xs (i0 + 1))) < 2 ^ 31 := by
    unfold cd_deliver
    (repeat' split) <;> decide
  have hI2 : Inv (if (cd_deliver σ (xs (i0 + 1))) = 0 then nx_deliver σ (xs (i0 + 1)) else σ) := inv_if hI (fun z => hI.m_deliver z)
  exact lw_tail hC (k := k + 670) (n := n + 2700) hRf hRl (by omega) (by omega) hRk hRn hcd hI2 ⟨w1, wm, ωo2, ad2, x2, adm2, y2, hRc2, hmC2.trans hmC, hRm2, hmM2.trans hmM, hth2, hgr2, rfl, hd5, hd6, hlo2, hlD2⟩ (fun z => ⟨hv2 z, hv3 z⟩) (t1 := 2313) (t2 := 2330) rfl rfl (by decide) dL_law_2300 dL_law_2302 dL_law_2303 dL_law_2306 dL_law_2308 dL_law_2313 dL_law_2315 dL_law_2318 dL_law_2319 dL_law_2320 dL_law_2321 dL_law_2323 dL_law_2324 dL_law_2325 dL_law_2330 kk
set_option maxHeartbeats 1000000 in
set_option maxRecDepth 100000 in
theorem lc_muck {p : Program} {l : Launch} {e : Env} {R : Room} {s : State} {m : MethodId} {args : Array Value} {below : List Frame} {meth : Method} {c : Code} {g : Gl} {ω0 : Wd} {sz0 : Nat} {Q : State → Prop} {k n : Nat} (hC : Cx p l e R s m args below meth c cL_law 9 "BoringheadLaw" g ω0 sz0) (hst : l.stackTraces = false) (hN : NCs s) {b Ls : Nat} {xs : Nat → Int32} (hX : LX g ω0 sz0 s b Ls xs) (hRf : 60 ≤ R.frames) (hRl : 2000 ≤ R.locals) (hRk : k + 670 ≤ R.cells) (hRn : n + 2700 ≤ R.slots) {i0 : Nat} (hi : i0 + 5 ≤ Ls) {mC mM lo lD : Nat} {σ : St} (hI : Inv σ) {ω : Wd} (hL : LH g mC mM lo lD ω σ)
    (kk : ∀ ω' σ', Inv σ' → LH g mC mM lo lD ω' σ' → WP p l e R s m args below meth c g ω0 sz0 Q 9 ω' (k + 670) (n + 2700) 2920 (lwL b mC mM lo lD (nI i0)) []) : WP p l e R s m args below meth c g ω0 sz0 Q 9 ω k n 2333 (lwL b mC mM lo lD (nI i0)) [] := by
  obtain ⟨th, fl, fd, ωc, ωm, ωo, adc, x, adm, y, hRc, hmC, hRm, hmM, -, hgr, rfl, hd1, hd2, hlo, hlD⟩ := hL
  have hM := RepM.f_main hRm
  rw [hmM] at hM
  have hM1 := RepC.f_main hRc
  rw [hmC] at hM1
  refine s_aload_n hC dL_law_2333 rfl rfl 2 rfl ?_
  have ct := CT.frame (ct_X9_muck l g ωc adc x σ hRc) hd1
  rw [hmC] at ct
  refine s_callV hC ct ce_X9_muck cs_X9 (wjn_l hM1) tw_307 rfl rfl ⟨⟨Nat.le_trans (le_b rfl) hRf, Nat.le_trans (le_b rfl) hRl⟩, by omega, by omega⟩ (le_b rfl) dL_law_2334 rfl (fun r w h9 => ?_) (fun E w h9 => h9.choose_spec.1.elim)
  obtain ⟨w1, ⟨-, rfl, ad2, x2, hRc2, hmC2⟩, rfl, hd3⟩ := h9
  refine s_aload_n hC dL_law_2337 rfl rfl 3 rfl ?_
  have ct2 := CT.mid (ct_X11_muck l g ωm adm y σ hRm hgr) hd3 hd2
  rw [hmM] at ct2
  refine s_callV hC ct2 ce_X11_muck cs_X11 ((wjn_r (djn_at hd3 (wjn_l hM))).trans (wjn_l hM)) tw_1779 rfl rfl ⟨⟨Nat.le_trans (le_b rfl) hRf, Nat.le_trans (le_b rfl) hRl⟩, by omega, by omega⟩ (le_b rfl) dL_law_2338 rfl (fun r w h9 => ?_) (fun E w h9 => h9.choose_spec.1.elim)
  obtain ⟨wm, ⟨v, adm2, y2, rfl, hv3, hRm2, hmM2, hth2, hgr2⟩, rfl, hd5, hd6⟩ := h9
  rw [if_pos rfl] at hRm2 hgr2
  have hv3 := hv3 rfl
  subst hv3
  exact s_icmp_eq hC (tgt := 2920) dL_law_2341 rfl (by decide) (fun _ => WP.widen (by omega) (by omega) (kk _ _ (hI) ⟨_, _, _, w1, wm, ωo, ad2, x2, adm2, y2, hRc2, hmC2.trans hmC, hRm2, hmM2.trans hmM, rfl, hgr2, rfl, hd5, hd6, hlo, hlD⟩)) (fun z => absurd rfl z)
set_option maxHeartbeats 1000000 in
set_option maxRecDepth 100000 in
theorem lc_lorries {p : Program} {l : Launch} {e : Env} {R : Room} {s : State} {m : MethodId} {args : Array Value} {below : List Frame} {meth : Method} {c : Code} {g : Gl} {ω0 : Wd} {sz0 : Nat} {Q : State → Prop} {k n : Nat} (hC : Cx p l e R s m args below meth c cL_law 9 "BoringheadLaw" g ω0 sz0) (hst : l.stackTraces = false) (hN : NCs s) {b Ls : Nat} {xs : Nat → Int32} (hX : LX g ω0 sz0 s b Ls xs) (hRf : 60 ≤ R.frames) (hRl : 2000 ≤ R.locals) (hRk : k + 670 ≤ R.cells) (hRn : n + 2700 ≤ R.slots) {i0 : Nat} (hi : i0 + 5 ≤ Ls) {mC mM lo lD : Nat} {σ : St} (hI : Inv σ) {ω : Wd} (hL : LH g mC mM lo lD ω σ)
    (kk : ∀ ω' σ', Inv σ' → LH g mC mM lo lD ω' σ' → WP p l e R s m args below meth c g ω0 sz0 Q 9 ω' (k + 670) (n + 2700) 2920 (lwL b mC mM lo lD (nI i0)) []) : WP p l e R s m args below meth c g ω0 sz0 Q 9 ω k n 2346 (lwL b mC mM lo lD (nI i0)) [] := by
  obtain ⟨th, fl, fd, ωc, ωm, ωo, adc, x, adm, y, hRc, hmC, hRm, hmM, -, hgr, rfl, hd1, hd2, hlo, hlD⟩ := hL
  have hM := RepM.f_main hRm
  rw [hmM] at hM
  refine s_aload_n hC dL_law_2346 rfl rfl 2 rfl ?_
  refine s_aload_n hC dL_law_2347 rfl rfl 1 rfl ?_
  refine s_iload hC dL_law_2348 rfl 0 rfl ?_
  refine s_iconst hC (v := 1) dL_law_2350 rfl (by decide) ?_
  refine s_iadd hC dL_law_2351 rfl ?_
  refine s_sldX hC hX (i0 + 1) (nI_add i0 1) (by omega) dL_law_2352 rfl ?_
  refine s_aload_n hC dL_law_2353 rfl rfl 4 rfl ?_
  have ct := ct_L_lorries l g hst ωc (wjn ωm ωo) hd1 adc x σ hRc (xs (i0 + 1)) lo 1 fl ((wjn_r (djn_at hd2 hlo)).trans hlo) (by decide) (by decide)
  rw [hmC] at ct
  refine s_callSX hC hN ct ce_L_lorries tw_1135 rfl rfl ⟨⟨Nat.le_trans (le_b rfl) hRf, Nat.le_trans (le_b rfl) hRl⟩, by omega, by omega⟩ (le_b rfl) dL_law_2354 rfl (fun r w h9 => ?_)
  obtain ⟨w1, w2, ad2, x2, rfl, hRc2, hmC2, rfl, hd3, hw2⟩ := h9
  obtain ⟨ωo2, f2, rfl, hd4, hlo2, hlD2, hv2⟩ := out_L hd2 hlo hlD hd3 hw2
  refine s_istore hC (L' := [(6, _), (5, _), (0, _), (1, _), (2, _), (3, _), (4, _)]) dL_law_2357 rfl (le_b rfl) rfl ?_
  refine s_aload_n hC dL_law_2359 rfl rfl 4 rfl ?_
  refine s_aload_n hC dL_law_2360 rfl rfl 2 rfl ?_
  refine s_iload hC dL_law_2361 rfl 1 rfl ?_
  refine s_iconst hC (v := 1) dL_law_2363 rfl (by decide) ?_
  refine s_iadd hC dL_law_2364 rfl ?_
  refine s_sldX hC hX (i0 + 1) (nI_add i0 1) (by omega) dL_law_2365 rfl ?_
  have ct2 := CT.mid (ct_X11_lorries l g ωm adm y σ hRm (xs (i0 + 1)) hgr hI.x_pOK) hd3 hd4
  rw [hmM] at ct2
  refine s_callV hC ct2 ce_X11_lorries cs_X11 ((wjn_r (djn_at hd3 (wjn_l hM))).trans (wjn_l hM)) tw_1783 rfl rfl ⟨⟨Nat.le_trans (le_b rfl) hRf, Nat.le_trans (le_b rfl) hRl⟩, by omega, by omega⟩ (le_b rfl) dL_law_2366 rfl (fun r w h9 => ?_) (fun E w h9 => h9.choose_spec.1.elim)
  obtain ⟨wm, ⟨v, adm2, y2, rfl, hv3, hRm2, hmM2, hth2, hgr2⟩, rfl, hd5, hd6⟩ := h9
  have hcd : (cd_lorries σ (xs (i0 + 1))) < 2 ^ 31 := by
    unfold cd_lorries
    (repeat' split) <;> decide
  have hI2 : Inv (if (cd_lorries σ (xs (i0 + 1))) = 0 then nx_lorries σ (xs (i0 + 1)) else σ) := inv_if hI (fun z => hI.m_lorries z)
  exact lw_tail hC (k := k + 670) (n := n + 2700) hRf hRl (by omega) (by omega) hRk hRn hcd hI2 ⟨w1, wm, ωo2, ad2, x2, adm2, y2, hRc2, hmC2.trans hmC, hRm2, hmM2.trans hmM, hth2, hgr2, rfl, hd5, hd6, hlo2, hlD2⟩ (fun z => ⟨hv2 z, hv3 z⟩) (t1 := 2382) (t2 := 2399) rfl rfl (by decide) dL_law_2369 dL_law_2371 dL_law_2372 dL_law_2375 dL_law_2377 dL_law_2382 dL_law_2384 dL_law_2387 dL_law_2388 dL_law_2389 dL_law_2390 dL_law_2392 dL_law_2393 dL_law_2394 dL_law_2399 kk
set_option maxHeartbeats 1000000 in
set_option maxRecDepth 100000 in
theorem lc_now {p : Program} {l : Launch} {e : Env} {R : Room} {s : State} {m : MethodId} {args : Array Value} {below : List Frame} {meth : Method} {c : Code} {g : Gl} {ω0 : Wd} {sz0 : Nat} {Q : State → Prop} {k n : Nat} (hC : Cx p l e R s m args below meth c cL_law 9 "BoringheadLaw" g ω0 sz0) (hst : l.stackTraces = false) (hN : NCs s) {b Ls : Nat} {xs : Nat → Int32} (hX : LX g ω0 sz0 s b Ls xs) (hRf : 60 ≤ R.frames) (hRl : 2000 ≤ R.locals) (hRk : k + 670 ≤ R.cells) (hRn : n + 2700 ≤ R.slots) {i0 : Nat} (hi : i0 + 5 ≤ Ls) {mC mM lo lD : Nat} {σ : St} (hI : Inv σ) {ω : Wd} (hL : LH g mC mM lo lD ω σ)
    (kk : ∀ ω' σ', Inv σ' → LH g mC mM lo lD ω' σ' → WP p l e R s m args below meth c g ω0 sz0 Q 9 ω' (k + 670) (n + 2700) 2920 (lwL b mC mM lo lD (nI i0)) []) : WP p l e R s m args below meth c g ω0 sz0 Q 9 ω k n 2402 (lwL b mC mM lo lD (nI i0)) [] := by
  obtain ⟨th, fl, fd, ωc, ωm, ωo, adc, x, adm, y, hRc, hmC, hRm, hmM, -, hgr, rfl, hd1, hd2, hlo, hlD⟩ := hL
  have hM := RepM.f_main hRm
  rw [hmM] at hM
  have hM1 := RepC.f_main hRc
  rw [hmC] at hM1
  refine s_aload_n hC dL_law_2402 rfl rfl 2 rfl ?_
  have ct := CT.frame (ct_X9_now l g ωc adc x σ hRc) hd1
  rw [hmC] at ct
  refine s_callV hC ct ce_X9_now cs_X9 (wjn_l hM1) tw_311 rfl rfl ⟨⟨Nat.le_trans (le_b rfl) hRf, Nat.le_trans (le_b rfl) hRl⟩, by omega, by omega⟩ (le_b rfl) dL_law_2403 rfl (fun r w h9 => ?_) (fun E w h9 => h9.choose_spec.1.elim)
  obtain ⟨w1, ⟨-, rfl, ad2, x2, hRc2, hmC2⟩, rfl, hd3⟩ := h9
  refine s_aload_n hC dL_law_2406 rfl rfl 3 rfl ?_
  have ct2 := CT.mid (ct_X11_now l g ωm adm y σ hRm hgr) hd3 hd2
  rw [hmM] at ct2
  refine s_callV hC ct2 ce_X11_now cs_X11 ((wjn_r (djn_at hd3 (wjn_l hM))).trans (wjn_l hM)) tw_1790 rfl rfl ⟨⟨Nat.le_trans (le_b rfl) hRf, Nat.le_trans (le_b rfl) hRl⟩, by omega, by omega⟩ (le_b rfl) dL_law_2407 rfl (fun r w h9 => ?_) (fun E w h9 => h9.choose_spec.1.elim)
  obtain ⟨wm, ⟨v, adm2, y2, rfl, hv3, hRm2, hmM2, hth2, hgr2⟩, rfl, hd5, hd6⟩ := h9
  rw [if_pos rfl] at hRm2 hgr2
  have hv3 := hv3 rfl
  subst hv3
  exact s_icmp_eq hC (tgt := 2920) dL_law_2410 rfl (by decide) (fun _ => WP.widen (by omega) (by omega) (kk _ _ (hI) ⟨_, _, _, w1, wm, ωo, ad2, x2, adm2, y2, hRc2, hmC2.trans hmC, hRm2, hmM2.trans hmM, rfl, hgr2, rfl, hd5, hd6, hlo, hlD⟩)) (fun z => absurd rfl z)
set_option maxHeartbeats 1000000 in
set_option maxRecDepth 100000 in
theorem lc_pause {p : Program} {l : Launch} {e : Env} {R : Room} {s : State} {m : MethodId} {args : Array Value} {below : List Frame} {meth : Method} {c : Code} {g : Gl} {ω0 : Wd} {sz0 : Nat} {Q : State → Prop} {k n : Nat} (hC : Cx p l e R s m args below meth c cL_law 9 "BoringheadLaw" g ω0 sz0) (hst : l.stackTraces = false) (hN : NCs s) {b Ls : Nat} {xs : Nat → Int32} (hX : LX g ω0 sz0 s b Ls xs) (hRf : 60 ≤ R.frames) (hRl : 2000 ≤ R.locals) (hRk : k + 670 ≤ R.cells) (hRn : n + 2700 ≤ R.slots) {i0 : Nat} (hi : i0 + 5 ≤ Ls) {mC mM lo lD : Nat} {σ : St} (hI : Inv σ) {ω : Wd} (hL : LH g mC mM lo lD ω σ)
    (kk : ∀ ω' σ', Inv σ' → LH g mC mM lo lD ω' σ' → WP p l e R s m args below meth c g ω0 sz0 Q 9 ω' (k + 670) (n + 2700) 2920 (lwL b mC mM lo lD (nI i0)) []) : WP p l e R s m args below meth c g ω0 sz0 Q 9 ω k n 2415 (lwL b mC mM lo lD (nI i0)) [] := by
  obtain ⟨th, fl, fd, ωc, ωm, ωo, adc, x, adm, y, hRc, hmC, hRm, hmM, -, hgr, rfl, hd1, hd2, hlo, hlD⟩ := hL
  have hM := RepM.f_main hRm
  rw [hmM] at hM
  refine s_aload_n hC dL_law_2415 rfl rfl 2 rfl ?_
  refine s_aload_n hC dL_law_2416 rfl rfl 1 rfl ?_
  refine s_iload hC dL_law_2417 rfl 0 rfl ?_
  refine s_iconst hC (v := 1) dL_law_2419 rfl (by decide) ?_
  refine s_iadd hC dL_law_2420 rfl ?_
  refine s_sldX hC hX (i0 + 1) (nI_add i0 1) (by omega) dL_law_2421 rfl ?_
  refine s_aload_n hC dL_law_2422 rfl rfl 1 rfl ?_
  refine s_iload hC dL_law_2423 rfl 0 rfl ?_
  refine s_iconst hC (v := 2) dL_law_2425 rfl (by decide) ?_
  refine s_iadd hC dL_law_2426 rfl ?_
  refine s_sldX hC hX (i0 + 2) (nI_add i0 2) (by omega) dL_law_2427 rfl ?_
  refine s_i2c hC dL_law_2428 rfl rfl ?_
  refine s_aload_n hC dL_law_2429 rfl rfl 1 rfl ?_
  refine s_iload hC dL_law_2430 rfl 0 rfl ?_
  refine s_iconst hC (v := 3) dL_law_2432 rfl (by decide) ?_
  refine s_iadd hC dL_law_2433 rfl ?_
  refine s_sldX hC hX (i0 + 3) (nI_add i0 3) (by omega) dL_law_2434 rfl ?_
  refine s_i2c hC dL_law_2435 rfl rfl ?_
  refine s_aload_n hC dL_law_2436 rfl rfl 4 rfl ?_
  have ct := ct_L_pause l g hst ωc (wjn ωm ωo) hd1 adc x σ hRc (xs (i0 + 1)) (((xs (i0 + 2)).toUInt32 % 65536).toInt32) (((xs (i0 + 3)).toUInt32 % 65536).toInt32) lo 1 fl ((wjn_r (djn_at hd2 hlo)).trans hlo) (by decide) (by decide)
  rw [hmC] at ct
  refine s_callSX hC hN ct ce_L_pause tw_1148 rfl rfl ⟨⟨Nat.le_trans (le_b rfl) hRf, Nat.le_trans (le_b rfl) hRl⟩, by omega, by omega⟩ (le_b rfl) dL_law_2437 rfl (fun r w h9 => ?_)
  obtain ⟨w1, w2, ad2, x2, rfl, hRc2, hmC2, rfl, hd3, hw2⟩ := h9
  obtain ⟨ωo2, f2, rfl, hd4, hlo2, hlD2, hv2⟩ := out_L hd2 hlo hlD hd3 hw2
  refine s_istore hC (L' := [(6, _), (5, _), (0, _), (1, _), (2, _), (3, _), (4, _)]) dL_law_2440 rfl (le_b rfl) rfl ?_
  refine s_aload_n hC dL_law_2442 rfl rfl 4 rfl ?_
  refine s_aload_n hC dL_law_2443 rfl rfl 2 rfl ?_
  refine s_iload hC dL_law_2444 rfl 1 rfl ?_
  refine s_iconst hC (v := 1) dL_law_2446 rfl (by decide) ?_
  refine s_iadd hC dL_law_2447 rfl ?_
  refine s_sldX hC hX (i0 + 1) (nI_add i0 1) (by omega) dL_law_2448 rfl ?_
  refine s_aload_n hC dL_law_2449 rfl rfl 2 rfl ?_
  refine s_iload hC dL_law_2450 rfl 1 rfl ?_
  refine s_iconst hC (v := 2) dL_law_2452 rfl (by decide) ?_
  refine s_iadd hC dL_law_2453 rfl ?_
  refine s_sldX hC hX (i0 + 2) (nI_add i0 2) (by omega) dL_law_2454 rfl ?_
  refine s_i2c hC dL_law_2455 rfl rfl ?_
  refine s_aload_n hC dL_law_2456 rfl rfl 2 rfl ?_
  refine s_iload hC dL_law_2457 rfl 1 rfl ?_
  refine s_iconst hC (v := 3) dL_law_2459 rfl (by decide) ?_
  refine s_iadd hC dL_law_2460 rfl ?_
  refine s_sldX hC hX (i0 + 3) (nI_add i0 3) (by omega) dL_law_2461 rfl ?_
  refine s_i2c hC dL_law_2462 rfl rfl ?_
  have ct2 := CT.mid (ct_X11_pause l g ωm adm y σ hRm (xs (i0 + 1)) (((xs (i0 + 2)).toUInt32 % 65536).toInt32) (((xs (i0 + 3)).toUInt32 % 65536).toInt32) hgr hI.x_oOK) hd3 hd4
  rw [hmM] at ct2
  refine s_callV hC ct2 ce_X11_pause cs_X11 ((wjn_r (djn_at hd3 (wjn_l hM))).trans (wjn_l hM)) tw_1794 rfl rfl ⟨⟨Nat.le_trans (le_b rfl) hRf, Nat.le_trans (le_b rfl) hRl⟩, by omega, by omega⟩ (le_b rfl) dL_law_2463 rfl (fun r w h9 => ?_) (fun E w h9 => h9.choose_spec.1.elim)
  obtain ⟨wm, ⟨v, adm2, y2, rfl, hv3, hRm2, hmM2, hth2, hgr2⟩, rfl, hd5, hd6⟩ := h9
  have hcd : (cd_pause σ (xs (i0 + 1)) (((xs (i0 + 2)).toUInt32 % 65536).toInt32) (((xs (i0 + 3)).toUInt32 % 65536).toInt32)) < 2 ^ 31 := by
    unfold cd_pause
    (repeat' split) <;> decide
  have hI2 : Inv (if (cd_pause σ (xs (i0 + 1)) (((xs (i0 + 2)).toUInt32 % 65536).toInt32) (((xs (i0 + 3)).toUInt32 % 65536).toInt32)) = 0 then nx_pause σ (xs (i0 + 1)) (((xs (i0 + 2)).toUInt32 % 65536).toInt32) (((xs (i0 + 3)).toUInt32 % 65536).toInt32) else σ) := inv_if hI (fun z => hI.m_pause z)
  exact lw_tail hC (k := k + 670) (n := n + 2700) hRf hRl (by omega) (by omega) hRk hRn hcd hI2 ⟨w1, wm, ωo2, ad2, x2, adm2, y2, hRc2, hmC2.trans hmC, hRm2, hmM2.trans hmM, hth2, hgr2, rfl, hd5, hd6, hlo2, hlD2⟩ (fun z => ⟨hv2 z, hv3 z⟩) (t1 := 2479) (t2 := 2496) rfl rfl (by decide) dL_law_2466 dL_law_2468 dL_law_2469 dL_law_2472 dL_law_2474 dL_law_2479 dL_law_2481 dL_law_2484 dL_law_2485 dL_law_2486 dL_law_2487 dL_law_2489 dL_law_2490 dL_law_2491 dL_law_2496 kk
set_option maxHeartbeats 1000000 in
set_option maxRecDepth 100000 in
theorem lc_first {p : Program} {l : Launch} {e : Env} {R : Room} {s : State} {m : MethodId} {args : Array Value} {below : List Frame} {meth : Method} {c : Code} {g : Gl} {ω0 : Wd} {sz0 : Nat} {Q : State → Prop} {k n : Nat} (hC : Cx p l e R s m args below meth c cL_law 9 "BoringheadLaw" g ω0 sz0) (hst : l.stackTraces = false) (hN : NCs s) {b Ls : Nat} {xs : Nat → Int32} (hX : LX g ω0 sz0 s b Ls xs) (hRf : 60 ≤ R.frames) (hRl : 2000 ≤ R.locals) (hRk : k + 670 ≤ R.cells) (hRn : n + 2700 ≤ R.slots) {i0 : Nat} (hi : i0 + 5 ≤ Ls) {mC mM lo lD : Nat} {σ : St} (hI : Inv σ) {ω : Wd} (hL : LH g mC mM lo lD ω σ)
    (kk : ∀ ω' σ', Inv σ' → LH g mC mM lo lD ω' σ' → WP p l e R s m args below meth c g ω0 sz0 Q 9 ω' (k + 670) (n + 2700) 2920 (lwL b mC mM lo lD (nI i0)) []) : WP p l e R s m args below meth c g ω0 sz0 Q 9 ω k n 2499 (lwL b mC mM lo lD (nI i0)) [] := by
  obtain ⟨th, fl, fd, ωc, ωm, ωo, adc, x, adm, y, hRc, hmC, hRm, hmM, -, hgr, rfl, hd1, hd2, hlo, hlD⟩ := hL
  have hM := RepM.f_main hRm
  rw [hmM] at hM
  refine s_aload_n hC dL_law_2499 rfl rfl 2 rfl ?_
  refine s_aload_n hC dL_law_2500 rfl rfl 1 rfl ?_
  refine s_iload hC dL_law_2501 rfl 0 rfl ?_
  refine s_iconst hC (v := 1) dL_law_2503 rfl (by decide) ?_
  refine s_iadd hC dL_law_2504 rfl ?_
  refine s_sldX hC hX (i0 + 1) (nI_add i0 1) (by omega) dL_law_2505 rfl ?_
  refine s_i2c hC dL_law_2506 rfl rfl ?_
  refine s_aload_n hC dL_law_2507 rfl rfl 4 rfl ?_
  have ct := ct_L_first l g hst ωc (wjn ωm ωo) hd1 adc x σ hRc (((xs (i0 + 1)).toUInt32 % 65536).toInt32) hI.x_ch lo 1 fl ((wjn_r (djn_at hd2 hlo)).trans hlo) (by decide) (by decide)
  rw [hmC] at ct
  refine s_callSX hC hN ct ce_L_first tw_1167 rfl rfl ⟨⟨Nat.le_trans (le_b rfl) hRf, Nat.le_trans (le_b rfl) hRl⟩, by omega, by omega⟩ (le_b rfl) dL_law_2508 rfl (fun r w h9 => ?_)
  obtain ⟨w1, w2, ad2, x2, rfl, hRc2, hmC2, rfl, hd3, hw2⟩ := h9
  obtain ⟨ωo2, f2, rfl, hd4, hlo2, hlD2, hv2⟩ := out_L hd2 hlo hlD hd3 hw2
  refine s_istore hC (L' := [(6, _), (5, _), (0, _), (1, _), (2, _), (3, _), (4, _)]) dL_law_2511 rfl (le_b rfl) rfl ?_
  refine s_aload_n hC dL_law_2513 rfl rfl 4 rfl ?_
  refine s_aload_n hC dL_law_2514 rfl rfl 2 rfl ?_
  refine s_iload hC dL_law_2515 rfl 1 rfl ?_
  refine s_iconst hC (v := 1) dL_law_2517 rfl (by decide) ?_
  refine s_iadd hC dL_law_2518 rfl ?_
  refine s_sldX hC hX (i0 + 1) (nI_add i0 1) (by omega) dL_law_2519 rfl ?_
  refine s_i2c hC dL_law_2520 rfl rfl ?_
  have ct2 := CT.mid (ct_X11_first l g ωm adm y σ hRm (((xs (i0 + 1)).toUInt32 % 65536).toInt32) hgr hI.x_oOK) hd3 hd4
  rw [hmM] at ct2
  refine s_callV hC ct2 ce_X11_first cs_X11 ((wjn_r (djn_at hd3 (wjn_l hM))).trans (wjn_l hM)) tw_1802 rfl rfl ⟨⟨Nat.le_trans (le_b rfl) hRf, Nat.le_trans (le_b rfl) hRl⟩, by omega, by omega⟩ (le_b rfl) dL_law_2521 rfl (fun r w h9 => ?_) (fun E w h9 => h9.choose_spec.1.elim)
  obtain ⟨wm, ⟨v, adm2, y2, rfl, hv3, hRm2, hmM2, hth2, hgr2⟩, rfl, hd5, hd6⟩ := h9
  have hcd : (cd_first σ (((xs (i0 + 1)).toUInt32 % 65536).toInt32)) < 2 ^ 31 := by
    unfold cd_first
    (repeat' split) <;> decide
  have hI2 : Inv (if (cd_first σ (((xs (i0 + 1)).toUInt32 % 65536).toInt32)) = 0 then nx_first σ (((xs (i0 + 1)).toUInt32 % 65536).toInt32) else σ) := inv_if hI (fun z => hI.m_first z)
  exact lw_tail hC (k := k + 670) (n := n + 2700) hRf hRl (by omega) (by omega) hRk hRn hcd hI2 ⟨w1, wm, ωo2, ad2, x2, adm2, y2, hRc2, hmC2.trans hmC, hRm2, hmM2.trans hmM, hth2, hgr2, rfl, hd5, hd6, hlo2, hlD2⟩ (fun z => ⟨hv2 z, hv3 z⟩) (t1 := 2537) (t2 := 2554) rfl rfl (by decide) dL_law_2524 dL_law_2526 dL_law_2527 dL_law_2530 dL_law_2532 dL_law_2537 dL_law_2539 dL_law_2542 dL_law_2543 dL_law_2544 dL_law_2545 dL_law_2547 dL_law_2548 dL_law_2549 dL_law_2554 kk
set_option maxHeartbeats 1000000 in
set_option maxRecDepth 100000 in
theorem lc_waited {p : Program} {l : Launch} {e : Env} {R : Room} {s : State} {m : MethodId} {args : Array Value} {below : List Frame} {meth : Method} {c : Code} {g : Gl} {ω0 : Wd} {sz0 : Nat} {Q : State → Prop} {k n : Nat} (hC : Cx p l e R s m args below meth c cL_law 9 "BoringheadLaw" g ω0 sz0) (hst : l.stackTraces = false) (hN : NCs s) {b Ls : Nat} {xs : Nat → Int32} (hX : LX g ω0 sz0 s b Ls xs) (hRf : 60 ≤ R.frames) (hRl : 2000 ≤ R.locals) (hRk : k + 670 ≤ R.cells) (hRn : n + 2700 ≤ R.slots) {i0 : Nat} (hi : i0 + 5 ≤ Ls) {mC mM lo lD : Nat} {σ : St} (hI : Inv σ) {ω : Wd} (hL : LH g mC mM lo lD ω σ)
    (kk : ∀ ω' σ', Inv σ' → LH g mC mM lo lD ω' σ' → WP p l e R s m args below meth c g ω0 sz0 Q 9 ω' (k + 670) (n + 2700) 2920 (lwL b mC mM lo lD (nI i0)) []) : WP p l e R s m args below meth c g ω0 sz0 Q 9 ω k n 2557 (lwL b mC mM lo lD (nI i0)) [] := by
  obtain ⟨th, fl, fd, ωc, ωm, ωo, adc, x, adm, y, hRc, hmC, hRm, hmM, -, hgr, rfl, hd1, hd2, hlo, hlD⟩ := hL
  have hM := RepM.f_main hRm
  rw [hmM] at hM
  refine s_aload_n hC dL_law_2557 rfl rfl 2 rfl ?_
  refine s_aload_n hC dL_law_2558 rfl rfl 1 rfl ?_
  refine s_iload hC dL_law_2559 rfl 0 rfl ?_
  refine s_iconst hC (v := 1) dL_law_2561 rfl (by decide) ?_
  refine s_iadd hC dL_law_2562 rfl ?_
  refine s_sldX hC hX (i0 + 1) (nI_add i0 1) (by omega) dL_law_2563 rfl ?_
  refine s_i2c hC dL_law_2564 rfl rfl ?_
  refine s_aload_n hC dL_law_2565 rfl rfl 4 rfl ?_
  have ct := ct_L_waited l g hst ωc (wjn ωm ωo) hd1 adc x σ hRc (((xs (i0 + 1)).toUInt32 % 65536).toInt32) lo 1 fl ((wjn_r (djn_at hd2 hlo)).trans hlo) (by decide) (by decide)
  rw [hmC] at ct
  refine s_callSX hC hN ct ce_L_waited tw_1179 rfl rfl ⟨⟨Nat.le_trans (le_b rfl) hRf, Nat.le_trans (le_b rfl) hRl⟩, by omega, by omega⟩ (le_b rfl) dL_law_2566 rfl (fun r w h9 => ?_)
  obtain ⟨w1, w2, ad2, x2, rfl, hRc2, hmC2, rfl, hd3, hw2⟩ := h9
  obtain ⟨ωo2, f2, rfl, hd4, hlo2, hlD2, hv2⟩ := out_L hd2 hlo hlD hd3 hw2
  refine s_istore hC (L' := [(6, _), (5, _), (0, _), (1, _), (2, _), (3, _), (4, _)]) dL_law_2569 rfl (le_b rfl) rfl ?_
  refine s_aload_n hC dL_law_2571 rfl rfl 4 rfl ?_
  refine s_aload_n hC dL_law_2572 rfl rfl 2 rfl ?_
  refine s_iload hC dL_law_2573 rfl 1 rfl ?_
  refine s_iconst hC (v := 1) dL_law_2575 rfl (by decide) ?_
  refine s_iadd hC dL_law_2576 rfl ?_
  refine s_sldX hC hX (i0 + 1) (nI_add i0 1) (by omega) dL_law_2577 rfl ?_
  refine s_i2c hC dL_law_2578 rfl rfl ?_
  have ct2 := CT.mid (ct_X11_waited l g ωm adm y σ hRm (((xs (i0 + 1)).toUInt32 % 65536).toInt32) hgr) hd3 hd4
  rw [hmM] at ct2
  refine s_callV hC ct2 ce_X11_waited cs_X11 ((wjn_r (djn_at hd3 (wjn_l hM))).trans (wjn_l hM)) tw_2036 rfl rfl ⟨⟨Nat.le_trans (le_b rfl) hRf, Nat.le_trans (le_b rfl) hRl⟩, by omega, by omega⟩ (le_b rfl) dL_law_2579 rfl (fun r w h9 => ?_) (fun E w h9 => h9.choose_spec.1.elim)
  obtain ⟨wm, ⟨v, adm2, y2, rfl, hv3, hRm2, hmM2, hth2, hgr2⟩, rfl, hd5, hd6⟩ := h9
  have hcd : (cd_waited σ (((xs (i0 + 1)).toUInt32 % 65536).toInt32)) < 2 ^ 31 := by
    unfold cd_waited
    (repeat' split) <;> decide
  have hI2 : Inv (if (cd_waited σ (((xs (i0 + 1)).toUInt32 % 65536).toInt32)) = 0 then σ else σ) := inv_if hI (fun z => hI)
  exact lw_tail hC (k := k + 670) (n := n + 2700) hRf hRl (by omega) (by omega) hRk hRn hcd hI2 ⟨w1, wm, ωo2, ad2, x2, adm2, y2, hRc2, hmC2.trans hmC, hRm2, hmM2.trans hmM, hth2, hgr2, rfl, hd5, hd6, hlo2, hlD2⟩ (fun z => ⟨hv2 z, hv3 z⟩) (t1 := 2595) (t2 := 2612) rfl rfl (by decide) dL_law_2582 dL_law_2584 dL_law_2585 dL_law_2588 dL_law_2590 dL_law_2595 dL_law_2597 dL_law_2600 dL_law_2601 dL_law_2602 dL_law_2603 dL_law_2605 dL_law_2606 dL_law_2607 dL_law_2612 kk
set_option maxHeartbeats 1000000 in
set_option maxRecDepth 100000 in
theorem lc_events {p : Program} {l : Launch} {e : Env} {R : Room} {s : State} {m : MethodId} {args : Array Value} {below : List Frame} {meth : Method} {c : Code} {g : Gl} {ω0 : Wd} {sz0 : Nat} {Q : State → Prop} {k n : Nat} (hC : Cx p l e R s m args below meth c cL_law 9 "BoringheadLaw" g ω0 sz0) (hst : l.stackTraces = false) (hN : NCs s) {b Ls : Nat} {xs : Nat → Int32} (hX : LX g ω0 sz0 s b Ls xs) (hRf : 60 ≤ R.frames) (hRl : 2000 ≤ R.locals) (hRk : k + 670 ≤ R.cells) (hRn : n + 2700 ≤ R.slots) {i0 : Nat} (hi : i0 + 5 ≤ Ls) {mC mM lo lD : Nat} {σ : St} (hI : Inv σ) {ω : Wd} (hL : LH g mC mM lo lD ω σ)
    (kk : ∀ ω' σ', Inv σ' → LH g mC mM lo lD ω' σ' → WP p l e R s m args below meth c g ω0 sz0 Q 9 ω' (k + 670) (n + 2700) 2920 (lwL b mC mM lo lD (nI i0)) []) : WP p l e R s m args below meth c g ω0 sz0 Q 9 ω k n 2615 (lwL b mC mM lo lD (nI i0)) [] := by
  obtain ⟨th, fl, fd, ωc, ωm, ωo, adc, x, adm, y, hRc, hmC, hRm, hmM, -, hgr, rfl, hd1, hd2, hlo, hlD⟩ := hL
  have hM := RepM.f_main hRm
  rw [hmM] at hM
  have hM1 := RepC.f_main hRc
  rw [hmC] at hM1
  refine s_aload_n hC dL_law_2615 rfl rfl 2 rfl ?_
  have ct := CT.frame (ct_X9_events l g ωc adc x σ hRc) hd1
  rw [hmC] at ct
  refine s_callV hC ct ce_X9_events cs_X9 (wjn_l hM1) tw_315 rfl rfl ⟨⟨Nat.le_trans (le_b rfl) hRf, Nat.le_trans (le_b rfl) hRl⟩, by omega, by omega⟩ (le_b rfl) dL_law_2616 rfl (fun r w h9 => ?_) (fun E w h9 => h9.choose_spec.1.elim)
  obtain ⟨w1, ⟨-, rfl, ad2, x2, hRc2, hmC2⟩, rfl, hd3⟩ := h9
  refine s_aload_n hC dL_law_2619 rfl rfl 3 rfl ?_
  have ct2 := CT.mid (ct_X11_events l g ωm adm y σ hRm hgr hI.x_kIn hI.x_rIn hI.x_nOK hI.x_snd3) hd3 hd2
  rw [hmM] at ct2
  refine s_callV hC ct2 ce_X11_events cs_X11 ((wjn_r (djn_at hd3 (wjn_l hM))).trans (wjn_l hM)) tw_2041 rfl rfl ⟨⟨Nat.le_trans (le_b rfl) hRf, Nat.le_trans (le_b rfl) hRl⟩, by omega, by omega⟩ (le_b rfl) dL_law_2620 rfl (fun r w h9 => ?_) (fun E w h9 => h9.choose_spec.1.elim)
  obtain ⟨wm, ⟨v, adm2, y2, rfl, hv3, hRm2, hmM2, hth2, hgr2⟩, rfl, hd5, hd6⟩ := h9
  rw [if_pos rfl] at hRm2 hgr2
  have hv3 := hv3 rfl
  subst hv3
  exact s_icmp_eq hC (tgt := 2920) dL_law_2623 rfl (by decide) (fun _ => WP.widen (by omega) (by omega) (kk _ _ (hI) ⟨_, _, _, w1, wm, ωo, ad2, x2, adm2, y2, hRc2, hmC2.trans hmC, hRm2, hmM2.trans hmM, rfl, hgr2, rfl, hd5, hd6, hlo, hlD⟩)) (fun z => absurd rfl z)
set_option maxHeartbeats 1000000 in
set_option maxRecDepth 100000 in
theorem lc_notice {p : Program} {l : Launch} {e : Env} {R : Room} {s : State} {m : MethodId} {args : Array Value} {below : List Frame} {meth : Method} {c : Code} {g : Gl} {ω0 : Wd} {sz0 : Nat} {Q : State → Prop} {k n : Nat} (hC : Cx p l e R s m args below meth c cL_law 9 "BoringheadLaw" g ω0 sz0) (hst : l.stackTraces = false) (hN : NCs s) {b Ls : Nat} {xs : Nat → Int32} (hX : LX g ω0 sz0 s b Ls xs) (hRf : 60 ≤ R.frames) (hRl : 2000 ≤ R.locals) (hRk : k + 670 ≤ R.cells) (hRn : n + 2700 ≤ R.slots) {i0 : Nat} (hi : i0 + 5 ≤ Ls) {mC mM lo lD : Nat} {σ : St} (hI : Inv σ) {ω : Wd} (hL : LH g mC mM lo lD ω σ)
    (kk : ∀ ω' σ', Inv σ' → LH g mC mM lo lD ω' σ' → WP p l e R s m args below meth c g ω0 sz0 Q 9 ω' (k + 670) (n + 2700) 2920 (lwL b mC mM lo lD (nI i0)) []) : WP p l e R s m args below meth c g ω0 sz0 Q 9 ω k n 2628 (lwL b mC mM lo lD (nI i0)) [] := by
  obtain ⟨th, fl, fd, ωc, ωm, ωo, adc, x, adm, y, hRc, hmC, hRm, hmM, -, hgr, rfl, hd1, hd2, hlo, hlD⟩ := hL
  have hM := RepM.f_main hRm
  rw [hmM] at hM
  refine s_aload_n hC dL_law_2628 rfl rfl 2 rfl ?_
  refine s_aload_n hC dL_law_2629 rfl rfl 1 rfl ?_
  refine s_iload hC dL_law_2630 rfl 0 rfl ?_
  refine s_iconst hC (v := 1) dL_law_2632 rfl (by decide) ?_
  refine s_iadd hC dL_law_2633 rfl ?_
  refine s_sldX hC hX (i0 + 1) (nI_add i0 1) (by omega) dL_law_2634 rfl ?_
  refine s_aload_n hC dL_law_2635 rfl rfl 4 rfl ?_
  have ct := ct_L_notice l g hst ωc (wjn ωm ωo) hd1 adc x σ hRc (xs (i0 + 1)) lo 1 fl ((wjn_r (djn_at hd2 hlo)).trans hlo) (by decide) (by decide)
  rw [hmC] at ct
  refine s_callSX hC hN ct ce_L_notice tw_1188 rfl rfl ⟨⟨Nat.le_trans (le_b rfl) hRf, Nat.le_trans (le_b rfl) hRl⟩, by omega, by omega⟩ (le_b rfl) dL_law_2636 rfl (fun r w h9 => ?_)
  obtain ⟨w1, w2, ad2, x2, rfl, hRc2, hmC2, rfl, hd3, hw2⟩ := h9
  obtain ⟨ωo2, f2, rfl, hd4, hlo2, hlD2, hv2⟩ := out_L hd2 hlo hlD hd3 hw2
  refine s_istore hC (L' := [(6, _), (5, _), (0, _), (1, _), (2, _), (3, _), (4, _)]) dL_law_2639 rfl (le_b rfl) rfl ?_
  refine s_aload_n hC dL_law_2641 rfl rfl 4 rfl ?_
  refine s_aload_n hC dL_law_2642 rfl rfl 2 rfl ?_
  refine s_iload hC dL_law_2643 rfl 1 rfl ?_
  refine s_iconst hC (v := 1) dL_law_2645 rfl (by decide) ?_
  refine s_iadd hC dL_law_2646 rfl ?_
  refine s_sldX hC hX (i0 + 1) (nI_add i0 1) (by omega) dL_law_2647 rfl ?_
  have ct2 := CT.mid (ct_X11_notice l g ωm adm y σ hRm (xs (i0 + 1)) hgr hI.x_kIn hI.x_rIn hI.x_nOK hI.x_snd3) hd3 hd4
  rw [hmM] at ct2
  refine s_callV hC ct2 ce_X11_notice cs_X11 ((wjn_r (djn_at hd3 (wjn_l hM))).trans (wjn_l hM)) tw_2049 rfl rfl ⟨⟨Nat.le_trans (le_b rfl) hRf, Nat.le_trans (le_b rfl) hRl⟩, by omega, by omega⟩ (le_b rfl) dL_law_2648 rfl (fun r w h9 => ?_) (fun E w h9 => h9.choose_spec.1.elim)
  obtain ⟨wm, ⟨v, adm2, y2, rfl, hv3, hRm2, hmM2, hth2, hgr2⟩, rfl, hd5, hd6⟩ := h9
  have hcd : (cd_notice σ (xs (i0 + 1))) < 2 ^ 31 := by
    unfold cd_notice
    (repeat' split) <;> decide
  have hI2 : Inv (if (cd_notice σ (xs (i0 + 1))) = 0 then nx_notice σ (xs (i0 + 1)) else σ) := inv_if hI (fun z => hI.m_notice _)
  have hM2 := RepM.f_main hRm2
  rw [hmM2.trans hmM] at hM2
  have ct3 := CT.mid (ct_X11_thrown l g wm adm2 y2 _ hRm2) hd5 hd6
  rw [hmM2.trans hmM] at ct3
  refine s_istore hC (L' := [(7, _), (6, _), (5, _), (0, _), (1, _), (2, _), (3, _), (4, _)]) dL_law_2651 rfl (le_b rfl) rfl ?_
  have fin : ∀ V, WP p l e R s m args below meth c g ω0 sz0 Q 9 (wjn w1 (wjn wm ωo2)) (k + 670) (n + 2700) 2688 [(7, V), (6, .int (nI (cd_notice σ (xs (i0 + 1))))), (5, .int (nI i0)), (0, .ref b), (1, .ref mC), (2, .ref mM), (3, .ref lo), (4, .ref lD)] [] := fun V => by
    refine s_goto hC (tgt := 2920) dL_law_2688 (by decide) ?_
    refine WP.sub (L' := lwL b mC mM lo lD (nI i0)) [2, 3, 4, 5, 6, 7] rfl ?_
    exact kk _ _ hI2 ⟨_, _, _, w1, wm, ωo2, ad2, x2, adm2, y2, hRc2, hmC2.trans hmC, hRm2, hmM2.trans hmM, hth2, hgr2, rfl, hd5, hd6, hlo2, hlD2⟩
  refine s_aload_n hC dL_law_2653 rfl rfl 5 rfl ?_
  refine s_callV hC ct3 ce_X11_thrown cs_X11 ((wjn_r (djn_at hd5 (wjn_l hM2))).trans (wjn_l hM2)) tw_1236 rfl rfl ⟨⟨Nat.le_trans (le_b rfl) hRf, Nat.le_trans (le_b rfl) hRl⟩, by omega, by omega⟩ (le_b rfl) dL_law_2654 rfl (fun r w h9 => ?_) (fun E w h9 => h9.choose_spec.1.elim)
  obtain ⟨w9, ⟨rfl, rfl⟩, rfl, -, -⟩ := h9
  rw [hth2]
  refine s_iload hC dL_law_2657 rfl 1 rfl ?_
  refine s_icmp_eq hC (tgt := 2664) dL_law_2659 rfl (by decide) (fun _ => ?_) (fun z => absurd rfl z)
  refine s_iload hC dL_law_2664 rfl 1 rfl ?_
  refine z_if_ne hC (tgt := 2688) dL_law_2666 rfl (by decide) (fun _ => WP.widen (by omega) (by omega) (fin _)) (fun z => ?_)
  have hz := lw_q0 hcd z
  have hv2 := hv2 hz
  have hv3 := hv3 hz
  subst hv3
  refine s_aload_n hC dL_law_2669 rfl rfl 6 rfl ?_
  refine s_iconst hC (v := 0) dL_law_2670 rfl (by decide) ?_
  refine s_lald hC ((wjn_r (djn_at hd5 ((wjn_r (djn_at hd6 hlo2)).trans hlo2))).trans ((wjn_r (djn_at hd6 hlo2)).trans hlo2)) (vp_in_nI (n := 0) (by omega) (by omega)) dL_law_2671 rfl ?_
  rw [show Int32.toNatClampNeg 0 = 0 from rfl, hv2]
  refine s_iload hC dL_law_2672 rfl 0 rfl ?_
  cases hb : vl_notice σ (xs (i0 + 1))
  · refine z_if_eqB hC (tgt := 2681) dL_law_2674 rfl (by decide) (fun _ => ?_) (fun z9 => absurd z9 (by decide))
    refine s_lconst hC (v := 0) dL_law_2681 rfl (by decide) ?_
    refine s_lcmp hC dL_law_2682 rfl ?_
    exact z_if_eq hC (tgt := 2688) dL_law_2683 rfl (by decide) (fun _ => WP.widen (by omega) (by omega) (fin _)) (fun z9 => absurd ((lg_cmp_eq _ _).mpr rfl) z9)
  · refine z_if_eqB hC (tgt := 2681) dL_law_2674 rfl (by decide) (fun z9 => absurd z9 (by decide)) (fun _ => ?_)
    refine s_lconst hC (v := 1) dL_law_2677 rfl (by decide) ?_
    refine s_goto hC (tgt := 2682) dL_law_2678 (by decide) ?_
    refine s_lcmp hC dL_law_2682 rfl ?_
    exact z_if_eq hC (tgt := 2688) dL_law_2683 rfl (by decide) (fun _ => WP.widen (by omega) (by omega) (fin _)) (fun z9 => absurd ((lg_cmp_eq _ _).mpr rfl) z9)
set_option maxHeartbeats 1000000 in
set_option maxRecDepth 100000 in
theorem lc_claimed {p : Program} {l : Launch} {e : Env} {R : Room} {s : State} {m : MethodId} {args : Array Value} {below : List Frame} {meth : Method} {c : Code} {g : Gl} {ω0 : Wd} {sz0 : Nat} {Q : State → Prop} {k n : Nat} (hC : Cx p l e R s m args below meth c cL_law 9 "BoringheadLaw" g ω0 sz0) (hst : l.stackTraces = false) (hN : NCs s) {b Ls : Nat} {xs : Nat → Int32} (hX : LX g ω0 sz0 s b Ls xs) (hRf : 60 ≤ R.frames) (hRl : 2000 ≤ R.locals) (hRk : k + 670 ≤ R.cells) (hRn : n + 2700 ≤ R.slots) {i0 : Nat} (hi : i0 + 5 ≤ Ls) {mC mM lo lD : Nat} {σ : St} (hI : Inv σ) {ω : Wd} (hL : LH g mC mM lo lD ω σ)
    (kk : ∀ ω' σ', Inv σ' → LH g mC mM lo lD ω' σ' → WP p l e R s m args below meth c g ω0 sz0 Q 9 ω' (k + 670) (n + 2700) 2920 (lwL b mC mM lo lD (nI i0)) []) : WP p l e R s m args below meth c g ω0 sz0 Q 9 ω k n 2691 (lwL b mC mM lo lD (nI i0)) [] := by
  obtain ⟨th, fl, fd, ωc, ωm, ωo, adc, x, adm, y, hRc, hmC, hRm, hmM, -, hgr, rfl, hd1, hd2, hlo, hlD⟩ := hL
  have hM := RepM.f_main hRm
  rw [hmM] at hM
  have hM1 := RepC.f_main hRc
  rw [hmC] at hM1
  refine s_aload_n hC dL_law_2691 rfl rfl 2 rfl ?_
  have ct := CT.frame (ct_X9_claimed l g ωc adc x σ hRc) hd1
  rw [hmC] at ct
  refine s_callV hC ct ce_X9_claimed cs_X9 (wjn_l hM1) tw_323 rfl rfl ⟨⟨Nat.le_trans (le_b rfl) hRf, Nat.le_trans (le_b rfl) hRl⟩, by omega, by omega⟩ (le_b rfl) dL_law_2692 rfl (fun r w h9 => ?_) (fun E w h9 => h9.choose_spec.1.elim)
  obtain ⟨w1, ⟨-, rfl, ad2, x2, hRc2, hmC2⟩, rfl, hd3⟩ := h9
  refine s_aload_n hC dL_law_2695 rfl rfl 3 rfl ?_
  have ct2 := CT.mid (ct_X11_claimed l g ωm adm y σ hRm hgr hI.x_kIn hI.x_rIn hI.x_nOK hI.x_snd3) hd3 hd2
  rw [hmM] at ct2
  refine s_callV hC ct2 ce_X11_claimed cs_X11 ((wjn_r (djn_at hd3 (wjn_l hM))).trans (wjn_l hM)) tw_2053 rfl rfl ⟨⟨Nat.le_trans (le_b rfl) hRf, Nat.le_trans (le_b rfl) hRl⟩, by omega, by omega⟩ (le_b rfl) dL_law_2696 rfl (fun r w h9 => ?_) (fun E w h9 => h9.choose_spec.1.elim)
  obtain ⟨wm, ⟨v, adm2, y2, rfl, hv3, hRm2, hmM2, hth2, hgr2⟩, rfl, hd5, hd6⟩ := h9
  rw [if_pos rfl] at hRm2 hgr2
  have hv3 := hv3 rfl
  subst hv3
  exact s_icmp_eq hC (tgt := 2920) dL_law_2699 rfl (by decide) (fun _ => WP.widen (by omega) (by omega) (kk _ _ (hI) ⟨_, _, _, w1, wm, ωo, ad2, x2, adm2, y2, hRc2, hmC2.trans hmC, hRm2, hmM2.trans hmM, rfl, hgr2, rfl, hd5, hd6, hlo, hlD⟩)) (fun z => absurd rfl z)
set_option maxHeartbeats 1000000 in
set_option maxRecDepth 100000 in
theorem lc_count {p : Program} {l : Launch} {e : Env} {R : Room} {s : State} {m : MethodId} {args : Array Value} {below : List Frame} {meth : Method} {c : Code} {g : Gl} {ω0 : Wd} {sz0 : Nat} {Q : State → Prop} {k n : Nat} (hC : Cx p l e R s m args below meth c cL_law 9 "BoringheadLaw" g ω0 sz0) (hst : l.stackTraces = false) (hN : NCs s) {b Ls : Nat} {xs : Nat → Int32} (hX : LX g ω0 sz0 s b Ls xs) (hRf : 60 ≤ R.frames) (hRl : 2000 ≤ R.locals) (hRk : k + 670 ≤ R.cells) (hRn : n + 2700 ≤ R.slots) {i0 : Nat} (hi : i0 + 5 ≤ Ls) {mC mM lo lD : Nat} {σ : St} (hI : Inv σ) {ω : Wd} (hL : LH g mC mM lo lD ω σ)
    (kk : ∀ ω' σ', Inv σ' → LH g mC mM lo lD ω' σ' → WP p l e R s m args below meth c g ω0 sz0 Q 9 ω' (k + 670) (n + 2700) 2920 (lwL b mC mM lo lD (nI i0)) []) : WP p l e R s m args below meth c g ω0 sz0 Q 9 ω k n 2704 (lwL b mC mM lo lD (nI i0)) [] := by
  obtain ⟨th, fl, fd, ωc, ωm, ωo, adc, x, adm, y, hRc, hmC, hRm, hmM, -, hgr, rfl, hd1, hd2, hlo, hlD⟩ := hL
  have hM := RepM.f_main hRm
  rw [hmM] at hM
  refine s_aload_n hC dL_law_2704 rfl rfl 2 rfl ?_
  refine s_aload_n hC dL_law_2705 rfl rfl 1 rfl ?_
  refine s_iload hC dL_law_2706 rfl 0 rfl ?_
  refine s_iconst hC (v := 1) dL_law_2708 rfl (by decide) ?_
  refine s_iadd hC dL_law_2709 rfl ?_
  refine s_sldX hC hX (i0 + 1) (nI_add i0 1) (by omega) dL_law_2710 rfl ?_
  refine s_i2c hC dL_law_2711 rfl rfl ?_
  refine s_aload_n hC dL_law_2712 rfl rfl 4 rfl ?_
  have ct := ct_L_count l g hst ωc (wjn ωm ωo) hd1 adc x σ hRc (((xs (i0 + 1)).toUInt32 % 65536).toInt32) lo 1 fl ((wjn_r (djn_at hd2 hlo)).trans hlo) (by decide) (by decide)
  rw [hmC] at ct
  refine s_callSX hC hN ct ce_L_count tw_1196 rfl rfl ⟨⟨Nat.le_trans (le_b rfl) hRf, Nat.le_trans (le_b rfl) hRl⟩, by omega, by omega⟩ (le_b rfl) dL_law_2713 rfl (fun r w h9 => ?_)
  obtain ⟨w1, w2, ad2, x2, rfl, hRc2, hmC2, rfl, hd3, hw2⟩ := h9
  obtain ⟨ωo2, f2, rfl, hd4, hlo2, hlD2, hv2⟩ := out_L hd2 hlo hlD hd3 hw2
  refine s_istore hC (L' := [(6, _), (5, _), (0, _), (1, _), (2, _), (3, _), (4, _)]) dL_law_2716 rfl (le_b rfl) rfl ?_
  refine s_aload_n hC dL_law_2718 rfl rfl 4 rfl ?_
  refine s_aload_n hC dL_law_2719 rfl rfl 2 rfl ?_
  refine s_iload hC dL_law_2720 rfl 1 rfl ?_
  refine s_iconst hC (v := 1) dL_law_2722 rfl (by decide) ?_
  refine s_iadd hC dL_law_2723 rfl ?_
  refine s_sldX hC hX (i0 + 1) (nI_add i0 1) (by omega) dL_law_2724 rfl ?_
  refine s_i2c hC dL_law_2725 rfl rfl ?_
  have ct2 := CT.mid (ct_X11_count l g ωm adm y σ hRm (((xs (i0 + 1)).toUInt32 % 65536).toInt32) hgr hI.x_kIn hI.x_rkOK hI.x_nOK) hd3 hd4
  rw [hmM] at ct2
  refine s_callV hC ct2 ce_X11_count cs_X11 ((wjn_r (djn_at hd3 (wjn_l hM))).trans (wjn_l hM)) tw_2057 rfl rfl ⟨⟨Nat.le_trans (le_b rfl) hRf, Nat.le_trans (le_b rfl) hRl⟩, by omega, by omega⟩ (le_b rfl) dL_law_2726 rfl (fun r w h9 => ?_) (fun E w h9 => h9.choose_spec.1.elim)
  obtain ⟨wm, ⟨v, adm2, y2, rfl, hv3, hRm2, hmM2, hth2, hgr2⟩, rfl, hd5, hd6⟩ := h9
  have hcd : (cd_count σ (((xs (i0 + 1)).toUInt32 % 65536).toInt32)) < 2 ^ 31 := by
    unfold cd_count
    (repeat' split) <;> decide
  have hI2 : Inv (if (cd_count σ (((xs (i0 + 1)).toUInt32 % 65536).toInt32)) = 0 then σ else σ) := inv_if hI (fun z => hI)
  exact lw_tail hC (k := k + 670) (n := n + 2700) hRf hRl (by omega) (by omega) hRk hRn hcd hI2 ⟨w1, wm, ωo2, ad2, x2, adm2, y2, hRc2, hmC2.trans hmC, hRm2, hmM2.trans hmM, hth2, hgr2, rfl, hd5, hd6, hlo2, hlD2⟩ (fun z => ⟨hv2 z, hv3 z⟩) (t1 := 2742) (t2 := 2759) rfl rfl (by decide) dL_law_2729 dL_law_2731 dL_law_2732 dL_law_2735 dL_law_2737 dL_law_2742 dL_law_2744 dL_law_2747 dL_law_2748 dL_law_2749 dL_law_2750 dL_law_2752 dL_law_2753 dL_law_2754 dL_law_2759 kk
set_option maxHeartbeats 1000000 in
set_option maxRecDepth 100000 in
theorem lc_groutShare {p : Program} {l : Launch} {e : Env} {R : Room} {s : State} {m : MethodId} {args : Array Value} {below : List Frame} {meth : Method} {c : Code} {g : Gl} {ω0 : Wd} {sz0 : Nat} {Q : State → Prop} {k n : Nat} (hC : Cx p l e R s m args below meth c cL_law 9 "BoringheadLaw" g ω0 sz0) (hst : l.stackTraces = false) (hN : NCs s) {b Ls : Nat} {xs : Nat → Int32} (hX : LX g ω0 sz0 s b Ls xs) (hRf : 60 ≤ R.frames) (hRl : 2000 ≤ R.locals) (hRk : k + 670 ≤ R.cells) (hRn : n + 2700 ≤ R.slots) {i0 : Nat} (hi : i0 + 5 ≤ Ls) {mC mM lo lD : Nat} {σ : St} (hI : Inv σ) {ω : Wd} (hL : LH g mC mM lo lD ω σ)
    (kk : ∀ ω' σ', Inv σ' → LH g mC mM lo lD ω' σ' → WP p l e R s m args below meth c g ω0 sz0 Q 9 ω' (k + 670) (n + 2700) 2920 (lwL b mC mM lo lD (nI i0)) []) : WP p l e R s m args below meth c g ω0 sz0 Q 9 ω k n 2762 (lwL b mC mM lo lD (nI i0)) [] := by
  obtain ⟨th, fl, fd, ωc, ωm, ωo, adc, x, adm, y, hRc, hmC, hRm, hmM, -, hgr, rfl, hd1, hd2, hlo, hlD⟩ := hL
  have hM := RepM.f_main hRm
  rw [hmM] at hM
  refine s_aload_n hC dL_law_2762 rfl rfl 2 rfl ?_
  refine s_aload hC dL_law_2763 rfl 5 rfl ?_
  have ct := ct_L_groutShare l g hst ωc (wjn ωm ωo) hd1 adc x σ hRc hI.nnG hI.nnD lD 1 fd ((wjn_r (djn_at hd2 hlD)).trans hlD) (by decide) (by decide)
  rw [hmC] at ct
  refine s_callSX hC hN ct ce_L_groutShare tw_1204 rfl rfl ⟨⟨Nat.le_trans (le_b rfl) hRf, Nat.le_trans (le_b rfl) hRl⟩, by omega, by omega⟩ (le_b rfl) dL_law_2765 rfl (fun r w h9 => ?_)
  obtain ⟨w1, w2, ad2, x2, rfl, hRc2, hmC2, rfl, hd3, hw2⟩ := h9
  obtain ⟨ωo2, f2, rfl, hd4, hlo2, hlD2, hv2⟩ := out_D hd2 hlo hlD hd3 hw2
  refine s_istore hC (L' := [(6, _), (5, _), (0, _), (1, _), (2, _), (3, _), (4, _)]) dL_law_2768 rfl (le_b rfl) rfl ?_
  refine s_aload_n hC dL_law_2770 rfl rfl 4 rfl ?_
  have ct2 := CT.mid (ct_X11_groutShare l g ωm adm y σ hRm hgr hI.x_kIn hI.x_rkOK hI.x_nOK hI.nnG) hd3 hd4
  rw [hmM] at ct2
  refine s_callV hC ct2 ce_X11_groutShare cs_X11 ((wjn_r (djn_at hd3 (wjn_l hM))).trans (wjn_l hM)) tw_2061 rfl rfl ⟨⟨Nat.le_trans (le_b rfl) hRf, Nat.le_trans (le_b rfl) hRl⟩, by omega, by omega⟩ (le_b rfl) dL_law_2771 rfl (fun r w h9 => ?_) (fun E w h9 => h9.choose_spec.1.elim)
  obtain ⟨wm, ⟨v, adm2, y2, rfl, hv3, hRm2, hmM2, hth2, hgr2⟩, rfl, hd5, hd6⟩ := h9
  have hcd : (cd_groutShare σ) < 2 ^ 31 := by
    unfold cd_groutShare
    (repeat' split) <;> decide
  have hI2 : Inv (if (cd_groutShare σ) = 0 then σ else σ) := inv_if hI (fun z => hI)
  have hM2 := RepM.f_main hRm2
  rw [hmM2.trans hmM] at hM2
  have ct3 := CT.mid (ct_X11_thrown l g wm adm2 y2 _ hRm2) hd5 hd6
  rw [hmM2.trans hmM] at ct3
  refine s_fstore hC (L' := [(7, _), (6, _), (5, _), (0, _), (1, _), (2, _), (3, _), (4, _)]) dL_law_2774 rfl (le_b rfl) rfl ?_
  have fin : ∀ V, WP p l e R s m args below meth c g ω0 sz0 Q 9 (wjn w1 (wjn wm ωo2)) (k + 670) (n + 2700) 2825 [(7, V), (6, .int (nI (cd_groutShare σ))), (5, .int (nI i0)), (0, .ref b), (1, .ref mC), (2, .ref mM), (3, .ref lo), (4, .ref lD)] [] := fun V => by
    refine s_goto hC (tgt := 2920) dL_law_2825 (by decide) ?_
    refine WP.sub (L' := lwL b mC mM lo lD (nI i0)) [2, 3, 4, 5, 6, 7] rfl ?_
    exact kk _ _ hI2 ⟨_, _, _, w1, wm, ωo2, ad2, x2, adm2, y2, hRc2, hmC2.trans hmC, hRm2, hmM2.trans hmM, hth2, hgr2, rfl, hd5, hd6, hlo2, hlD2⟩
  refine s_aload_n hC dL_law_2776 rfl rfl 5 rfl ?_
  refine s_callV hC ct3 ce_X11_thrown cs_X11 ((wjn_r (djn_at hd5 (wjn_l hM2))).trans (wjn_l hM2)) tw_1236 rfl rfl ⟨⟨Nat.le_trans (le_b rfl) hRf, Nat.le_trans (le_b rfl) hRl⟩, by omega, by omega⟩ (le_b rfl) dL_law_2777 rfl (fun r w h9 => ?_) (fun E w h9 => h9.choose_spec.1.elim)
  obtain ⟨w9, ⟨rfl, rfl⟩, rfl, -, -⟩ := h9
  rw [hth2]
  refine s_iload hC dL_law_2780 rfl 1 rfl ?_
  refine s_icmp_eq hC (tgt := 2787) dL_law_2782 rfl (by decide) (fun _ => ?_) (fun z => absurd rfl z)
  refine s_iload hC dL_law_2787 rfl 1 rfl ?_
  refine z_if_ne hC (tgt := 2825) dL_law_2789 rfl (by decide) (fun _ => WP.widen (by omega) (by omega) (fin _)) (fun z => ?_)
  have hz := lw_q0 hcd z
  have hn0 : ¬ σ.n = 0 := fun z9 => by simp [cd_groutShare, z9] at hz
  have hv2 := hv2 hz
  have hv3 := hv3 hz
  subst hv3
  refine s_aload hC dL_law_2792 rfl 7 rfl ?_
  refine s_iconst hC (v := 0) dL_law_2794 rfl (by decide) ?_
  refine s_dald hC ((wjn_r (djn_at hd5 ((wjn_r (djn_at hd6 hlD2)).trans hlD2))).trans ((wjn_r (djn_at hd6 hlD2)).trans hlD2)) (vp_in_nI (n := 0) (by omega) (by omega)) dL_law_2795 rfl ?_
  rw [show Int32.toNatClampNeg 0 = 0 from rfl, hv2]
  refine s_fload hC dL_law_2796 rfl 0 rfl ?_
  refine s_f2d hC dL_law_2798 rfl (hI.nnD hn0) ?_
  refine s_dcmp hC dL_law_2799 rfl ?_
  exact z_if_eq hC (tgt := 2825) dL_law_2800 rfl (by decide) (fun _ => WP.widen (by omega) (by omega) (fin _)) (fun z => absurd (dcmp_0 (hI.nvD hn0)) z)
set_option maxHeartbeats 1000000 in
set_option maxRecDepth 100000 in
theorem lc_meanMinutes {p : Program} {l : Launch} {e : Env} {R : Room} {s : State} {m : MethodId} {args : Array Value} {below : List Frame} {meth : Method} {c : Code} {g : Gl} {ω0 : Wd} {sz0 : Nat} {Q : State → Prop} {k n : Nat} (hC : Cx p l e R s m args below meth c cL_law 9 "BoringheadLaw" g ω0 sz0) (hst : l.stackTraces = false) (hN : NCs s) {b Ls : Nat} {xs : Nat → Int32} (hX : LX g ω0 sz0 s b Ls xs) (hRf : 60 ≤ R.frames) (hRl : 2000 ≤ R.locals) (hRk : k + 670 ≤ R.cells) (hRn : n + 2700 ≤ R.slots) {i0 : Nat} (hi : i0 + 5 ≤ Ls) {mC mM lo lD : Nat} {σ : St} (hI : Inv σ) {ω : Wd} (hL : LH g mC mM lo lD ω σ)
    (kk : ∀ ω' σ', Inv σ' → LH g mC mM lo lD ω' σ' → WP p l e R s m args below meth c g ω0 sz0 Q 9 ω' (k + 670) (n + 2700) 2920 (lwL b mC mM lo lD (nI i0)) []) : WP p l e R s m args below meth c g ω0 sz0 Q 9 ω k n 2828 (lwL b mC mM lo lD (nI i0)) [] := by
  obtain ⟨th, fl, fd, ωc, ωm, ωo, adc, x, adm, y, hRc, hmC, hRm, hmM, -, hgr, rfl, hd1, hd2, hlo, hlD⟩ := hL
  have hM := RepM.f_main hRm
  rw [hmM] at hM
  refine s_aload_n hC dL_law_2828 rfl rfl 2 rfl ?_
  refine s_aload hC dL_law_2829 rfl 5 rfl ?_
  have ct := ct_L_meanMinutes l g hst ωc (wjn ωm ωo) hd1 adc x σ hRc hI.nnM lD 1 fd ((wjn_r (djn_at hd2 hlD)).trans hlD) (by decide) (by decide)
  rw [hmC] at ct
  refine s_callSX hC hN ct ce_L_meanMinutes tw_1229 rfl rfl ⟨⟨Nat.le_trans (le_b rfl) hRf, Nat.le_trans (le_b rfl) hRl⟩, by omega, by omega⟩ (le_b rfl) dL_law_2831 rfl (fun r w h9 => ?_)
  obtain ⟨w1, w2, ad2, x2, rfl, hRc2, hmC2, rfl, hd3, hw2⟩ := h9
  obtain ⟨ωo2, f2, rfl, hd4, hlo2, hlD2, hv2⟩ := out_D hd2 hlo hlD hd3 hw2
  refine s_istore hC (L' := [(6, _), (5, _), (0, _), (1, _), (2, _), (3, _), (4, _)]) dL_law_2834 rfl (le_b rfl) rfl ?_
  refine s_aload_n hC dL_law_2836 rfl rfl 4 rfl ?_
  have ct2 := CT.mid (ct_X11_meanMinutes l g ωm adm y σ hRm hgr hI.nnM) hd3 hd4
  rw [hmM] at ct2
  refine s_callV hC ct2 ce_X11_meanMinutes cs_X11 ((wjn_r (djn_at hd3 (wjn_l hM))).trans (wjn_l hM)) tw_2072 rfl rfl ⟨⟨Nat.le_trans (le_b rfl) hRf, Nat.le_trans (le_b rfl) hRl⟩, by omega, by omega⟩ (le_b rfl) dL_law_2837 rfl (fun r w h9 => ?_) (fun E w h9 => h9.choose_spec.1.elim)
  obtain ⟨wm, ⟨v, adm2, y2, rfl, hv3, hRm2, hmM2, hth2, hgr2⟩, rfl, hd5, hd6⟩ := h9
  have hcd : (cd_meanMinutes σ) < 2 ^ 31 := by
    unfold cd_meanMinutes
    (repeat' split) <;> decide
  have hI2 : Inv (if (cd_meanMinutes σ) = 0 then σ else σ) := inv_if hI (fun z => hI)
  have hM2 := RepM.f_main hRm2
  rw [hmM2.trans hmM] at hM2
  have ct3 := CT.mid (ct_X11_thrown l g wm adm2 y2 _ hRm2) hd5 hd6
  rw [hmM2.trans hmM] at ct3
  refine s_dstore hC (L' := [(7, _), (6, _), (5, _), (0, _), (1, _), (2, _), (3, _), (4, _)]) dL_law_2840 rfl (le_b rfl) rfl ?_
  have fin : ∀ V, WP p l e R s m args below meth c g ω0 sz0 Q 9 (wjn w1 (wjn wm ωo2)) (k + 670) (n + 2700) 2890 [(7, V), (6, .int (nI (cd_meanMinutes σ))), (5, .int (nI i0)), (0, .ref b), (1, .ref mC), (2, .ref mM), (3, .ref lo), (4, .ref lD)] [] := fun V => by
    refine s_goto hC (tgt := 2920) dL_law_2890 (by decide) ?_
    refine WP.sub (L' := lwL b mC mM lo lD (nI i0)) [2, 3, 4, 5, 6, 7] rfl ?_
    exact kk _ _ hI2 ⟨_, _, _, w1, wm, ωo2, ad2, x2, adm2, y2, hRc2, hmC2.trans hmC, hRm2, hmM2.trans hmM, hth2, hgr2, rfl, hd5, hd6, hlo2, hlD2⟩
  refine s_aload_n hC dL_law_2842 rfl rfl 5 rfl ?_
  refine s_callV hC ct3 ce_X11_thrown cs_X11 ((wjn_r (djn_at hd5 (wjn_l hM2))).trans (wjn_l hM2)) tw_1236 rfl rfl ⟨⟨Nat.le_trans (le_b rfl) hRf, Nat.le_trans (le_b rfl) hRl⟩, by omega, by omega⟩ (le_b rfl) dL_law_2843 rfl (fun r w h9 => ?_) (fun E w h9 => h9.choose_spec.1.elim)
  obtain ⟨w9, ⟨rfl, rfl⟩, rfl, -, -⟩ := h9
  rw [hth2]
  refine s_iload hC dL_law_2846 rfl 1 rfl ?_
  refine s_icmp_eq hC (tgt := 2853) dL_law_2848 rfl (by decide) (fun _ => ?_) (fun z => absurd rfl z)
  refine s_iload hC dL_law_2853 rfl 1 rfl ?_
  refine z_if_ne hC (tgt := 2890) dL_law_2855 rfl (by decide) (fun _ => WP.widen (by omega) (by omega) (fin _)) (fun z => ?_)
  have hz := lw_q0 hcd z
  have hn0 : ¬ σ.n = 0 := fun z9 => by simp [cd_meanMinutes, z9] at hz
  have hv2 := hv2 hz
  have hv3 := hv3 hz
  subst hv3
  refine s_aload hC dL_law_2858 rfl 7 rfl ?_
  refine s_iconst hC (v := 0) dL_law_2860 rfl (by decide) ?_
  refine s_dald hC ((wjn_r (djn_at hd5 ((wjn_r (djn_at hd6 hlD2)).trans hlD2))).trans ((wjn_r (djn_at hd6 hlD2)).trans hlD2)) (vp_in_nI (n := 0) (by omega) (by omega)) dL_law_2861 rfl ?_
  rw [show Int32.toNatClampNeg 0 = 0 from rfl, hv2]
  refine s_dload hC dL_law_2862 rfl 0 rfl ?_
  refine s_dcmp hC dL_law_2864 rfl ?_
  exact z_if_eq hC (tgt := 2890) dL_law_2865 rfl (by decide) (fun _ => WP.widen (by omega) (by omega) (fin _)) (fun z => absurd (dcmp_0 (hI.nvM hn0)) z)
set_option maxHeartbeats 1000000 in
set_option maxRecDepth 100000 in
theorem lc_checksum {p : Program} {l : Launch} {e : Env} {R : Room} {s : State} {m : MethodId} {args : Array Value} {below : List Frame} {meth : Method} {c : Code} {g : Gl} {ω0 : Wd} {sz0 : Nat} {Q : State → Prop} {k n : Nat} (hC : Cx p l e R s m args below meth c cL_law 9 "BoringheadLaw" g ω0 sz0) (hst : l.stackTraces = false) (hN : NCs s) {b Ls : Nat} {xs : Nat → Int32} (hX : LX g ω0 sz0 s b Ls xs) (hRf : 60 ≤ R.frames) (hRl : 2000 ≤ R.locals) (hRk : k + 670 ≤ R.cells) (hRn : n + 2700 ≤ R.slots) {i0 : Nat} (hi : i0 + 5 ≤ Ls) {mC mM lo lD : Nat} {σ : St} (hI : Inv σ) {ω : Wd} (hL : LH g mC mM lo lD ω σ)
    (kk : ∀ ω' σ', Inv σ' → LH g mC mM lo lD ω' σ' → WP p l e R s m args below meth c g ω0 sz0 Q 9 ω' (k + 670) (n + 2700) 2920 (lwL b mC mM lo lD (nI i0)) []) : WP p l e R s m args below meth c g ω0 sz0 Q 9 ω k n 2893 (lwL b mC mM lo lD (nI i0)) [] := by
  obtain ⟨th, fl, fd, ωc, ωm, ωo, adc, x, adm, y, hRc, hmC, hRm, hmM, -, hgr, rfl, hd1, hd2, hlo, hlD⟩ := hL
  have hM := RepM.f_main hRm
  rw [hmM] at hM
  have hM1 := RepC.f_main hRc
  rw [hmC] at hM1
  refine s_aload_n hC dL_law_2893 rfl rfl 2 rfl ?_
  have ct := CT.frame (ct_X9_checksum l g ωc adc x σ hRc) hd1
  rw [hmC] at ct
  refine s_callV hC ct ce_X9_checksum cs_X9 (wjn_l hM1) tw_327 rfl rfl ⟨⟨Nat.le_trans (le_b rfl) hRf, Nat.le_trans (le_b rfl) hRl⟩, by omega, by omega⟩ (le_b rfl) dL_law_2894 rfl (fun r w h9 => ?_) (fun E w h9 => h9.choose_spec.1.elim)
  obtain ⟨w1, ⟨-, rfl, ad2, x2, hRc2, hmC2⟩, rfl, hd3⟩ := h9
  refine s_aload_n hC dL_law_2897 rfl rfl 3 rfl ?_
  have ct2 := CT.mid (ct_X11_checksum l g ωm adm y σ hRm hgr hI.x_kIn hI.x_rkOK hI.x_nOK) hd3 hd2
  rw [hmM] at ct2
  refine s_callV hC ct2 ce_X11_checksum cs_X11 ((wjn_r (djn_at hd3 (wjn_l hM))).trans (wjn_l hM)) tw_2076 rfl rfl ⟨⟨Nat.le_trans (le_b rfl) hRf, Nat.le_trans (le_b rfl) hRl⟩, by omega, by omega⟩ (le_b rfl) dL_law_2898 rfl (fun r w h9 => ?_) (fun E w h9 => h9.choose_spec.1.elim)
  obtain ⟨wm, ⟨v, adm2, y2, rfl, hv3, hRm2, hmM2, hth2, hgr2⟩, rfl, hd5, hd6⟩ := h9
  rw [if_pos rfl] at hRm2 hgr2
  have hv3 := hv3 rfl
  subst hv3
  refine s_lcmp hC dL_law_2901 rfl ?_
  exact z_if_eq hC (tgt := 2920) dL_law_2902 rfl (by decide) (fun _ => WP.widen (by omega) (by omega) (kk _ _ (hI) ⟨_, _, _, w1, wm, ωo, ad2, x2, adm2, y2, hRc2, hmC2.trans hmC, hRm2, hmM2.trans hmM, rfl, hgr2, rfl, hd5, hd6, hlo, hlD⟩)) (fun z => absurd ((lg_cmp_eq _ _).mpr rfl) z)
set_option maxHeartbeats 1000000 in
set_option maxRecDepth 100000 in
theorem lc_isSound {p : Program} {l : Launch} {e : Env} {R : Room} {s : State} {m : MethodId} {args : Array Value} {below : List Frame} {meth : Method} {c : Code} {g : Gl} {ω0 : Wd} {sz0 : Nat} {Q : State → Prop} {k n : Nat} (hC : Cx p l e R s m args below meth c cL_law 9 "BoringheadLaw" g ω0 sz0) (hst : l.stackTraces = false) (hN : NCs s) {b Ls : Nat} {xs : Nat → Int32} (hX : LX g ω0 sz0 s b Ls xs) (hRf : 60 ≤ R.frames) (hRl : 2000 ≤ R.locals) (hRk : k + 670 ≤ R.cells) (hRn : n + 2700 ≤ R.slots) {i0 : Nat} (hi : i0 + 5 ≤ Ls) {mC mM lo lD : Nat} {σ : St} (hI : Inv σ) {ω : Wd} (hL : LH g mC mM lo lD ω σ)
    (kk : ∀ ω' σ', Inv σ' → LH g mC mM lo lD ω' σ' → WP p l e R s m args below meth c g ω0 sz0 Q 9 ω' (k + 670) (n + 2700) 2920 (lwL b mC mM lo lD (nI i0)) []) : WP p l e R s m args below meth c g ω0 sz0 Q 9 ω k n 2907 (lwL b mC mM lo lD (nI i0)) [] := by
  obtain ⟨th, fl, fd, ωc, ωm, ωo, adc, x, adm, y, hRc, hmC, hRm, hmM, -, hgr, rfl, hd1, hd2, hlo, hlD⟩ := hL
  have hM := RepM.f_main hRm
  rw [hmM] at hM
  have hM1 := RepC.f_main hRc
  rw [hmC] at hM1
  refine s_aload_n hC dL_law_2907 rfl rfl 2 rfl ?_
  have ct := CT.frame (ct_X9_isSound l g ωc adc x σ hRc hI.sound.1 hI.sound.2.1 hI.sound.2.2.1 hI.sound.2.2.2.1 hI.sound.2.2.2.2) hd1
  rw [hmC] at ct
  refine s_callV hC ct ce_X9_isSound cs_X9 (wjn_l hM1) tw_349 rfl rfl ⟨⟨Nat.le_trans (le_b rfl) hRf, Nat.le_trans (le_b rfl) hRl⟩, by omega, by omega⟩ (le_b rfl) dL_law_2908 rfl (fun r w h9 => ?_) (fun E w h9 => h9.choose_spec.1.elim)
  obtain ⟨w1, ⟨-, rfl, ad2, x2, hRc2, hmC2⟩, rfl, hd3⟩ := h9
  refine s_aload_n hC dL_law_2911 rfl rfl 3 rfl ?_
  have ct2 := CT.mid (ct_X11_isSound l g ωm adm y σ hRm hgr) hd3 hd2
  rw [hmM] at ct2
  refine s_callV hC ct2 ce_X11_isSound cs_X11 ((wjn_r (djn_at hd3 (wjn_l hM))).trans (wjn_l hM)) tw_2081 rfl rfl ⟨⟨Nat.le_trans (le_b rfl) hRf, Nat.le_trans (le_b rfl) hRl⟩, by omega, by omega⟩ (le_b rfl) dL_law_2912 rfl (fun r w h9 => ?_) (fun E w h9 => h9.choose_spec.1.elim)
  obtain ⟨wm, ⟨v, adm2, y2, rfl, hv3, hRm2, hmM2, hth2, hgr2⟩, rfl, hd5, hd6⟩ := h9
  rw [if_pos rfl] at hRm2 hgr2
  have hv3 := hv3 rfl
  subst hv3
  exact s_icmp_eq hC (tgt := 2920) dL_law_2915 rfl (by decide) (fun _ => WP.widen (by omega) (by omega) (kk _ _ (hI) ⟨_, _, _, w1, wm, ωo, ad2, x2, adm2, y2, hRc2, hmC2.trans hmC, hRm2, hmM2.trans hmM, rfl, hgr2, rfl, hd5, hd6, hlo, hlD⟩)) (fun z => absurd rfl z)
