theorem cd_bend_ns (σ : St) (f9 t9 r9 u9 : Int32) : cd_bend σ f9 t9 r9 u9 = nsC σ f9 t9 (inR r9 (-20) 20 && inR u9 (-20) 20) := by
  rw [nsC_eq, cd_bend]
  cases inR r9 (-20) 20 <;> cases inR u9 (-20) 20 <;> simp
theorem wup4 {ω : Wd} {p q : Nat} (h : p ≠ q) (a b a' b' : va_E) : wup (wup (wup (wup ω p a) q b) p a') q b' = wup (wup ω p a') q b' := by
  funext z
  by_cases h1 : z = q
  · rw [h1, wup_s, wup_s]
  · rw [wup_n h1, wup_n h1]
    by_cases h2 : z = p
    · rw [h2, wup_s, wup_s]
    · rw [wup_n h2, wup_n h1, wup_n h2, wup_n h2]
theorem wup2 {ω : Wd} {p q : Nat} {a b : va_E} (h1 : ω p = some a) (h2 : ω q = some b) : ω = wup (wup ω p a) q b := by
  rw [wup_self h1, wup_self h2]
set_option maxHeartbeats 1000000 in
set_option maxRecDepth 100000 in
theorem ct_X11_bend (l : Launch) (g : Gl) (ω : Wd) (ad : Iy → Nat) (y : Ey) (σ : St) (hR : RepM g ad y σ ω) (f9 : Int32) (t9 : Int32) (r9 : Int32) (u9 : Int32) (hgr : grOK σ y) : CT l g yX11_bend cX11_bend 6 (some .int) 3 68 0 0 [.ref (ad .main), .int f9, .int t9, .int r9, .int u9] ω (okM g ad (cd_bend σ f9 t9 r9 u9) Value.int (vl_bend σ f9 t9 r9 u9) (nx_bend σ f9 t9 r9 u9) σ) (nox) := by
  refine CT.of (own := "BoringheadModel") rfl rfl (le_b rfl) rfl ?_
  intro p e s m args below meth c sz0 hC hr htab hin
  refine s_aload_n hC dX11_bend_0 rfl rfl 0 rfl ?_
  refine s_callV hC (ct_X11_begins l g _ _ _ _ hR) ce_X11_begins cs_X11 (RepM.f_main hR) tw_1324 rfl rfl ⟨⟨le_b rfl, le_b rfl⟩, le_b rfl, le_b rfl⟩ (le_b rfl) dX11_bend_1 rfl (dvk0 ?_) nokx
  refine WP.rm (RepM.s_main_0 hR 0) (fun hR_1 => ?_)
  refine s_aload_n hC dX11_bend_4 rfl rfl 0 rfl ?_
  refine s_iload_n hC dX11_bend_5 rfl rfl 1 rfl ?_
  refine s_iload_n hC dX11_bend_6 rfl rfl 2 rfl ?_
  refine s_iload_n hC dX11_bend_7 rfl rfl 3 rfl ?_
  refine s_i2l hC dX11_bend_8 rfl rfl ?_
  refine s_ldc2 hC tw_1454 dX11_bend_9 rfl ?_
  refine s_ldc2 hC tw_1455 dX11_bend_12 rfl ?_
  refine s_callS hC (ct_X11_in l g _ _ _ _) ce_X11_in tw_1419 rfl rfl ⟨⟨le_b rfl, le_b rfl⟩, le_b rfl, le_b rfl⟩ (le_b rfl) dX11_bend_15 rfl (dvk1 ?_) nokx
  rw [inJ_inR r9 (-20) 20 (by first | rfl | decide) (by first | rfl | decide)]
  refine z_if_eqB hC (tgt := 40) dX11_bend_18 rfl (by decide) (fun c_1 => ?_) (fun c_1 => ?_)
  · refine s_iconst hC (v := 0) dX11_bend_40 rfl (by decide) ?_
    refine s_callV hC (ct_X11_noStretch l g _ _ _ _ hR_1 rfl f9 t9 false) ce_X11_noStretch cs_X11 (RepM.f_main hR_1) tw_1411 rfl rfl ⟨⟨le_b rfl, le_b rfl⟩, le_b rfl, le_b rfl⟩ (le_b rfl) dX11_bend_41 rfl (fun r w h9 => ?_) nokx
    rcases h9 with ⟨hc, rfl, rfl⟩ | ⟨hc, rfl, rfl⟩
    · have hb9 : (inR r9 (-20) 20 && inR u9 (-20) 20) = false := by simp [c_1]
      have hcd : (cd_bend σ f9 t9 r9 u9) = 0 := by rw [cd_bend_ns, hb9]; exact hc
      obtain ⟨x9, z9, rfl, rfl, hxz, hz⟩ := isStr_spec (nsC_0 hc)
      refine z_if_eq hC (tgt := 49) dX11_bend_44 rfl (by decide) (fun c_2 => ?_) (fun c_2 => ((absurd c_2 (by decide) : False)).elim)
      refine s_iload_n hC dX11_bend_49 rfl rfl 1 rfl ?_
      refine s_istore hC (L' := [(5, _), (0, _), (1, _), (2, _), (3, _), (4, _)]) dX11_bend_50 rfl (le_b rfl) rfl ?_
      refine WP.sub (L' := [(0, _), (1, _), (2, _), (3, _), (4, _), (5, _)]) [1, 2, 3, 4, 5, 0] rfl ?_
      refine wp_loop (σ := Int32 × Wd × Nat) (I := fun (i, W, j) => j ≤ z9 + 1 - x9 ∧ i = nI (x9 + j) ∧ W = wup (wup (wup ω (ad .main) (.inr (16, (mnL ad y σ).set 0 (.int 0)))) (ad .bR) (.inl (g.2.1 0, 200, .inl (fillN σ.bR x9 j r9)))) (ad .bU) (.inl (g.2.1 0, 200, .inl (fillN σ.bU x9 j u9)))) (ωf := fun (i, W, j) => W) (Lf := fun (i, W, j) => [(0, .ref (ad .main)), (1, .int (nI x9)), (2, .int (nI z9)), (3, .int r9), (4, .int u9), (5, .int i)]) (μ := fun (i, W, j) => z9 + 1 - x9 - j) (x0 := (_, _, 0)) ?_ ?_
      · exact ⟨Nat.zero_le _, rfl, by rw [fillN_0, fillN_0]; exact wup2 (RepM.f_bR hR_1) (RepM.f_bU hR_1)⟩
      · rintro ⟨i, W, j⟩ hI ih
        dsimp only at hI ih ⊢
        obtain ⟨hj, rfl, rfl⟩ := hI
        have hin9 : nI (x9 + j) ≤ nI z9 → j < z9 + 1 - x9 := fun h => by
          have h2 := (nI_leI (by omega) (by omega)).mp h
          omega
        have hW := RepM.w_bU (RepM.w_bR hR_1 (fillN σ.bR x9 j r9)) (fillN σ.bU x9 j u9)
        refine s_iload hC dX11_bend_52 rfl 5 rfl ?_
        refine s_iload_n hC dX11_bend_54 rfl rfl 2 rfl ?_
        refine z_icmp_gt hC (tgt := 81) dX11_bend_55 rfl (by decide) (fun c_3 => ?_) (fun c_3 => ?_)
        · refine s_iload_n hC dX11_bend_81 rfl rfl 2 rfl ?_
          refine s_iload_n hC dX11_bend_82 rfl rfl 1 rfl ?_
          refine s_isub hC dX11_bend_83 rfl ?_
          refine s_iconst hC (v := 1) dX11_bend_84 rfl (by decide) ?_
          refine s_iadd hC dX11_bend_85 rfl ?_
          refine s_iret hC hr dX11_bend_86 (le_b rfl) (le_b rfl) ?_
          obtain rfl : j = z9 + 1 - x9 := by
            have : ¬ x9 + j ≤ z9 := fun h => c_3 (nI_le h (by omega))
            omega
          exact okM_ok hcd rfl rfl hW (by rw [nx_bend, fwF, fwF, nI_clamp (by omega), nI_clamp (by omega)]) rfl rfl hgr
        · refine s_aload_n hC dX11_bend_58 rfl rfl 0 rfl ?_
          refine s_getf hC cs_X11 5 tw_1254 (le_b rfl) (RepM.f_main hW) rfl dX11_bend_59 rfl ?_
          refine s_iload hC dX11_bend_62 rfl 5 rfl ?_
          refine s_iload_n hC dX11_bend_64 rfl rfl 3 rfl ?_
          refine s_iast hC (RepM.f_bR hW) (vp_in_nI (by have := hin9 c_3; omega) (by decide)) dX11_bend_65 rfl ?_
          refine WP.rm (RepM.w_bR hW _) (fun hR_65 => ?_)
          refine s_aload_n hC dX11_bend_66 rfl rfl 0 rfl ?_
          refine s_getf hC cs_X11 6 tw_1255 (le_b rfl) (RepM.f_main hR_65) rfl dX11_bend_67 rfl ?_
          refine s_iload hC dX11_bend_70 rfl 5 rfl ?_
          refine s_iload hC dX11_bend_72 rfl 4 rfl ?_
          refine s_iast hC (RepM.f_bU hR_65) (vp_in_nI (by have := hin9 c_3; omega) (by decide)) dX11_bend_74 rfl ?_
          refine WP.rm (RepM.w_bU hR_65 _) (fun hR_74 => ?_)
          refine s_iinc hC (v := _ + 1) (j9 := 5) (L' := [(5, _), (0, _), (1, _), (2, _), (3, _), (4, _)]) dX11_bend_75 rfl rfl rfl (le_b rfl) rfl ?_
          refine s_goto hC (tgt := 52) dX11_bend_78 (by decide) ?_
          refine WP.sub (L' := [(0, _), (1, _), (2, _), (3, _), (4, _), (5, _)]) [1, 2, 3, 4, 5, 0] rfl ?_
          refine ih (_, (wup _ _ _), j + 1) ?_ ?_
          · dsimp only
            have h9 := hin9 c_3
            refine ⟨by omega, nI_1 (x9 + j), ?_⟩
            refine (wup4 (fun z => by cases hR_1.inj .bR .bU trivial trivial z) _ _ _ _).trans ?_
            rw [nI_clamp (by omega), ← fillN_up, ← fillN_up]
            rfl
          · dsimp only
            have h9 := hin9 c_3; omega
    · have hb9 : (inR r9 (-20) 20 && inR u9 (-20) 20) = false := by simp [c_1]
      have hcd : (cd_bend σ f9 t9 r9 u9) = nsC σ f9 t9 false := by rw [cd_bend_ns, hb9]
      refine WP.rm (RepM.s_main_0 hR_1 _) (fun hR_9 => ?_)
      refine z_if_eq hC (tgt := 49) dX11_bend_44 rfl (by decide) (fun c_4 => ((absurd c_4 (by decide) : False)).elim) (fun c_4 => ?_)
      refine s_iconst hC (v := (-1)) dX11_bend_47 rfl (by decide) ?_
      refine s_iret hC hr dX11_bend_48 (le_b rfl) (le_b rfl) ?_
      exact okM_no _ hcd hc rfl hR_9 rfl rfl hgr
  · refine s_iload hC dX11_bend_21 rfl 4 rfl ?_
    refine s_i2l hC dX11_bend_23 rfl rfl ?_
    refine s_ldc2 hC tw_1454 dX11_bend_24 rfl ?_
    refine s_ldc2 hC tw_1455 dX11_bend_27 rfl ?_
    refine s_callS hC (ct_X11_in l g _ _ _ _) ce_X11_in tw_1419 rfl rfl ⟨⟨le_b rfl, le_b rfl⟩, le_b rfl, le_b rfl⟩ (le_b rfl) dX11_bend_30 rfl (dvk1 ?_) nokx
    rw [inJ_inR u9 (-20) 20 (by first | rfl | decide) (by first | rfl | decide)]
    refine z_if_eqB hC (tgt := 40) dX11_bend_33 rfl (by decide) (fun c_5 => ?_) (fun c_5 => ?_)
    · refine s_iconst hC (v := 0) dX11_bend_40 rfl (by decide) ?_
      refine s_callV hC (ct_X11_noStretch l g _ _ _ _ hR_1 rfl f9 t9 false) ce_X11_noStretch cs_X11 (RepM.f_main hR_1) tw_1411 rfl rfl ⟨⟨le_b rfl, le_b rfl⟩, le_b rfl, le_b rfl⟩ (le_b rfl) dX11_bend_41 rfl (fun r w h9 => ?_) nokx
      rcases h9 with ⟨hc, rfl, rfl⟩ | ⟨hc, rfl, rfl⟩
      · have hb9 : (inR r9 (-20) 20 && inR u9 (-20) 20) = false := by simp [c_1, c_5]
        have hcd : (cd_bend σ f9 t9 r9 u9) = 0 := by rw [cd_bend_ns, hb9]; exact hc
        obtain ⟨x9, z9, rfl, rfl, hxz, hz⟩ := isStr_spec (nsC_0 hc)
        refine z_if_eq hC (tgt := 49) dX11_bend_44 rfl (by decide) (fun c_6 => ?_) (fun c_6 => ((absurd c_6 (by decide) : False)).elim)
        refine s_iload_n hC dX11_bend_49 rfl rfl 1 rfl ?_
        refine s_istore hC (L' := [(5, _), (0, _), (1, _), (2, _), (3, _), (4, _)]) dX11_bend_50 rfl (le_b rfl) rfl ?_
        refine WP.sub (L' := [(0, _), (1, _), (2, _), (3, _), (4, _), (5, _)]) [1, 2, 3, 4, 5, 0] rfl ?_
        refine wp_loop (σ := Int32 × Wd × Nat) (I := fun (i, W, j) => j ≤ z9 + 1 - x9 ∧ i = nI (x9 + j) ∧ W = wup (wup (wup ω (ad .main) (.inr (16, (mnL ad y σ).set 0 (.int 0)))) (ad .bR) (.inl (g.2.1 0, 200, .inl (fillN σ.bR x9 j r9)))) (ad .bU) (.inl (g.2.1 0, 200, .inl (fillN σ.bU x9 j u9)))) (ωf := fun (i, W, j) => W) (Lf := fun (i, W, j) => [(0, .ref (ad .main)), (1, .int (nI x9)), (2, .int (nI z9)), (3, .int r9), (4, .int u9), (5, .int i)]) (μ := fun (i, W, j) => z9 + 1 - x9 - j) (x0 := (_, _, 0)) ?_ ?_
        · exact ⟨Nat.zero_le _, rfl, by rw [fillN_0, fillN_0]; exact wup2 (RepM.f_bR hR_1) (RepM.f_bU hR_1)⟩
        · rintro ⟨i, W, j⟩ hI ih
          dsimp only at hI ih ⊢
          obtain ⟨hj, rfl, rfl⟩ := hI
          have hin9 : nI (x9 + j) ≤ nI z9 → j < z9 + 1 - x9 := fun h => by
            have h2 := (nI_leI (by omega) (by omega)).mp h
            omega
          have hW := RepM.w_bU (RepM.w_bR hR_1 (fillN σ.bR x9 j r9)) (fillN σ.bU x9 j u9)
          refine s_iload hC dX11_bend_52 rfl 5 rfl ?_
          refine s_iload_n hC dX11_bend_54 rfl rfl 2 rfl ?_
          refine z_icmp_gt hC (tgt := 81) dX11_bend_55 rfl (by decide) (fun c_7 => ?_) (fun c_7 => ?_)
          · refine s_iload_n hC dX11_bend_81 rfl rfl 2 rfl ?_
            refine s_iload_n hC dX11_bend_82 rfl rfl 1 rfl ?_
            refine s_isub hC dX11_bend_83 rfl ?_
            refine s_iconst hC (v := 1) dX11_bend_84 rfl (by decide) ?_
            refine s_iadd hC dX11_bend_85 rfl ?_
            refine s_iret hC hr dX11_bend_86 (le_b rfl) (le_b rfl) ?_
            obtain rfl : j = z9 + 1 - x9 := by
              have : ¬ x9 + j ≤ z9 := fun h => c_7 (nI_le h (by omega))
              omega
            exact okM_ok hcd rfl rfl hW (by rw [nx_bend, fwF, fwF, nI_clamp (by omega), nI_clamp (by omega)]) rfl rfl hgr
          · refine s_aload_n hC dX11_bend_58 rfl rfl 0 rfl ?_
            refine s_getf hC cs_X11 5 tw_1254 (le_b rfl) (RepM.f_main hW) rfl dX11_bend_59 rfl ?_
            refine s_iload hC dX11_bend_62 rfl 5 rfl ?_
            refine s_iload_n hC dX11_bend_64 rfl rfl 3 rfl ?_
            refine s_iast hC (RepM.f_bR hW) (vp_in_nI (by have := hin9 c_7; omega) (by decide)) dX11_bend_65 rfl ?_
            refine WP.rm (RepM.w_bR hW _) (fun hR_65 => ?_)
            refine s_aload_n hC dX11_bend_66 rfl rfl 0 rfl ?_
            refine s_getf hC cs_X11 6 tw_1255 (le_b rfl) (RepM.f_main hR_65) rfl dX11_bend_67 rfl ?_
            refine s_iload hC dX11_bend_70 rfl 5 rfl ?_
            refine s_iload hC dX11_bend_72 rfl 4 rfl ?_
            refine s_iast hC (RepM.f_bU hR_65) (vp_in_nI (by have := hin9 c_7; omega) (by decide)) dX11_bend_74 rfl ?_
            refine WP.rm (RepM.w_bU hR_65 _) (fun hR_74 => ?_)
            refine s_iinc hC (v := _ + 1) (j9 := 5) (L' := [(5, _), (0, _), (1, _), (2, _), (3, _), (4, _)]) dX11_bend_75 rfl rfl rfl (le_b rfl) rfl ?_
            refine s_goto hC (tgt := 52) dX11_bend_78 (by decide) ?_
            refine WP.sub (L' := [(0, _), (1, _), (2, _), (3, _), (4, _), (5, _)]) [1, 2, 3, 4, 5, 0] rfl ?_
            refine ih (_, (wup _ _ _), j + 1) ?_ ?_
            · dsimp only
              have h9 := hin9 c_7
              refine ⟨by omega, nI_1 (x9 + j), ?_⟩
              refine (wup4 (fun z => by cases hR_1.inj .bR .bU trivial trivial z) _ _ _ _).trans ?_
              rw [nI_clamp (by omega), ← fillN_up, ← fillN_up]
              rfl
            · dsimp only
              have h9 := hin9 c_7; omega
      · have hb9 : (inR r9 (-20) 20 && inR u9 (-20) 20) = false := by simp [c_1, c_5]
        have hcd : (cd_bend σ f9 t9 r9 u9) = nsC σ f9 t9 false := by rw [cd_bend_ns, hb9]
        refine WP.rm (RepM.s_main_0 hR_1 _) (fun hR_9 => ?_)
        refine z_if_eq hC (tgt := 49) dX11_bend_44 rfl (by decide) (fun c_8 => ((absurd c_8 (by decide) : False)).elim) (fun c_8 => ?_)
        refine s_iconst hC (v := (-1)) dX11_bend_47 rfl (by decide) ?_
        refine s_iret hC hr dX11_bend_48 (le_b rfl) (le_b rfl) ?_
        exact okM_no _ hcd hc rfl hR_9 rfl rfl hgr
    · refine s_iconst hC (v := 1) dX11_bend_36 rfl (by decide) ?_
      refine s_goto hC (tgt := 41) dX11_bend_37 (by decide) ?_
      refine s_callV hC (ct_X11_noStretch l g _ _ _ _ hR_1 rfl f9 t9 true) ce_X11_noStretch cs_X11 (RepM.f_main hR_1) tw_1411 rfl rfl ⟨⟨le_b rfl, le_b rfl⟩, le_b rfl, le_b rfl⟩ (le_b rfl) dX11_bend_41 rfl (fun r w h9 => ?_) nokx
      rcases h9 with ⟨hc, rfl, rfl⟩ | ⟨hc, rfl, rfl⟩
      · have hb9 : (inR r9 (-20) 20 && inR u9 (-20) 20) = true := by simp [c_1, c_5]
        have hcd : (cd_bend σ f9 t9 r9 u9) = 0 := by rw [cd_bend_ns, hb9]; exact hc
        obtain ⟨x9, z9, rfl, rfl, hxz, hz⟩ := isStr_spec (nsC_0 hc)
        refine z_if_eq hC (tgt := 49) dX11_bend_44 rfl (by decide) (fun c_9 => ?_) (fun c_9 => ((absurd c_9 (by decide) : False)).elim)
        refine s_iload_n hC dX11_bend_49 rfl rfl 1 rfl ?_
        refine s_istore hC (L' := [(5, _), (0, _), (1, _), (2, _), (3, _), (4, _)]) dX11_bend_50 rfl (le_b rfl) rfl ?_
        refine WP.sub (L' := [(0, _), (1, _), (2, _), (3, _), (4, _), (5, _)]) [1, 2, 3, 4, 5, 0] rfl ?_
        refine wp_loop (σ := Int32 × Wd × Nat) (I := fun (i, W, j) => j ≤ z9 + 1 - x9 ∧ i = nI (x9 + j) ∧ W = wup (wup (wup ω (ad .main) (.inr (16, (mnL ad y σ).set 0 (.int 0)))) (ad .bR) (.inl (g.2.1 0, 200, .inl (fillN σ.bR x9 j r9)))) (ad .bU) (.inl (g.2.1 0, 200, .inl (fillN σ.bU x9 j u9)))) (ωf := fun (i, W, j) => W) (Lf := fun (i, W, j) => [(0, .ref (ad .main)), (1, .int (nI x9)), (2, .int (nI z9)), (3, .int r9), (4, .int u9), (5, .int i)]) (μ := fun (i, W, j) => z9 + 1 - x9 - j) (x0 := (_, _, 0)) ?_ ?_
        · exact ⟨Nat.zero_le _, rfl, by rw [fillN_0, fillN_0]; exact wup2 (RepM.f_bR hR_1) (RepM.f_bU hR_1)⟩
        · rintro ⟨i, W, j⟩ hI ih
          dsimp only at hI ih ⊢
          obtain ⟨hj, rfl, rfl⟩ := hI
          have hin9 : nI (x9 + j) ≤ nI z9 → j < z9 + 1 - x9 := fun h => by
            have h2 := (nI_leI (by omega) (by omega)).mp h
            omega
          have hW := RepM.w_bU (RepM.w_bR hR_1 (fillN σ.bR x9 j r9)) (fillN σ.bU x9 j u9)
          refine s_iload hC dX11_bend_52 rfl 5 rfl ?_
          refine s_iload_n hC dX11_bend_54 rfl rfl 2 rfl ?_
          refine z_icmp_gt hC (tgt := 81) dX11_bend_55 rfl (by decide) (fun c_10 => ?_) (fun c_10 => ?_)
          · refine s_iload_n hC dX11_bend_81 rfl rfl 2 rfl ?_
            refine s_iload_n hC dX11_bend_82 rfl rfl 1 rfl ?_
            refine s_isub hC dX11_bend_83 rfl ?_
            refine s_iconst hC (v := 1) dX11_bend_84 rfl (by decide) ?_
            refine s_iadd hC dX11_bend_85 rfl ?_
            refine s_iret hC hr dX11_bend_86 (le_b rfl) (le_b rfl) ?_
            obtain rfl : j = z9 + 1 - x9 := by
              have : ¬ x9 + j ≤ z9 := fun h => c_10 (nI_le h (by omega))
              omega
            exact okM_ok hcd rfl rfl hW (by rw [nx_bend, fwF, fwF, nI_clamp (by omega), nI_clamp (by omega)]) rfl rfl hgr
          · refine s_aload_n hC dX11_bend_58 rfl rfl 0 rfl ?_
            refine s_getf hC cs_X11 5 tw_1254 (le_b rfl) (RepM.f_main hW) rfl dX11_bend_59 rfl ?_
            refine s_iload hC dX11_bend_62 rfl 5 rfl ?_
            refine s_iload_n hC dX11_bend_64 rfl rfl 3 rfl ?_
            refine s_iast hC (RepM.f_bR hW) (vp_in_nI (by have := hin9 c_10; omega) (by decide)) dX11_bend_65 rfl ?_
            refine WP.rm (RepM.w_bR hW _) (fun hR_65 => ?_)
            refine s_aload_n hC dX11_bend_66 rfl rfl 0 rfl ?_
            refine s_getf hC cs_X11 6 tw_1255 (le_b rfl) (RepM.f_main hR_65) rfl dX11_bend_67 rfl ?_
            refine s_iload hC dX11_bend_70 rfl 5 rfl ?_
            refine s_iload hC dX11_bend_72 rfl 4 rfl ?_
            refine s_iast hC (RepM.f_bU hR_65) (vp_in_nI (by have := hin9 c_10; omega) (by decide)) dX11_bend_74 rfl ?_
            refine WP.rm (RepM.w_bU hR_65 _) (fun hR_74 => ?_)
            refine s_iinc hC (v := _ + 1) (j9 := 5) (L' := [(5, _), (0, _), (1, _), (2, _), (3, _), (4, _)]) dX11_bend_75 rfl rfl rfl (le_b rfl) rfl ?_
            refine s_goto hC (tgt := 52) dX11_bend_78 (by decide) ?_
            refine WP.sub (L' := [(0, _), (1, _), (2, _), (3, _), (4, _), (5, _)]) [1, 2, 3, 4, 5, 0] rfl ?_
            refine ih (_, (wup _ _ _), j + 1) ?_ ?_
            · dsimp only
              have h9 := hin9 c_10
              refine ⟨by omega, nI_1 (x9 + j), ?_⟩
              refine (wup4 (fun z => by cases hR_1.inj .bR .bU trivial trivial z) _ _ _ _).trans ?_
              rw [nI_clamp (by omega), ← fillN_up, ← fillN_up]
              rfl
            · dsimp only
              have h9 := hin9 c_10; omega
      · have hb9 : (inR r9 (-20) 20 && inR u9 (-20) 20) = true := by simp [c_1, c_5]
        have hcd : (cd_bend σ f9 t9 r9 u9) = nsC σ f9 t9 true := by rw [cd_bend_ns, hb9]
        refine WP.rm (RepM.s_main_0 hR_1 _) (fun hR_9 => ?_)
        refine z_if_eq hC (tgt := 49) dX11_bend_44 rfl (by decide) (fun c_11 => ((absurd c_11 (by decide) : False)).elim) (fun c_11 => ?_)
        refine s_iconst hC (v := (-1)) dX11_bend_47 rfl (by decide) ?_
        refine s_iret hC hr dX11_bend_48 (le_b rfl) (le_b rfl) ?_
        exact okM_no _ hcd hc rfl hR_9 rfl rfl hgr
