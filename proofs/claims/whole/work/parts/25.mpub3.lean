def rIn (σ : St) : Prop := ∀ i, i < 200 → ∃ q, q < 4 ∧ σ.refs i = nI q
set_option maxHeartbeats 1000000 in
set_option maxRecDepth 100000 in
theorem ct_X11_muckOf (l : Launch) (g : Gl) (ω : Wd) (ad : Iy → Nat) (y : Ey) (σ : St) (hR : RepM g ad y σ ω) (hk : kIn σ) (j : Nat) (hj : j < 200) : CT l g yX11_muckOf cX11_muckOf 2 (some .int) 0 0 0 0 [.ref (ad .main), .int (nI j)] ω (dv (some (.int (muckF (σ.kinds j) (bI σ.foam)))) ω) (nox) := by
  obtain ⟨q, hq, hk9⟩ := hk j hj
  refine CT.of (own := "BoringheadModel") rfl rfl (le_b rfl) rfl ?_
  intro p e s m args below meth c sz0 hC hr htab hin
  refine s_bipush hC (v := 50) dX11_muckOf_0 rfl (by decide) ?_
  refine s_gets hC 14 rfl tw_1618 dX11_muckOf_2 rfl ?_
  refine s_aload_n hC dX11_muckOf_5 rfl rfl 0 rfl ?_
  refine s_getf hC cs_X11 1 tw_1250 (le_b rfl) (RepM.f_main hR) rfl dX11_muckOf_6 rfl ?_
  refine s_iload_n hC dX11_muckOf_9 rfl rfl 1 rfl ?_
  refine s_ialdK hC (Or.inl (RepM.f_kinds hR)) (vp_in_nI hj (by decide)) dX11_muckOf_10 rfl ?_
  rw [nI_clamp (show j < 2 ^ 31 by omega), hk9]
  refine s_ialdK hC (Or.inr ⟨14, _, _, _, _, rfl, rfl, rfl, rfl⟩) (vp_in_nI hq (by decide)) dX11_muckOf_11 rfl ?_
  refine s_aload_n hC dX11_muckOf_12 rfl rfl 0 rfl ?_
  refine s_getf hC cs_X11 12 tw_1261 (le_b rfl) (RepM.f_main hR) rfl dX11_muckOf_13 rfl ?_
  refine z_if_eqB hC (tgt := 24) dX11_muckOf_16 rfl (by decide) (fun c_1 => ?_) (fun c_1 => ?_)
  · refine s_iconst hC (v := 0) dX11_muckOf_24 rfl (by decide) ?_
    refine s_iadd hC dX11_muckOf_25 rfl ?_
    refine s_imul hC dX11_muckOf_26 rfl ?_
    refine s_bipush hC (v := 100) dX11_muckOf_27 rfl (by decide) ?_
    refine s_idiv hC dX11_muckOf_29 rfl (by decide) ?_
    refine s_iret hC hr dX11_muckOf_30 (le_b rfl) (le_b rfl) ?_
    refine ⟨?_, rfl⟩
    rw [muckF, atF_in (show 4 < 2 ^ 31 by decide) hq, nI_clamp (show q < 2 ^ 31 by omega), c_1]
    rfl
  · refine s_bipush hC (v := 10) dX11_muckOf_19 rfl (by decide) ?_
    refine s_goto hC (tgt := 25) dX11_muckOf_21 (by decide) ?_
    refine s_iadd hC dX11_muckOf_25 rfl ?_
    refine s_imul hC dX11_muckOf_26 rfl ?_
    refine s_bipush hC (v := 100) dX11_muckOf_27 rfl (by decide) ?_
    refine s_idiv hC dX11_muckOf_29 rfl (by decide) ?_
    refine s_iret hC hr dX11_muckOf_30 (le_b rfl) (le_b rfl) ?_
    refine ⟨?_, rfl⟩
    rw [muckF, atF_in (show 4 < 2 ^ 31 by decide) hq, nI_clamp (show q < 2 ^ 31 by omega), c_1]
    rfl
set_option maxHeartbeats 1000000 in
set_option maxRecDepth 100000 in
theorem ct_X11_event (l : Launch) (g : Gl) (ω : Wd) (ad : Iy → Nat) (y : Ey) (σ : St) (hR : RepM g ad y σ ω) (hk : kIn σ) (hr9 : rIn σ) (j : Nat) (hj : j < 200) : CT l g yX11_event cX11_event 2 (some .int) 1 21 0 0 [.ref (ad .main), .int (nI j)] ω (dv (some (.int (evF σ (nI j)))) ω) (nox) := by
  obtain ⟨q, hq, hk9⟩ := hk j hj
  obtain ⟨q2, hq2, hk8⟩ := hr9 j hj
  refine CT.of (own := "BoringheadModel") rfl rfl (le_b rfl) rfl ?_
  intro p e s m args below meth c sz0 hC hr htab hin
  refine s_iconst hC (v := 0) dX11_event_0 rfl (by decide) ?_
  refine s_gets hC 15 rfl tw_1624 dX11_event_1 rfl ?_
  refine s_aload_n hC dX11_event_4 rfl rfl 0 rfl ?_
  refine s_getf hC cs_X11 1 tw_1250 (le_b rfl) (RepM.f_main hR) rfl dX11_event_5 rfl ?_
  refine s_iload_n hC dX11_event_8 rfl rfl 1 rfl ?_
  refine s_ialdK hC (Or.inl (RepM.f_kinds hR)) (vp_in_nI hj (by decide)) dX11_event_9 rfl ?_
  rw [nI_clamp (show j < 2 ^ 31 by omega), hk9]
  refine s_ialdK hC (Or.inr ⟨15, _, _, _, _, rfl, rfl, rfl, rfl⟩) (vp_in_nI hq (by decide)) dX11_event_10 rfl ?_
  refine s_gets hC 15 rfl tw_1624 dX11_event_11 rfl ?_
  refine s_aload_n hC dX11_event_14 rfl rfl 0 rfl ?_
  refine s_getf hC cs_X11 2 tw_1251 (le_b rfl) (RepM.f_main hR) rfl dX11_event_15 rfl ?_
  refine s_iload_n hC dX11_event_18 rfl rfl 1 rfl ?_
  refine s_ialdK hC (Or.inl (RepM.f_refs hR)) (vp_in_nI hj (by decide)) dX11_event_19 rfl ?_
  rw [nI_clamp (show j < 2 ^ 31 by omega), hk8]
  refine s_ialdK hC (Or.inr ⟨15, _, _, _, _, rfl, rfl, rfl, rfl⟩) (vp_in_nI hq2 (by decide)) dX11_event_20 rfl ?_
  refine s_isub hC dX11_event_21 rfl ?_
  refine s_max hC tw_1546 ⟨le_b rfl, le_b rfl, le_b rfl, le_b rfl⟩ dX11_event_22 rfl ?_
  refine s_iret hC hr dX11_event_25 (le_b rfl) (le_b rfl) ?_
  refine ⟨?_, rfl⟩
  simp only [evF, atF_in (show 200 < 2 ^ 31 by decide) hj, hk9, hk8, atF_in (show 4 < 2 ^ 31 by decide) hq, atF_in (show 4 < 2 ^ 31 by decide) hq2, nI_clamp (show q < 2 ^ 31 by omega), nI_clamp (show q2 < 2 ^ 31 by omega)]
  rw [iMax_c]
set_option maxHeartbeats 1000000 in
set_option maxRecDepth 100000 in
theorem ct_X11_steer (l : Launch) (g : Gl) (ω : Wd) (ad : Iy → Nat) (y : Ey) (σ : St) (hR : RepM g ad y σ ω) (r9 : Int32) (u9 : Int32) (hgr : grOK σ y) : CT l g yX11_steer cX11_steer 4 (some .int) 1 25 0 0 [.ref (ad .main), .int r9, .int u9] ω (okM g ad (cd_steer σ r9 u9) Value.int (vl_steer σ r9 u9) (nx_steer σ r9 u9) σ) (nox) := by
  refine CT.of (own := "BoringheadModel") rfl rfl (le_b rfl) rfl ?_
  intro p e s m args below meth c sz0 hC hr htab hin
  refine s_aload_n hC dX11_steer_0 rfl rfl 0 rfl ?_
  refine s_callV hC (ct_X11_begins l g _ _ _ _ hR) ce_X11_begins cs_X11 (RepM.f_main hR) tw_1324 rfl rfl ⟨⟨le_b rfl, le_b rfl⟩, le_b rfl, le_b rfl⟩ (le_b rfl) dX11_steer_1 rfl (dvk0 ?_) nokx
  refine WP.rm (RepM.s_main_0 hR 0) (fun hR_1 => ?_)
  refine s_aload_n hC dX11_steer_4 rfl rfl 0 rfl ?_
  refine s_iload_n hC dX11_steer_5 rfl rfl 1 rfl ?_
  refine s_i2l hC dX11_steer_6 rfl rfl ?_
  refine s_ldc2 hC tw_1593 dX11_steer_7 rfl ?_
  refine s_ldc2 hC tw_1594 dX11_steer_10 rfl ?_
  refine s_callS hC (ct_X11_in l g _ _ _ _) ce_X11_in tw_1419 rfl rfl ⟨⟨le_b rfl, le_b rfl⟩, le_b rfl, le_b rfl⟩ (le_b rfl) dX11_steer_13 rfl (dvk1 ?_) nokx
  rw [inJ_inR r9 (-5) 5 (by first | rfl | decide) (by first | rfl | decide)]
  refine z_if_eqB hC (tgt := 33) dX11_steer_16 rfl (by decide) (fun c_1 => ?_) (fun c_1 => ?_)
  · refine s_iconst hC (v := 1) dX11_steer_33 rfl (by decide) ?_
    refine s_goto hC (tgt := 38) dX11_steer_34 (by decide) ?_
    refine s_iconst hC (v := 1) dX11_steer_38 rfl (by decide) ?_
    refine s_callV hC (ct_X11_fails_t l g _ _ _ _ hR_1 (by first | rfl | exact hth) _ (by decide)) ce_X11_fails cs_X11 (RepM.f_main hR_1) tw_1422 rfl rfl ⟨⟨le_b rfl, le_b rfl⟩, le_b rfl, le_b rfl⟩ (le_b rfl) dX11_steer_39 rfl (dvk1 ?_) nokx
    refine WP.rm (RepM.s_main_0 hR_1 _) (fun hR_39 => ?_)
    refine z_if_eq hC (tgt := 47) dX11_steer_42 rfl (by decide) (fun c_2 => ((absurd c_2 (by decide) : False)).elim) (fun c_2 => ?_)
    refine s_iconst hC (v := (-1)) dX11_steer_45 rfl (by decide) ?_
    refine s_iret hC hr dX11_steer_46 (le_b rfl) (le_b rfl) ?_
    first
      | exact okM_ok (by simp [cd_steer, c_1, c_2]) rfl (by first | (simp [vl_steer, c_1, c_2]; done) | rfl) hR_39 rfl rfl rfl hgr
      | exact okM_no 1 (by simp [cd_steer, c_1, c_2]) (by decide) (by rfl) hR_39 rfl rfl hgr
  · refine s_iload_n hC dX11_steer_19 rfl rfl 2 rfl ?_
    refine s_i2l hC dX11_steer_20 rfl rfl ?_
    refine s_ldc2 hC tw_1593 dX11_steer_21 rfl ?_
    refine s_ldc2 hC tw_1594 dX11_steer_24 rfl ?_
    refine s_callS hC (ct_X11_in l g _ _ _ _) ce_X11_in tw_1419 rfl rfl ⟨⟨le_b rfl, le_b rfl⟩, le_b rfl, le_b rfl⟩ (le_b rfl) dX11_steer_27 rfl (dvk1 ?_) nokx
    rw [inJ_inR u9 (-5) 5 (by first | rfl | decide) (by first | rfl | decide)]
    refine z_if_neB hC (tgt := 37) dX11_steer_30 rfl (by decide) (fun c_3 => ?_) (fun c_3 => ?_)
    · refine s_iconst hC (v := 0) dX11_steer_37 rfl (by decide) ?_
      refine s_iconst hC (v := 1) dX11_steer_38 rfl (by decide) ?_
      refine s_callV hC (ct_X11_fails_f l g _ _ _ _ hR_1 (by first | rfl | exact hth) _) ce_X11_fails cs_X11 (RepM.f_main hR_1) tw_1422 rfl rfl ⟨⟨le_b rfl, le_b rfl⟩, le_b rfl, le_b rfl⟩ (le_b rfl) dX11_steer_39 rfl (dvk1 ?_) nokx
      refine z_if_eq hC (tgt := 47) dX11_steer_42 rfl (by decide) (fun c_4 => ?_) (fun c_4 => ((absurd c_4 (by decide) : False)).elim)
      refine s_bipush hC (v := 10) dX11_steer_47 rfl (by decide) ?_
      refine s_aload_n hC dX11_steer_49 rfl rfl 0 rfl ?_
      refine s_getf hC cs_X11 13 tw_1262 (le_b rfl) (RepM.f_main hR_1) rfl dX11_steer_50 rfl ?_
      refine s_imul hC dX11_steer_53 rfl ?_
      refine s_aload_n hC dX11_steer_54 rfl rfl 0 rfl ?_
      refine s_getf hC cs_X11 14 tw_1263 (le_b rfl) (RepM.f_main hR_1) rfl dX11_steer_55 rfl ?_
      refine s_iadd hC dX11_steer_58 rfl ?_
      refine s_istore_n hC (L' := [(3, _), (0, _), (1, _), (2, _)]) dX11_steer_59 rfl rfl (le_b rfl) rfl ?_
      refine s_aload_n hC dX11_steer_60 rfl rfl 1 rfl ?_
      refine s_iload_n hC dX11_steer_61 rfl rfl 2 rfl ?_
      refine s_putf hC cs_X11 13 tw_1262 (le_b rfl) rfl rfl rfl (RepM.f_main hR_1) (le_b rfl) dX11_steer_62 rfl ?_
      refine WP.rm (RepM.s_main_13 hR_1 _) (fun hR_62 => ?_)
      refine s_aload_n hC dX11_steer_65 rfl rfl 1 rfl ?_
      refine s_iload_n hC dX11_steer_66 rfl rfl 3 rfl ?_
      refine s_putf hC cs_X11 14 tw_1263 (le_b rfl) rfl rfl rfl (RepM.f_main hR_62) (le_b rfl) dX11_steer_67 rfl ?_
      refine WP.rm (RepM.s_main_14 hR_62 _) (fun hR_67 => ?_)
      refine s_iload_n hC dX11_steer_70 rfl rfl 0 rfl ?_
      refine s_iret hC hr dX11_steer_71 (le_b rfl) (le_b rfl) ?_
      first
        | exact okM_ok (by simp [cd_steer, c_1, c_3, c_4]) rfl (by first | (simp [vl_steer, c_1, c_3, c_4]; done) | rfl) hR_67 rfl rfl rfl hgr
        | exact okM_no 1 (by simp [cd_steer, c_1, c_3, c_4]) (by decide) (by rfl) hR_67 rfl rfl hgr
    · refine s_iconst hC (v := 1) dX11_steer_33 rfl (by decide) ?_
      refine s_goto hC (tgt := 38) dX11_steer_34 (by decide) ?_
      refine s_iconst hC (v := 1) dX11_steer_38 rfl (by decide) ?_
      refine s_callV hC (ct_X11_fails_t l g _ _ _ _ hR_1 (by first | rfl | exact hth) _ (by decide)) ce_X11_fails cs_X11 (RepM.f_main hR_1) tw_1422 rfl rfl ⟨⟨le_b rfl, le_b rfl⟩, le_b rfl, le_b rfl⟩ (le_b rfl) dX11_steer_39 rfl (dvk1 ?_) nokx
      refine WP.rm (RepM.s_main_0 hR_1 _) (fun hR_39 => ?_)
      refine z_if_eq hC (tgt := 47) dX11_steer_42 rfl (by decide) (fun c_5 => ((absurd c_5 (by decide) : False)).elim) (fun c_5 => ?_)
      refine s_iconst hC (v := (-1)) dX11_steer_45 rfl (by decide) ?_
      refine s_iret hC hr dX11_steer_46 (le_b rfl) (le_b rfl) ?_
      first
        | exact okM_ok (by simp [cd_steer, c_1, c_3, c_5]) rfl (by first | (simp [vl_steer, c_1, c_3, c_5]; done) | rfl) hR_39 rfl rfl rfl hgr
        | exact okM_no 1 (by simp [cd_steer, c_1, c_3, c_5]) (by decide) (by rfl) hR_39 rfl rfl hgr
set_option maxHeartbeats 1000000 in
set_option maxRecDepth 100000 in
theorem ct_X11_events (l : Launch) (g : Gl) (ω : Wd) (ad : Iy → Nat) (y : Ey) (σ : St) (hR : RepM g ad y σ ω) (hgr : grOK σ y) (hk : kIn σ) (hr9 : rIn σ) (hn : nOK σ) (hs : snd3 σ) : CT l g yX11_events cX11_events 3 (some .int) 2 42 0 0 [.ref (ad .main)] ω (okM g ad 0 Value.int (vl_events σ) σ σ) (nox) := by
  have hn120 : σ.n ≤ 120 := hn
  refine CT.of (own := "BoringheadModel") rfl rfl (le_b rfl) rfl ?_
  intro p e s m args below meth c sz0 hC hr htab hin
  refine s_aload_n hC dX11_events_0 rfl rfl 0 rfl ?_
  refine s_callV hC (ct_X11_begins l g _ _ _ _ hR) ce_X11_begins cs_X11 (RepM.f_main hR) tw_1324 rfl rfl ⟨⟨le_b rfl, le_b rfl⟩, le_b rfl, le_b rfl⟩ (le_b rfl) dX11_events_1 rfl (dvk0 ?_) nokx
  refine WP.rm (RepM.s_main_0 hR 0) (fun hR_1 => ?_)
  refine s_iconst hC (v := 0) dX11_events_4 rfl (by decide) ?_
  refine s_istore_n hC (L' := [(1, _), (0, _)]) dX11_events_5 rfl rfl (le_b rfl) rfl ?_
  refine s_iconst hC (v := 0) dX11_events_6 rfl (by decide) ?_
  refine s_istore_n hC (L' := [(2, _), (1, _), (0, _)]) dX11_events_7 rfl rfl (le_b rfl) rfl ?_
  refine WP.sub (L' := [(0, _), (1, _), (2, _)]) [2, 1, 0] rfl ?_
  refine wp_loop (σ := Int32 × Int32 × Nat) (I := fun (i, sm, j) => i = nI j ∧ j ≤ σ.n ∧ sm = enF σ j) (ωf := fun (i, sm, j) => wup ω (ad .main) (.inr (16, (mnL ad y σ).set 0 (.int 0)))) (Lf := fun (i, sm, j) => [(0, .ref (ad .main)), (1, .int sm), (2, .int i)]) (μ := fun (i, sm, j) => σ.n - j) (x0 := (_, _, 0)) ?_ ?_
  · exact ⟨rfl, Nat.zero_le _, rfl⟩
  · rintro ⟨i, sm, j⟩ hI ih
    dsimp only at hI ih ⊢
    obtain ⟨rfl, hj, rfl⟩ := hI
    have hin9 : ¬ nI (σ.n) ≤ nI j → j < σ.n := nI_ltc (Nat.lt_of_le_of_lt (RepM.b_ring hR) (by decide)) hj
    refine s_iload_n hC dX11_events_8 rfl rfl 2 rfl ?_
    refine s_aload_n hC dX11_events_9 rfl rfl 0 rfl ?_
    refine s_getf hC cs_X11 8 tw_1257 (le_b rfl) (RepM.f_main hR_1) rfl dX11_events_10 rfl ?_
    refine s_callF hC (nA := 0) 0 (ct_Jx4a65c_size_8abf5 l g _ _ _ _ _ (RepM.f_rings hR_1)) rfl tw_276 tw_5 tw_274 tw_1431 (by decide +kernel) cs_Jx4a65c (RepM.f_rings hR_1) tw_1427 rfl rfl ⟨⟨le_b rfl, le_b rfl⟩, le_b rfl, le_b rfl⟩ (le_b rfl) dX11_events_13 rfl (dvk1 ?_) nokx
    refine z_icmp_ge hC (tgt := 43) dX11_events_18 rfl (by decide) (fun c_1 => ?_) (fun c_1 => ?_)
    · refine s_iload_n hC dX11_events_43 rfl rfl 1 rfl ?_
      refine s_iret hC hr dX11_events_44 (le_b rfl) (le_b rfl) ?_
      obtain rfl := nI_lec (Nat.lt_of_le_of_lt (RepM.b_ring hR) (by decide)) hj c_1
      exact okM_ok rfl rfl rfl hR_1 rfl rfl rfl hgr
    · refine s_iload_n hC dX11_events_21 rfl rfl 1 rfl ?_
      refine s_aload_n hC dX11_events_22 rfl rfl 0 rfl ?_
      refine s_iload_n hC dX11_events_23 rfl rfl 2 rfl ?_
      refine s_callV hC (ct_X11_event l g _ _ _ _ hR_1 hk hr9 _ (by have := hin9 c_1; omega)) ce_X11_event cs_X11 (RepM.f_main hR_1) tw_2045 rfl rfl ⟨⟨le_b rfl, le_b rfl⟩, le_b rfl, le_b rfl⟩ (le_b rfl) dX11_events_24 rfl (dvk1 ?_) nokx
      refine z_if_le hC (tgt := 34) dX11_events_27 rfl (by decide) (fun c_2 => ?_) (fun c_2 => ?_)
      · refine s_iconst hC (v := 0) dX11_events_34 rfl (by decide) ?_
        refine s_iadd hC dX11_events_35 rfl ?_
        refine s_istore_n hC (L' := [(1, _), (0, _), (2, _)]) dX11_events_36 rfl rfl (le_b rfl) rfl ?_
        refine s_iinc hC (v := _ + 1) (j9 := 2) (L' := [(2, _), (1, _), (0, _)]) dX11_events_37 rfl rfl rfl (le_b rfl) rfl ?_
        refine s_goto hC (tgt := 8) dX11_events_40 (by decide) ?_
        refine WP.sub (L' := [(0, _), (1, _), (2, _)]) [2, 1, 0] rfl ?_
        refine ih (_, _, j + 1) ?_ ?_
        · dsimp only
          have h9 := hin9 c_1
          refine ⟨nI_1 j, h9, ?_⟩
          have hz := hs j h9
          simp [enF, evtF, hz, c_1, c_2]
        · dsimp only
          have h9 := hin9 c_1; omega
      · refine s_iconst hC (v := 1) dX11_events_30 rfl (by decide) ?_
        refine s_goto hC (tgt := 35) dX11_events_31 (by decide) ?_
        refine s_iadd hC dX11_events_35 rfl ?_
        refine s_istore_n hC (L' := [(1, _), (0, _), (2, _)]) dX11_events_36 rfl rfl (le_b rfl) rfl ?_
        refine s_iinc hC (v := _ + 1) (j9 := 2) (L' := [(2, _), (1, _), (0, _)]) dX11_events_37 rfl rfl rfl (le_b rfl) rfl ?_
        refine s_goto hC (tgt := 8) dX11_events_40 (by decide) ?_
        refine WP.sub (L' := [(0, _), (1, _), (2, _)]) [2, 1, 0] rfl ?_
        refine ih (_, _, j + 1) ?_ ?_
        · dsimp only
          have h9 := hin9 c_1
          refine ⟨nI_1 j, h9, ?_⟩
          have hz := hs j h9
          simp [enF, evtF, hz, c_1, c_2]
        · dsimp only
          have h9 := hin9 c_1; omega
set_option maxHeartbeats 1000000 in
set_option maxRecDepth 100000 in
theorem ct_X11_claimed (l : Launch) (g : Gl) (ω : Wd) (ad : Iy → Nat) (y : Ey) (σ : St) (hR : RepM g ad y σ ω) (hgr : grOK σ y) (hk : kIn σ) (hr9 : rIn σ) (hn : nOK σ) (hs : snd3 σ) : CT l g yX11_claimed cX11_claimed 3 (some .int) 3 64 0 0 [.ref (ad .main)] ω (okM g ad 0 Value.int (vl_claimed σ) σ σ) (nox) := by
  have hn120 : σ.n ≤ 120 := hn
  refine CT.of (own := "BoringheadModel") rfl rfl (le_b rfl) rfl ?_
  intro p e s m args below meth c sz0 hC hr htab hin
  refine s_aload_n hC dX11_claimed_0 rfl rfl 0 rfl ?_
  refine s_callV hC (ct_X11_begins l g _ _ _ _ hR) ce_X11_begins cs_X11 (RepM.f_main hR) tw_1324 rfl rfl ⟨⟨le_b rfl, le_b rfl⟩, le_b rfl, le_b rfl⟩ (le_b rfl) dX11_claimed_1 rfl (dvk0 ?_) nokx
  refine WP.rm (RepM.s_main_0 hR 0) (fun hR_1 => ?_)
  refine s_iconst hC (v := 0) dX11_claimed_4 rfl (by decide) ?_
  refine s_istore_n hC (L' := [(1, _), (0, _)]) dX11_claimed_5 rfl rfl (le_b rfl) rfl ?_
  refine s_iconst hC (v := 0) dX11_claimed_6 rfl (by decide) ?_
  refine s_istore_n hC (L' := [(2, _), (1, _), (0, _)]) dX11_claimed_7 rfl rfl (le_b rfl) rfl ?_
  refine WP.sub (L' := [(0, _), (1, _), (2, _)]) [2, 1, 0] rfl ?_
  refine wp_loop (σ := Int32 × Int32 × Nat) (I := fun (i, sm, j) => i = nI j ∧ j ≤ σ.n ∧ sm = clF σ j) (ωf := fun (i, sm, j) => wup ω (ad .main) (.inr (16, (mnL ad y σ).set 0 (.int 0)))) (Lf := fun (i, sm, j) => [(0, .ref (ad .main)), (1, .int sm), (2, .int i)]) (μ := fun (i, sm, j) => σ.n - j) (x0 := (_, _, 0)) ?_ ?_
  · exact ⟨rfl, Nat.zero_le _, rfl⟩
  · rintro ⟨i, sm, j⟩ hI ih
    dsimp only at hI ih ⊢
    obtain ⟨rfl, hj, rfl⟩ := hI
    have hin9 : ¬ nI (σ.n) ≤ nI j → j < σ.n := nI_ltc (Nat.lt_of_le_of_lt (RepM.b_ring hR) (by decide)) hj
    refine s_iload_n hC dX11_claimed_8 rfl rfl 2 rfl ?_
    refine s_aload_n hC dX11_claimed_9 rfl rfl 0 rfl ?_
    refine s_getf hC cs_X11 8 tw_1257 (le_b rfl) (RepM.f_main hR_1) rfl dX11_claimed_10 rfl ?_
    refine s_callF hC (nA := 0) 0 (ct_Jx4a65c_size_8abf5 l g _ _ _ _ _ (RepM.f_rings hR_1)) rfl tw_276 tw_5 tw_274 tw_1431 (by decide +kernel) cs_Jx4a65c (RepM.f_rings hR_1) tw_1427 rfl rfl ⟨⟨le_b rfl, le_b rfl⟩, le_b rfl, le_b rfl⟩ (le_b rfl) dX11_claimed_13 rfl (dvk1 ?_) nokx
    refine z_icmp_ge hC (tgt := 58) dX11_claimed_18 rfl (by decide) (fun c_1 => ?_) (fun c_1 => ?_)
    · refine s_iload_n hC dX11_claimed_58 rfl rfl 1 rfl ?_
      refine s_iret hC hr dX11_claimed_59 (le_b rfl) (le_b rfl) ?_
      obtain rfl := nI_lec (Nat.lt_of_le_of_lt (RepM.b_ring hR) (by decide)) hj c_1
      exact okM_ok rfl rfl rfl hR_1 rfl rfl rfl hgr
    · refine s_iload_n hC dX11_claimed_21 rfl rfl 1 rfl ?_
      refine s_aload_n hC dX11_claimed_22 rfl rfl 0 rfl ?_
      refine s_getf hC cs_X11 8 tw_1257 (le_b rfl) (RepM.f_main hR_1) rfl dX11_claimed_23 rfl ?_
      refine s_iload_n hC dX11_claimed_26 rfl rfl 2 rfl ?_
      refine s_callF hC (nA := 1) 3 (ct_Jx4a65c_get_915e3 l g _ _ _ _ _ (RepM.f_rings hR_1) _ _ (RepM.p_ring hR_1 (hin9 c_1)).2.1 (RepM.p_ring hR_1 (hin9 c_1)).2.2.1 _ _ (RepM.p_ring hR_1 (hin9 c_1)).2.2.2.1 (hin9 c_1) (RepM.p_ring hR_1 (hin9 c_1)).2.2.2.2) rfl tw_288 tw_5 tw_286 tw_1610 (by decide +kernel) cs_Jx4a65c (RepM.f_rings hR_1) tw_1607 rfl rfl ⟨⟨le_b rfl, le_b rfl⟩, le_b rfl, le_b rfl⟩ (le_b rfl) dX11_claimed_27 rfl (dvk1 ?_) nokx
      refine s_cast hC cs_X10 tw_1613 (RepM.f_ring hR_1 (hin9 c_1)) dX11_claimed_32 rfl ?_
      refine s_getfN hC cs_X10 8 tw_1647 (le_b rfl) (RepM.f_ring hR_1 (hin9 c_1)) rfl dX11_claimed_35 rfl ?_
      refine z_if_eqB hC (tgt := 49) dX11_claimed_38 rfl (by decide) (fun c_2 => ?_) (fun c_2 => ?_)
      · refine s_iconst hC (v := 0) dX11_claimed_49 rfl (by decide) ?_
        refine s_iadd hC dX11_claimed_50 rfl ?_
        refine s_istore_n hC (L' := [(1, _), (0, _), (2, _)]) dX11_claimed_51 rfl rfl (le_b rfl) rfl ?_
        refine s_iinc hC (v := _ + 1) (j9 := 2) (L' := [(2, _), (1, _), (0, _)]) dX11_claimed_52 rfl rfl rfl (le_b rfl) rfl ?_
        refine s_goto hC (tgt := 8) dX11_claimed_55 (by decide) ?_
        refine WP.sub (L' := [(0, _), (1, _), (2, _)]) [2, 1, 0] rfl ?_
        refine ih (_, _, j + 1) ?_ ?_
        · dsimp only
          have h9 := hin9 c_1
          refine ⟨nI_1 j, h9, ?_⟩
          have hz := hs j h9
          simp [clF, hz, c_1, c_2]
        · dsimp only
          have h9 := hin9 c_1; omega
      · refine s_aload_n hC dX11_claimed_41 rfl rfl 0 rfl ?_
        refine s_iload_n hC dX11_claimed_42 rfl rfl 2 rfl ?_
        refine s_callV hC (ct_X11_event l g _ _ _ _ hR_1 hk hr9 _ (by have := hin9 c_1; omega)) ce_X11_event cs_X11 (RepM.f_main hR_1) tw_2045 rfl rfl ⟨⟨le_b rfl, le_b rfl⟩, le_b rfl, le_b rfl⟩ (le_b rfl) dX11_claimed_43 rfl (dvk1 ?_) nokx
        refine s_goto hC (tgt := 50) dX11_claimed_46 (by decide) ?_
        refine s_iadd hC dX11_claimed_50 rfl ?_
        refine s_istore_n hC (L' := [(1, _), (0, _), (2, _)]) dX11_claimed_51 rfl rfl (le_b rfl) rfl ?_
        refine s_iinc hC (v := _ + 1) (j9 := 2) (L' := [(2, _), (1, _), (0, _)]) dX11_claimed_52 rfl rfl rfl (le_b rfl) rfl ?_
        refine s_goto hC (tgt := 8) dX11_claimed_55 (by decide) ?_
        refine WP.sub (L' := [(0, _), (1, _), (2, _)]) [2, 1, 0] rfl ?_
        refine ih (_, _, j + 1) ?_ ?_
        · dsimp only
          have h9 := hin9 c_1
          refine ⟨nI_1 j, h9, ?_⟩
          have hz := hs j h9
          simp [clF, hz, c_1, c_2]
        · dsimp only
          have h9 := hin9 c_1; omega
set_option maxHeartbeats 1000000 in
set_option maxRecDepth 100000 in
theorem ct_X11_checksum (l : Launch) (g : Gl) (ω : Wd) (ad : Iy → Nat) (y : Ey) (σ : St) (hR : RepM g ad y σ ω) (hgr : grOK σ y) (hk : kIn σ) (hrk : rkOK σ) (hn : nOK σ) : CT l g yX11_checksum cX11_checksum 4 (some .long) 4 85 0 0 [.ref (ad .main)] ω (okM g ad 0 Value.long (vl_checksum σ) σ σ) (nox) := by
  refine CT.of (own := "BoringheadModel") rfl rfl (le_b rfl) rfl ?_
  intro p e s m args below meth c sz0 hC hr htab hin
  refine s_aload_n hC dX11_checksum_0 rfl rfl 0 rfl ?_
  refine s_callV hC (ct_X11_begins l g _ _ _ _ hR) ce_X11_begins cs_X11 (RepM.f_main hR) tw_1324 rfl rfl ⟨⟨le_b rfl, le_b rfl⟩, le_b rfl, le_b rfl⟩ (le_b rfl) dX11_checksum_1 rfl (dvk0 ?_) nokx
  refine WP.rm (RepM.s_main_0 hR 0) (fun hR_1 => ?_)
  refine s_ldc2 hC tw_1583 dX11_checksum_4 rfl ?_
  refine s_lstore_n hC (L' := [(1, _), (0, _)]) dX11_checksum_7 rfl rfl (le_b rfl) rfl ?_
  refine s_iconst hC (v := 0) dX11_checksum_8 rfl (by decide) ?_
  refine s_istore_n hC (L' := [(3, _), (1, _), (0, _)]) dX11_checksum_9 rfl rfl (le_b rfl) rfl ?_
  refine WP.sub (L' := [(0, _), (1, _), (3, _)]) [2, 1, 0] rfl ?_
  refine wp_loop (σ := Int32 × Int64 × Nat) (I := fun (i, sm, j) => i = nI j ∧ j ≤ σ.n ∧ sm = ckF σ j) (ωf := fun (i, sm, j) => wup ω (ad .main) (.inr (16, (mnL ad y σ).set 0 (.int 0)))) (Lf := fun (i, sm, j) => [(0, .ref (ad .main)), (1, .long sm), (3, .int i)]) (μ := fun (i, sm, j) => σ.n - j) (x0 := (_, _, 0)) ?_ ?_
  · exact ⟨rfl, Nat.zero_le _, rfl⟩
  · rintro ⟨i, sm, j⟩ hI ih
    dsimp only at hI ih ⊢
    obtain ⟨rfl, hj, rfl⟩ := hI
    have hin9 : ¬ nI (σ.n) ≤ nI j → j < σ.n := nI_ltc (Nat.lt_of_le_of_lt (RepM.b_ring hR) (by decide)) hj
    refine s_iload_n hC dX11_checksum_10 rfl rfl 2 rfl ?_
    refine s_aload_n hC dX11_checksum_11 rfl rfl 0 rfl ?_
    refine s_getf hC cs_X11 8 tw_1257 (le_b rfl) (RepM.f_main hR_1) rfl dX11_checksum_12 rfl ?_
    refine s_callF hC (nA := 0) 0 (ct_Jx4a65c_size_8abf5 l g _ _ _ _ _ (RepM.f_rings hR_1)) rfl tw_276 tw_5 tw_274 tw_1431 (by decide +kernel) cs_Jx4a65c (RepM.f_rings hR_1) tw_1427 rfl rfl ⟨⟨le_b rfl, le_b rfl⟩, le_b rfl, le_b rfl⟩ (le_b rfl) dX11_checksum_15 rfl (dvk1 ?_) nokx
    refine z_icmp_ge hC (tgt := 114) dX11_checksum_20 rfl (by decide) (fun c_1 => ?_) (fun c_1 => ?_)
    · refine s_ldc2 hC tw_2080 dX11_checksum_114 rfl ?_
      refine s_lload_n hC dX11_checksum_117 rfl rfl 1 rfl ?_
      refine s_lmul hC dX11_checksum_118 rfl ?_
      refine s_aload_n hC dX11_checksum_119 rfl rfl 0 rfl ?_
      refine s_getf hC cs_X11 19 tw_1268 (le_b rfl) (RepM.f_main hR_1) rfl dX11_checksum_120 rfl ?_
      refine s_i2l hC dX11_checksum_123 rfl rfl ?_
      refine s_ladd hC dX11_checksum_124 rfl ?_
      refine s_lret hC hr dX11_checksum_125 (le_b rfl) (le_b rfl) ?_
      obtain rfl := nI_lec (Nat.lt_of_le_of_lt (RepM.b_ring hR) (by decide)) hj c_1
      exact okM_ok rfl rfl rfl hR_1 rfl rfl rfl hgr
    · refine s_ldc2 hC tw_2080 dX11_checksum_23 rfl ?_
      refine s_lload_n hC dX11_checksum_26 rfl rfl 1 rfl ?_
      refine s_lmul hC dX11_checksum_27 rfl ?_
      refine s_aload_n hC dX11_checksum_28 rfl rfl 0 rfl ?_
      refine s_getf hC cs_X11 8 tw_1257 (le_b rfl) (RepM.f_main hR_1) rfl dX11_checksum_29 rfl ?_
      refine s_iload_n hC dX11_checksum_32 rfl rfl 2 rfl ?_
      refine s_callF hC (nA := 1) 3 (ct_Jx4a65c_get_915e3 l g _ _ _ _ _ (RepM.f_rings hR_1) _ _ (RepM.p_ring hR_1 (hin9 c_1)).2.1 (RepM.p_ring hR_1 (hin9 c_1)).2.2.1 _ _ (RepM.p_ring hR_1 (hin9 c_1)).2.2.2.1 (hin9 c_1) (RepM.p_ring hR_1 (hin9 c_1)).2.2.2.2) rfl tw_288 tw_5 tw_286 tw_1610 (by decide +kernel) cs_Jx4a65c (RepM.f_rings hR_1) tw_1607 rfl rfl ⟨⟨le_b rfl, le_b rfl⟩, le_b rfl, le_b rfl⟩ (le_b rfl) dX11_checksum_33 rfl (dvk1 ?_) nokx
      refine s_cast hC cs_X10 tw_1613 (RepM.f_ring hR_1 (hin9 c_1)) dX11_checksum_38 rfl ?_
      refine s_getfN hC cs_X10 0 tw_1638 (le_b rfl) (RepM.f_ring hR_1 (hin9 c_1)) rfl dX11_checksum_41 rfl ?_
      refine s_i2l hC dX11_checksum_44 rfl rfl ?_
      refine s_ladd hC dX11_checksum_45 rfl ?_
      refine s_lstore_n hC (L' := [(1, _), (0, _), (3, _)]) dX11_checksum_46 rfl rfl (le_b rfl) rfl ?_
      refine s_ldc2 hC tw_2080 dX11_checksum_47 rfl ?_
      refine s_lload_n hC dX11_checksum_50 rfl rfl 0 rfl ?_
      refine s_lmul hC dX11_checksum_51 rfl ?_
      refine s_aload_n hC dX11_checksum_52 rfl rfl 1 rfl ?_
      refine s_getf hC cs_X11 8 tw_1257 (le_b rfl) (RepM.f_main hR_1) rfl dX11_checksum_53 rfl ?_
      refine s_iload_n hC dX11_checksum_56 rfl rfl 2 rfl ?_
      refine s_callF hC (nA := 1) 3 (ct_Jx4a65c_get_915e3 l g _ _ _ _ _ (RepM.f_rings hR_1) _ _ (RepM.p_ring hR_1 (hin9 c_1)).2.1 (RepM.p_ring hR_1 (hin9 c_1)).2.2.1 _ _ (RepM.p_ring hR_1 (hin9 c_1)).2.2.2.1 (hin9 c_1) (RepM.p_ring hR_1 (hin9 c_1)).2.2.2.2) rfl tw_288 tw_5 tw_286 tw_1610 (by decide +kernel) cs_Jx4a65c (RepM.f_rings hR_1) tw_1607 rfl rfl ⟨⟨le_b rfl, le_b rfl⟩, le_b rfl, le_b rfl⟩ (le_b rfl) dX11_checksum_57 rfl (dvk1 ?_) nokx
      refine s_cast hC cs_X10 tw_1613 (RepM.f_ring hR_1 (hin9 c_1)) dX11_checksum_62 rfl ?_
      refine s_getfN hC cs_X10 1 tw_1639 (le_b rfl) (RepM.f_ring hR_1 (hin9 c_1)) rfl dX11_checksum_65 rfl ?_
      refine s_i2l hC dX11_checksum_68 rfl rfl ?_
      refine s_ladd hC dX11_checksum_69 rfl ?_
      refine s_lstore_n hC (L' := [(1, _), (0, _), (3, _)]) dX11_checksum_70 rfl rfl (le_b rfl) rfl ?_
      refine s_ldc2 hC tw_2080 dX11_checksum_71 rfl ?_
      refine s_lload_n hC dX11_checksum_74 rfl rfl 0 rfl ?_
      refine s_lmul hC dX11_checksum_75 rfl ?_
      refine s_aload_n hC dX11_checksum_76 rfl rfl 1 rfl ?_
      refine s_getf hC cs_X11 8 tw_1257 (le_b rfl) (RepM.f_main hR_1) rfl dX11_checksum_77 rfl ?_
      refine s_iload_n hC dX11_checksum_80 rfl rfl 2 rfl ?_
      refine s_callF hC (nA := 1) 3 (ct_Jx4a65c_get_915e3 l g _ _ _ _ _ (RepM.f_rings hR_1) _ _ (RepM.p_ring hR_1 (hin9 c_1)).2.1 (RepM.p_ring hR_1 (hin9 c_1)).2.2.1 _ _ (RepM.p_ring hR_1 (hin9 c_1)).2.2.2.1 (hin9 c_1) (RepM.p_ring hR_1 (hin9 c_1)).2.2.2.2) rfl tw_288 tw_5 tw_286 tw_1610 (by decide +kernel) cs_Jx4a65c (RepM.f_rings hR_1) tw_1607 rfl rfl ⟨⟨le_b rfl, le_b rfl⟩, le_b rfl, le_b rfl⟩ (le_b rfl) dX11_checksum_81 rfl (dvk1 ?_) nokx
      refine s_cast hC cs_X10 tw_1613 (RepM.f_ring hR_1 (hin9 c_1)) dX11_checksum_86 rfl ?_
      refine s_getfN hC cs_X10 2 tw_1640 (le_b rfl) (RepM.f_ring hR_1 (hin9 c_1)) rfl dX11_checksum_89 rfl ?_
      refine s_i2l hC dX11_checksum_92 rfl rfl ?_
      refine s_ladd hC dX11_checksum_93 rfl ?_
      refine s_lstore_n hC (L' := [(1, _), (0, _), (3, _)]) dX11_checksum_94 rfl rfl (le_b rfl) rfl ?_
      refine s_ldc2 hC tw_2080 dX11_checksum_95 rfl ?_
      refine s_lload_n hC dX11_checksum_98 rfl rfl 0 rfl ?_
      refine s_lmul hC dX11_checksum_99 rfl ?_
      refine s_aload_n hC dX11_checksum_100 rfl rfl 1 rfl ?_
      refine s_iload_n hC dX11_checksum_101 rfl rfl 2 rfl ?_
      refine s_callV hC (ct_X11_lostAt l g _ _ _ _ hR_1 hk hrk hn _ (hin9 c_1)) ce_X11_lostAt cs_X11 (RepM.f_main hR_1) tw_1724 rfl rfl ⟨⟨le_b rfl, le_b rfl⟩, le_b rfl, le_b rfl⟩ (le_b rfl) dX11_checksum_102 rfl (dvk1 ?_) nokx
      refine s_i2l hC dX11_checksum_105 rfl rfl ?_
      refine s_ladd hC dX11_checksum_106 rfl ?_
      refine s_lstore_n hC (L' := [(1, _), (0, _), (3, _)]) dX11_checksum_107 rfl rfl (le_b rfl) rfl ?_
      refine s_iinc hC (v := _ + 1) (j9 := 2) (L' := [(3, _), (1, _), (0, _)]) dX11_checksum_108 rfl rfl rfl (le_b rfl) rfl ?_
      refine s_goto hC (tgt := 10) dX11_checksum_111 (by decide) ?_
      refine WP.sub (L' := [(0, _), (1, _), (3, _)]) [2, 1, 0] rfl ?_
      refine ih (_, _, j + 1) ?_ ?_
      · dsimp only
        have h9 := hin9 c_1
        refine ⟨nI_1 j, h9, ?_⟩
        rfl
      · dsimp only
        have h9 := hin9 c_1; omega
