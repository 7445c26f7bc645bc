theorem keepP.tr {a b c : Wd} {fa : Nat} (h : keepP a fa b) (h2 : keepP b fa c) : keepP a fa c := fun q hq hf => by
  have h1 := h q hq hf
  rw [h2 q (by rw [h1]; exact hq) hf]
  exact h1
def lsf0 (s : St) : Nat → Int64 := lsS s.hR.toInt64 s.hU.toInt64 s.oR.toInt64 s.oU.toInt64
/-- the least sum, its first turn -/
def lsV (s : St) (m : Nat) : Int64 × Int32 := lsF (lsG s (m - 1) s.n (lsf0 s)) (ltF s) 0 8
def plOK (s : St) : Prop := ∀ m, 1 ≤ m → m ≤ 3 → 0 ≤ (lsV s m).1 ∧ (lsV s m).1 = sroF s (bsF s m (8 ^ m)).1 m ∧ (lsV s m).2 = turnF (bsF s m (8 ^ m)).1 0 (nI m)
theorem inR13c {r : Int32} (h : inR r 1 3 = true) : r = 1 ∨ r = 2 ∨ r = 3 := by
  simp only [inR, Bool.and_eq_true, decide_eq_true_eq] at h
  obtain ⟨y, hy, rfl⟩ := nI_of (Int32.not_lt.mpr (Int32.le_trans (by decide) h.1))
  have h6 := (nI_leI hy (by decide : 3 < 2 ^ 31)).mp h.2
  have h7 := (nI_leI (by decide : 1 < 2 ^ 31) hy).mp h.1
  have : y = 1 ∨ y = 2 ∨ y = 3 := by omega
  rcases this with rfl | rfl | rfl
  · exact Or.inl rfl
  · exact Or.inr (Or.inl rfl)
  · exact Or.inr (Or.inr rfl)
set_option maxHeartbeats 4000000 in
set_option maxRecDepth 100000 in
theorem ct_planned1 (l : Launch) (g : Gl) (ω : Wd) (ad : Iy → Nat) (y : Ey) (σ : St) (hR : RepM g ad y σ ω) (hn : nOK σ) (hs1 : snd1 σ) (fa : Nat) (F0 : Nat → Int32) (hF0 : F0 0 = 0) (hfa : ω fa = some (.inl (g.2.1 0, 1, .inl F0))) (hn_fa : ∀ k, VM y σ k → ad k ≠ fa) : CT l g yX11_planned cX11_planned 6 (some .long) 3 70 10 45 [.ref (ad .main), .int 1, .ref fa] ω (fun r w => r = some (.long (lsV σ 1).1) ∧ ∃ F, F 0 = (lsV σ 1).2 ∧ w fa = some (.inl (g.2.1 0, 1, .inl F)) ∧ keepP ω fa w) (nox) := by
  have hn120 : σ.n ≤ 120 := hn
  refine CT.of (own := "BoringheadModel") rfl rfl (le_b rfl) rfl ?_
  intro p e s m args below meth c sz0 hC hr htab hin
  refine s_aload_n hC dX11_planned_0 rfl rfl 0 rfl ?_
  refine s_getf hC cs_X11 8 tw_1257 (le_b rfl) (RepM.f_main hR) rfl dX11_planned_1 rfl ?_
  refine s_callF hC (nA := 0) 0 (ct_Jx4a65c_size_8abf5 l g _ _ _ _ _ (RepM.f_rings hR)) rfl tw_276 tw_5 tw_274 tw_1431 (by decide +kernel) cs_Jx4a65c (RepM.f_rings hR) tw_1427 rfl rfl ⟨⟨le_b rfl, le_b rfl⟩, le_b rfl, le_b rfl⟩ (le_b rfl) dX11_planned_4 rfl (dvk1 ?_) nokx
  refine s_istore_n hC (L' := [(3, _), (0, _), (1, _), (2, _)]) dX11_planned_9 rfl rfl (le_b rfl) rfl ?_
  by_cases hz : σ.n = 0
  · obtain ⟨hoR, hoU⟩ := snd1_0 hs1 hz
    have hlt : ltF σ = -1 := by rw [ltF, if_pos hz]
    refine s_iload_n hC dX11_planned_10 rfl rfl 0 rfl ?_
    refine z_if_ne hC (tgt := 24) dX11_planned_11 rfl (by decide) (fun c_1 => (c_1 (by rw [hz]; rfl)).elim) (fun c_1 => ?_)
    refine s_new hC cs_X10 (fs := [.int 0, .int 0, .int 0, .int 0, .int 0, .int 0, .int 0, .int 0, .int 0]) tw_1613 tw_1633 tw_33 (fun j hj => by rcases (show j = 0 ∨ j = 1 ∨ j = 2 ∨ j = 3 ∨ j = 4 ∨ j = 5 ∨ j = 6 ∨ j = 7 ∨ j = 8 by omega) with rfl | rfl | rfl | rfl | rfl | rfl | rfl | rfl | rfl <;> rfl) (le_b rfl) (le_b rfl) dX11_planned_14 rfl (fun q_14 hq_14 => ?_)
    have hn_q_14 := RepM.ne hR hq_14
    refine WP.rm (RepM.new hR hq_14 _) (fun hR_q_14 => ?_)
    refine s_dup hC dX11_planned_17 rfl rfl ?_
    refine s_callIN hC (ct_X10_init l g _ _ _ _ _ _ _ _ _ _ (wup_s _ _ _)) ce_X10_init tw_1634 rfl rfl ⟨⟨le_b rfl, le_b rfl⟩, le_b rfl, le_b rfl⟩ (le_b rfl) dX11_planned_18 rfl (dvk0 ?_) nokx
    rw [wup_wup]
    have hR_18 : RepM g ad y σ (wup ω q_14 (.inr (15, [.int 0, .int 0, .int 0, .int 0, .int 0, .int 0, .int (-1), .int 0, .int 0]))) := RepM.new hR hq_14 _
    refine s_goto hC (tgt := 39) dX11_planned_21 (by decide) ?_
    refine s_astore hC (L' := [(4, _), (3, _), (0, _), (1, _), (2, _)]) dX11_planned_39 rfl (le_b rfl) rfl ?_
    refine s_iconst hC (v := 4) dX11_planned_41 rfl (by decide) ?_
    refine s_newa hC 4 (at0 := .long) (ty := .long) (N' := 4) (a0 := (4, .inr (.inl (fun _ => 0)))) rfl rfl tw_1704 (fun _ => rfl) (by decide) (by decide) (by decide) (le_b rfl) (le_b rfl) dX11_planned_42 rfl (fun q_42 hq_42 => ?_)
    have hn_q_42 := RepM.ne hR_18 hq_42
    refine WP.rm (RepM.new hR_18 hq_42 _) (fun hR_q_42 => ?_)
    refine s_dup hC dX11_planned_44 rfl rfl ?_
    refine s_iconst hC (v := 0) dX11_planned_45 rfl (by decide) ?_
    refine s_aload_n hC dX11_planned_46 rfl rfl 2 rfl ?_
    refine s_getf hC cs_X11 15 tw_1264 (le_b rfl) (RepM.f_main hR_q_42) rfl dX11_planned_47 rfl ?_
    refine s_i2l hC dX11_planned_50 rfl rfl ?_
    refine s_last hC (wup_s _ _ _) (vp_in_nI (by decide : 0 < 4) (by decide)) dX11_planned_51 rfl ?_
    refine WP.rm (RepM.by hR_q_42 hn_q_42 _) (fun hR_51 => ?_)
    refine s_dup hC dX11_planned_52 rfl rfl ?_
    refine s_iconst hC (v := 1) dX11_planned_53 rfl (by decide) ?_
    refine s_aload_n hC dX11_planned_54 rfl rfl 2 rfl ?_
    refine s_getf hC cs_X11 16 tw_1265 (le_b rfl) (RepM.f_main hR_51) rfl dX11_planned_55 rfl ?_
    refine s_i2l hC dX11_planned_58 rfl rfl ?_
    refine s_last hC (wup_s _ _ _) (vp_in_nI (by decide : 1 < 4) (by decide)) dX11_planned_59 rfl ?_
    refine WP.rm (RepM.by hR_51 hn_q_42 _) (fun hR_59 => ?_)
    refine s_dup hC dX11_planned_60 rfl rfl ?_
    refine s_iconst hC (v := 2) dX11_planned_61 rfl (by decide) ?_
    refine s_aload hC dX11_planned_62 rfl 0 rfl ?_
    refine s_getfN hC cs_X10 1 tw_1639 (le_b rfl) ((wup_n (w_ne (wup_s _ _ _) hq_42)).trans ((wup_n (w_ne (wup_s _ _ _) hq_42)).trans ((wup_n (w_ne (wup_s _ _ _) hq_42)).trans (wup_s _ _ _)))) rfl dX11_planned_64 rfl ?_
    refine WP.top (.int σ.oR) (congrArg Value.int hoR.symm) ?_
    refine s_i2l hC dX11_planned_67 rfl rfl ?_
    refine s_last hC (wup_s _ _ _) (vp_in_nI (by decide : 2 < 4) (by decide)) dX11_planned_68 rfl ?_
    refine WP.rm (RepM.by hR_59 hn_q_42 _) (fun hR_68 => ?_)
    refine s_dup hC dX11_planned_69 rfl rfl ?_
    refine s_iconst hC (v := 3) dX11_planned_70 rfl (by decide) ?_
    refine s_aload hC dX11_planned_71 rfl 0 rfl ?_
    refine s_getfN hC cs_X10 2 tw_1640 (le_b rfl) ((wup_n (w_ne (wup_s _ _ _) hq_42)).trans ((wup_n (w_ne (wup_s _ _ _) hq_42)).trans ((wup_n (w_ne (wup_s _ _ _) hq_42)).trans ((wup_n (w_ne (wup_s _ _ _) hq_42)).trans (wup_s _ _ _))))) rfl dX11_planned_73 rfl ?_
    refine WP.top (.int σ.oU) (congrArg Value.int hoU.symm) ?_
    refine s_i2l hC dX11_planned_76 rfl rfl ?_
    refine s_last hC (wup_s _ _ _) (vp_in_nI (by decide : 3 < 4) (by decide)) dX11_planned_77 rfl ?_
    refine WP.rm (RepM.by hR_68 hn_q_42 _) (fun hR_77 => ?_)
    refine WP.of (ω' := wup (wup ω q_14 (.inr (15, [.int 0, .int 0, .int 0, .int 0, .int 0, .int 0, .int (-1), .int 0, .int 0]))) q_42 (.inl (g.2.1 4, 4, .inr (.inl (lsf0 σ))))) (by rw [wup_wup, wup_wup, wup_wup, wup_wup]; rfl) ?_
    have hR_78 : RepM g ad y σ (wup (wup ω q_14 (.inr (15, [.int 0, .int 0, .int 0, .int 0, .int 0, .int 0, .int (-1), .int 0, .int 0]))) q_42 (.inl (g.2.1 4, 4, .inr (.inl (lsf0 σ))))) := RepM.new hR_18 hq_42 _
    have hkk : keepP ω fa (wup (wup ω q_14 (.inr (15, [.int 0, .int 0, .int 0, .int 0, .int 0, .int 0, .int (-1), .int 0, .int 0]))) q_42 (.inl (g.2.1 4, 4, .inr (.inl (lsf0 σ))))) := ((keepP.rf ω fa).new hq_14 _).new hq_42 _
    refine s_astore hC (L' := [(5, _), (4, _), (3, _), (0, _), (1, _), (2, _)]) dX11_planned_78 rfl (le_b rfl) rfl ?_
    refine s_aload_n hC dX11_planned_80 rfl rfl 3 rfl ?_
    refine s_iload_n hC dX11_planned_81 rfl rfl 2 rfl ?_
    refine s_iload_n hC dX11_planned_82 rfl rfl 4 rfl ?_
    refine s_iload_n hC dX11_planned_83 rfl rfl 2 rfl ?_
    refine z_if_ne hC (tgt := 91) dX11_planned_84 rfl (by decide) (fun c_2 => (c_2 (by rw [hz]; rfl)).elim) (fun c_2 => ?_)
    refine s_iconst hC (v := (-1)) dX11_planned_87 rfl (by decide) ?_
    refine s_goto hC (tgt := 96) dX11_planned_88 (by decide) ?_
    refine s_aload hC dX11_planned_96 rfl 0 rfl ?_
    refine s_aload_n hC dX11_planned_98 rfl rfl 5 rfl ?_
    refine s_callV hC (ct_least1 l g _ _ _ _ hR_78 σ.n (by omega) (-1) q_42 (lsf0 σ) (wup_s _ _ _) fa F0 0 hF0 ((wup_n (w_ne ((wup_n (w_ne hfa hq_14)).trans hfa) hq_42)).trans ((wup_n (w_ne hfa hq_14)).trans hfa)) (Ne.symm (w_ne ((wup_n (w_ne hfa hq_14)).trans hfa) hq_42)) hn_fa) ce_X11_least cs_X11 (RepM.f_main hR_78) tw_1699 rfl rfl ⟨⟨le_b rfl, le_b rfl⟩, le_b rfl, le_b rfl⟩ (le_b rfl) dX11_planned_99 rfl (fun r w h9 => ?_) nokx
    obtain ⟨rfl, F8, hF8, hf8, hk8⟩ := h9
    refine s_lret hC hr dX11_planned_102 (le_b rfl) (le_b rfl) ?_
    exact ⟨by rw [lsV, hlt], F8, by rw [lsV, hlt]; exact hF8, hf8, hkk.tr hk8⟩
  · obtain ⟨hoR, hoU⟩ := snd1_s hs1 hz
    have hpr : nI σ.n - 1 = nI (σ.n - 1) := by obtain ⟨n9, hn9⟩ := Nat.exists_eq_succ_of_ne_zero hz; rw [hn9]; exact nI_pred n9
    have hpl : σ.n - 1 < σ.n := pred_lt hz
    have hlt := ltF_s hz
    refine s_iload_n hC dX11_planned_10 rfl rfl 0 rfl ?_
    refine z_if_ne hC (tgt := 24) dX11_planned_11 rfl (by decide) (fun c_3 => ?_) (fun c_3 => (hz ((nI_eq (by omega) (by decide : 0 < 2 ^ 31)).mp c_3)).elim)
    refine s_aload_n hC dX11_planned_24 rfl rfl 1 rfl ?_
    refine s_getf hC cs_X11 8 tw_1257 (le_b rfl) (RepM.f_main hR) rfl dX11_planned_25 rfl ?_
    refine s_iload_n hC dX11_planned_28 rfl rfl 0 rfl ?_
    refine s_iconst hC (v := 1) dX11_planned_29 rfl (by decide) ?_
    refine s_isub hC dX11_planned_30 rfl ?_
    rw [hpr]
    refine s_callF hC (nA := 1) 3 (ct_Jx4a65c_get_915e3 l g _ _ _ _ _ (RepM.f_rings hR) _ _ (RepM.p_ring hR hpl).2.1 (RepM.p_ring hR hpl).2.2.1 _ _ (RepM.p_ring hR hpl).2.2.2.1 hpl (RepM.p_ring hR hpl).2.2.2.2) rfl tw_288 tw_5 tw_286 tw_1610 (by decide +kernel) cs_Jx4a65c (RepM.f_rings hR) tw_1607 rfl rfl ⟨⟨le_b rfl, le_b rfl⟩, le_b rfl, le_b rfl⟩ (le_b rfl) dX11_planned_31 rfl (dvk1 ?_) nokx
    refine s_cast hC cs_X10 tw_1613 (RepM.f_ring hR hpl) dX11_planned_36 rfl ?_
    refine s_astore hC (L' := [(4, _), (3, _), (0, _), (1, _), (2, _)]) dX11_planned_39 rfl (le_b rfl) rfl ?_
    refine s_iconst hC (v := 4) dX11_planned_41 rfl (by decide) ?_
    refine s_newa hC 4 (at0 := .long) (ty := .long) (N' := 4) (a0 := (4, .inr (.inl (fun _ => 0)))) rfl rfl tw_1704 (fun _ => rfl) (by decide) (by decide) (by decide) (le_b rfl) (le_b rfl) dX11_planned_42 rfl (fun q_42 hq_42 => ?_)
    have hn_q_42 := RepM.ne hR hq_42
    refine WP.rm (RepM.new hR hq_42 _) (fun hR_q_42 => ?_)
    refine s_dup hC dX11_planned_44 rfl rfl ?_
    refine s_iconst hC (v := 0) dX11_planned_45 rfl (by decide) ?_
    refine s_aload_n hC dX11_planned_46 rfl rfl 2 rfl ?_
    refine s_getf hC cs_X11 15 tw_1264 (le_b rfl) (RepM.f_main hR_q_42) rfl dX11_planned_47 rfl ?_
    refine s_i2l hC dX11_planned_50 rfl rfl ?_
    refine s_last hC (wup_s _ _ _) (vp_in_nI (by decide : 0 < 4) (by decide)) dX11_planned_51 rfl ?_
    refine WP.rm (RepM.by hR_q_42 hn_q_42 _) (fun hR_51 => ?_)
    refine s_dup hC dX11_planned_52 rfl rfl ?_
    refine s_iconst hC (v := 1) dX11_planned_53 rfl (by decide) ?_
    refine s_aload_n hC dX11_planned_54 rfl rfl 2 rfl ?_
    refine s_getf hC cs_X11 16 tw_1265 (le_b rfl) (RepM.f_main hR_51) rfl dX11_planned_55 rfl ?_
    refine s_i2l hC dX11_planned_58 rfl rfl ?_
    refine s_last hC (wup_s _ _ _) (vp_in_nI (by decide : 1 < 4) (by decide)) dX11_planned_59 rfl ?_
    refine WP.rm (RepM.by hR_51 hn_q_42 _) (fun hR_59 => ?_)
    refine s_dup hC dX11_planned_60 rfl rfl ?_
    refine s_iconst hC (v := 2) dX11_planned_61 rfl (by decide) ?_
    refine s_aload hC dX11_planned_62 rfl 0 rfl ?_
    refine s_getfN hC cs_X10 1 tw_1639 (le_b rfl) (RepM.f_ring hR_59 hpl) rfl dX11_planned_64 rfl ?_
    refine WP.top (.int σ.oR) (congrArg Value.int hoR.symm) ?_
    refine s_i2l hC dX11_planned_67 rfl rfl ?_
    refine s_last hC (wup_s _ _ _) (vp_in_nI (by decide : 2 < 4) (by decide)) dX11_planned_68 rfl ?_
    refine WP.rm (RepM.by hR_59 hn_q_42 _) (fun hR_68 => ?_)
    refine s_dup hC dX11_planned_69 rfl rfl ?_
    refine s_iconst hC (v := 3) dX11_planned_70 rfl (by decide) ?_
    refine s_aload hC dX11_planned_71 rfl 0 rfl ?_
    refine s_getfN hC cs_X10 2 tw_1640 (le_b rfl) (RepM.f_ring hR_68 hpl) rfl dX11_planned_73 rfl ?_
    refine WP.top (.int σ.oU) (congrArg Value.int hoU.symm) ?_
    refine s_i2l hC dX11_planned_76 rfl rfl ?_
    refine s_last hC (wup_s _ _ _) (vp_in_nI (by decide : 3 < 4) (by decide)) dX11_planned_77 rfl ?_
    refine WP.rm (RepM.by hR_68 hn_q_42 _) (fun hR_77 => ?_)
    refine WP.of (ω' := wup (ω) q_42 (.inl (g.2.1 4, 4, .inr (.inl (lsf0 σ))))) (by rw [wup_wup, wup_wup, wup_wup, wup_wup]; rfl) ?_
    have hR_78 : RepM g ad y σ (wup (ω) q_42 (.inl (g.2.1 4, 4, .inr (.inl (lsf0 σ))))) := RepM.new hR hq_42 _
    have hkk : keepP ω fa (wup (ω) q_42 (.inl (g.2.1 4, 4, .inr (.inl (lsf0 σ))))) := (keepP.rf ω fa).new hq_42 _
    refine s_astore hC (L' := [(5, _), (4, _), (3, _), (0, _), (1, _), (2, _)]) dX11_planned_78 rfl (le_b rfl) rfl ?_
    refine s_aload_n hC dX11_planned_80 rfl rfl 3 rfl ?_
    refine s_iload_n hC dX11_planned_81 rfl rfl 2 rfl ?_
    refine s_iload_n hC dX11_planned_82 rfl rfl 4 rfl ?_
    refine s_iload_n hC dX11_planned_83 rfl rfl 2 rfl ?_
    refine z_if_ne hC (tgt := 91) dX11_planned_84 rfl (by decide) (fun c_4 => ?_) (fun c_4 => (hz ((nI_eq (by omega) (by decide : 0 < 2 ^ 31)).mp c_4)).elim)
    refine s_aload hC dX11_planned_91 rfl 1 rfl ?_
    refine s_getfN hC cs_X10 0 tw_1638 (le_b rfl) (RepM.f_ring hR_78 hpl) rfl dX11_planned_93 rfl ?_
    refine s_aload hC dX11_planned_96 rfl 0 rfl ?_
    refine s_aload_n hC dX11_planned_98 rfl rfl 5 rfl ?_
    refine s_callV hC (ct_least1 l g _ _ _ _ hR_78 σ.n (by omega) (σ.ring (σ.n - 1)).turn q_42 (lsf0 σ) (wup_s _ _ _) fa F0 0 hF0 ((wup_n (w_ne hfa hq_42)).trans hfa) (Ne.symm (w_ne hfa hq_42)) hn_fa) ce_X11_least cs_X11 (RepM.f_main hR_78) tw_1699 rfl rfl ⟨⟨le_b rfl, le_b rfl⟩, le_b rfl, le_b rfl⟩ (le_b rfl) dX11_planned_99 rfl (fun r w h9 => ?_) nokx
    obtain ⟨rfl, F8, hF8, hf8, hk8⟩ := h9
    refine s_lret hC hr dX11_planned_102 (le_b rfl) (le_b rfl) ?_
    exact ⟨by rw [lsV, hlt], F8, by rw [lsV, hlt]; exact hF8, hf8, hkk.tr hk8⟩
set_option maxHeartbeats 4000000 in
set_option maxRecDepth 100000 in
theorem ct_planned2 (l : Launch) (g : Gl) (ω : Wd) (ad : Iy → Nat) (y : Ey) (σ : St) (hR : RepM g ad y σ ω) (hn : nOK σ) (hs1 : snd1 σ) (fa : Nat) (F0 : Nat → Int32) (hF0 : F0 0 = 0) (hfa : ω fa = some (.inl (g.2.1 0, 1, .inl F0))) (hn_fa : ∀ k, VM y σ k → ad k ≠ fa) : CT l g yX11_planned cX11_planned 6 (some .long) 3 105 82 309 [.ref (ad .main), .int 2, .ref fa] ω (fun r w => r = some (.long (lsV σ 2).1) ∧ ∃ F, F 0 = (lsV σ 2).2 ∧ w fa = some (.inl (g.2.1 0, 1, .inl F)) ∧ keepP ω fa w) (nox) := by
  have hn120 : σ.n ≤ 120 := hn
  refine CT.of (own := "BoringheadModel") rfl rfl (le_b rfl) rfl ?_
  intro p e s m args below meth c sz0 hC hr htab hin
  refine s_aload_n hC dX11_planned_0 rfl rfl 0 rfl ?_
  refine s_getf hC cs_X11 8 tw_1257 (le_b rfl) (RepM.f_main hR) rfl dX11_planned_1 rfl ?_
  refine s_callF hC (nA := 0) 0 (ct_Jx4a65c_size_8abf5 l g _ _ _ _ _ (RepM.f_rings hR)) rfl tw_276 tw_5 tw_274 tw_1431 (by decide +kernel) cs_Jx4a65c (RepM.f_rings hR) tw_1427 rfl rfl ⟨⟨le_b rfl, le_b rfl⟩, le_b rfl, le_b rfl⟩ (le_b rfl) dX11_planned_4 rfl (dvk1 ?_) nokx
  refine s_istore_n hC (L' := [(3, _), (0, _), (1, _), (2, _)]) dX11_planned_9 rfl rfl (le_b rfl) rfl ?_
  by_cases hz : σ.n = 0
  · obtain ⟨hoR, hoU⟩ := snd1_0 hs1 hz
    have hlt : ltF σ = -1 := by rw [ltF, if_pos hz]
    refine s_iload_n hC dX11_planned_10 rfl rfl 0 rfl ?_
    refine z_if_ne hC (tgt := 24) dX11_planned_11 rfl (by decide) (fun c_1 => (c_1 (by rw [hz]; rfl)).elim) (fun c_1 => ?_)
    refine s_new hC cs_X10 (fs := [.int 0, .int 0, .int 0, .int 0, .int 0, .int 0, .int 0, .int 0, .int 0]) tw_1613 tw_1633 tw_33 (fun j hj => by rcases (show j = 0 ∨ j = 1 ∨ j = 2 ∨ j = 3 ∨ j = 4 ∨ j = 5 ∨ j = 6 ∨ j = 7 ∨ j = 8 by omega) with rfl | rfl | rfl | rfl | rfl | rfl | rfl | rfl | rfl <;> rfl) (le_b rfl) (le_b rfl) dX11_planned_14 rfl (fun q_14 hq_14 => ?_)
    have hn_q_14 := RepM.ne hR hq_14
    refine WP.rm (RepM.new hR hq_14 _) (fun hR_q_14 => ?_)
    refine s_dup hC dX11_planned_17 rfl rfl ?_
    refine s_callIN hC (ct_X10_init l g _ _ _ _ _ _ _ _ _ _ (wup_s _ _ _)) ce_X10_init tw_1634 rfl rfl ⟨⟨le_b rfl, le_b rfl⟩, le_b rfl, le_b rfl⟩ (le_b rfl) dX11_planned_18 rfl (dvk0 ?_) nokx
    rw [wup_wup]
    have hR_18 : RepM g ad y σ (wup ω q_14 (.inr (15, [.int 0, .int 0, .int 0, .int 0, .int 0, .int 0, .int (-1), .int 0, .int 0]))) := RepM.new hR hq_14 _
    refine s_goto hC (tgt := 39) dX11_planned_21 (by decide) ?_
    refine s_astore hC (L' := [(4, _), (3, _), (0, _), (1, _), (2, _)]) dX11_planned_39 rfl (le_b rfl) rfl ?_
    refine s_iconst hC (v := 4) dX11_planned_41 rfl (by decide) ?_
    refine s_newa hC 4 (at0 := .long) (ty := .long) (N' := 4) (a0 := (4, .inr (.inl (fun _ => 0)))) rfl rfl tw_1704 (fun _ => rfl) (by decide) (by decide) (by decide) (le_b rfl) (le_b rfl) dX11_planned_42 rfl (fun q_42 hq_42 => ?_)
    have hn_q_42 := RepM.ne hR_18 hq_42
    refine WP.rm (RepM.new hR_18 hq_42 _) (fun hR_q_42 => ?_)
    refine s_dup hC dX11_planned_44 rfl rfl ?_
    refine s_iconst hC (v := 0) dX11_planned_45 rfl (by decide) ?_
    refine s_aload_n hC dX11_planned_46 rfl rfl 2 rfl ?_
    refine s_getf hC cs_X11 15 tw_1264 (le_b rfl) (RepM.f_main hR_q_42) rfl dX11_planned_47 rfl ?_
    refine s_i2l hC dX11_planned_50 rfl rfl ?_
    refine s_last hC (wup_s _ _ _) (vp_in_nI (by decide : 0 < 4) (by decide)) dX11_planned_51 rfl ?_
    refine WP.rm (RepM.by hR_q_42 hn_q_42 _) (fun hR_51 => ?_)
    refine s_dup hC dX11_planned_52 rfl rfl ?_
    refine s_iconst hC (v := 1) dX11_planned_53 rfl (by decide) ?_
    refine s_aload_n hC dX11_planned_54 rfl rfl 2 rfl ?_
    refine s_getf hC cs_X11 16 tw_1265 (le_b rfl) (RepM.f_main hR_51) rfl dX11_planned_55 rfl ?_
    refine s_i2l hC dX11_planned_58 rfl rfl ?_
    refine s_last hC (wup_s _ _ _) (vp_in_nI (by decide : 1 < 4) (by decide)) dX11_planned_59 rfl ?_
    refine WP.rm (RepM.by hR_51 hn_q_42 _) (fun hR_59 => ?_)
    refine s_dup hC dX11_planned_60 rfl rfl ?_
    refine s_iconst hC (v := 2) dX11_planned_61 rfl (by decide) ?_
    refine s_aload hC dX11_planned_62 rfl 0 rfl ?_
    refine s_getfN hC cs_X10 1 tw_1639 (le_b rfl) ((wup_n (w_ne (wup_s _ _ _) hq_42)).trans ((wup_n (w_ne (wup_s _ _ _) hq_42)).trans ((wup_n (w_ne (wup_s _ _ _) hq_42)).trans (wup_s _ _ _)))) rfl dX11_planned_64 rfl ?_
    refine WP.top (.int σ.oR) (congrArg Value.int hoR.symm) ?_
    refine s_i2l hC dX11_planned_67 rfl rfl ?_
    refine s_last hC (wup_s _ _ _) (vp_in_nI (by decide : 2 < 4) (by decide)) dX11_planned_68 rfl ?_
    refine WP.rm (RepM.by hR_59 hn_q_42 _) (fun hR_68 => ?_)
    refine s_dup hC dX11_planned_69 rfl rfl ?_
    refine s_iconst hC (v := 3) dX11_planned_70 rfl (by decide) ?_
    refine s_aload hC dX11_planned_71 rfl 0 rfl ?_
    refine s_getfN hC cs_X10 2 tw_1640 (le_b rfl) ((wup_n (w_ne (wup_s _ _ _) hq_42)).trans ((wup_n (w_ne (wup_s _ _ _) hq_42)).trans ((wup_n (w_ne (wup_s _ _ _) hq_42)).trans ((wup_n (w_ne (wup_s _ _ _) hq_42)).trans (wup_s _ _ _))))) rfl dX11_planned_73 rfl ?_
    refine WP.top (.int σ.oU) (congrArg Value.int hoU.symm) ?_
    refine s_i2l hC dX11_planned_76 rfl rfl ?_
    refine s_last hC (wup_s _ _ _) (vp_in_nI (by decide : 3 < 4) (by decide)) dX11_planned_77 rfl ?_
    refine WP.rm (RepM.by hR_68 hn_q_42 _) (fun hR_77 => ?_)
    refine WP.of (ω' := wup (wup ω q_14 (.inr (15, [.int 0, .int 0, .int 0, .int 0, .int 0, .int 0, .int (-1), .int 0, .int 0]))) q_42 (.inl (g.2.1 4, 4, .inr (.inl (lsf0 σ))))) (by rw [wup_wup, wup_wup, wup_wup, wup_wup]; rfl) ?_
    have hR_78 : RepM g ad y σ (wup (wup ω q_14 (.inr (15, [.int 0, .int 0, .int 0, .int 0, .int 0, .int 0, .int (-1), .int 0, .int 0]))) q_42 (.inl (g.2.1 4, 4, .inr (.inl (lsf0 σ))))) := RepM.new hR_18 hq_42 _
    have hkk : keepP ω fa (wup (wup ω q_14 (.inr (15, [.int 0, .int 0, .int 0, .int 0, .int 0, .int 0, .int (-1), .int 0, .int 0]))) q_42 (.inl (g.2.1 4, 4, .inr (.inl (lsf0 σ))))) := ((keepP.rf ω fa).new hq_14 _).new hq_42 _
    refine s_astore hC (L' := [(5, _), (4, _), (3, _), (0, _), (1, _), (2, _)]) dX11_planned_78 rfl (le_b rfl) rfl ?_
    refine s_aload_n hC dX11_planned_80 rfl rfl 3 rfl ?_
    refine s_iload_n hC dX11_planned_81 rfl rfl 2 rfl ?_
    refine s_iload_n hC dX11_planned_82 rfl rfl 4 rfl ?_
    refine s_iload_n hC dX11_planned_83 rfl rfl 2 rfl ?_
    refine z_if_ne hC (tgt := 91) dX11_planned_84 rfl (by decide) (fun c_2 => (c_2 (by rw [hz]; rfl)).elim) (fun c_2 => ?_)
    refine s_iconst hC (v := (-1)) dX11_planned_87 rfl (by decide) ?_
    refine s_goto hC (tgt := 96) dX11_planned_88 (by decide) ?_
    refine s_aload hC dX11_planned_96 rfl 0 rfl ?_
    refine s_aload_n hC dX11_planned_98 rfl rfl 5 rfl ?_
    refine s_callV hC (ct_least2 l g _ _ _ _ hR_78 σ.n (by omega) (-1) q_42 (lsf0 σ) (wup_s _ _ _) fa F0 0 hF0 ((wup_n (w_ne ((wup_n (w_ne hfa hq_14)).trans hfa) hq_42)).trans ((wup_n (w_ne hfa hq_14)).trans hfa)) (Ne.symm (w_ne ((wup_n (w_ne hfa hq_14)).trans hfa) hq_42)) hn_fa) ce_X11_least cs_X11 (RepM.f_main hR_78) tw_1699 rfl rfl ⟨⟨le_b rfl, le_b rfl⟩, le_b rfl, le_b rfl⟩ (le_b rfl) dX11_planned_99 rfl (fun r w h9 => ?_) nokx
    obtain ⟨rfl, F8, hF8, hf8, hk8⟩ := h9
    refine s_lret hC hr dX11_planned_102 (le_b rfl) (le_b rfl) ?_
    exact ⟨by rw [lsV, hlt], F8, by rw [lsV, hlt]; exact hF8, hf8, hkk.tr hk8⟩
  · obtain ⟨hoR, hoU⟩ := snd1_s hs1 hz
    have hpr : nI σ.n - 1 = nI (σ.n - 1) := by obtain ⟨n9, hn9⟩ := Nat.exists_eq_succ_of_ne_zero hz; rw [hn9]; exact nI_pred n9
    have hpl : σ.n - 1 < σ.n := pred_lt hz
    have hlt := ltF_s hz
    refine s_iload_n hC dX11_planned_10 rfl rfl 0 rfl ?_
    refine z_if_ne hC (tgt := 24) dX11_planned_11 rfl (by decide) (fun c_3 => ?_) (fun c_3 => (hz ((nI_eq (by omega) (by decide : 0 < 2 ^ 31)).mp c_3)).elim)
    refine s_aload_n hC dX11_planned_24 rfl rfl 1 rfl ?_
    refine s_getf hC cs_X11 8 tw_1257 (le_b rfl) (RepM.f_main hR) rfl dX11_planned_25 rfl ?_
    refine s_iload_n hC dX11_planned_28 rfl rfl 0 rfl ?_
    refine s_iconst hC (v := 1) dX11_planned_29 rfl (by decide) ?_
    refine s_isub hC dX11_planned_30 rfl ?_
    rw [hpr]
    refine s_callF hC (nA := 1) 3 (ct_Jx4a65c_get_915e3 l g _ _ _ _ _ (RepM.f_rings hR) _ _ (RepM.p_ring hR hpl).2.1 (RepM.p_ring hR hpl).2.2.1 _ _ (RepM.p_ring hR hpl).2.2.2.1 hpl (RepM.p_ring hR hpl).2.2.2.2) rfl tw_288 tw_5 tw_286 tw_1610 (by decide +kernel) cs_Jx4a65c (RepM.f_rings hR) tw_1607 rfl rfl ⟨⟨le_b rfl, le_b rfl⟩, le_b rfl, le_b rfl⟩ (le_b rfl) dX11_planned_31 rfl (dvk1 ?_) nokx
    refine s_cast hC cs_X10 tw_1613 (RepM.f_ring hR hpl) dX11_planned_36 rfl ?_
    refine s_astore hC (L' := [(4, _), (3, _), (0, _), (1, _), (2, _)]) dX11_planned_39 rfl (le_b rfl) rfl ?_
    refine s_iconst hC (v := 4) dX11_planned_41 rfl (by decide) ?_
    refine s_newa hC 4 (at0 := .long) (ty := .long) (N' := 4) (a0 := (4, .inr (.inl (fun _ => 0)))) rfl rfl tw_1704 (fun _ => rfl) (by decide) (by decide) (by decide) (le_b rfl) (le_b rfl) dX11_planned_42 rfl (fun q_42 hq_42 => ?_)
    have hn_q_42 := RepM.ne hR hq_42
    refine WP.rm (RepM.new hR hq_42 _) (fun hR_q_42 => ?_)
    refine s_dup hC dX11_planned_44 rfl rfl ?_
    refine s_iconst hC (v := 0) dX11_planned_45 rfl (by decide) ?_
    refine s_aload_n hC dX11_planned_46 rfl rfl 2 rfl ?_
    refine s_getf hC cs_X11 15 tw_1264 (le_b rfl) (RepM.f_main hR_q_42) rfl dX11_planned_47 rfl ?_
    refine s_i2l hC dX11_planned_50 rfl rfl ?_
    refine s_last hC (wup_s _ _ _) (vp_in_nI (by decide : 0 < 4) (by decide)) dX11_planned_51 rfl ?_
    refine WP.rm (RepM.by hR_q_42 hn_q_42 _) (fun hR_51 => ?_)
    refine s_dup hC dX11_planned_52 rfl rfl ?_
    refine s_iconst hC (v := 1) dX11_planned_53 rfl (by decide) ?_
    refine s_aload_n hC dX11_planned_54 rfl rfl 2 rfl ?_
    refine s_getf hC cs_X11 16 tw_1265 (le_b rfl) (RepM.f_main hR_51) rfl dX11_planned_55 rfl ?_
    refine s_i2l hC dX11_planned_58 rfl rfl ?_
    refine s_last hC (wup_s _ _ _) (vp_in_nI (by decide : 1 < 4) (by decide)) dX11_planned_59 rfl ?_
    refine WP.rm (RepM.by hR_51 hn_q_42 _) (fun hR_59 => ?_)
    refine s_dup hC dX11_planned_60 rfl rfl ?_
    refine s_iconst hC (v := 2) dX11_planned_61 rfl (by decide) ?_
    refine s_aload hC dX11_planned_62 rfl 0 rfl ?_
    refine s_getfN hC cs_X10 1 tw_1639 (le_b rfl) (RepM.f_ring hR_59 hpl) rfl dX11_planned_64 rfl ?_
    refine WP.top (.int σ.oR) (congrArg Value.int hoR.symm) ?_
    refine s_i2l hC dX11_planned_67 rfl rfl ?_
    refine s_last hC (wup_s _ _ _) (vp_in_nI (by decide : 2 < 4) (by decide)) dX11_planned_68 rfl ?_
    refine WP.rm (RepM.by hR_59 hn_q_42 _) (fun hR_68 => ?_)
    refine s_dup hC dX11_planned_69 rfl rfl ?_
    refine s_iconst hC (v := 3) dX11_planned_70 rfl (by decide) ?_
    refine s_aload hC dX11_planned_71 rfl 0 rfl ?_
    refine s_getfN hC cs_X10 2 tw_1640 (le_b rfl) (RepM.f_ring hR_68 hpl) rfl dX11_planned_73 rfl ?_
    refine WP.top (.int σ.oU) (congrArg Value.int hoU.symm) ?_
    refine s_i2l hC dX11_planned_76 rfl rfl ?_
    refine s_last hC (wup_s _ _ _) (vp_in_nI (by decide : 3 < 4) (by decide)) dX11_planned_77 rfl ?_
    refine WP.rm (RepM.by hR_68 hn_q_42 _) (fun hR_77 => ?_)
    refine WP.of (ω' := wup (ω) q_42 (.inl (g.2.1 4, 4, .inr (.inl (lsf0 σ))))) (by rw [wup_wup, wup_wup, wup_wup, wup_wup]; rfl) ?_
    have hR_78 : RepM g ad y σ (wup (ω) q_42 (.inl (g.2.1 4, 4, .inr (.inl (lsf0 σ))))) := RepM.new hR hq_42 _
    have hkk : keepP ω fa (wup (ω) q_42 (.inl (g.2.1 4, 4, .inr (.inl (lsf0 σ))))) := (keepP.rf ω fa).new hq_42 _
    refine s_astore hC (L' := [(5, _), (4, _), (3, _), (0, _), (1, _), (2, _)]) dX11_planned_78 rfl (le_b rfl) rfl ?_
    refine s_aload_n hC dX11_planned_80 rfl rfl 3 rfl ?_
    refine s_iload_n hC dX11_planned_81 rfl rfl 2 rfl ?_
    refine s_iload_n hC dX11_planned_82 rfl rfl 4 rfl ?_
    refine s_iload_n hC dX11_planned_83 rfl rfl 2 rfl ?_
    refine z_if_ne hC (tgt := 91) dX11_planned_84 rfl (by decide) (fun c_4 => ?_) (fun c_4 => (hz ((nI_eq (by omega) (by decide : 0 < 2 ^ 31)).mp c_4)).elim)
    refine s_aload hC dX11_planned_91 rfl 1 rfl ?_
    refine s_getfN hC cs_X10 0 tw_1638 (le_b rfl) (RepM.f_ring hR_78 hpl) rfl dX11_planned_93 rfl ?_
    refine s_aload hC dX11_planned_96 rfl 0 rfl ?_
    refine s_aload_n hC dX11_planned_98 rfl rfl 5 rfl ?_
    refine s_callV hC (ct_least2 l g _ _ _ _ hR_78 σ.n (by omega) (σ.ring (σ.n - 1)).turn q_42 (lsf0 σ) (wup_s _ _ _) fa F0 0 hF0 ((wup_n (w_ne hfa hq_42)).trans hfa) (Ne.symm (w_ne hfa hq_42)) hn_fa) ce_X11_least cs_X11 (RepM.f_main hR_78) tw_1699 rfl rfl ⟨⟨le_b rfl, le_b rfl⟩, le_b rfl, le_b rfl⟩ (le_b rfl) dX11_planned_99 rfl (fun r w h9 => ?_) nokx
    obtain ⟨rfl, F8, hF8, hf8, hk8⟩ := h9
    refine s_lret hC hr dX11_planned_102 (le_b rfl) (le_b rfl) ?_
    exact ⟨by rw [lsV, hlt], F8, by rw [lsV, hlt]; exact hF8, hf8, hkk.tr hk8⟩
set_option maxHeartbeats 4000000 in
set_option maxRecDepth 100000 in
theorem ct_planned3 (l : Launch) (g : Gl) (ω : Wd) (ad : Iy → Nat) (y : Ey) (σ : St) (hR : RepM g ad y σ ω) (hn : nOK σ) (hs1 : snd1 σ) (fa : Nat) (F0 : Nat → Int32) (hF0 : F0 0 = 0) (hfa : ω fa = some (.inl (g.2.1 0, 1, .inl F0))) (hn_fa : ∀ k, VM y σ k → ad k ≠ fa) : CT l g yX11_planned cX11_planned 6 (some .long) 4 140 658 2421 [.ref (ad .main), .int 3, .ref fa] ω (fun r w => r = some (.long (lsV σ 3).1) ∧ ∃ F, F 0 = (lsV σ 3).2 ∧ w fa = some (.inl (g.2.1 0, 1, .inl F)) ∧ keepP ω fa w) (nox) := by
  have hn120 : σ.n ≤ 120 := hn
  refine CT.of (own := "BoringheadModel") rfl rfl (le_b rfl) rfl ?_
  intro p e s m args below meth c sz0 hC hr htab hin
  refine s_aload_n hC dX11_planned_0 rfl rfl 0 rfl ?_
  refine s_getf hC cs_X11 8 tw_1257 (le_b rfl) (RepM.f_main hR) rfl dX11_planned_1 rfl ?_
  refine s_callF hC (nA := 0) 0 (ct_Jx4a65c_size_8abf5 l g _ _ _ _ _ (RepM.f_rings hR)) rfl tw_276 tw_5 tw_274 tw_1431 (by decide +kernel) cs_Jx4a65c (RepM.f_rings hR) tw_1427 rfl rfl ⟨⟨le_b rfl, le_b rfl⟩, le_b rfl, le_b rfl⟩ (le_b rfl) dX11_planned_4 rfl (dvk1 ?_) nokx
  refine s_istore_n hC (L' := [(3, _), (0, _), (1, _), (2, _)]) dX11_planned_9 rfl rfl (le_b rfl) rfl ?_
  by_cases hz : σ.n = 0
  · obtain ⟨hoR, hoU⟩ := snd1_0 hs1 hz
    have hlt : ltF σ = -1 := by rw [ltF, if_pos hz]
    refine s_iload_n hC dX11_planned_10 rfl rfl 0 rfl ?_
    refine z_if_ne hC (tgt := 24) dX11_planned_11 rfl (by decide) (fun c_1 => (c_1 (by rw [hz]; rfl)).elim) (fun c_1 => ?_)
    refine s_new hC cs_X10 (fs := [.int 0, .int 0, .int 0, .int 0, .int 0, .int 0, .int 0, .int 0, .int 0]) tw_1613 tw_1633 tw_33 (fun j hj => by rcases (show j = 0 ∨ j = 1 ∨ j = 2 ∨ j = 3 ∨ j = 4 ∨ j = 5 ∨ j = 6 ∨ j = 7 ∨ j = 8 by omega) with rfl | rfl | rfl | rfl | rfl | rfl | rfl | rfl | rfl <;> rfl) (le_b rfl) (le_b rfl) dX11_planned_14 rfl (fun q_14 hq_14 => ?_)
    have hn_q_14 := RepM.ne hR hq_14
    refine WP.rm (RepM.new hR hq_14 _) (fun hR_q_14 => ?_)
    refine s_dup hC dX11_planned_17 rfl rfl ?_
    refine s_callIN hC (ct_X10_init l g _ _ _ _ _ _ _ _ _ _ (wup_s _ _ _)) ce_X10_init tw_1634 rfl rfl ⟨⟨le_b rfl, le_b rfl⟩, le_b rfl, le_b rfl⟩ (le_b rfl) dX11_planned_18 rfl (dvk0 ?_) nokx
    rw [wup_wup]
    have hR_18 : RepM g ad y σ (wup ω q_14 (.inr (15, [.int 0, .int 0, .int 0, .int 0, .int 0, .int 0, .int (-1), .int 0, .int 0]))) := RepM.new hR hq_14 _
    refine s_goto hC (tgt := 39) dX11_planned_21 (by decide) ?_
    refine s_astore hC (L' := [(4, _), (3, _), (0, _), (1, _), (2, _)]) dX11_planned_39 rfl (le_b rfl) rfl ?_
    refine s_iconst hC (v := 4) dX11_planned_41 rfl (by decide) ?_
    refine s_newa hC 4 (at0 := .long) (ty := .long) (N' := 4) (a0 := (4, .inr (.inl (fun _ => 0)))) rfl rfl tw_1704 (fun _ => rfl) (by decide) (by decide) (by decide) (le_b rfl) (le_b rfl) dX11_planned_42 rfl (fun q_42 hq_42 => ?_)
    have hn_q_42 := RepM.ne hR_18 hq_42
    refine WP.rm (RepM.new hR_18 hq_42 _) (fun hR_q_42 => ?_)
    refine s_dup hC dX11_planned_44 rfl rfl ?_
    refine s_iconst hC (v := 0) dX11_planned_45 rfl (by decide) ?_
    refine s_aload_n hC dX11_planned_46 rfl rfl 2 rfl ?_
    refine s_getf hC cs_X11 15 tw_1264 (le_b rfl) (RepM.f_main hR_q_42) rfl dX11_planned_47 rfl ?_
    refine s_i2l hC dX11_planned_50 rfl rfl ?_
    refine s_last hC (wup_s _ _ _) (vp_in_nI (by decide : 0 < 4) (by decide)) dX11_planned_51 rfl ?_
    refine WP.rm (RepM.by hR_q_42 hn_q_42 _) (fun hR_51 => ?_)
    refine s_dup hC dX11_planned_52 rfl rfl ?_
    refine s_iconst hC (v := 1) dX11_planned_53 rfl (by decide) ?_
    refine s_aload_n hC dX11_planned_54 rfl rfl 2 rfl ?_
    refine s_getf hC cs_X11 16 tw_1265 (le_b rfl) (RepM.f_main hR_51) rfl dX11_planned_55 rfl ?_
    refine s_i2l hC dX11_planned_58 rfl rfl ?_
    refine s_last hC (wup_s _ _ _) (vp_in_nI (by decide : 1 < 4) (by decide)) dX11_planned_59 rfl ?_
    refine WP.rm (RepM.by hR_51 hn_q_42 _) (fun hR_59 => ?_)
    refine s_dup hC dX11_planned_60 rfl rfl ?_
    refine s_iconst hC (v := 2) dX11_planned_61 rfl (by decide) ?_
    refine s_aload hC dX11_planned_62 rfl 0 rfl ?_
    refine s_getfN hC cs_X10 1 tw_1639 (le_b rfl) ((wup_n (w_ne (wup_s _ _ _) hq_42)).trans ((wup_n (w_ne (wup_s _ _ _) hq_42)).trans ((wup_n (w_ne (wup_s _ _ _) hq_42)).trans (wup_s _ _ _)))) rfl dX11_planned_64 rfl ?_
    refine WP.top (.int σ.oR) (congrArg Value.int hoR.symm) ?_
    refine s_i2l hC dX11_planned_67 rfl rfl ?_
    refine s_last hC (wup_s _ _ _) (vp_in_nI (by decide : 2 < 4) (by decide)) dX11_planned_68 rfl ?_
    refine WP.rm (RepM.by hR_59 hn_q_42 _) (fun hR_68 => ?_)
    refine s_dup hC dX11_planned_69 rfl rfl ?_
    refine s_iconst hC (v := 3) dX11_planned_70 rfl (by decide) ?_
    refine s_aload hC dX11_planned_71 rfl 0 rfl ?_
    refine s_getfN hC cs_X10 2 tw_1640 (le_b rfl) ((wup_n (w_ne (wup_s _ _ _) hq_42)).trans ((wup_n (w_ne (wup_s _ _ _) hq_42)).trans ((wup_n (w_ne (wup_s _ _ _) hq_42)).trans ((wup_n (w_ne (wup_s _ _ _) hq_42)).trans (wup_s _ _ _))))) rfl dX11_planned_73 rfl ?_
    refine WP.top (.int σ.oU) (congrArg Value.int hoU.symm) ?_
    refine s_i2l hC dX11_planned_76 rfl rfl ?_
    refine s_last hC (wup_s _ _ _) (vp_in_nI (by decide : 3 < 4) (by decide)) dX11_planned_77 rfl ?_
    refine WP.rm (RepM.by hR_68 hn_q_42 _) (fun hR_77 => ?_)
    refine WP.of (ω' := wup (wup ω q_14 (.inr (15, [.int 0, .int 0, .int 0, .int 0, .int 0, .int 0, .int (-1), .int 0, .int 0]))) q_42 (.inl (g.2.1 4, 4, .inr (.inl (lsf0 σ))))) (by rw [wup_wup, wup_wup, wup_wup, wup_wup]; rfl) ?_
    have hR_78 : RepM g ad y σ (wup (wup ω q_14 (.inr (15, [.int 0, .int 0, .int 0, .int 0, .int 0, .int 0, .int (-1), .int 0, .int 0]))) q_42 (.inl (g.2.1 4, 4, .inr (.inl (lsf0 σ))))) := RepM.new hR_18 hq_42 _
    have hkk : keepP ω fa (wup (wup ω q_14 (.inr (15, [.int 0, .int 0, .int 0, .int 0, .int 0, .int 0, .int (-1), .int 0, .int 0]))) q_42 (.inl (g.2.1 4, 4, .inr (.inl (lsf0 σ))))) := ((keepP.rf ω fa).new hq_14 _).new hq_42 _
    refine s_astore hC (L' := [(5, _), (4, _), (3, _), (0, _), (1, _), (2, _)]) dX11_planned_78 rfl (le_b rfl) rfl ?_
    refine s_aload_n hC dX11_planned_80 rfl rfl 3 rfl ?_
    refine s_iload_n hC dX11_planned_81 rfl rfl 2 rfl ?_
    refine s_iload_n hC dX11_planned_82 rfl rfl 4 rfl ?_
    refine s_iload_n hC dX11_planned_83 rfl rfl 2 rfl ?_
    refine z_if_ne hC (tgt := 91) dX11_planned_84 rfl (by decide) (fun c_2 => (c_2 (by rw [hz]; rfl)).elim) (fun c_2 => ?_)
    refine s_iconst hC (v := (-1)) dX11_planned_87 rfl (by decide) ?_
    refine s_goto hC (tgt := 96) dX11_planned_88 (by decide) ?_
    refine s_aload hC dX11_planned_96 rfl 0 rfl ?_
    refine s_aload_n hC dX11_planned_98 rfl rfl 5 rfl ?_
    refine s_callV hC (ct_least3 l g _ _ _ _ hR_78 σ.n (by omega) (-1) q_42 (lsf0 σ) (wup_s _ _ _) fa F0 0 hF0 ((wup_n (w_ne ((wup_n (w_ne hfa hq_14)).trans hfa) hq_42)).trans ((wup_n (w_ne hfa hq_14)).trans hfa)) (Ne.symm (w_ne ((wup_n (w_ne hfa hq_14)).trans hfa) hq_42)) hn_fa) ce_X11_least cs_X11 (RepM.f_main hR_78) tw_1699 rfl rfl ⟨⟨le_b rfl, le_b rfl⟩, le_b rfl, le_b rfl⟩ (le_b rfl) dX11_planned_99 rfl (fun r w h9 => ?_) nokx
    obtain ⟨rfl, F8, hF8, hf8, hk8⟩ := h9
    refine s_lret hC hr dX11_planned_102 (le_b rfl) (le_b rfl) ?_
    exact ⟨by rw [lsV, hlt], F8, by rw [lsV, hlt]; exact hF8, hf8, hkk.tr hk8⟩
  · obtain ⟨hoR, hoU⟩ := snd1_s hs1 hz
    have hpr : nI σ.n - 1 = nI (σ.n - 1) := by obtain ⟨n9, hn9⟩ := Nat.exists_eq_succ_of_ne_zero hz; rw [hn9]; exact nI_pred n9
    have hpl : σ.n - 1 < σ.n := pred_lt hz
    have hlt := ltF_s hz
    refine s_iload_n hC dX11_planned_10 rfl rfl 0 rfl ?_
    refine z_if_ne hC (tgt := 24) dX11_planned_11 rfl (by decide) (fun c_3 => ?_) (fun c_3 => (hz ((nI_eq (by omega) (by decide : 0 < 2 ^ 31)).mp c_3)).elim)
    refine s_aload_n hC dX11_planned_24 rfl rfl 1 rfl ?_
    refine s_getf hC cs_X11 8 tw_1257 (le_b rfl) (RepM.f_main hR) rfl dX11_planned_25 rfl ?_
    refine s_iload_n hC dX11_planned_28 rfl rfl 0 rfl ?_
    refine s_iconst hC (v := 1) dX11_planned_29 rfl (by decide) ?_
    refine s_isub hC dX11_planned_30 rfl ?_
    rw [hpr]
    refine s_callF hC (nA := 1) 3 (ct_Jx4a65c_get_915e3 l g _ _ _ _ _ (RepM.f_rings hR) _ _ (RepM.p_ring hR hpl).2.1 (RepM.p_ring hR hpl).2.2.1 _ _ (RepM.p_ring hR hpl).2.2.2.1 hpl (RepM.p_ring hR hpl).2.2.2.2) rfl tw_288 tw_5 tw_286 tw_1610 (by decide +kernel) cs_Jx4a65c (RepM.f_rings hR) tw_1607 rfl rfl ⟨⟨le_b rfl, le_b rfl⟩, le_b rfl, le_b rfl⟩ (le_b rfl) dX11_planned_31 rfl (dvk1 ?_) nokx
    refine s_cast hC cs_X10 tw_1613 (RepM.f_ring hR hpl) dX11_planned_36 rfl ?_
    refine s_astore hC (L' := [(4, _), (3, _), (0, _), (1, _), (2, _)]) dX11_planned_39 rfl (le_b rfl) rfl ?_
    refine s_iconst hC (v := 4) dX11_planned_41 rfl (by decide) ?_
    refine s_newa hC 4 (at0 := .long) (ty := .long) (N' := 4) (a0 := (4, .inr (.inl (fun _ => 0)))) rfl rfl tw_1704 (fun _ => rfl) (by decide) (by decide) (by decide) (le_b rfl) (le_b rfl) dX11_planned_42 rfl (fun q_42 hq_42 => ?_)
    have hn_q_42 := RepM.ne hR hq_42
    refine WP.rm (RepM.new hR hq_42 _) (fun hR_q_42 => ?_)
    refine s_dup hC dX11_planned_44 rfl rfl ?_
    refine s_iconst hC (v := 0) dX11_planned_45 rfl (by decide) ?_
    refine s_aload_n hC dX11_planned_46 rfl rfl 2 rfl ?_
    refine s_getf hC cs_X11 15 tw_1264 (le_b rfl) (RepM.f_main hR_q_42) rfl dX11_planned_47 rfl ?_
    refine s_i2l hC dX11_planned_50 rfl rfl ?_
    refine s_last hC (wup_s _ _ _) (vp_in_nI (by decide : 0 < 4) (by decide)) dX11_planned_51 rfl ?_
    refine WP.rm (RepM.by hR_q_42 hn_q_42 _) (fun hR_51 => ?_)
    refine s_dup hC dX11_planned_52 rfl rfl ?_
    refine s_iconst hC (v := 1) dX11_planned_53 rfl (by decide) ?_
    refine s_aload_n hC dX11_planned_54 rfl rfl 2 rfl ?_
    refine s_getf hC cs_X11 16 tw_1265 (le_b rfl) (RepM.f_main hR_51) rfl dX11_planned_55 rfl ?_
    refine s_i2l hC dX11_planned_58 rfl rfl ?_
    refine s_last hC (wup_s _ _ _) (vp_in_nI (by decide : 1 < 4) (by decide)) dX11_planned_59 rfl ?_
    refine WP.rm (RepM.by hR_51 hn_q_42 _) (fun hR_59 => ?_)
    refine s_dup hC dX11_planned_60 rfl rfl ?_
    refine s_iconst hC (v := 2) dX11_planned_61 rfl (by decide) ?_
    refine s_aload hC dX11_planned_62 rfl 0 rfl ?_
    refine s_getfN hC cs_X10 1 tw_1639 (le_b rfl) (RepM.f_ring hR_59 hpl) rfl dX11_planned_64 rfl ?_
    refine WP.top (.int σ.oR) (congrArg Value.int hoR.symm) ?_
    refine s_i2l hC dX11_planned_67 rfl rfl ?_
    refine s_last hC (wup_s _ _ _) (vp_in_nI (by decide : 2 < 4) (by decide)) dX11_planned_68 rfl ?_
    refine WP.rm (RepM.by hR_59 hn_q_42 _) (fun hR_68 => ?_)
    refine s_dup hC dX11_planned_69 rfl rfl ?_
    refine s_iconst hC (v := 3) dX11_planned_70 rfl (by decide) ?_
    refine s_aload hC dX11_planned_71 rfl 0 rfl ?_
    refine s_getfN hC cs_X10 2 tw_1640 (le_b rfl) (RepM.f_ring hR_68 hpl) rfl dX11_planned_73 rfl ?_
    refine WP.top (.int σ.oU) (congrArg Value.int hoU.symm) ?_
    refine s_i2l hC dX11_planned_76 rfl rfl ?_
    refine s_last hC (wup_s _ _ _) (vp_in_nI (by decide : 3 < 4) (by decide)) dX11_planned_77 rfl ?_
    refine WP.rm (RepM.by hR_68 hn_q_42 _) (fun hR_77 => ?_)
    refine WP.of (ω' := wup (ω) q_42 (.inl (g.2.1 4, 4, .inr (.inl (lsf0 σ))))) (by rw [wup_wup, wup_wup, wup_wup, wup_wup]; rfl) ?_
    have hR_78 : RepM g ad y σ (wup (ω) q_42 (.inl (g.2.1 4, 4, .inr (.inl (lsf0 σ))))) := RepM.new hR hq_42 _
    have hkk : keepP ω fa (wup (ω) q_42 (.inl (g.2.1 4, 4, .inr (.inl (lsf0 σ))))) := (keepP.rf ω fa).new hq_42 _
    refine s_astore hC (L' := [(5, _), (4, _), (3, _), (0, _), (1, _), (2, _)]) dX11_planned_78 rfl (le_b rfl) rfl ?_
    refine s_aload_n hC dX11_planned_80 rfl rfl 3 rfl ?_
    refine s_iload_n hC dX11_planned_81 rfl rfl 2 rfl ?_
    refine s_iload_n hC dX11_planned_82 rfl rfl 4 rfl ?_
    refine s_iload_n hC dX11_planned_83 rfl rfl 2 rfl ?_
    refine z_if_ne hC (tgt := 91) dX11_planned_84 rfl (by decide) (fun c_4 => ?_) (fun c_4 => (hz ((nI_eq (by omega) (by decide : 0 < 2 ^ 31)).mp c_4)).elim)
    refine s_aload hC dX11_planned_91 rfl 1 rfl ?_
    refine s_getfN hC cs_X10 0 tw_1638 (le_b rfl) (RepM.f_ring hR_78 hpl) rfl dX11_planned_93 rfl ?_
    refine s_aload hC dX11_planned_96 rfl 0 rfl ?_
    refine s_aload_n hC dX11_planned_98 rfl rfl 5 rfl ?_
    refine s_callV hC (ct_least3 l g _ _ _ _ hR_78 σ.n (by omega) (σ.ring (σ.n - 1)).turn q_42 (lsf0 σ) (wup_s _ _ _) fa F0 0 hF0 ((wup_n (w_ne hfa hq_42)).trans hfa) (Ne.symm (w_ne hfa hq_42)) hn_fa) ce_X11_least cs_X11 (RepM.f_main hR_78) tw_1699 rfl rfl ⟨⟨le_b rfl, le_b rfl⟩, le_b rfl, le_b rfl⟩ (le_b rfl) dX11_planned_99 rfl (fun r w h9 => ?_) nokx
    obtain ⟨rfl, F8, hF8, hf8, hk8⟩ := h9
    refine s_lret hC hr dX11_planned_102 (le_b rfl) (le_b rfl) ?_
    exact ⟨by rw [lsV, hlt], F8, by rw [lsV, hlt]; exact hF8, hf8, hkk.tr hk8⟩
set_option maxHeartbeats 4000000 in
set_option maxRecDepth 100000 in
theorem ct_X11_plan (l : Launch) (g : Gl) (ω : Wd) (ad : Iy → Nat) (y : Ey) (σ : St) (hR : RepM g ad y σ ω) (r9 : Int32) (hgr : grOK σ y) (hn : nOK σ) (hs1 : snd1 σ) (hpl : plOK σ) : CT l g yX11_plan cX11_plan 3 (some .int) 5 175 659 2422 [.ref (ad .main), .int r9] ω (okM g ad (cd_plan σ r9) Value.int (vl_plan σ r9) σ σ) (nox) := by
  refine CT.of (own := "BoringheadModel") rfl rfl (le_b rfl) rfl ?_
  intro p e s m args below meth c sz0 hC hr htab hin
  refine s_aload_n hC dX11_plan_0 rfl rfl 0 rfl ?_
  refine s_callV hC (ct_X11_begins l g _ _ _ _ hR) ce_X11_begins cs_X11 (RepM.f_main hR) tw_1324 rfl rfl ⟨⟨le_b rfl, le_b rfl⟩, le_b rfl, le_b rfl⟩ (le_b rfl) dX11_plan_1 rfl (dvk0 ?_) nokx
  refine WP.rm (RepM.s_main_0 hR 0) (fun hR_1 => ?_)
  refine s_aload_n hC dX11_plan_4 rfl rfl 0 rfl ?_
  refine s_iload_n hC dX11_plan_5 rfl rfl 1 rfl ?_
  refine s_i2l hC dX11_plan_6 rfl rfl ?_
  refine s_lconst hC (v := 1) dX11_plan_7 rfl (by decide) ?_
  refine s_ldc2 hC tw_1694 dX11_plan_8 rfl ?_
  refine s_callS hC (ct_X11_in l g _ _ _ _) ce_X11_in tw_1419 rfl rfl ⟨⟨le_b rfl, le_b rfl⟩, le_b rfl, le_b rfl⟩ (le_b rfl) dX11_plan_11 rfl (dvk1 ?_) nokx
  rw [inJ_inR r9 1 3 (by first | rfl | decide) (by first | rfl | decide)]
  refine z_if_neB hC (tgt := 21) dX11_plan_14 rfl (by decide) (fun c_1 => ?_) (fun c_1 => ?_)
  · refine s_iconst hC (v := 0) dX11_plan_21 rfl (by decide) ?_
    refine s_iconst hC (v := 1) dX11_plan_22 rfl (by decide) ?_
    refine s_callV hC (ct_X11_fails_f l g _ _ _ _ hR_1 (by first | rfl | exact hth) _) ce_X11_fails cs_X11 (RepM.f_main hR_1) tw_1422 rfl rfl ⟨⟨le_b rfl, le_b rfl⟩, le_b rfl, le_b rfl⟩ (le_b rfl) dX11_plan_23 rfl (dvk1 ?_) nokx
    refine z_if_eq hC (tgt := 31) dX11_plan_26 rfl (by decide) (fun c_2 => ?_) (fun c_2 => ((absurd c_2 (by decide) : False)).elim)
    rcases inR13c c_1 with rfl | rfl | rfl
    · refine s_iconst hC (v := 1) dX11_plan_31 rfl (by decide) ?_
      refine s_newa hC 0 (at0 := .int) (ty := .int) (N' := 1) (a0 := (1, .inl (fun _ => 0))) rfl rfl tw_83 (fun _ => rfl) (by decide) (by decide) (by decide) (le_b rfl) (le_b rfl) dX11_plan_32 rfl (fun q_32 hq_32 => ?_)
      have hn_q_32 := RepM.ne hR_1 hq_32
      refine WP.rm (RepM.new hR_1 hq_32 _) (fun hR_q_32 => ?_)
      refine s_astore_n hC (L' := [(2, _), (0, _), (1, _)]) dX11_plan_34 rfl rfl (le_b rfl) rfl ?_
      refine s_aload_n hC dX11_plan_35 rfl rfl 1 rfl ?_
      refine s_iload_n hC dX11_plan_36 rfl rfl 2 rfl ?_
      refine s_aload_n hC dX11_plan_37 rfl rfl 0 rfl ?_
      refine s_callV hC (ct_planned1 l g _ _ _ _ hR_q_32 hn hs1 q_32 (fun _ => 0) rfl (wup_s _ _ _) hn_q_32) ce_X11_planned cs_X11 (RepM.f_main hR_q_32) tw_1695 rfl rfl ⟨⟨le_b rfl, le_b rfl⟩, le_b rfl, le_b rfl⟩ (le_b rfl) dX11_plan_38 rfl (fun r w h9 => ?_) nokx
      obtain ⟨rfl, F8, hF8, hf8, hk8⟩ := h9
      have hR_8 := RepM.keep hR_q_32 hn_q_32 hk8
      obtain ⟨hp0, hp1, hp2⟩ := hpl 1 (by decide) (by decide)
      refine s_lconst hC (v := 0) dX11_plan_41 rfl (by decide) ?_
      refine s_lcmp hC dX11_plan_42 rfl ?_
      refine z_lif_lt hC (tgt := 52) dX11_plan_43 rfl (by decide) (fun c_3 => (c_3 hp0).elim) (fun c_3 => ?_)
      refine s_aload_n hC dX11_plan_46 rfl rfl 0 rfl ?_
      refine s_iconst hC (v := 0) dX11_plan_47 rfl (by decide) ?_
      refine s_ialdK hC (Or.inl hf8) (vp_in_nI (by decide : 0 < 1) (by decide)) dX11_plan_48 rfl ?_
      refine s_goto hC (tgt := 53) dX11_plan_49 (by decide) ?_
      refine s_iret hC hr dX11_plan_53 (le_b rfl) (le_b rfl) ?_
      exact okM_ok (by simp [cd_plan, c_1]) rfl (hF8.trans hp2) hR_8 rfl rfl rfl hgr
    · refine s_iconst hC (v := 1) dX11_plan_31 rfl (by decide) ?_
      refine s_newa hC 0 (at0 := .int) (ty := .int) (N' := 1) (a0 := (1, .inl (fun _ => 0))) rfl rfl tw_83 (fun _ => rfl) (by decide) (by decide) (by decide) (le_b rfl) (le_b rfl) dX11_plan_32 rfl (fun q_32 hq_32 => ?_)
      have hn_q_32 := RepM.ne hR_1 hq_32
      refine WP.rm (RepM.new hR_1 hq_32 _) (fun hR_q_32 => ?_)
      refine s_astore_n hC (L' := [(2, _), (0, _), (1, _)]) dX11_plan_34 rfl rfl (le_b rfl) rfl ?_
      refine s_aload_n hC dX11_plan_35 rfl rfl 1 rfl ?_
      refine s_iload_n hC dX11_plan_36 rfl rfl 2 rfl ?_
      refine s_aload_n hC dX11_plan_37 rfl rfl 0 rfl ?_
      refine s_callV hC (ct_planned2 l g _ _ _ _ hR_q_32 hn hs1 q_32 (fun _ => 0) rfl (wup_s _ _ _) hn_q_32) ce_X11_planned cs_X11 (RepM.f_main hR_q_32) tw_1695 rfl rfl ⟨⟨le_b rfl, le_b rfl⟩, le_b rfl, le_b rfl⟩ (le_b rfl) dX11_plan_38 rfl (fun r w h9 => ?_) nokx
      obtain ⟨rfl, F8, hF8, hf8, hk8⟩ := h9
      have hR_8 := RepM.keep hR_q_32 hn_q_32 hk8
      obtain ⟨hp0, hp1, hp2⟩ := hpl 2 (by decide) (by decide)
      refine s_lconst hC (v := 0) dX11_plan_41 rfl (by decide) ?_
      refine s_lcmp hC dX11_plan_42 rfl ?_
      refine z_lif_lt hC (tgt := 52) dX11_plan_43 rfl (by decide) (fun c_4 => (c_4 hp0).elim) (fun c_4 => ?_)
      refine s_aload_n hC dX11_plan_46 rfl rfl 0 rfl ?_
      refine s_iconst hC (v := 0) dX11_plan_47 rfl (by decide) ?_
      refine s_ialdK hC (Or.inl hf8) (vp_in_nI (by decide : 0 < 1) (by decide)) dX11_plan_48 rfl ?_
      refine s_goto hC (tgt := 53) dX11_plan_49 (by decide) ?_
      refine s_iret hC hr dX11_plan_53 (le_b rfl) (le_b rfl) ?_
      exact okM_ok (by simp [cd_plan, c_1]) rfl (hF8.trans hp2) hR_8 rfl rfl rfl hgr
    · refine s_iconst hC (v := 1) dX11_plan_31 rfl (by decide) ?_
      refine s_newa hC 0 (at0 := .int) (ty := .int) (N' := 1) (a0 := (1, .inl (fun _ => 0))) rfl rfl tw_83 (fun _ => rfl) (by decide) (by decide) (by decide) (le_b rfl) (le_b rfl) dX11_plan_32 rfl (fun q_32 hq_32 => ?_)
      have hn_q_32 := RepM.ne hR_1 hq_32
      refine WP.rm (RepM.new hR_1 hq_32 _) (fun hR_q_32 => ?_)
      refine s_astore_n hC (L' := [(2, _), (0, _), (1, _)]) dX11_plan_34 rfl rfl (le_b rfl) rfl ?_
      refine s_aload_n hC dX11_plan_35 rfl rfl 1 rfl ?_
      refine s_iload_n hC dX11_plan_36 rfl rfl 2 rfl ?_
      refine s_aload_n hC dX11_plan_37 rfl rfl 0 rfl ?_
      refine s_callV hC (ct_planned3 l g _ _ _ _ hR_q_32 hn hs1 q_32 (fun _ => 0) rfl (wup_s _ _ _) hn_q_32) ce_X11_planned cs_X11 (RepM.f_main hR_q_32) tw_1695 rfl rfl ⟨⟨le_b rfl, le_b rfl⟩, le_b rfl, le_b rfl⟩ (le_b rfl) dX11_plan_38 rfl (fun r w h9 => ?_) nokx
      obtain ⟨rfl, F8, hF8, hf8, hk8⟩ := h9
      have hR_8 := RepM.keep hR_q_32 hn_q_32 hk8
      obtain ⟨hp0, hp1, hp2⟩ := hpl 3 (by decide) (by decide)
      refine s_lconst hC (v := 0) dX11_plan_41 rfl (by decide) ?_
      refine s_lcmp hC dX11_plan_42 rfl ?_
      refine z_lif_lt hC (tgt := 52) dX11_plan_43 rfl (by decide) (fun c_5 => (c_5 hp0).elim) (fun c_5 => ?_)
      refine s_aload_n hC dX11_plan_46 rfl rfl 0 rfl ?_
      refine s_iconst hC (v := 0) dX11_plan_47 rfl (by decide) ?_
      refine s_ialdK hC (Or.inl hf8) (vp_in_nI (by decide : 0 < 1) (by decide)) dX11_plan_48 rfl ?_
      refine s_goto hC (tgt := 53) dX11_plan_49 (by decide) ?_
      refine s_iret hC hr dX11_plan_53 (le_b rfl) (le_b rfl) ?_
      exact okM_ok (by simp [cd_plan, c_1]) rfl (hF8.trans hp2) hR_8 rfl rfl rfl hgr
  · refine s_iconst hC (v := 1) dX11_plan_17 rfl (by decide) ?_
    refine s_goto hC (tgt := 22) dX11_plan_18 (by decide) ?_
    refine s_iconst hC (v := 1) dX11_plan_22 rfl (by decide) ?_
    refine s_callV hC (ct_X11_fails_t l g _ _ _ _ hR_1 (by first | rfl | exact hth) _ (by decide)) ce_X11_fails cs_X11 (RepM.f_main hR_1) tw_1422 rfl rfl ⟨⟨le_b rfl, le_b rfl⟩, le_b rfl, le_b rfl⟩ (le_b rfl) dX11_plan_23 rfl (dvk1 ?_) nokx
    refine WP.rm (RepM.s_main_0 hR_1 _) (fun hR_23 => ?_)
    refine z_if_eq hC (tgt := 31) dX11_plan_26 rfl (by decide) (fun c_6 => ((absurd c_6 (by decide) : False)).elim) (fun c_6 => ?_)
    refine s_iconst hC (v := (-1)) dX11_plan_29 rfl (by decide) ?_
    refine s_iret hC hr dX11_plan_30 (le_b rfl) (le_b rfl) ?_
    exact okM_no 1 (by simp [cd_plan, c_1]) (by decide) (by rfl) hR_23 rfl rfl hgr
set_option maxHeartbeats 4000000 in
set_option maxRecDepth 100000 in
theorem ct_X11_squares (l : Launch) (g : Gl) (ω : Wd) (ad : Iy → Nat) (y : Ey) (σ : St) (hR : RepM g ad y σ ω) (r9 : Int32) (hgr : grOK σ y) (hn : nOK σ) (hs1 : snd1 σ) (hpl : plOK σ) : CT l g yX11_squares cX11_squares 2 (some .long) 5 175 659 2422 [.ref (ad .main), .int r9] ω (okM g ad (cd_squares σ r9) Value.long (vl_squares σ r9) σ σ) (nox) := by
  refine CT.of (own := "BoringheadModel") rfl rfl (le_b rfl) rfl ?_
  intro p e s m args below meth c sz0 hC hr htab hin
  refine s_aload_n hC dX11_squares_0 rfl rfl 0 rfl ?_
  refine s_callV hC (ct_X11_begins l g _ _ _ _ hR) ce_X11_begins cs_X11 (RepM.f_main hR) tw_1324 rfl rfl ⟨⟨le_b rfl, le_b rfl⟩, le_b rfl, le_b rfl⟩ (le_b rfl) dX11_squares_1 rfl (dvk0 ?_) nokx
  refine WP.rm (RepM.s_main_0 hR 0) (fun hR_1 => ?_)
  refine s_aload_n hC dX11_squares_4 rfl rfl 0 rfl ?_
  refine s_iload_n hC dX11_squares_5 rfl rfl 1 rfl ?_
  refine s_i2l hC dX11_squares_6 rfl rfl ?_
  refine s_lconst hC (v := 1) dX11_squares_7 rfl (by decide) ?_
  refine s_ldc2 hC tw_1694 dX11_squares_8 rfl ?_
  refine s_callS hC (ct_X11_in l g _ _ _ _) ce_X11_in tw_1419 rfl rfl ⟨⟨le_b rfl, le_b rfl⟩, le_b rfl, le_b rfl⟩ (le_b rfl) dX11_squares_11 rfl (dvk1 ?_) nokx
  rw [inJ_inR r9 1 3 (by first | rfl | decide) (by first | rfl | decide)]
  refine z_if_neB hC (tgt := 21) dX11_squares_14 rfl (by decide) (fun c_1 => ?_) (fun c_1 => ?_)
  · refine s_iconst hC (v := 0) dX11_squares_21 rfl (by decide) ?_
    refine s_iconst hC (v := 1) dX11_squares_22 rfl (by decide) ?_
    refine s_callV hC (ct_X11_fails_f l g _ _ _ _ hR_1 (by first | rfl | exact hth) _) ce_X11_fails cs_X11 (RepM.f_main hR_1) tw_1422 rfl rfl ⟨⟨le_b rfl, le_b rfl⟩, le_b rfl, le_b rfl⟩ (le_b rfl) dX11_squares_23 rfl (dvk1 ?_) nokx
    refine z_if_eq hC (tgt := 35) dX11_squares_26 rfl (by decide) (fun c_2 => ?_) (fun c_2 => ((absurd c_2 (by decide) : False)).elim)
    rcases inR13c c_1 with rfl | rfl | rfl
    · refine s_aload_n hC dX11_squares_35 rfl rfl 0 rfl ?_
      refine s_iload_n hC dX11_squares_36 rfl rfl 1 rfl ?_
      refine s_iconst hC (v := 1) dX11_squares_37 rfl (by decide) ?_
      refine s_newa hC 0 (at0 := .int) (ty := .int) (N' := 1) (a0 := (1, .inl (fun _ => 0))) rfl rfl tw_83 (fun _ => rfl) (by decide) (by decide) (by decide) (le_b rfl) (le_b rfl) dX11_squares_38 rfl (fun q_38 hq_38 => ?_)
      have hn_q_38 := RepM.ne hR_1 hq_38
      refine WP.rm (RepM.new hR_1 hq_38 _) (fun hR_q_38 => ?_)
      refine s_callV hC (ct_planned1 l g _ _ _ _ hR_q_38 hn hs1 q_38 (fun _ => 0) rfl (wup_s _ _ _) hn_q_38) ce_X11_planned cs_X11 (RepM.f_main hR_q_38) tw_1695 rfl rfl ⟨⟨le_b rfl, le_b rfl⟩, le_b rfl, le_b rfl⟩ (le_b rfl) dX11_squares_40 rfl (fun r w h9 => ?_) nokx
      obtain ⟨rfl, F8, hF8, hf8, hk8⟩ := h9
      have hR_8 := RepM.keep hR_q_38 hn_q_38 hk8
      obtain ⟨hp0, hp1, hp2⟩ := hpl 1 (by decide) (by decide)
      refine s_lret hC hr dX11_squares_43 (le_b rfl) (le_b rfl) ?_
      first
        | exact okM_no 1 (by simp [cd_squares, c_1]) (by decide) (by rfl) hR_8 rfl rfl hgr
        | exact okM_ok (by simp [cd_squares, c_1]) rfl hp1 hR_8 rfl rfl rfl hgr
    · refine s_aload_n hC dX11_squares_35 rfl rfl 0 rfl ?_
      refine s_iload_n hC dX11_squares_36 rfl rfl 1 rfl ?_
      refine s_iconst hC (v := 1) dX11_squares_37 rfl (by decide) ?_
      refine s_newa hC 0 (at0 := .int) (ty := .int) (N' := 1) (a0 := (1, .inl (fun _ => 0))) rfl rfl tw_83 (fun _ => rfl) (by decide) (by decide) (by decide) (le_b rfl) (le_b rfl) dX11_squares_38 rfl (fun q_38 hq_38 => ?_)
      have hn_q_38 := RepM.ne hR_1 hq_38
      refine WP.rm (RepM.new hR_1 hq_38 _) (fun hR_q_38 => ?_)
      refine s_callV hC (ct_planned2 l g _ _ _ _ hR_q_38 hn hs1 q_38 (fun _ => 0) rfl (wup_s _ _ _) hn_q_38) ce_X11_planned cs_X11 (RepM.f_main hR_q_38) tw_1695 rfl rfl ⟨⟨le_b rfl, le_b rfl⟩, le_b rfl, le_b rfl⟩ (le_b rfl) dX11_squares_40 rfl (fun r w h9 => ?_) nokx
      obtain ⟨rfl, F8, hF8, hf8, hk8⟩ := h9
      have hR_8 := RepM.keep hR_q_38 hn_q_38 hk8
      obtain ⟨hp0, hp1, hp2⟩ := hpl 2 (by decide) (by decide)
      refine s_lret hC hr dX11_squares_43 (le_b rfl) (le_b rfl) ?_
      first
        | exact okM_no 1 (by simp [cd_squares, c_1]) (by decide) (by rfl) hR_8 rfl rfl hgr
        | exact okM_ok (by simp [cd_squares, c_1]) rfl hp1 hR_8 rfl rfl rfl hgr
    · refine s_aload_n hC dX11_squares_35 rfl rfl 0 rfl ?_
      refine s_iload_n hC dX11_squares_36 rfl rfl 1 rfl ?_
      refine s_iconst hC (v := 1) dX11_squares_37 rfl (by decide) ?_
      refine s_newa hC 0 (at0 := .int) (ty := .int) (N' := 1) (a0 := (1, .inl (fun _ => 0))) rfl rfl tw_83 (fun _ => rfl) (by decide) (by decide) (by decide) (le_b rfl) (le_b rfl) dX11_squares_38 rfl (fun q_38 hq_38 => ?_)
      have hn_q_38 := RepM.ne hR_1 hq_38
      refine WP.rm (RepM.new hR_1 hq_38 _) (fun hR_q_38 => ?_)
      refine s_callV hC (ct_planned3 l g _ _ _ _ hR_q_38 hn hs1 q_38 (fun _ => 0) rfl (wup_s _ _ _) hn_q_38) ce_X11_planned cs_X11 (RepM.f_main hR_q_38) tw_1695 rfl rfl ⟨⟨le_b rfl, le_b rfl⟩, le_b rfl, le_b rfl⟩ (le_b rfl) dX11_squares_40 rfl (fun r w h9 => ?_) nokx
      obtain ⟨rfl, F8, hF8, hf8, hk8⟩ := h9
      have hR_8 := RepM.keep hR_q_38 hn_q_38 hk8
      obtain ⟨hp0, hp1, hp2⟩ := hpl 3 (by decide) (by decide)
      refine s_lret hC hr dX11_squares_43 (le_b rfl) (le_b rfl) ?_
      first
        | exact okM_no 1 (by simp [cd_squares, c_1]) (by decide) (by rfl) hR_8 rfl rfl hgr
        | exact okM_ok (by simp [cd_squares, c_1]) rfl hp1 hR_8 rfl rfl rfl hgr
  · refine s_iconst hC (v := 1) dX11_squares_17 rfl (by decide) ?_
    refine s_goto hC (tgt := 22) dX11_squares_18 (by decide) ?_
    refine s_iconst hC (v := 1) dX11_squares_22 rfl (by decide) ?_
    refine s_callV hC (ct_X11_fails_t l g _ _ _ _ hR_1 (by first | rfl | exact hth) _ (by decide)) ce_X11_fails cs_X11 (RepM.f_main hR_1) tw_1422 rfl rfl ⟨⟨le_b rfl, le_b rfl⟩, le_b rfl, le_b rfl⟩ (le_b rfl) dX11_squares_23 rfl (dvk1 ?_) nokx
    refine WP.rm (RepM.s_main_0 hR_1 _) (fun hR_23 => ?_)
    refine z_if_eq hC (tgt := 35) dX11_squares_26 rfl (by decide) (fun c_3 => ((absurd c_3 (by decide) : False)).elim) (fun c_3 => ?_)
    refine s_ldc2 hC tw_1703 dX11_squares_29 rfl ?_
    refine s_goto hC (tgt := 43) dX11_squares_32 (by decide) ?_
    refine s_lret hC hr dX11_squares_43 (le_b rfl) (le_b rfl) ?_
    first
      | exact okM_no 1 (by simp [cd_squares, c_1]) (by decide) (by rfl) hR_23 rfl rfl hgr
      | exact okM_ok (by simp [cd_squares, c_1]) rfl hp1 hR_23 rfl rfl rfl hgr
