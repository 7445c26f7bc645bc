def bl0 (σ : St) (t9 : Int32) : C4 := go9 σ (cr0 σ) t9 σ.pR σ.pU (nI σ.n)
def bl1 (σ : St) (t9 : Int32) : St := σ.w_course (bl0 σ t9).1 (bl0 σ t9).2.1 (bl0 σ t9).2.2.1 (bl0 σ t9).2.2.2
def bl2 (σ : St) (t9 m9 : Int32) : St := (bl1 σ t9).w_mn ((bl1 σ t9).mn + m9)
def blk (σ : St) : Int32 := atF 200 σ.kinds (nI σ.n)
def bl3 (σ : St) (t9 m9 : Int32) : St := (bl2 σ t9 m9).w_wears (wrF (bl2 σ t9 m9).wears (wearF (bl2 σ t9 m9) (blk σ)) 8)
def bl4 (σ : St) (t9 m9 : Int32) : St := (bl3 σ t9 m9).w_seg ((bl3 σ t9 m9).seg - 1)
def bl5 (σ : St) (t9 m9 : Int32) : St := (bl4 σ t9 m9).w_pit ((bl4 σ t9 m9).pit + muckF (blk σ) (bI (bl4 σ t9 m9).foam))
def blr (σ : St) (t9 m9 : Int32) : Rg := (t9, blk σ, σ.pR, σ.pU, σ.foam, (bl1 σ t9).oR, (bl1 σ t9).oU, m9, (bl2 σ t9 m9).mn, evF (bl2 σ t9 m9) (nI σ.n), false, false, 0, 0)
def bl6 (σ : St) (t9 m9 : Int32) : St := (bl5 σ t9 m9).a_ring (blr σ t9 m9)
theorem barF_n {σ : St} {t9 : Int32} (hn : σ.n < 2 ^ 31) (h : barF σ t9 = 45) : σ.n < 163 := by
  unfold barF at h
  by_cases hz : (120 : Int32) ≤ nI σ.n
  · rw [if_pos hz] at h
    exact absurd h (by decide)
  · exact Nat.lt_of_lt_of_le (lt_of_lit (k := 120) rfl (by decide) hn hz) (by decide)
set_option maxHeartbeats 1000000 in
set_option maxRecDepth 100000 in
theorem ct_X9_build (l : Launch) (g : Gl) (ω : Wd) (ad : Ix → Nat) (x : Ex) (σ : St) (hR : RepC g ad x σ ω) (t9 m9 : Int32) (hn9 : σ.n < 163) : CT l g yX9_build cX9_build 6 none 7 152 2 177 [.ref (ad .main), .int t9, .int m9] ω (fun r w => r = none ∧ ∃ ad' x', RepC g ad' x' (bl6 σ t9 m9) w ∧ ad' .main = ad .main) (nox) := by
  refine CT.of (own := "Boringhead") rfl rfl (le_b rfl) rfl ?_
  intro p e s m args below meth c sz0 hC hr htab hin
  refine s_aload_n hC dX9_build_0 rfl rfl 0 rfl ?_
  refine s_getf hC cs_X9 7 tw_244 (le_b rfl) (RepC.f_main hR) rfl dX9_build_1 rfl ?_
  refine s_callV hC (ct_Jx4a65c_size_8abf5 l g _ _ _ _ _ (RepC.f_built hR)) ce_Jx4a65c_size_8abf5 cs_Jx4a65c (RepC.f_built hR) tw_273 rfl rfl ⟨⟨le_b rfl, le_b rfl⟩, le_b rfl, le_b rfl⟩ (le_b rfl) dX9_build_4 rfl (dvk1 ?_) nokx
  refine s_istore_n hC (L' := [(3, _), (0, _), (1, _), (2, _)]) dX9_build_7 rfl rfl (le_b rfl) rfl ?_
  refine s_aload_n hC dX9_build_8 rfl rfl 1 rfl ?_
  refine s_getf hC cs_X9 0 tw_237 (le_b rfl) (RepC.f_main hR) rfl dX9_build_9 rfl ?_
  refine s_getfN hC cs_X7 0 tw_85 (le_b rfl) (RepC.f_soil hR) rfl dX9_build_12 rfl ?_
  refine s_iload_n hC dX9_build_15 rfl rfl 0 rfl ?_
  refine s_callS hC (ct_X9_at l g _ _ _ _ _ (Or.inl (RepC.f_kinds hR)) (by first | decide | assumption)) ce_X9_at tw_367 rfl rfl ⟨⟨le_b rfl, le_b rfl⟩, le_b rfl, le_b rfl⟩ (le_b rfl) dX9_build_16 rfl (dvk1 ?_) nokx
  refine s_istore hC (L' := [(4, _), (3, _), (0, _), (1, _), (2, _)]) dX9_build_19 rfl (le_b rfl) rfl ?_
  refine s_new hC cs_X5 (fs := [.int 0, .int 0, .int 0, .int 0, .int 0, .int 0, .int 0, .int 0, .int 0, .int 0, .int 0, .int 0, .int 0, .int 0]) tw_299 tw_880 tw_32 (fun j hj => by rcases (show j = 0 ∨ j = 1 ∨ j = 2 ∨ j = 3 ∨ j = 4 ∨ j = 5 ∨ j = 6 ∨ j = 7 ∨ j = 8 ∨ j = 9 ∨ j = 10 ∨ j = 11 ∨ j = 12 ∨ j = 13 by omega) with rfl | rfl | rfl | rfl | rfl | rfl | rfl | rfl | rfl | rfl | rfl | rfl | rfl | rfl <;> rfl) (le_b rfl) (le_b rfl) dX9_build_21 rfl (fun q_21 hq_21 => ?_)
  have hn_q_21 := RepC.ne hR hq_21
  refine WP.rc (RepC.new hR hq_21 _) (fun hR_q_21 => ?_)
  refine s_dup hC dX9_build_24 rfl rfl ?_
  refine s_iload_n hC dX9_build_25 rfl rfl 3 rfl ?_
  refine s_iload hC dX9_build_26 rfl 0 rfl ?_
  refine s_aload_n hC dX9_build_28 rfl rfl 2 rfl ?_
  refine s_getf hC cs_X9 1 tw_238 (le_b rfl) (RepC.f_main hR_q_21) rfl dX9_build_29 rfl ?_
  refine s_callI hC (ct_X5_init l g _ _ _ _ hR_q_21 _ hn_q_21 _ _ (wup_s _ _ _)) ce_X5_init tw_881 rfl rfl ⟨⟨le_b rfl, le_b rfl⟩, le_b rfl, le_b rfl⟩ (le_b rfl) dX9_build_32 rfl (dvk0 ?_) nokx
  refine WP.rc (RepC.by hR_q_21 hn_q_21 _) (fun hR_32 => ?_)
  refine s_astore hC (L' := [(5, _), (4, _), (3, _), (0, _), (1, _), (2, _)]) dX9_build_35 rfl (le_b rfl) rfl ?_
  refine s_aload_n hC dX9_build_37 rfl rfl 3 rfl ?_
  refine s_aload_n hC dX9_build_38 rfl rfl 3 rfl ?_
  refine s_getf hC cs_X9 2 tw_239 (le_b rfl) (RepC.f_main hR_32) rfl dX9_build_39 rfl ?_
  refine s_aload hC dX9_build_42 rfl 0 rfl ?_
  refine s_getfN hC cs_X5 0 tw_886 (le_b rfl) (wup_s _ _ _) rfl dX9_build_44 rfl ?_
  refine s_aload hC dX9_build_47 rfl 0 rfl ?_
  refine s_getfN hC cs_X5 2 tw_890 (le_b rfl) (wup_s _ _ _) rfl dX9_build_49 rfl ?_
  refine s_aload hC dX9_build_52 rfl 0 rfl ?_
  refine s_getfN hC cs_X5 3 tw_892 (le_b rfl) (wup_s _ _ _) rfl dX9_build_54 rfl ?_
  refine s_iload_n hC dX9_build_57 rfl rfl 2 rfl ?_
  refine s_callV hC (ct_X9_go l g _ _ _ _ hR_32 _ (cr0 σ) (RepC.f_course hR_32) _ _ _ _) ce_X9_go cs_X9 (RepC.f_main hR_32) tw_361 rfl rfl ⟨⟨le_b rfl, le_b rfl⟩, le_b rfl, le_b rfl⟩ (le_b rfl) dX9_build_58 rfl (dvk0 ?_) nokx
  refine WP.rc (RepC.course4 hR_32 (bl0 σ t9)) (fun hR_58 => ?_)
  have hR_58b : RepC g ad x (bl1 σ t9) _ := hR_58
  refine s_aload hC dX9_build_61 rfl 0 rfl ?_
  refine s_aload_n hC dX9_build_63 rfl rfl 3 rfl ?_
  refine s_getf hC cs_X9 2 tw_239 (le_b rfl) (RepC.f_main hR_58b) rfl dX9_build_64 rfl ?_
  refine s_getfN hC cs_X3 2 tw_154 (le_b rfl) (RepC.f_course hR_58b) rfl dX9_build_67 rfl ?_
  refine s_putfN hC cs_X5 5 tw_896 (le_b rfl) rfl rfl rfl ((wup_n (Ne.symm (hn_q_21 .course trivial))).trans (wup_s _ _ _)) (le_b rfl) dX9_build_70 rfl ?_
  refine WP.rc (RepC.by hR_58b hn_q_21 _) (fun hR_70 => ?_)
  refine s_aload hC dX9_build_73 rfl 0 rfl ?_
  refine s_aload_n hC dX9_build_75 rfl rfl 3 rfl ?_
  refine s_getf hC cs_X9 2 tw_239 (le_b rfl) (RepC.f_main hR_70) rfl dX9_build_76 rfl ?_
  refine s_getfN hC cs_X3 3 tw_156 (le_b rfl) (RepC.f_course hR_70) rfl dX9_build_79 rfl ?_
  refine s_putfN hC cs_X5 6 tw_898 (le_b rfl) rfl rfl rfl (wup_s _ _ _) (le_b rfl) dX9_build_82 rfl ?_
  refine WP.rc (RepC.by hR_70 hn_q_21 _) (fun hR_82 => ?_)
  refine s_aload_n hC dX9_build_85 rfl rfl 3 rfl ?_
  refine s_getf hC cs_X9 5 tw_242 (le_b rfl) (RepC.f_main hR_82) rfl dX9_build_86 rfl ?_
  refine s_dup hC dX9_build_89 rfl rfl ?_
  refine s_getfN hC cs_X1 0 tw_192 (le_b rfl) (RepC.f_clock hR_82) rfl dX9_build_90 rfl ?_
  refine s_iload_n hC dX9_build_93 rfl rfl 5 rfl ?_
  refine s_iadd hC dX9_build_94 rfl ?_
  refine s_putfN hC cs_X1 0 tw_192 (le_b rfl) rfl rfl rfl (RepC.f_clock hR_82) (le_b rfl) dX9_build_95 rfl ?_
  refine WP.rc (RepC.s_clock_0 hR_82 _) (fun hR_95 => ?_)
  refine s_aload hC dX9_build_98 rfl 0 rfl ?_
  refine s_iload_n hC dX9_build_100 rfl rfl 5 rfl ?_
  refine s_putfN hC cs_X5 7 tw_900 (le_b rfl) rfl rfl rfl ((wup_n (Ne.symm (hn_q_21 .clock trivial))).trans (wup_s _ _ _)) (le_b rfl) dX9_build_101 rfl ?_
  refine WP.rc (RepC.by hR_95 hn_q_21 _) (fun hR_101 => ?_)
  refine s_aload hC dX9_build_104 rfl 0 rfl ?_
  refine s_aload_n hC dX9_build_106 rfl rfl 3 rfl ?_
  refine s_getf hC cs_X9 5 tw_242 (le_b rfl) (RepC.f_main hR_101) rfl dX9_build_107 rfl ?_
  refine s_getfN hC cs_X1 0 tw_192 (le_b rfl) (RepC.f_clock hR_101) rfl dX9_build_110 rfl ?_
  refine s_putfN hC cs_X5 8 tw_902 (le_b rfl) rfl rfl rfl (wup_s _ _ _) (le_b rfl) dX9_build_113 rfl ?_
  refine WP.rc (RepC.by hR_101 hn_q_21 _) (fun hR_113 => ?_)
  refine s_aload hC dX9_build_116 rfl 0 rfl ?_
  refine s_aload_n hC dX9_build_118 rfl rfl 3 rfl ?_
  refine s_getf hC cs_X9 0 tw_237 (le_b rfl) (RepC.f_main hR_113) rfl dX9_build_119 rfl ?_
  refine s_iload_n hC dX9_build_122 rfl rfl 2 rfl ?_
  refine s_callV hC (ct_X7_eventMinutes l g _ _ _ _ hR_113 _) ce_X7_eventMinutes cs_X7 (RepC.f_soil hR_113) tw_391 rfl rfl ⟨⟨le_b rfl, le_b rfl⟩, le_b rfl, le_b rfl⟩ (le_b rfl) dX9_build_123 rfl (dvk1 ?_) nokx
  refine s_putfN hC cs_X5 9 tw_904 (le_b rfl) rfl rfl rfl (wup_s _ _ _) (le_b rfl) dX9_build_126 rfl ?_
  refine WP.rc (RepC.by hR_113 hn_q_21 _) (fun hR_126 => ?_)
  refine s_aload_n hC dX9_build_129 rfl rfl 3 rfl ?_
  refine s_getf hC cs_X9 1 tw_238 (le_b rfl) (RepC.f_main hR_126) rfl dX9_build_130 rfl ?_
  refine s_iload hC dX9_build_133 rfl 1 rfl ?_
  refine s_callV hC (ct_X6_wear l g _ _ _ _ hR_126 _) ce_X6_wear cs_X6 (RepC.f_shield hR_126) tw_942 rfl rfl ⟨⟨le_b rfl, le_b rfl⟩, le_b rfl, le_b rfl⟩ (le_b rfl) dX9_build_135 rfl (dvk0 ?_) nokx
  refine WP.rc (RepC.w_wears hR_126 _) (fun hR_135 => ?_)
  refine s_aload_n hC dX9_build_138 rfl rfl 3 rfl ?_
  refine s_getf hC cs_X9 4 tw_241 (le_b rfl) (RepC.f_main hR_135) rfl dX9_build_139 rfl ?_
  refine s_dup hC dX9_build_142 rfl rfl ?_
  refine s_getfN hC cs_X8 0 tw_173 (le_b rfl) (RepC.f_yard hR_135) rfl dX9_build_143 rfl ?_
  refine s_iconst hC (v := 1) dX9_build_146 rfl (by decide) ?_
  refine s_isub hC dX9_build_147 rfl ?_
  refine s_putfN hC cs_X8 0 tw_173 (le_b rfl) rfl rfl rfl (RepC.f_yard hR_135) (le_b rfl) dX9_build_148 rfl ?_
  refine WP.rc (RepC.s_yard_0 hR_135 _) (fun hR_148 => ?_)
  refine s_aload_n hC dX9_build_151 rfl rfl 3 rfl ?_
  refine s_getf hC cs_X9 4 tw_241 (le_b rfl) (RepC.f_main hR_148) rfl dX9_build_152 rfl ?_
  refine s_dup hC dX9_build_155 rfl rfl ?_
  refine s_getfN hC cs_X8 1 tw_175 (le_b rfl) (RepC.f_yard hR_148) rfl dX9_build_156 rfl ?_
  refine s_iload hC dX9_build_159 rfl 1 rfl ?_
  refine s_aload_n hC dX9_build_161 rfl rfl 3 rfl ?_
  refine s_getf hC cs_X9 1 tw_238 (le_b rfl) (RepC.f_main hR_148) rfl dX9_build_162 rfl ?_
  refine s_getfN hC cs_X6 2 tw_125 (le_b rfl) (RepC.f_shield hR_148) rfl dX9_build_165 rfl ?_
  refine s_callS hC (ct_X9_muckOf l g _ _ _) ce_X9_muckOf tw_382 rfl rfl ⟨⟨le_b rfl, le_b rfl⟩, le_b rfl, le_b rfl⟩ (le_b rfl) dX9_build_168 rfl (dvk1 ?_) nokx
  refine s_iadd hC dX9_build_171 rfl ?_
  refine s_putfN hC cs_X8 1 tw_175 (le_b rfl) rfl rfl rfl (RepC.f_yard hR_148) (le_b rfl) dX9_build_172 rfl ?_
  refine WP.rc (RepC.s_yard_1 hR_148 _) (fun hR_172 => ?_)
  refine s_aload_n hC dX9_build_175 rfl rfl 3 rfl ?_
  refine s_getf hC cs_X9 7 tw_244 (le_b rfl) (RepC.f_main hR_172) rfl dX9_build_176 rfl ?_
  refine s_aload hC dX9_build_179 rfl 0 rfl ?_
  refine s_callV hC (ct_Jx4a65c_add_9ea2d l g _ _ _ _ _ (RepC.f_built hR_172) _ _ _ hR_172.lB.1 hR_172.lB.2.1 hn9 (RepC.e_ring hR_172) (Or.inl ⟨10, _, _, _, _, ((wup_n (Ne.symm (hn_q_21 .yard trivial))).trans ((wup_n (Ne.symm (hn_q_21 .yard trivial))).trans ((wup_n (Ne.symm (hn_q_21 .wears trivial))).trans (wup_s _ _ _)))), rfl, tw_2113⟩) (RepC.l_ring hR_172) hR_172.hg) ce_Jx4a65c_add_9ea2d cs_Jx4a65c (RepC.f_built hR_172) tw_619 rfl rfl ⟨⟨le_b rfl, le_b rfl⟩, le_b rfl, le_b rfl⟩ (le_b rfl) dX9_build_181 rfl (fun r w h9 => ?_) nokx
  obtain ⟨rfl, ed2, cap2, f2, a1, a2, a3, a4, a5, a6, a7, a8⟩ := h9
  refine s_pop hC dX9_build_184 rfl rfl ?_
  refine s_vret hC hr dX9_build_185 (le_b rfl) (le_b rfl) ?_
  exact ⟨rfl, _, _, RepC.a_ring (s := bl5 σ t9 m9) hR_172 (r := blr σ t9 m9) ((wup_n (Ne.symm (hn_q_21 .yard trivial))).trans ((wup_n (Ne.symm (hn_q_21 .yard trivial))).trans ((wup_n (Ne.symm (hn_q_21 .wears trivial))).trans (wup_s _ _ _)))) hn_q_21 a1 a2 a3 a4 a5 a6 a7 a8, rfl⟩
