def cd_advance (σ : St) (t9 : Int32) : Nat := if inR t9 0 7 = true then (if barF σ t9 = 45 then (if σ.mn + nmF σ ≤ 99999 then 0 else 3) else 2) else 1
def vl_advance (σ : St) (t9 : Int32) : Int32 := nmF σ
def nx_advance (σ : St) (t9 : Int32) : St := bl6 σ t9 (nmF σ)
set_option maxHeartbeats 1000000 in
set_option maxRecDepth 100000 in
theorem ct_X9_advance (l : Launch) (g : Gl) (hst : l.stackTraces = false) (ω : Wd) (ad : Ix → Nat) (x : Ex) (σ : St) (hR : RepC g ad x σ ω) (t9 : Int32) : CT l g yX9_advance cX9_advance 3 (some .int) 8 177 3 183 [.ref (ad .main), .int t9] ω (okC g ad (cd_advance σ t9) (some (.int (vl_advance σ t9))) (nx_advance σ t9)) (exC g ad (cd_advance σ t9) ["java/lang/IllegalArgumentException", "java/lang/UnsupportedOperationException", "java/lang/IllegalStateException"] σ) := by
  refine CT.of (own := "Boringhead") rfl rfl (le_b rfl) rfl ?_
  intro p e s m args below meth c sz0 hC hr htab hin
  refine s_iload_n hC dX9_advance_0 rfl rfl 1 rfl ?_
  refine s_iconst hC (v := 0) dX9_advance_1 rfl (by decide) ?_
  refine s_bipush hC (v := 7) dX9_advance_2 rfl (by decide) ?_
  refine s_callS hC (ct_X9_isWithin l g _ _ _ _) ce_X9_isWithin tw_447 rfl rfl ⟨⟨le_b rfl, le_b rfl⟩, le_b rfl, le_b rfl⟩ (le_b rfl) dX9_advance_4 rfl (dvk1 ?_) nokx
  refine z_if_neB hC (tgt := 20) dX9_advance_7 rfl (by decide) (fun c_1 => ?_) (fun c_1 => ?_)
  · refine s_aload_n hC dX9_advance_20 rfl rfl 0 rfl ?_
    refine s_iload_n hC dX9_advance_21 rfl rfl 1 rfl ?_
    refine s_callV hC (ct_X9_barOf l g _ _ _ _ hR _) ce_X9_barOf cs_X9 (RepC.f_main hR) tw_832 rfl rfl ⟨⟨le_b rfl, le_b rfl⟩, le_b rfl, le_b rfl⟩ (le_b rfl) dX9_advance_22 rfl (dvk1 ?_) nokx
    refine s_bipush hC (v := 45) dX9_advance_25 rfl (by decide) ?_
    refine z_icmp_eq hC (tgt := 40) dX9_advance_27 rfl (by decide) (fun c_2 => ?_) (fun c_2 => ?_)
    · refine s_aload_n hC dX9_advance_40 rfl rfl 0 rfl ?_
      refine s_callV hC (ct_X9_nextMinutes l g _ _ _ _ hR) ce_X9_nextMinutes cs_X9 (RepC.f_main hR) tw_870 rfl rfl ⟨⟨le_b rfl, le_b rfl⟩, le_b rfl, le_b rfl⟩ (le_b rfl) dX9_advance_41 rfl (dvk1 ?_) nokx
      refine s_istore_n hC (L' := [(2, _), (0, _), (1, _)]) dX9_advance_44 rfl rfl (le_b rfl) rfl ?_
      refine s_aload_n hC dX9_advance_45 rfl rfl 1 rfl ?_
      refine s_iload_n hC dX9_advance_46 rfl rfl 0 rfl ?_
      refine s_callV hC (ct_X9_refuseLate l g hst _ _ _ _ hR _) ce_X9_refuseLate cs_X9 (RepC.f_main hR) tw_807 rfl rfl ⟨⟨le_b rfl, le_b rfl⟩, le_b rfl, le_b rfl⟩ (le_b rfl) dX9_advance_47 rfl (fun r w h9 => ?_) (outk hC htab (le_b rfl) (le_b rfl) (fun E w h9 => by obtain ⟨rfl, h8, rfl⟩ := h9; exact exC_mk (by simp [cd_advance, c_1, c_2, h8]) (by simp [cd_advance, c_1, c_2, h8]) hR rfl))
      obtain ⟨c9_47, rfl, rfl⟩ := h9
      refine s_aload_n hC dX9_advance_50 rfl rfl 1 rfl ?_
      refine s_iload_n hC dX9_advance_51 rfl rfl 2 rfl ?_
      refine s_iload_n hC dX9_advance_52 rfl rfl 0 rfl ?_
      refine s_callV hC (ct_X9_build l g _ _ _ _ hR _ _ (barF_n (Nat.lt_of_le_of_lt (RepC.b_ring hR) (by decide)) c_2)) ce_X9_build cs_X9 (RepC.f_main hR) tw_876 rfl rfl ⟨⟨le_b rfl, le_b rfl⟩, le_b rfl, le_b rfl⟩ (le_b rfl) dX9_advance_53 rfl (fun r w h9 => ?_) nokx
      obtain ⟨rfl, ad2, x2, hR2, hm2⟩ := h9
      refine s_iload_n hC dX9_advance_56 rfl rfl 0 rfl ?_
      refine s_iret hC hr dX9_advance_57 (le_b rfl) (le_b rfl) ?_
      exact okC_mk (by simp [cd_advance, c_1, c_2, c9_47]) rfl hR2 hm2 rfl
    · refine s_throwS hC htab hst (cls := "java/lang/UnsupportedOperationException") (names := ["java/lang/RuntimeException", "java/lang/Exception"]) (i := 13) fit_UnsupportedOperationException tw_525 tw_16 rfl at_X9_202 at_X9_202_ot dX9_advance_30 dX9_advance_33 dX9_advance_34 dX9_advance_36 dX9_advance_39 ⟨le_b rfl, le_b rfl, le_b rfl, le_b rfl⟩ ⟨le_b rfl, le_b rfl⟩ ?_
      exact exC_mk (by simp [cd_advance, c_1, c_2]) (by simp [cd_advance, c_1, c_2]) hR rfl
  · refine s_throwS hC htab hst (cls := "java/lang/IllegalArgumentException") (names := ["java/lang/RuntimeException", "java/lang/Exception"]) (i := 12) fit_IllegalArgumentException tw_450 tw_15 rfl at_X9_97 at_X9_97_ot dX9_advance_10 dX9_advance_13 dX9_advance_14 dX9_advance_16 dX9_advance_19 ⟨le_b rfl, le_b rfl, le_b rfl, le_b rfl⟩ ⟨le_b rfl, le_b rfl⟩ ?_
    exact exC_mk (by simp [cd_advance, c_1]) (by simp [cd_advance, c_1]) hR rfl
def crs (σ : St) : Nat → C4
  | 0 => (0, 0, 0, 0)
  | j + 1 => go9 σ (crs σ j) (σ.ring j).turn (σ.ring j).pR (σ.ring j).pU (nI j)
def ldF (σ : St) : Nat → Int32
  | 0 => -1
  | j + 1 => (σ.ring j).turn
def snd1 (σ : St) : Prop := (∀ j, j < σ.n → (σ.ring j).oR = (crs σ (j + 1)).2.2.1 ∧ (σ.ring j).oU = (crs σ (j + 1)).2.2.2) ∧ cr0 σ = crs σ σ.n
def snd2 (σ : St) : Prop := mkF σ σ.n = σ.pit + σ.away
def snd3 (σ : St) : Prop := ∀ j, j < σ.n → (σ.ring j).mo = evF σ (nI j)
def snd4 (σ : St) : Prop := ∀ j, j < σ.n → ¬ (σ.ring j).turn = ldF σ j ∧ 0 ≤ roomF (σ.ring j)
def snd5 (σ : St) : Prop := σ.mn = mrF σ σ.n + alF σ.waits 3 + (σ.fc + σ.fl + σ.fo)
set_option maxHeartbeats 1000000 in
set_option maxRecDepth 100000 in
theorem ct_X9_isCourseSound (l : Launch) (g : Gl) (ω : Wd) (ad : Ix → Nat) (x : Ex) (σ : St) (hR : RepC g ad x σ ω) (hs : snd1 σ) : CT l g yX9_isCourseSound cX9_isCourseSound 3 (some .boolean) 3 64 0 0 [.ref (ad .main)] ω (fun r w => r = some (.int 1) ∧ ∃ c : C4, w = wup ω (ad .trial) (.inr (8, crL c))) (nox) := by
  refine CT.of (own := "Boringhead") rfl rfl (le_b rfl) rfl ?_
  intro p e s m args below meth c sz0 hC hr htab hin
  refine s_aload_n hC dX9_isCourseSound_0 rfl rfl 0 rfl ?_
  refine s_getf hC cs_X9 3 tw_240 (le_b rfl) (RepC.f_main hR) rfl dX9_isCourseSound_1 rfl ?_
  refine s_callV hC (ct_X3_startAtLine l g _ _ _ _ _ _ (RepC.f_trial hR)) ce_X3_startAtLine cs_X3 (RepC.f_trial hR) tw_357 rfl rfl ⟨⟨le_b rfl, le_b rfl⟩, le_b rfl, le_b rfl⟩ (le_b rfl) dX9_isCourseSound_4 rfl (dvk0 ?_) nokx
  have hR4 := RepC.trial4 hR (crs σ 0)
  refine s_iconst hC (v := 0) dX9_isCourseSound_7 rfl (by decide) ?_
  refine s_istore_n hC (L' := [(1, _), (0, _)]) dX9_isCourseSound_8 rfl rfl (le_b rfl) rfl ?_
  refine WP.sub (L' := [(0, _), (1, _)]) [1, 0] rfl ?_
  refine wp_loop (σ := Int32 × Wd × Nat) (I := fun (i, W, j) => i = nI j ∧ j ≤ σ.n ∧ W = wup ω (ad .trial) (.inr (8, crL (crs σ j)))) (ωf := fun (i, W, j) => W) (Lf := fun (i, W, j) => [(0, .ref (ad .main)), (1, .int i)]) (μ := fun (i, W, j) => σ.n - j) (x0 := (_, _, 0)) ?_ ?_
  · exact ⟨rfl, Nat.zero_le _, rfl⟩
  · rintro ⟨i, W, j⟩ hI ih
    dsimp only at hI ih ⊢
    obtain ⟨rfl, hj, rfl⟩ := hI
    have hin9 : ¬ nI σ.n ≤ nI j → j < σ.n := nI_ltc (Nat.lt_of_le_of_lt (RepC.b_ring hR) (by decide)) hj
    have hW := RepC.trial4 hR (crs σ j)
    refine s_iload_n hC dX9_isCourseSound_9 rfl rfl 1 rfl ?_
    refine s_aload_n hC dX9_isCourseSound_10 rfl rfl 0 rfl ?_
    refine s_getf hC cs_X9 7 tw_244 (le_b rfl) (RepC.f_main hW) rfl dX9_isCourseSound_11 rfl ?_
    refine s_callV hC (ct_Jx4a65c_size_8abf5 l g _ _ _ _ _ (RepC.f_built hW)) ce_Jx4a65c_size_8abf5 cs_Jx4a65c (RepC.f_built hW) tw_273 rfl rfl ⟨⟨le_b rfl, le_b rfl⟩, le_b rfl, le_b rfl⟩ (le_b rfl) dX9_isCourseSound_14 rfl (dvk1 ?_) nokx
    refine z_icmp_ge hC (tgt := 89) dX9_isCourseSound_17 rfl (by decide) (fun c_1 => ?_) (fun c_1 => ?_)
    · obtain rfl := nI_lec (Nat.lt_of_le_of_lt (RepC.b_ring hR) (by decide)) hj c_1
      refine s_aload_n hC dX9_isCourseSound_89 rfl rfl 0 rfl ?_
      refine s_getf hC cs_X9 3 tw_240 (le_b rfl) (RepC.f_main hW) rfl dX9_isCourseSound_90 rfl ?_
      refine s_aload_n hC dX9_isCourseSound_93 rfl rfl 0 rfl ?_
      refine s_getf hC cs_X9 2 tw_239 (le_b rfl) (RepC.f_main hW) rfl dX9_isCourseSound_94 rfl ?_
      refine s_callV hC (ct_X3_isLike l g _ _ _ _ _ _ (RepC.f_trial hW) _ _ _ _ _ (RepC.f_course hW)) ce_X3_isLike cs_X3 (RepC.f_trial hW) tw_374 rfl rfl ⟨⟨le_b rfl, le_b rfl⟩, le_b rfl, le_b rfl⟩ (le_b rfl) dX9_isCourseSound_97 rfl (dvk1 ?_) nokx
      refine s_zret hC hr dX9_isCourseSound_100 (bI_nz _) (le_b rfl) (le_b rfl) ?_
      refine ⟨?_, crs σ σ.n, rfl⟩
      have h7 := hs.2
      simp only [cr0] at h7
      rw [← h7]
      simp [Ex.w_trial, Ex.t0, Ex.t1, Ex.t2, Ex.t3, bI]
    · refine s_aload_n hC dX9_isCourseSound_20 rfl rfl 0 rfl ?_
      refine s_getf hC cs_X9 7 tw_244 (le_b rfl) (RepC.f_main hW) rfl dX9_isCourseSound_21 rfl ?_
      refine s_iload_n hC dX9_isCourseSound_24 rfl rfl 1 rfl ?_
      refine s_callV hC (ct_Jx4a65c_get_915e3 l g _ _ _ _ _ (RepC.f_built hW) _ _ (RepC.p_ring hW (hin9 c_1)).2.1 (RepC.p_ring hW (hin9 c_1)).2.2.1 _ _ (RepC.p_ring hW (hin9 c_1)).2.2.2.1 (hin9 c_1) (RepC.p_ring hW (hin9 c_1)).2.2.2.2) ce_Jx4a65c_get_915e3 cs_Jx4a65c (RepC.f_built hW) tw_285 rfl rfl ⟨⟨le_b rfl, le_b rfl⟩, le_b rfl, le_b rfl⟩ (le_b rfl) dX9_isCourseSound_25 rfl (dvk1 ?_) nokx
      refine s_cast hC cs_X5 tw_299 (RepC.f_ring hW (hin9 c_1)) dX9_isCourseSound_28 rfl ?_
      refine s_astore_n hC (L' := [(2, _), (0, _), (1, _)]) dX9_isCourseSound_31 rfl rfl (le_b rfl) rfl ?_
      refine s_aload_n hC dX9_isCourseSound_32 rfl rfl 1 rfl ?_
      refine s_aload_n hC dX9_isCourseSound_33 rfl rfl 1 rfl ?_
      refine s_getf hC cs_X9 3 tw_240 (le_b rfl) (RepC.f_main hW) rfl dX9_isCourseSound_34 rfl ?_
      refine s_aload_n hC dX9_isCourseSound_37 rfl rfl 0 rfl ?_
      refine s_getfN hC cs_X5 0 tw_886 (le_b rfl) (RepC.f_ring hW (hin9 c_1)) rfl dX9_isCourseSound_38 rfl ?_
      refine s_aload_n hC dX9_isCourseSound_41 rfl rfl 0 rfl ?_
      refine s_getfN hC cs_X5 2 tw_890 (le_b rfl) (RepC.f_ring hW (hin9 c_1)) rfl dX9_isCourseSound_42 rfl ?_
      refine s_aload_n hC dX9_isCourseSound_45 rfl rfl 0 rfl ?_
      refine s_getfN hC cs_X5 3 tw_892 (le_b rfl) (RepC.f_ring hW (hin9 c_1)) rfl dX9_isCourseSound_46 rfl ?_
      refine s_iload_n hC dX9_isCourseSound_49 rfl rfl 2 rfl ?_
      refine s_callV hC (ct_X9_go l g _ _ _ _ hW _ (crs σ j) (RepC.f_trial hW) _ _ _ _) ce_X9_go cs_X9 (RepC.f_main hW) tw_361 rfl rfl ⟨⟨le_b rfl, le_b rfl⟩, le_b rfl, le_b rfl⟩ (le_b rfl) dX9_isCourseSound_50 rfl (dvk0 ?_) nokx
      rw [wup_wup]
      have hW2 := RepC.trial4 hR (crs σ (j + 1))
      refine s_aload_n hC dX9_isCourseSound_53 rfl rfl 0 rfl ?_
      refine s_getfN hC cs_X5 5 tw_896 (le_b rfl) (RepC.f_ring hW2 (hin9 c_1)) rfl dX9_isCourseSound_54 rfl ?_
      refine s_aload_n hC dX9_isCourseSound_57 rfl rfl 1 rfl ?_
      refine s_getf hC cs_X9 3 tw_240 (le_b rfl) (RepC.f_main hW2) rfl dX9_isCourseSound_58 rfl ?_
      refine s_getfN hC cs_X3 2 tw_154 (le_b rfl) (RepC.f_trial hW2) rfl dX9_isCourseSound_61 rfl ?_
      refine z_icmp_ne hC (tgt := 81) dX9_isCourseSound_64 rfl (by decide) (fun c_2 => (c_2 (hs.1 j (hin9 c_1)).1).elim) (fun c_2 => ?_)
      refine s_aload_n hC dX9_isCourseSound_67 rfl rfl 0 rfl ?_
      refine s_getfN hC cs_X5 6 tw_898 (le_b rfl) (RepC.f_ring hW2 (hin9 c_1)) rfl dX9_isCourseSound_68 rfl ?_
      refine s_aload_n hC dX9_isCourseSound_71 rfl rfl 1 rfl ?_
      refine s_getf hC cs_X9 3 tw_240 (le_b rfl) (RepC.f_main hW2) rfl dX9_isCourseSound_72 rfl ?_
      refine s_getfN hC cs_X3 3 tw_156 (le_b rfl) (RepC.f_trial hW2) rfl dX9_isCourseSound_75 rfl ?_
      refine z_icmp_eq hC (tgt := 83) dX9_isCourseSound_78 rfl (by decide) (fun c_3 => ?_) (fun c_3 => (c_3 (hs.1 j (hin9 c_1)).2).elim)
      refine s_iinc hC (v := _ + 1) (j9 := 2) (L' := [(1, _), (2, _), (0, _)]) dX9_isCourseSound_83 rfl rfl rfl (le_b rfl) rfl ?_
      refine s_goto hC (tgt := 9) dX9_isCourseSound_86 (by decide) ?_
      refine WP.sub (L' := [(0, _), (1, _)]) [2, 0] rfl ?_
      refine ih (_, _, j + 1) ?_ ?_
      · dsimp only
        exact ⟨nI_1 j, hin9 c_1, rfl⟩
      · dsimp only
        have h9 := hin9 c_1; omega
set_option maxHeartbeats 1000000 in
set_option maxRecDepth 100000 in
theorem ct_X9_isMuckSound (l : Launch) (g : Gl) (ω : Wd) (ad : Ix → Nat) (x : Ex) (σ : St) (hR : RepC g ad x σ ω) (hs : snd2 σ) : CT l g yX9_isMuckSound cX9_isMuckSound 4 (some .boolean) 3 64 0 0 [.ref (ad .main)] ω (dv (some (.int 1)) ω) (nox) := by
  refine CT.of (own := "Boringhead") rfl rfl (le_b rfl) rfl ?_
  intro p e s m args below meth c sz0 hC hr htab hin
  refine s_iconst hC (v := 0) dX9_isMuckSound_0 rfl (by decide) ?_
  refine s_istore_n hC (L' := [(1, _), (0, _)]) dX9_isMuckSound_1 rfl rfl (le_b rfl) rfl ?_
  refine s_iconst hC (v := 0) dX9_isMuckSound_2 rfl (by decide) ?_
  refine s_istore_n hC (L' := [(2, _), (1, _), (0, _)]) dX9_isMuckSound_3 rfl rfl (le_b rfl) rfl ?_
  refine WP.sub (L' := [(0, _), (1, _), (2, _)]) [2, 1, 0] rfl ?_
  refine wp_loop (σ := Int32 × Int32 × Nat) (I := fun (i, sm, j) => i = nI j ∧ j ≤ σ.n ∧ sm = mkF σ j) (ωf := fun (i, sm, j) => ω) (Lf := fun (i, sm, j) => [(0, .ref (ad .main)), (1, .int sm), (2, .int i)]) (μ := fun (i, sm, j) => σ.n - j) (x0 := (_, _, 0)) ?_ ?_
  · exact ⟨rfl, Nat.zero_le _, rfl⟩
  · rintro ⟨i, sm, j⟩ hI ih
    dsimp only at hI ih ⊢
    obtain ⟨rfl, hj, rfl⟩ := hI
    have hin9 : ¬ nI (σ.n) ≤ nI j → j < σ.n := nI_ltc (Nat.lt_of_le_of_lt (RepC.b_ring hR) (by decide)) hj
    refine s_iload_n hC dX9_isMuckSound_4 rfl rfl 2 rfl ?_
    refine s_aload_n hC dX9_isMuckSound_5 rfl rfl 0 rfl ?_
    refine s_getf hC cs_X9 7 tw_244 (le_b rfl) (RepC.f_main hR) rfl dX9_isMuckSound_6 rfl ?_
    refine s_callV hC (ct_Jx4a65c_size_8abf5 l g _ _ _ _ _ (RepC.f_built hR)) ce_Jx4a65c_size_8abf5 cs_Jx4a65c (RepC.f_built hR) tw_273 rfl rfl ⟨⟨le_b rfl, le_b rfl⟩, le_b rfl, le_b rfl⟩ (le_b rfl) dX9_isMuckSound_9 rfl (dvk1 ?_) nokx
    refine z_icmp_ge hC (tgt := 47) dX9_isMuckSound_12 rfl (by decide) (fun c_1 => ?_) (fun c_1 => ?_)
    · obtain rfl := nI_lec (Nat.lt_of_le_of_lt (RepC.b_ring hR) (by decide)) hj c_1
      refine s_iload_n hC dX9_isMuckSound_47 rfl rfl 1 rfl ?_
      refine s_aload_n hC dX9_isMuckSound_48 rfl rfl 0 rfl ?_
      refine s_getf hC cs_X9 4 tw_241 (le_b rfl) (RepC.f_main hR) rfl dX9_isMuckSound_49 rfl ?_
      refine s_getfN hC cs_X8 1 tw_175 (le_b rfl) (RepC.f_yard hR) rfl dX9_isMuckSound_52 rfl ?_
      refine s_aload_n hC dX9_isMuckSound_55 rfl rfl 0 rfl ?_
      refine s_getf hC cs_X9 4 tw_241 (le_b rfl) (RepC.f_main hR) rfl dX9_isMuckSound_56 rfl ?_
      refine s_getfN hC cs_X8 2 tw_177 (le_b rfl) (RepC.f_yard hR) rfl dX9_isMuckSound_59 rfl ?_
      refine s_iadd hC dX9_isMuckSound_62 rfl ?_
      refine z_icmp_ne hC (tgt := 70) dX9_isMuckSound_63 rfl (by decide) (fun c_2 => (c_2 hs).elim) (fun c_2 => ?_)
      refine s_iconst hC (v := 1) dX9_isMuckSound_66 rfl (by decide) ?_
      refine s_goto hC (tgt := 71) dX9_isMuckSound_67 (by decide) ?_
      refine s_zret hC hr dX9_isMuckSound_71 rfl (le_b rfl) (le_b rfl) ?_
      exact ⟨rfl, rfl⟩
    · refine s_aload_n hC dX9_isMuckSound_15 rfl rfl 0 rfl ?_
      refine s_getf hC cs_X9 7 tw_244 (le_b rfl) (RepC.f_main hR) rfl dX9_isMuckSound_16 rfl ?_
      refine s_iload_n hC dX9_isMuckSound_19 rfl rfl 2 rfl ?_
      refine s_callV hC (ct_Jx4a65c_get_915e3 l g _ _ _ _ _ (RepC.f_built hR) _ _ (RepC.p_ring hR (hin9 c_1)).2.1 (RepC.p_ring hR (hin9 c_1)).2.2.1 _ _ (RepC.p_ring hR (hin9 c_1)).2.2.2.1 (hin9 c_1) (RepC.p_ring hR (hin9 c_1)).2.2.2.2) ce_Jx4a65c_get_915e3 cs_Jx4a65c (RepC.f_built hR) tw_285 rfl rfl ⟨⟨le_b rfl, le_b rfl⟩, le_b rfl, le_b rfl⟩ (le_b rfl) dX9_isMuckSound_20 rfl (dvk1 ?_) nokx
      refine s_cast hC cs_X5 tw_299 (RepC.f_ring hR (hin9 c_1)) dX9_isMuckSound_23 rfl ?_
      refine s_astore_n hC (L' := [(3, _), (0, _), (1, _), (2, _)]) dX9_isMuckSound_26 rfl rfl (le_b rfl) rfl ?_
      refine s_iload_n hC dX9_isMuckSound_27 rfl rfl 2 rfl ?_
      refine s_aload_n hC dX9_isMuckSound_28 rfl rfl 0 rfl ?_
      refine s_getfN hC cs_X5 1 tw_888 (le_b rfl) (RepC.f_ring hR (hin9 c_1)) rfl dX9_isMuckSound_29 rfl ?_
      refine s_aload_n hC dX9_isMuckSound_32 rfl rfl 0 rfl ?_
      refine s_getfN hC cs_X5 4 tw_894 (le_b rfl) (RepC.f_ring hR (hin9 c_1)) rfl dX9_isMuckSound_33 rfl ?_
      refine s_callS hC (ct_X9_muckOf l g _ _ _) ce_X9_muckOf tw_382 rfl rfl ⟨⟨le_b rfl, le_b rfl⟩, le_b rfl, le_b rfl⟩ (le_b rfl) dX9_isMuckSound_36 rfl (dvk1 ?_) nokx
      refine s_iadd hC dX9_isMuckSound_39 rfl ?_
      refine s_istore_n hC (L' := [(1, _), (3, _), (0, _), (2, _)]) dX9_isMuckSound_40 rfl rfl (le_b rfl) rfl ?_
      refine s_iinc hC (v := _ + 1) (j9 := 3) (L' := [(2, _), (1, _), (3, _), (0, _)]) dX9_isMuckSound_41 rfl rfl rfl (le_b rfl) rfl ?_
      refine s_goto hC (tgt := 4) dX9_isMuckSound_44 (by decide) ?_
      refine WP.sub (L' := [(0, _), (1, _), (2, _)]) [3, 1, 0] rfl ?_
      refine ih (_, _, j + 1) ?_ ?_
      · dsimp only
        have h9 := hin9 c_1
        refine ⟨nI_1 j, h9, ?_⟩
        rfl
      · dsimp only
        have h9 := hin9 c_1; omega
set_option maxHeartbeats 1000000 in
set_option maxRecDepth 100000 in
theorem ct_X9_areEventsSound (l : Launch) (g : Gl) (ω : Wd) (ad : Ix → Nat) (x : Ex) (σ : St) (hR : RepC g ad x σ ω) (hs : snd3 σ) : CT l g yX9_areEventsSound cX9_areEventsSound 2 (some .boolean) 3 64 0 0 [.ref (ad .main)] ω (dv (some (.int 1)) ω) (nox) := by
  refine CT.of (own := "Boringhead") rfl rfl (le_b rfl) rfl ?_
  intro p e s m args below meth c sz0 hC hr htab hin
  refine s_iconst hC (v := 0) dX9_areEventsSound_0 rfl (by decide) ?_
  refine s_istore_n hC (L' := [(1, _), (0, _)]) dX9_areEventsSound_1 rfl rfl (le_b rfl) rfl ?_
  refine WP.sub (L' := [(0, _), (1, _)]) [1, 0] rfl ?_
  refine wp_loop (σ := Int32 × Nat) (I := fun (i, j) => i = nI j ∧ j ≤ σ.n) (ωf := fun (i, j) => ω) (Lf := fun (i, j) => [(0, .ref (ad .main)), (1, .int i)]) (μ := fun (i, j) => σ.n - j) (x0 := (_, 0)) ?_ ?_
  · exact ⟨rfl, Nat.zero_le _⟩
  · rintro ⟨i, j⟩ hI ih
    dsimp only at hI ih ⊢
    obtain ⟨rfl, hj⟩ := hI
    have hin9 : ¬ nI (σ.n) ≤ nI j → j < σ.n := nI_ltc (Nat.lt_of_le_of_lt (RepC.b_ring hR) (by decide)) hj
    refine s_iload_n hC dX9_areEventsSound_2 rfl rfl 1 rfl ?_
    refine s_aload_n hC dX9_areEventsSound_3 rfl rfl 0 rfl ?_
    refine s_getf hC cs_X9 7 tw_244 (le_b rfl) (RepC.f_main hR) rfl dX9_areEventsSound_4 rfl ?_
    refine s_callV hC (ct_Jx4a65c_size_8abf5 l g _ _ _ _ _ (RepC.f_built hR)) ce_Jx4a65c_size_8abf5 cs_Jx4a65c (RepC.f_built hR) tw_273 rfl rfl ⟨⟨le_b rfl, le_b rfl⟩, le_b rfl, le_b rfl⟩ (le_b rfl) dX9_areEventsSound_7 rfl (dvk1 ?_) nokx
    refine z_icmp_ge hC (tgt := 46) dX9_areEventsSound_10 rfl (by decide) (fun c_1 => ?_) (fun c_1 => ?_)
    · refine s_iconst hC (v := 1) dX9_areEventsSound_46 rfl (by decide) ?_
      refine s_zret hC hr dX9_areEventsSound_47 rfl (le_b rfl) (le_b rfl) ?_
      exact ⟨rfl, rfl⟩
    · refine s_aload_n hC dX9_areEventsSound_13 rfl rfl 0 rfl ?_
      refine s_getf hC cs_X9 7 tw_244 (le_b rfl) (RepC.f_main hR) rfl dX9_areEventsSound_14 rfl ?_
      refine s_iload_n hC dX9_areEventsSound_17 rfl rfl 1 rfl ?_
      refine s_callV hC (ct_Jx4a65c_get_915e3 l g _ _ _ _ _ (RepC.f_built hR) _ _ (RepC.p_ring hR (hin9 c_1)).2.1 (RepC.p_ring hR (hin9 c_1)).2.2.1 _ _ (RepC.p_ring hR (hin9 c_1)).2.2.2.1 (hin9 c_1) (RepC.p_ring hR (hin9 c_1)).2.2.2.2) ce_Jx4a65c_get_915e3 cs_Jx4a65c (RepC.f_built hR) tw_285 rfl rfl ⟨⟨le_b rfl, le_b rfl⟩, le_b rfl, le_b rfl⟩ (le_b rfl) dX9_areEventsSound_18 rfl (dvk1 ?_) nokx
      refine s_cast hC cs_X5 tw_299 (RepC.f_ring hR (hin9 c_1)) dX9_areEventsSound_21 rfl ?_
      refine s_getfN hC cs_X5 9 tw_904 (le_b rfl) (RepC.f_ring hR (hin9 c_1)) rfl dX9_areEventsSound_24 rfl ?_
      refine s_aload_n hC dX9_areEventsSound_27 rfl rfl 0 rfl ?_
      refine s_getf hC cs_X9 0 tw_237 (le_b rfl) (RepC.f_main hR) rfl dX9_areEventsSound_28 rfl ?_
      refine s_iload_n hC dX9_areEventsSound_31 rfl rfl 1 rfl ?_
      refine s_callV hC (ct_X7_eventMinutes l g _ _ _ _ hR _) ce_X7_eventMinutes cs_X7 (RepC.f_soil hR) tw_391 rfl rfl ⟨⟨le_b rfl, le_b rfl⟩, le_b rfl, le_b rfl⟩ (le_b rfl) dX9_areEventsSound_32 rfl (dvk1 ?_) nokx
      refine z_icmp_eq hC (tgt := 40) dX9_areEventsSound_35 rfl (by decide) (fun c_2 => ?_) (fun c_2 => (c_2 (hs j (hin9 c_1))).elim)
      refine s_iinc hC (v := _ + 1) (j9 := 1) (L' := [(1, _), (0, _)]) dX9_areEventsSound_40 rfl rfl rfl (le_b rfl) rfl ?_
      refine s_goto hC (tgt := 2) dX9_areEventsSound_43 (by decide) ?_
      refine WP.sub (L' := [(0, _), (1, _)]) [1, 0] rfl ?_
      refine ih (_, j + 1) ?_ ?_
      · dsimp only
        have h9 := hin9 c_1
        refine ⟨nI_1 j, h9⟩
        skip
      · dsimp only
        have h9 := hin9 c_1; omega
set_option maxHeartbeats 1000000 in
set_option maxRecDepth 100000 in
theorem ct_X9_areRingsSound (l : Launch) (g : Gl) (ω : Wd) (ad : Ix → Nat) (x : Ex) (σ : St) (hR : RepC g ad x σ ω) (hs : snd4 σ) : CT l g yX9_areRingsSound cX9_areRingsSound 4 (some .boolean) 3 64 0 0 [.ref (ad .main)] ω (dv (some (.int 1)) ω) (nox) := by
  refine CT.of (own := "Boringhead") rfl rfl (le_b rfl) rfl ?_
  intro p e s m args below meth c sz0 hC hr htab hin
  refine s_iconst hC (v := (-1)) dX9_areRingsSound_0 rfl (by decide) ?_
  refine s_istore_n hC (L' := [(1, _), (0, _)]) dX9_areRingsSound_1 rfl rfl (le_b rfl) rfl ?_
  refine s_iconst hC (v := 0) dX9_areRingsSound_2 rfl (by decide) ?_
  refine s_istore_n hC (L' := [(2, _), (1, _), (0, _)]) dX9_areRingsSound_3 rfl rfl (le_b rfl) rfl ?_
  refine WP.sub (L' := [(0, _), (1, _), (2, _)]) [2, 1, 0] rfl ?_
  refine wp_loop (σ := Int32 × Int32 × Nat) (I := fun (i, ah, j) => i = nI j ∧ j ≤ σ.n ∧ ah = ldF σ j) (ωf := fun (i, ah, j) => ω) (Lf := fun (i, ah, j) => [(0, .ref (ad .main)), (1, .int ah), (2, .int i)]) (μ := fun (i, ah, j) => σ.n - j) (x0 := (_, _, 0)) ?_ ?_
  · exact ⟨rfl, Nat.zero_le _, rfl⟩
  · rintro ⟨i, ah, j⟩ hI ih
    dsimp only at hI ih ⊢
    obtain ⟨rfl, hj, rfl⟩ := hI
    have hin9 : ¬ nI (σ.n) ≤ nI j → j < σ.n := nI_ltc (Nat.lt_of_le_of_lt (RepC.b_ring hR) (by decide)) hj
    refine s_iload_n hC dX9_areRingsSound_4 rfl rfl 2 rfl ?_
    refine s_aload_n hC dX9_areRingsSound_5 rfl rfl 0 rfl ?_
    refine s_getf hC cs_X9 7 tw_244 (le_b rfl) (RepC.f_main hR) rfl dX9_areRingsSound_6 rfl ?_
    refine s_callV hC (ct_Jx4a65c_size_8abf5 l g _ _ _ _ _ (RepC.f_built hR)) ce_Jx4a65c_size_8abf5 cs_Jx4a65c (RepC.f_built hR) tw_273 rfl rfl ⟨⟨le_b rfl, le_b rfl⟩, le_b rfl, le_b rfl⟩ (le_b rfl) dX9_areRingsSound_9 rfl (dvk1 ?_) nokx
    refine z_icmp_ge hC (tgt := 55) dX9_areRingsSound_12 rfl (by decide) (fun c_1 => ?_) (fun c_1 => ?_)
    · refine s_iconst hC (v := 1) dX9_areRingsSound_55 rfl (by decide) ?_
      refine s_zret hC hr dX9_areRingsSound_56 rfl (le_b rfl) (le_b rfl) ?_
      exact ⟨rfl, rfl⟩
    · refine s_aload_n hC dX9_areRingsSound_15 rfl rfl 0 rfl ?_
      refine s_getf hC cs_X9 7 tw_244 (le_b rfl) (RepC.f_main hR) rfl dX9_areRingsSound_16 rfl ?_
      refine s_iload_n hC dX9_areRingsSound_19 rfl rfl 2 rfl ?_
      refine s_callV hC (ct_Jx4a65c_get_915e3 l g _ _ _ _ _ (RepC.f_built hR) _ _ (RepC.p_ring hR (hin9 c_1)).2.1 (RepC.p_ring hR (hin9 c_1)).2.2.1 _ _ (RepC.p_ring hR (hin9 c_1)).2.2.2.1 (hin9 c_1) (RepC.p_ring hR (hin9 c_1)).2.2.2.2) ce_Jx4a65c_get_915e3 cs_Jx4a65c (RepC.f_built hR) tw_285 rfl rfl ⟨⟨le_b rfl, le_b rfl⟩, le_b rfl, le_b rfl⟩ (le_b rfl) dX9_areRingsSound_20 rfl (dvk1 ?_) nokx
      refine s_cast hC cs_X5 tw_299 (RepC.f_ring hR (hin9 c_1)) dX9_areRingsSound_23 rfl ?_
      refine s_astore_n hC (L' := [(3, _), (0, _), (1, _), (2, _)]) dX9_areRingsSound_26 rfl rfl (le_b rfl) rfl ?_
      refine s_aload_n hC dX9_areRingsSound_27 rfl rfl 0 rfl ?_
      refine s_getfN hC cs_X5 0 tw_886 (le_b rfl) (RepC.f_ring hR (hin9 c_1)) rfl dX9_areRingsSound_28 rfl ?_
      refine s_iload_n hC dX9_areRingsSound_31 rfl rfl 2 rfl ?_
      refine z_icmp_eq hC (tgt := 42) dX9_areRingsSound_32 rfl (by decide) (fun c_2 => ((hs j (hin9 c_1)).1 c_2).elim) (fun c_2 => ?_)
      refine s_aload_n hC dX9_areRingsSound_35 rfl rfl 0 rfl ?_
      refine s_callV hC (ct_X5_room l g _ _ _ (RepC.f_ring hR (hin9 c_1))) ce_X5_room cs_X5 (RepC.f_ring hR (hin9 c_1)) tw_403 rfl rfl ⟨⟨le_b rfl, le_b rfl⟩, le_b rfl, le_b rfl⟩ (le_b rfl) dX9_areRingsSound_36 rfl (dvk1 ?_) nokx
      refine z_if_ge hC (tgt := 44) dX9_areRingsSound_39 rfl (by decide) (fun c_3 => ?_) (fun c_3 => (c_3 (hs j (hin9 c_1)).2).elim)
      refine s_aload_n hC dX9_areRingsSound_44 rfl rfl 0 rfl ?_
      refine s_getfN hC cs_X5 0 tw_886 (le_b rfl) (RepC.f_ring hR (hin9 c_1)) rfl dX9_areRingsSound_45 rfl ?_
      refine s_istore_n hC (L' := [(1, _), (3, _), (0, _), (2, _)]) dX9_areRingsSound_48 rfl rfl (le_b rfl) rfl ?_
      refine s_iinc hC (v := _ + 1) (j9 := 3) (L' := [(2, _), (1, _), (3, _), (0, _)]) dX9_areRingsSound_49 rfl rfl rfl (le_b rfl) rfl ?_
      refine s_goto hC (tgt := 4) dX9_areRingsSound_52 (by decide) ?_
      refine WP.sub (L' := [(0, _), (1, _), (2, _)]) [3, 1, 0] rfl ?_
      refine ih (_, _, j + 1) ?_ ?_
      · dsimp only
        have h9 := hin9 c_1
        refine ⟨nI_1 j, h9, ?_⟩
        rfl
      · dsimp only
        have h9 := hin9 c_1; omega
set_option maxHeartbeats 1000000 in
set_option maxRecDepth 100000 in
theorem ct_X9_isClockSound (l : Launch) (g : Gl) (ω : Wd) (ad : Ix → Nat) (x : Ex) (σ : St) (hR : RepC g ad x σ ω) (hs : snd5 σ) : CT l g yX9_isClockSound cX9_isClockSound 1 (some .boolean) 4 86 0 0 [.ref (ad .main)] ω (dv (some (.int 1)) ω) (nox) := by
  refine CT.of (own := "Boringhead") rfl rfl (le_b rfl) rfl ?_
  intro p e s m args below meth c sz0 hC hr htab hin
  refine s_aload_n hC dX9_isClockSound_0 rfl rfl 0 rfl ?_
  refine s_getf hC cs_X9 5 tw_242 (le_b rfl) (RepC.f_main hR) rfl dX9_isClockSound_1 rfl ?_
  refine s_getfN hC cs_X1 0 tw_192 (le_b rfl) (RepC.f_clock hR) rfl dX9_isClockSound_4 rfl ?_
  refine s_aload_n hC dX9_isClockSound_7 rfl rfl 0 rfl ?_
  refine s_callV hC (ct_X9_minutesOfRings l g _ _ _ _ hR) ce_X9_minutesOfRings cs_X9 (RepC.f_main hR) tw_411 rfl rfl ⟨⟨le_b rfl, le_b rfl⟩, le_b rfl, le_b rfl⟩ (le_b rfl) dX9_isClockSound_8 rfl (dvk1 ?_) nokx
  refine s_aload_n hC dX9_isClockSound_11 rfl rfl 0 rfl ?_
  refine s_getf hC cs_X9 6 tw_243 (le_b rfl) (RepC.f_main hR) rfl dX9_isClockSound_12 rfl ?_
  refine s_callV hC (ct_X2_allWaits l g _ _ _ _ hR) ce_X2_allWaits cs_X2 (RepC.f_contract hR) tw_415 rfl rfl ⟨⟨le_b rfl, le_b rfl⟩, le_b rfl, le_b rfl⟩ (le_b rfl) dX9_isClockSound_15 rfl (dvk1 ?_) nokx
  refine s_iadd hC dX9_isClockSound_18 rfl ?_
  refine s_aload_n hC dX9_isClockSound_19 rfl rfl 0 rfl ?_
  refine s_getf hC cs_X9 5 tw_242 (le_b rfl) (RepC.f_main hR) rfl dX9_isClockSound_20 rfl ?_
  refine s_callV hC (ct_X1_forAllElse l g _ _ _ _ hR) ce_X1_forAllElse cs_X1 (RepC.f_clock hR) tw_419 rfl rfl ⟨⟨le_b rfl, le_b rfl⟩, le_b rfl, le_b rfl⟩ (le_b rfl) dX9_isClockSound_23 rfl (dvk1 ?_) nokx
  refine s_iadd hC dX9_isClockSound_26 rfl ?_
  refine z_icmp_ne hC (tgt := 34) dX9_isClockSound_27 rfl (by decide) (fun c_1 => (c_1 hs).elim) (fun c_1 => ?_)
  refine s_iconst hC (v := 1) dX9_isClockSound_30 rfl (by decide) ?_
  refine s_goto hC (tgt := 35) dX9_isClockSound_31 (by decide) ?_
  refine s_zret hC hr dX9_isClockSound_35 rfl (le_b rfl) (le_b rfl) ?_
  exact ⟨rfl, rfl⟩
set_option maxHeartbeats 1000000 in
set_option maxRecDepth 100000 in
theorem ct_X9_isSound (l : Launch) (g : Gl) (ω : Wd) (ad : Ix → Nat) (x : Ex) (σ : St) (hR : RepC g ad x σ ω) (hs1 : snd1 σ) (hs2 : snd2 σ) (hs3 : snd3 σ) (hs4 : snd4 σ) (hs5 : snd5 σ) : CT l g yX9_isSound cX9_isSound 1 (some .boolean) 5 106 0 0 [.ref (ad .main)] ω (okC g ad 0 (some (.int 1)) σ) (nox) := by
  refine CT.of (own := "Boringhead") rfl rfl (le_b rfl) rfl ?_
  intro p e s m args below meth c sz0 hC hr htab hin
  refine s_aload_n hC dX9_isSound_0 rfl rfl 0 rfl ?_
  refine s_callV hC (ct_X9_isCourseSound l g _ _ _ _ hR hs1) ce_X9_isCourseSound cs_X9 (RepC.f_main hR) tw_353 rfl rfl ⟨⟨le_b rfl, le_b rfl⟩, le_b rfl, le_b rfl⟩ (le_b rfl) dX9_isSound_1 rfl (fun r w h9 => ?_) nokx
  obtain ⟨rfl, cc9, rfl⟩ := h9
  have hR1 := RepC.trial4 hR cc9
  refine z_if_eq hC (tgt := 39) dX9_isSound_4 rfl (by decide) (fun c_1 => ((absurd c_1 (by decide) : False)).elim) (fun c_1 => ?_)
  refine s_aload_n hC dX9_isSound_7 rfl rfl 0 rfl ?_
  refine s_callV hC (ct_X9_isMuckSound l g _ _ _ _ hR1 hs2) ce_X9_isMuckSound cs_X9 (RepC.f_main hR1) tw_378 rfl rfl ⟨⟨le_b rfl, le_b rfl⟩, le_b rfl, le_b rfl⟩ (le_b rfl) dX9_isSound_8 rfl (dvk1 ?_) nokx
  refine z_if_eq hC (tgt := 39) dX9_isSound_11 rfl (by decide) (fun c_2 => ((absurd c_2 (by decide) : False)).elim) (fun c_2 => ?_)
  refine s_aload_n hC dX9_isSound_14 rfl rfl 0 rfl ?_
  refine s_callV hC (ct_X9_areEventsSound l g _ _ _ _ hR1 hs3) ce_X9_areEventsSound cs_X9 (RepC.f_main hR1) tw_387 rfl rfl ⟨⟨le_b rfl, le_b rfl⟩, le_b rfl, le_b rfl⟩ (le_b rfl) dX9_isSound_15 rfl (dvk1 ?_) nokx
  refine z_if_eq hC (tgt := 39) dX9_isSound_18 rfl (by decide) (fun c_3 => ((absurd c_3 (by decide) : False)).elim) (fun c_3 => ?_)
  refine s_aload_n hC dX9_isSound_21 rfl rfl 0 rfl ?_
  refine s_callV hC (ct_X9_areRingsSound l g _ _ _ _ hR1 hs4) ce_X9_areRingsSound cs_X9 (RepC.f_main hR1) tw_399 rfl rfl ⟨⟨le_b rfl, le_b rfl⟩, le_b rfl, le_b rfl⟩ (le_b rfl) dX9_isSound_22 rfl (dvk1 ?_) nokx
  refine z_if_eq hC (tgt := 39) dX9_isSound_25 rfl (by decide) (fun c_4 => ((absurd c_4 (by decide) : False)).elim) (fun c_4 => ?_)
  refine s_aload_n hC dX9_isSound_28 rfl rfl 0 rfl ?_
  refine s_callV hC (ct_X9_isClockSound l g _ _ _ _ hR1 hs5) ce_X9_isClockSound cs_X9 (RepC.f_main hR1) tw_407 rfl rfl ⟨⟨le_b rfl, le_b rfl⟩, le_b rfl, le_b rfl⟩ (le_b rfl) dX9_isSound_29 rfl (dvk1 ?_) nokx
  refine z_if_eq hC (tgt := 39) dX9_isSound_32 rfl (by decide) (fun c_5 => ((absurd c_5 (by decide) : False)).elim) (fun c_5 => ?_)
  refine s_iconst hC (v := 1) dX9_isSound_35 rfl (by decide) ?_
  refine s_goto hC (tgt := 40) dX9_isSound_36 (by decide) ?_
  refine s_zret hC hr dX9_isSound_40 rfl (le_b rfl) (le_b rfl) ?_
  exact okC_mk rfl rfl hR1 rfl rfl
