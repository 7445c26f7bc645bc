theorem bo2 (p k : Int32) : upd (upd (fun _ => 0) 0 p) 1 k = boA (p, k) := by
  funext x
  unfold upd
  rcases x with _ | _ | x <;> rfl
def bOK (σ : St) : Prop := σ.nb ≤ 20
theorem nb20 {n : Nat} (h : n ≤ 20) : ((20 : Int32) ≤ nI n) = (nI n = 20) := by
  apply propext
  constructor
  · intro h1
    have h2 : 20 ≤ n := (nI_leI (by decide : 20 < 2 ^ 31) (by omega)).mp h1
    obtain rfl : n = 20 := by omega
    rfl
  · intro h1
    rw [h1]
    decide
set_option maxHeartbeats 1000000 in
set_option maxRecDepth 100000 in
theorem ct_X11_bore (l : Launch) (g : Gl) (ω : Wd) (ad : Iy → Nat) (y : Ey) (σ : St) (hR : RepM g ad y σ ω) (p9 : Int32) (c9 : Int32) (hgr : grOK σ y) (hnb : bOK σ) : CT l g yX11_bore cX11_bore 3 (some .int) 7 152 2 165 [.ref (ad .main), .int p9, .int c9] ω (okM g ad (cd_bore σ p9 c9) Value.int (vl_bore σ p9 c9) (nx_bore σ p9 c9) σ) (nox) := by
  refine CT.of (own := "BoringheadModel") rfl rfl (le_b rfl) rfl ?_
  intro p e s m args below meth c sz0 hC hr htab hin
  refine s_aload_n hC dX11_bore_0 rfl rfl 0 rfl ?_
  refine s_callV hC (ct_X11_begins l g _ _ _ _ hR) ce_X11_begins cs_X11 (RepM.f_main hR) tw_1324 rfl rfl ⟨⟨le_b rfl, le_b rfl⟩, le_b rfl, le_b rfl⟩ (le_b rfl) dX11_bore_1 rfl (dvk0 ?_) nokx
  refine WP.rm (RepM.s_main_0 hR 0) (fun hR_1 => ?_)
  refine s_aload_n hC dX11_bore_4 rfl rfl 0 rfl ?_
  refine s_iload_n hC dX11_bore_5 rfl rfl 1 rfl ?_
  refine s_callS hC (ct_X11_isPlace l g _ _) ce_X11_isPlace tw_1415 rfl rfl ⟨⟨le_b rfl, le_b rfl⟩, le_b rfl, le_b rfl⟩ (le_b rfl) dX11_bore_6 rfl (dvk1 ?_) nokx
  rw [isP_inR]
  refine z_if_eqB hC (tgt := 21) dX11_bore_9 rfl (by decide) (fun c_1 => ?_) (fun c_1 => ?_)
  · refine s_iconst hC (v := 1) dX11_bore_21 rfl (by decide) ?_
    refine s_goto hC (tgt := 26) dX11_bore_22 (by decide) ?_
    refine s_iconst hC (v := 1) dX11_bore_26 rfl (by decide) ?_
    refine s_callV hC (ct_X11_fails_t l g _ _ _ _ hR_1 (by first | rfl | exact hth) _ (by decide)) ce_X11_fails cs_X11 (RepM.f_main hR_1) tw_1422 rfl rfl ⟨⟨le_b rfl, le_b rfl⟩, le_b rfl, le_b rfl⟩ (le_b rfl) dX11_bore_27 rfl (dvk1 ?_) nokx
    refine WP.rm (RepM.s_main_0 hR_1 _) (fun hR_27 => ?_)
    refine z_if_ne hC (tgt := 60) dX11_bore_30 rfl (by decide) (fun c_2 => ?_) (fun c_2 => ((absurd c_2 (by decide) : False)).elim)
    refine s_iconst hC (v := (-1)) dX11_bore_60 rfl (by decide) ?_
    refine s_iret hC hr dX11_bore_61 (le_b rfl) (le_b rfl) ?_
    exact okM_no 1 (by simp [cd_bore, nb20 hnb, c_1, c_2]) (by decide) (by rfl) hR_27 rfl rfl hgr
  · refine s_ldcS hC 32 rfl dX11_bore_12 rfl ?_
    refine s_iload_n hC dX11_bore_14 rfl rfl 2 rfl ?_
    refine s_callVs hC (ct_J0_indexOf_0f7a4 l g _ _ _ 4 (stF [99, 115, 114, 98]) (strK g _ (i := 1) rfl) (by decide) (by decide) _ lat_K) ce_J0_indexOf_0f7a4 rfl (strK g _ (i := 1) rfl) tw_1329 rfl rfl ⟨⟨le_b rfl, le_b rfl⟩, le_b rfl, le_b rfl⟩ (le_b rfl) dX11_bore_15 rfl (dvk1 ?_) nokx
    refine z_if_ge hC (tgt := 25) dX11_bore_18 rfl (by decide) (fun c_3 => ?_) (fun c_3 => ?_)
    · refine s_iconst hC (v := 0) dX11_bore_25 rfl (by decide) ?_
      refine s_iconst hC (v := 1) dX11_bore_26 rfl (by decide) ?_
      refine s_callV hC (ct_X11_fails_f l g _ _ _ _ hR_1 (by first | rfl | exact hth) _) ce_X11_fails cs_X11 (RepM.f_main hR_1) tw_1422 rfl rfl ⟨⟨le_b rfl, le_b rfl⟩, le_b rfl, le_b rfl⟩ (le_b rfl) dX11_bore_27 rfl (dvk1 ?_) nokx
      refine z_if_ne hC (tgt := 60) dX11_bore_30 rfl (by decide) (fun c_4 => ((absurd c_4 (by decide) : False)).elim) (fun c_4 => ?_)
      refine s_aload_n hC dX11_bore_33 rfl rfl 0 rfl ?_
      refine s_aload_n hC dX11_bore_34 rfl rfl 0 rfl ?_
      refine s_getf hC cs_X11 7 tw_1256 (le_b rfl) (RepM.f_main hR_1) rfl dX11_bore_35 rfl ?_
      refine s_callF hC (nA := 0) 0 (ct_Jx4a65c_size_8abf5 l g _ _ _ _ _ (RepM.f_bores hR_1)) rfl tw_276 tw_5 tw_274 tw_1431 (by decide +kernel) cs_Jx4a65c (RepM.f_bores hR_1) tw_1427 rfl rfl ⟨⟨le_b rfl, le_b rfl⟩, le_b rfl, le_b rfl⟩ (le_b rfl) dX11_bore_38 rfl (dvk1 ?_) nokx
      refine s_bipush hC (v := 20) dX11_bore_43 rfl (by decide) ?_
      refine z_icmp_ne hC (tgt := 52) dX11_bore_45 rfl (by decide) (fun c_5 => ?_) (fun c_5 => ?_)
      · refine s_iconst hC (v := 0) dX11_bore_52 rfl (by decide) ?_
        refine s_iconst hC (v := 2) dX11_bore_53 rfl (by decide) ?_
        refine s_callV hC (ct_X11_fails_f l g _ _ _ _ hR_1 (by first | rfl | exact hth) _) ce_X11_fails cs_X11 (RepM.f_main hR_1) tw_1422 rfl rfl ⟨⟨le_b rfl, le_b rfl⟩, le_b rfl, le_b rfl⟩ (le_b rfl) dX11_bore_54 rfl (dvk1 ?_) nokx
        refine z_if_eq hC (tgt := 62) dX11_bore_57 rfl (by decide) (fun c_6 => ?_) (fun c_6 => ((absurd c_6 (by decide) : False)).elim)
        refine s_aload_n hC dX11_bore_62 rfl rfl 0 rfl ?_
        refine s_getf hC cs_X11 7 tw_1256 (le_b rfl) (RepM.f_main hR_1) rfl dX11_bore_63 rfl ?_
        refine s_iconst hC (v := 2) dX11_bore_66 rfl (by decide) ?_
        refine s_newa hC 0 (at0 := .int) (ty := .int) (N' := 2) (a0 := (2, .inl (fun _ => 0))) rfl rfl tw_83 (fun _ => rfl) (by decide) (by decide) (by decide) (le_b rfl) (le_b rfl) dX11_bore_67 rfl (fun q_67 hq_67 => ?_)
        have hn_q_67 := RepM.ne hR_1 hq_67
        refine WP.rm (RepM.new hR_1 hq_67 _) (fun hR_q_67 => ?_)
        refine s_dup hC dX11_bore_69 rfl rfl ?_
        refine s_iconst hC (v := 0) dX11_bore_70 rfl (by decide) ?_
        refine s_iload_n hC dX11_bore_71 rfl rfl 1 rfl ?_
        refine s_iast hC (wup_s _ _ _) (vp_in_nI (by decide : 0 < 2) (by decide)) dX11_bore_72 rfl ?_
        refine WP.rm (RepM.by hR_q_67 hn_q_67 _) (fun hR_72 => ?_)
        refine s_dup hC dX11_bore_73 rfl rfl ?_
        refine s_iconst hC (v := 1) dX11_bore_74 rfl (by decide) ?_
        refine s_ldcS hC 32 rfl dX11_bore_75 rfl ?_
        refine s_iload_n hC dX11_bore_77 rfl rfl 2 rfl ?_
        refine s_callVs hC (ct_J0_indexOf_0f7a4 l g _ _ _ 4 (stF [99, 115, 114, 98]) (strK g _ (i := 1) rfl) (by decide) (by decide) _ lat_K) ce_J0_indexOf_0f7a4 rfl (strK g _ (i := 1) rfl) tw_1329 rfl rfl ⟨⟨le_b rfl, le_b rfl⟩, le_b rfl, le_b rfl⟩ (le_b rfl) dX11_bore_78 rfl (dvk1 ?_) nokx
        refine s_iast hC (wup_s _ _ _) (vp_in_nI (by decide : 1 < 2) (by decide)) dX11_bore_81 rfl ?_
        refine WP.rm (RepM.by hR_72 hn_q_67 _) (fun hR_81 => ?_)
        refine s_callF hC (nA := 1) 1 (ct_Jx4a65c_add_9ea2d l g _ _ _ _ _ (RepM.f_bores hR_81) _ _ _ (hR_81).lO.1 (hR_81).lO.2.1 (Nat.lt_of_le_of_lt hnb (by decide)) (RepM.e_bore hR_81) (Or.inr ⟨_, (wup_s _ _ _)⟩) (RepM.l_bore hR_81) (hR_81).hg) rfl tw_622 tw_5 tw_620 tw_1464 (by decide +kernel) cs_Jx4a65c (RepM.f_bores hR_81) tw_1461 rfl rfl ⟨⟨le_b rfl, le_b rfl⟩, le_b rfl, le_b rfl⟩ (le_b rfl) dX11_bore_82 rfl (fun r w h9 => ?_) nokx
        obtain ⟨rfl, ed2, cap2, f2, a1, a2, a3, a4, a5, a6, a7, a8⟩ := h9
        have hA := RepM.a_bore hR_81 (r := (p9, ixF (stF [99, 115, 114, 98]) c9 4 0)) (Eq.trans (wup_s _ _ _) (congrArg (fun f => some (Sum.inl (g.2.1 0, 2, Sum.inl f) : va_E)) (bo2 p9 (ixF (stF [99, 115, 114, 98]) c9 4 0)))) hn_q_67 a1 a2 a3 a4 a5 a6 a7 a8
        refine s_pop hC dX11_bore_87 rfl rfl ?_
        refine s_aload_n hC dX11_bore_88 rfl rfl 0 rfl ?_
        refine s_getf hC cs_X11 7 tw_1256 (le_b rfl) (RepM.f_main (ad := am_bore ad σ.nb ed2 q_67) hA) rfl dX11_bore_89 rfl ?_
        refine s_callF hC (nA := 0) 0 (ct_Jx4a65c_size_8abf5 l g _ _ _ _ _ (RepM.f_bores hA)) rfl tw_276 tw_5 tw_274 tw_1431 (by decide +kernel) cs_Jx4a65c (RepM.f_bores hA) tw_1427 rfl rfl ⟨⟨le_b rfl, le_b rfl⟩, le_b rfl, le_b rfl⟩ (le_b rfl) dX11_bore_92 rfl (dvk1 ?_) nokx
        refine s_iconst hC (v := 1) dX11_bore_97 rfl (by decide) ?_
        refine s_isub hC dX11_bore_98 rfl ?_
        refine s_iret hC hr dX11_bore_99 (le_b rfl) (le_b rfl) ?_
        exact okM_ok (by simp [cd_bore, nb20 hnb, c_1, c_3, c_4, c_5, c_6]) rfl (nI_pred _) hA rfl rfl rfl hgr
      · refine s_iconst hC (v := 1) dX11_bore_48 rfl (by decide) ?_
        refine s_goto hC (tgt := 53) dX11_bore_49 (by decide) ?_
        refine s_iconst hC (v := 2) dX11_bore_53 rfl (by decide) ?_
        refine s_callV hC (ct_X11_fails_t l g _ _ _ _ hR_1 (by first | rfl | exact hth) _ (by decide)) ce_X11_fails cs_X11 (RepM.f_main hR_1) tw_1422 rfl rfl ⟨⟨le_b rfl, le_b rfl⟩, le_b rfl, le_b rfl⟩ (le_b rfl) dX11_bore_54 rfl (dvk1 ?_) nokx
        refine WP.rm (RepM.s_main_0 hR_1 _) (fun hR_54 => ?_)
        refine z_if_eq hC (tgt := 62) dX11_bore_57 rfl (by decide) (fun c_7 => ((absurd c_7 (by decide) : False)).elim) (fun c_7 => ?_)
        refine s_iconst hC (v := (-1)) dX11_bore_60 rfl (by decide) ?_
        refine s_iret hC hr dX11_bore_61 (le_b rfl) (le_b rfl) ?_
        exact okM_no 2 (by simp [cd_bore, nb20 hnb, c_1, c_3, c_4, c_5, c_7]) (by decide) (by rfl) hR_54 rfl rfl hgr
    · refine s_iconst hC (v := 1) dX11_bore_21 rfl (by decide) ?_
      refine s_goto hC (tgt := 26) dX11_bore_22 (by decide) ?_
      refine s_iconst hC (v := 1) dX11_bore_26 rfl (by decide) ?_
      refine s_callV hC (ct_X11_fails_t l g _ _ _ _ hR_1 (by first | rfl | exact hth) _ (by decide)) ce_X11_fails cs_X11 (RepM.f_main hR_1) tw_1422 rfl rfl ⟨⟨le_b rfl, le_b rfl⟩, le_b rfl, le_b rfl⟩ (le_b rfl) dX11_bore_27 rfl (dvk1 ?_) nokx
      refine WP.rm (RepM.s_main_0 hR_1 _) (fun hR_27 => ?_)
      refine z_if_ne hC (tgt := 60) dX11_bore_30 rfl (by decide) (fun c_8 => ?_) (fun c_8 => ((absurd c_8 (by decide) : False)).elim)
      refine s_iconst hC (v := (-1)) dX11_bore_60 rfl (by decide) ?_
      refine s_iret hC hr dX11_bore_61 (le_b rfl) (le_b rfl) ?_
      exact okM_no 1 (by simp [cd_bore, nb20 hnb, c_1, c_3, c_8]) (by decide) (by rfl) hR_27 rfl rfl hgr
theorem ixF_cg {f f' : Nat → Int32} {n : Nat} (c : Int32) (k : Nat) (h : ∀ q, q < n → f (k + q) = f' (k + q)) : ixF f c n k = ixF f' c n k := by
  induction n generalizing k with
  | zero => rfl
  | succ n ih =>
    have h0 := h 0 (by omega)
    rw [Nat.add_zero] at h0
    rw [ixF, ixF, h0, ih (k + 1) (fun q hq => by have := h (q + 1) (by omega); rwa [show k + 1 + q = k + (q + 1) by omega])]
theorem ixF_c7 {f f' : Nat → Int32} (h : ∀ q, q < 7 → f q = f' q) (c : Int32) : ixF f c 7 0 = ixF f' c 7 0 := ixF_cg c 0 (fun q hq => by rw [Nat.zero_add]; exact h q hq)
theorem RepM.sv {g : Gl} {ad : Iy → Nat} {y : Ey} {s : St} {ω : Wd} (h : RepM g ad y s ω) : ∃ v f, strV g ω (ad .str) v 7 f ∧ ∀ k, k < 7 → f k = s.order k := by
  cases hd : y.sd
  · obtain ⟨h1, h2⟩ := h.st hd
    exact ⟨_, _, Or.inr ⟨0, (31, [103, 112, 99, 115, 109, 119, 104]), rfl, h1, rfl, rfl, rfl⟩, fun k hk => (h2 k hk).symm⟩
  · exact ⟨_, _, Or.inl ⟨_, _, RepM.f_str h hd, RepM.f_sval h hd⟩, fun _ _ => rfl⟩
/-- the letters of the contract: those of CAUSES, below 128 -/
def oOK (s : St) : Prop := (∀ c, (0 ≤ ixF s.order c 7 0) = (0 ≤ ixF (stF [103, 112, 99, 115, 109, 119, 104]) c 7 0)) ∧ latF s.order 7
theorem lat_7 {f f' : Nat → Int32} (h : ∀ k, k < 7 → f k = f' k) (hl : latF f' 7) : latF f 7 := fun k hk => by
  rw [h k hk]
  exact hl k hk
theorem whF_in (c : Int32) : vp_in (whF c) 3 ∧ ∀ f, atF 3 f (whF c) = f (whF c).toNatClampNeg := by
  have h : ∃ k, k < 3 ∧ whF c = nI k := by
    unfold whF
    split
    · exact ⟨1, by decide, rfl⟩
    · split
      · exact ⟨1, by decide, rfl⟩
      · split
        · exact ⟨2, by decide, rfl⟩
        · exact ⟨0, by decide, rfl⟩
  obtain ⟨k, hk, he⟩ := h
  rw [he]
  exact ⟨vp_in_nI hk (by decide), fun f => by rw [atF_in (by decide) hk, nI_clamp (by omega)]⟩
set_option maxHeartbeats 1000000 in
set_option maxRecDepth 100000 in
theorem ct_X11_pause (l : Launch) (g : Gl) (ω : Wd) (ad : Iy → Nat) (y : Ey) (σ : St) (hR : RepM g ad y σ ω) (m9 : Int32) (c9 : Int32) (d9 : Int32) (hgr : grOK σ y) (ho : oOK σ) : CT l g yX11_pause cX11_pause 6 (some .int) 4 91 0 0 [.ref (ad .main), .int m9, .int c9, .int d9] ω (okM g ad (cd_pause σ m9 c9 d9) Value.int (vl_pause σ m9 c9 d9) (nx_pause σ m9 c9 d9) σ) (nox) := by
  refine CT.of (own := "BoringheadModel") rfl rfl (le_b rfl) rfl ?_
  intro p e s m args below meth c sz0 hC hr htab hin
  refine s_aload_n hC dX11_pause_0 rfl rfl 0 rfl ?_
  refine s_callV hC (ct_X11_begins l g _ _ _ _ hR) ce_X11_begins cs_X11 (RepM.f_main hR) tw_1324 rfl rfl ⟨⟨le_b rfl, le_b rfl⟩, le_b rfl, le_b rfl⟩ (le_b rfl) dX11_pause_1 rfl (dvk0 ?_) nokx
  refine WP.rm (RepM.s_main_0 hR 0) (fun hR_1 => ?_)
  obtain ⟨v9, f9, hsv, hf9⟩ := RepM.sv hR_1
  have hlf : latF f9 7 := lat_7 hf9 ho.2
  refine s_iload_n hC dX11_pause_4 rfl rfl 1 rfl ?_
  refine s_i2l hC dX11_pause_5 rfl rfl ?_
  refine s_lconst hC (v := 1) dX11_pause_6 rfl (by decide) ?_
  refine s_ldc2 hC tw_1798 dX11_pause_7 rfl ?_
  refine s_callS hC (ct_X11_in l g _ _ _ _) ce_X11_in tw_1419 rfl rfl ⟨⟨le_b rfl, le_b rfl⟩, le_b rfl, le_b rfl⟩ (le_b rfl) dX11_pause_10 rfl (dvk1 ?_) nokx
  rw [inJ_inR m9 1 1440 (by first | rfl | decide) (by first | rfl | decide)]
  refine z_if_eqB hC (tgt := 53) dX11_pause_13 rfl (by decide) (fun c_1 => ?_) (fun c_1 => ?_)
  · refine s_iconst hC (v := 0) dX11_pause_53 rfl (by decide) ?_
    refine s_istore hC (L' := [(4, _), (0, _), (1, _), (2, _), (3, _)]) dX11_pause_54 rfl (le_b rfl) rfl ?_
    refine s_aload_n hC dX11_pause_56 rfl rfl 1 rfl ?_
    refine s_iload hC dX11_pause_57 rfl 0 rfl ?_
    refine z_if_ne hC (tgt := 66) dX11_pause_59 rfl (by decide) (fun c_2 => ((absurd c_2 (by decide) : False)).elim) (fun c_2 => ?_)
    refine s_iconst hC (v := 1) dX11_pause_62 rfl (by decide) ?_
    refine s_goto hC (tgt := 67) dX11_pause_63 (by decide) ?_
    refine s_iconst hC (v := 1) dX11_pause_67 rfl (by decide) ?_
    refine s_callV hC (ct_X11_fails_t l g _ _ _ _ hR_1 (by first | rfl | exact hth) _ (by decide)) ce_X11_fails cs_X11 (RepM.f_main hR_1) tw_1422 rfl rfl ⟨⟨le_b rfl, le_b rfl⟩, le_b rfl, le_b rfl⟩ (le_b rfl) dX11_pause_68 rfl (dvk1 ?_) nokx
    refine WP.rm (RepM.s_main_0 hR_1 _) (fun hR_68 => ?_)
    refine z_if_ne hC (tgt := 98) dX11_pause_71 rfl (by decide) (fun c_3 => ?_) (fun c_3 => ((absurd c_3 (by decide) : False)).elim)
    refine s_iconst hC (v := (-1)) dX11_pause_98 rfl (by decide) ?_
    refine s_iret hC hr dX11_pause_99 (le_b rfl) (le_b rfl) ?_
    have hcd : cd_pause σ m9 c9 d9 = 1 := by
      first
      | (simp [cd_pause, ← ho.1 c9, ← ho.1 d9, c_1, c_2, c_3]; done)
    exact okM_no 1 hcd (by decide) (by rfl) hR_68 rfl rfl hgr
  · refine s_aload_n hC dX11_pause_16 rfl rfl 0 rfl ?_
    refine s_getf hC cs_X11 20 tw_1269 (le_b rfl) (RepM.f_main hR_1) rfl dX11_pause_17 rfl ?_
    refine s_iload_n hC dX11_pause_20 rfl rfl 2 rfl ?_
    refine s_callVs hC (ct_J0_indexOf_0f7a4 l g _ _ _ 7 f9 hsv (by decide) (by decide) _ hlf) ce_J0_indexOf_0f7a4 rfl hsv tw_1329 rfl rfl ⟨⟨le_b rfl, le_b rfl⟩, le_b rfl, le_b rfl⟩ (le_b rfl) dX11_pause_21 rfl (dvk1 ?_) nokx
    rw [ixF_c7 hf9]
    refine z_if_lt hC (tgt := 53) dX11_pause_24 rfl (by decide) (fun c_4 => ?_) (fun c_4 => ?_)
    · refine s_iconst hC (v := 0) dX11_pause_53 rfl (by decide) ?_
      refine s_istore hC (L' := [(4, _), (0, _), (1, _), (2, _), (3, _)]) dX11_pause_54 rfl (le_b rfl) rfl ?_
      refine s_aload_n hC dX11_pause_56 rfl rfl 1 rfl ?_
      refine s_iload hC dX11_pause_57 rfl 0 rfl ?_
      refine z_if_ne hC (tgt := 66) dX11_pause_59 rfl (by decide) (fun c_5 => ((absurd c_5 (by decide) : False)).elim) (fun c_5 => ?_)
      refine s_iconst hC (v := 1) dX11_pause_62 rfl (by decide) ?_
      refine s_goto hC (tgt := 67) dX11_pause_63 (by decide) ?_
      refine s_iconst hC (v := 1) dX11_pause_67 rfl (by decide) ?_
      refine s_callV hC (ct_X11_fails_t l g _ _ _ _ hR_1 (by first | rfl | exact hth) _ (by decide)) ce_X11_fails cs_X11 (RepM.f_main hR_1) tw_1422 rfl rfl ⟨⟨le_b rfl, le_b rfl⟩, le_b rfl, le_b rfl⟩ (le_b rfl) dX11_pause_68 rfl (dvk1 ?_) nokx
      refine WP.rm (RepM.s_main_0 hR_1 _) (fun hR_68 => ?_)
      refine z_if_ne hC (tgt := 98) dX11_pause_71 rfl (by decide) (fun c_6 => ?_) (fun c_6 => ((absurd c_6 (by decide) : False)).elim)
      refine s_iconst hC (v := (-1)) dX11_pause_98 rfl (by decide) ?_
      refine s_iret hC hr dX11_pause_99 (le_b rfl) (le_b rfl) ?_
      have hcd : cd_pause σ m9 c9 d9 = 1 := by
        first
        | (simp [cd_pause, ← ho.1 c9, ← ho.1 d9, c_1, c_4, c_5, c_6]; done)
      exact okM_no 1 hcd (by decide) (by rfl) hR_68 rfl rfl hgr
    · refine s_iload_n hC dX11_pause_27 rfl rfl 3 rfl ?_
      refine s_bipush hC (v := 45) dX11_pause_28 rfl (by decide) ?_
      refine z_icmp_eq hC (tgt := 44) dX11_pause_30 rfl (by decide) (fun c_7 => ?_) (fun c_7 => ?_)
      · refine s_iload_n hC dX11_pause_44 rfl rfl 2 rfl ?_
        refine s_iload_n hC dX11_pause_45 rfl rfl 3 rfl ?_
        refine z_icmp_eq hC (tgt := 53) dX11_pause_46 rfl (by decide) (fun c_8 => ?_) (fun c_8 => ?_)
        · refine s_iconst hC (v := 0) dX11_pause_53 rfl (by decide) ?_
          refine s_istore hC (L' := [(4, _), (0, _), (1, _), (2, _), (3, _)]) dX11_pause_54 rfl (le_b rfl) rfl ?_
          refine s_aload_n hC dX11_pause_56 rfl rfl 1 rfl ?_
          refine s_iload hC dX11_pause_57 rfl 0 rfl ?_
          refine z_if_ne hC (tgt := 66) dX11_pause_59 rfl (by decide) (fun c_9 => ((absurd c_9 (by decide) : False)).elim) (fun c_9 => ?_)
          refine s_iconst hC (v := 1) dX11_pause_62 rfl (by decide) ?_
          refine s_goto hC (tgt := 67) dX11_pause_63 (by decide) ?_
          refine s_iconst hC (v := 1) dX11_pause_67 rfl (by decide) ?_
          refine s_callV hC (ct_X11_fails_t l g _ _ _ _ hR_1 (by first | rfl | exact hth) _ (by decide)) ce_X11_fails cs_X11 (RepM.f_main hR_1) tw_1422 rfl rfl ⟨⟨le_b rfl, le_b rfl⟩, le_b rfl, le_b rfl⟩ (le_b rfl) dX11_pause_68 rfl (dvk1 ?_) nokx
          refine WP.rm (RepM.s_main_0 hR_1 _) (fun hR_68 => ?_)
          refine z_if_ne hC (tgt := 98) dX11_pause_71 rfl (by decide) (fun c_10 => ?_) (fun c_10 => ((absurd c_10 (by decide) : False)).elim)
          refine s_iconst hC (v := (-1)) dX11_pause_98 rfl (by decide) ?_
          refine s_iret hC hr dX11_pause_99 (le_b rfl) (le_b rfl) ?_
          have hcd : cd_pause σ m9 c9 d9 = 1 := by
            first
            | (simp [cd_pause, ← ho.1 c9, ← ho.1 d9, c_1, c_4, c_7, c_8, c_9, c_10]; done)
            | (have hx9 : ¬ c9 = 45 := fun h => c_8 (h.trans (c_7).symm); simp [cd_pause, ← ho.1 c9, ← ho.1 d9, c_1, c_4, c_7, c_8, c_9, c_10, hx9])
          exact okM_no 1 hcd (by decide) (by rfl) hR_68 rfl rfl hgr
        · refine s_iconst hC (v := 1) dX11_pause_49 rfl (by decide) ?_
          refine s_goto hC (tgt := 54) dX11_pause_50 (by decide) ?_
          refine s_istore hC (L' := [(4, _), (0, _), (1, _), (2, _), (3, _)]) dX11_pause_54 rfl (le_b rfl) rfl ?_
          refine s_aload_n hC dX11_pause_56 rfl rfl 1 rfl ?_
          refine s_iload hC dX11_pause_57 rfl 0 rfl ?_
          refine z_if_ne hC (tgt := 66) dX11_pause_59 rfl (by decide) (fun c_11 => ?_) (fun c_11 => ((absurd c_11 (by decide) : False)).elim)
          refine s_iconst hC (v := 0) dX11_pause_66 rfl (by decide) ?_
          refine s_iconst hC (v := 1) dX11_pause_67 rfl (by decide) ?_
          refine s_callV hC (ct_X11_fails_f l g _ _ _ _ hR_1 (by first | rfl | exact hth) _) ce_X11_fails cs_X11 (RepM.f_main hR_1) tw_1422 rfl rfl ⟨⟨le_b rfl, le_b rfl⟩, le_b rfl, le_b rfl⟩ (le_b rfl) dX11_pause_68 rfl (dvk1 ?_) nokx
          refine z_if_ne hC (tgt := 98) dX11_pause_71 rfl (by decide) (fun c_12 => ((absurd c_12 (by decide) : False)).elim) (fun c_12 => ?_)
          refine s_aload_n hC dX11_pause_74 rfl rfl 1 rfl ?_
          refine s_aload_n hC dX11_pause_75 rfl rfl 1 rfl ?_
          refine s_getf hC cs_X11 19 tw_1268 (le_b rfl) (RepM.f_main hR_1) rfl dX11_pause_76 rfl ?_
          refine s_iload_n hC dX11_pause_79 rfl rfl 2 rfl ?_
          refine s_iadd hC dX11_pause_80 rfl ?_
          refine s_ldcI hC tw_1588 dX11_pause_81 rfl ?_
          refine z_icmp_le hC (tgt := 90) dX11_pause_83 rfl (by decide) (fun c_13 => ?_) (fun c_13 => ?_)
          · refine s_iconst hC (v := 0) dX11_pause_90 rfl (by decide) ?_
            refine s_iconst hC (v := 2) dX11_pause_91 rfl (by decide) ?_
            refine s_callV hC (ct_X11_fails_f l g _ _ _ _ hR_1 (by first | rfl | exact hth) _) ce_X11_fails cs_X11 (RepM.f_main hR_1) tw_1422 rfl rfl ⟨⟨le_b rfl, le_b rfl⟩, le_b rfl, le_b rfl⟩ (le_b rfl) dX11_pause_92 rfl (dvk1 ?_) nokx
            refine z_if_eq hC (tgt := 100) dX11_pause_95 rfl (by decide) (fun c_14 => ?_) (fun c_14 => ((absurd c_14 (by decide) : False)).elim)
            refine s_iload_n hC dX11_pause_100 rfl rfl 4 rfl ?_
            refine s_bipush hC (v := 45) dX11_pause_101 rfl (by decide) ?_
            refine z_icmp_eq hC (tgt := 129) dX11_pause_103 rfl (by decide) (fun c_15 => ?_) (fun c_15 => ?_)
            · refine s_iload_n hC dX11_pause_129 rfl rfl 3 rfl ?_
              refine WP.top (.int (awF σ c9 d9)) (congrArg Value.int (by first | exact absurd c_15 c_7 | exact absurd c_7 c_15 | (simp [awF, c_1, c_4, c_7, c_8, c_11, c_12, c_13, c_14, c_15]; done))) ?_
              refine s_istore hC (L' := [(5, _), (4, _), (0, _), (1, _), (2, _), (3, _)]) dX11_pause_130 rfl (le_b rfl) rfl ?_
              refine s_aload_n hC dX11_pause_132 rfl rfl 2 rfl ?_
              refine s_getf hC cs_X11 21 tw_1270 (le_b rfl) (RepM.f_main hR_1) rfl dX11_pause_133 rfl ?_
              refine s_iload hC dX11_pause_136 rfl 0 rfl ?_
              refine s_callS hC (ct_X11_whose l g _ _) ce_X11_whose tw_1799 rfl rfl ⟨⟨le_b rfl, le_b rfl⟩, le_b rfl, le_b rfl⟩ (le_b rfl) dX11_pause_138 rfl (dvk1 ?_) nokx
              refine s_dup2_11 hC dX11_pause_141 rfl rfl rfl ?_
              refine s_ialdK hC (Or.inl (RepM.f_waits hR_1)) (whF_in _).1 dX11_pause_142 rfl ?_
              refine s_iload_n hC dX11_pause_143 rfl rfl 3 rfl ?_
              refine s_iadd hC dX11_pause_144 rfl ?_
              refine WP.top (.int (atF 3 σ.waits (whF (awF σ c9 d9)) + m9)) (congrArg Value.int (by rw [(whF_in _).2])) ?_
              refine s_iast hC (RepM.f_waits hR_1) (whF_in _).1 dX11_pause_145 rfl ?_
              refine WP.rm (RepM.w_waits hR_1 _) (fun hR_145 => ?_)
              change RepM g ad _ (σ.w_waits (adwF σ m9 c9 d9)) _ at hR_145
              refine s_aload_n hC dX11_pause_146 rfl rfl 2 rfl ?_
              refine s_dup hC dX11_pause_147 rfl rfl ?_
              refine s_getf hC cs_X11 19 tw_1268 (le_b rfl) (RepM.f_main hR_145) rfl dX11_pause_148 rfl ?_
              refine s_iload_n hC dX11_pause_151 rfl rfl 3 rfl ?_
              refine s_iadd hC dX11_pause_152 rfl ?_
              refine s_putf hC cs_X11 19 tw_1268 (le_b rfl) rfl rfl rfl (RepM.f_main hR_145) (le_b rfl) dX11_pause_153 rfl ?_
              refine WP.rm (RepM.s_main_19 hR_145 _) (fun hR_153 => ?_)
              refine s_aload_n hC dX11_pause_156 rfl rfl 2 rfl ?_
              refine s_getf hC cs_X11 19 tw_1268 (le_b rfl) (RepM.f_main hR_153) rfl dX11_pause_157 rfl ?_
              refine s_iret hC hr dX11_pause_160 (le_b rfl) (le_b rfl) ?_
              have hcd : cd_pause σ m9 c9 d9 = 0 := by
                first
                | exact absurd c_15 c_7
                | exact absurd c_7 c_15
                | (simp [cd_pause, ← ho.1 c9, ← ho.1 d9, c_1, c_4, c_7, c_8, c_11, c_12, c_13, c_14, c_15]; done)
                | (have hx9 : ¬ c9 = 45 := fun h => c_8 (h.trans (c_7).symm); simp [cd_pause, ← ho.1 c9, ← ho.1 d9, c_1, c_4, c_7, c_8, c_11, c_12, c_13, c_14, c_15, hx9])
              have hv : (St.mn ((σ.w_waits (adwF σ m9 c9 d9)).w_mn ((σ.w_waits (adwF σ m9 c9 d9)).mn + m9))) = vl_pause σ m9 c9 d9 := by simp only [vl_pause, St.kinds, St.refs, St.depths, St.waters, St.bR, St.bU, St.wears, St.order, St.waits, St.hR, St.hU, St.oR, St.oU, St.press, St.foam, St.pR, St.pU, St.seg, St.pit, St.away, St.mn, St.fc, St.fl, St.fo, St.n, St.ring, St.nh, St.hs, St.nb, St.bo, St.w_kinds, St.w_refs, St.w_depths, St.w_waters, St.w_bR, St.w_bU, St.w_wears, St.w_order, St.w_waits, St.w_hR, St.w_hU, St.w_oR, St.w_oU, St.w_press, St.w_foam, St.w_pR, St.w_pU, St.w_seg, St.w_pit, St.w_away, St.w_mn, St.w_fc, St.w_fl, St.w_fo, St.w_n, St.w_ring, St.w_nh, St.w_hs, St.w_nb, St.w_bo, St.w_course, St.a_ring, St.a_house, St.a_bore]
              have hg2 : grOK (nx_pause σ m9 c9 d9) (y.w_th 0) := grOK_cg hgr (by simp only [nx_pause, St.kinds, St.refs, St.depths, St.waters, St.bR, St.bU, St.wears, St.order, St.waits, St.hR, St.hU, St.oR, St.oU, St.press, St.foam, St.pR, St.pU, St.seg, St.pit, St.away, St.mn, St.fc, St.fl, St.fo, St.n, St.ring, St.nh, St.hs, St.nb, St.bo, St.w_kinds, St.w_refs, St.w_depths, St.w_waters, St.w_bR, St.w_bU, St.w_wears, St.w_order, St.w_waits, St.w_hR, St.w_hU, St.w_oR, St.w_oU, St.w_press, St.w_foam, St.w_pR, St.w_pU, St.w_seg, St.w_pit, St.w_away, St.w_mn, St.w_fc, St.w_fl, St.w_fo, St.w_n, St.w_ring, St.w_nh, St.w_hs, St.w_nb, St.w_bo, St.w_course, St.a_ring, St.a_house, St.a_bore]) (by simp only [nx_pause, St.kinds, St.refs, St.depths, St.waters, St.bR, St.bU, St.wears, St.order, St.waits, St.hR, St.hU, St.oR, St.oU, St.press, St.foam, St.pR, St.pU, St.seg, St.pit, St.away, St.mn, St.fc, St.fl, St.fo, St.n, St.ring, St.nh, St.hs, St.nb, St.bo, St.w_kinds, St.w_refs, St.w_depths, St.w_waters, St.w_bR, St.w_bU, St.w_wears, St.w_order, St.w_waits, St.w_hR, St.w_hU, St.w_oR, St.w_oU, St.w_press, St.w_foam, St.w_pR, St.w_pU, St.w_seg, St.w_pit, St.w_away, St.w_mn, St.w_fc, St.w_fl, St.w_fo, St.w_n, St.w_ring, St.w_nh, St.w_hs, St.w_nb, St.w_bo, St.w_course, St.a_ring, St.a_house, St.a_bore]) rfl
              exact okM_ok hcd rfl hv hR_153 rfl rfl rfl hg2
            · refine s_aload_n hC dX11_pause_106 rfl rfl 1 rfl ?_
              refine s_getf hC cs_X11 20 tw_1269 (le_b rfl) (RepM.f_main hR_1) rfl dX11_pause_107 rfl ?_
              refine s_iload_n hC dX11_pause_110 rfl rfl 4 rfl ?_
              refine s_callVs hC (ct_J0_indexOf_0f7a4 l g _ _ _ 7 f9 hsv (by decide) (by decide) _ hlf) ce_J0_indexOf_0f7a4 rfl hsv tw_1329 rfl rfl ⟨⟨le_b rfl, le_b rfl⟩, le_b rfl, le_b rfl⟩ (le_b rfl) dX11_pause_111 rfl (dvk1 ?_) nokx
              rw [ixF_c7 hf9]
              refine s_aload_n hC dX11_pause_114 rfl rfl 1 rfl ?_
              refine s_getf hC cs_X11 20 tw_1269 (le_b rfl) (RepM.f_main hR_1) rfl dX11_pause_115 rfl ?_
              refine s_iload_n hC dX11_pause_118 rfl rfl 3 rfl ?_
              refine s_callVs hC (ct_J0_indexOf_0f7a4 l g _ _ _ 7 f9 hsv (by decide) (by decide) _ hlf) ce_J0_indexOf_0f7a4 rfl hsv tw_1329 rfl rfl ⟨⟨le_b rfl, le_b rfl⟩, le_b rfl, le_b rfl⟩ (le_b rfl) dX11_pause_119 rfl (dvk1 ?_) nokx
              rw [ixF_c7 hf9]
              refine z_icmp_ge hC (tgt := 129) dX11_pause_122 rfl (by decide) (fun c_16 => ?_) (fun c_16 => ?_)
              · refine s_iload_n hC dX11_pause_129 rfl rfl 3 rfl ?_
                refine WP.top (.int (awF σ c9 d9)) (congrArg Value.int (by first | exact absurd c_15 c_7 | exact absurd c_7 c_15 | (simp [awF, c_1, c_4, c_7, c_8, c_11, c_12, c_13, c_14, c_15, c_16]; done))) ?_
                refine s_istore hC (L' := [(5, _), (4, _), (0, _), (1, _), (2, _), (3, _)]) dX11_pause_130 rfl (le_b rfl) rfl ?_
                refine s_aload_n hC dX11_pause_132 rfl rfl 2 rfl ?_
                refine s_getf hC cs_X11 21 tw_1270 (le_b rfl) (RepM.f_main hR_1) rfl dX11_pause_133 rfl ?_
                refine s_iload hC dX11_pause_136 rfl 0 rfl ?_
                refine s_callS hC (ct_X11_whose l g _ _) ce_X11_whose tw_1799 rfl rfl ⟨⟨le_b rfl, le_b rfl⟩, le_b rfl, le_b rfl⟩ (le_b rfl) dX11_pause_138 rfl (dvk1 ?_) nokx
                refine s_dup2_11 hC dX11_pause_141 rfl rfl rfl ?_
                refine s_ialdK hC (Or.inl (RepM.f_waits hR_1)) (whF_in _).1 dX11_pause_142 rfl ?_
                refine s_iload_n hC dX11_pause_143 rfl rfl 3 rfl ?_
                refine s_iadd hC dX11_pause_144 rfl ?_
                refine WP.top (.int (atF 3 σ.waits (whF (awF σ c9 d9)) + m9)) (congrArg Value.int (by rw [(whF_in _).2])) ?_
                refine s_iast hC (RepM.f_waits hR_1) (whF_in _).1 dX11_pause_145 rfl ?_
                refine WP.rm (RepM.w_waits hR_1 _) (fun hR_145 => ?_)
                change RepM g ad _ (σ.w_waits (adwF σ m9 c9 d9)) _ at hR_145
                refine s_aload_n hC dX11_pause_146 rfl rfl 2 rfl ?_
                refine s_dup hC dX11_pause_147 rfl rfl ?_
                refine s_getf hC cs_X11 19 tw_1268 (le_b rfl) (RepM.f_main hR_145) rfl dX11_pause_148 rfl ?_
                refine s_iload_n hC dX11_pause_151 rfl rfl 3 rfl ?_
                refine s_iadd hC dX11_pause_152 rfl ?_
                refine s_putf hC cs_X11 19 tw_1268 (le_b rfl) rfl rfl rfl (RepM.f_main hR_145) (le_b rfl) dX11_pause_153 rfl ?_
                refine WP.rm (RepM.s_main_19 hR_145 _) (fun hR_153 => ?_)
                refine s_aload_n hC dX11_pause_156 rfl rfl 2 rfl ?_
                refine s_getf hC cs_X11 19 tw_1268 (le_b rfl) (RepM.f_main hR_153) rfl dX11_pause_157 rfl ?_
                refine s_iret hC hr dX11_pause_160 (le_b rfl) (le_b rfl) ?_
                have hcd : cd_pause σ m9 c9 d9 = 0 := by
                  first
                  | exact absurd c_15 c_7
                  | exact absurd c_7 c_15
                  | (simp [cd_pause, ← ho.1 c9, ← ho.1 d9, c_1, c_4, c_7, c_8, c_11, c_12, c_13, c_14, c_15, c_16]; done)
                  | (have hx9 : ¬ c9 = 45 := fun h => c_8 (h.trans (c_7).symm); simp [cd_pause, ← ho.1 c9, ← ho.1 d9, c_1, c_4, c_7, c_8, c_11, c_12, c_13, c_14, c_15, c_16, hx9])
                have hv : (St.mn ((σ.w_waits (adwF σ m9 c9 d9)).w_mn ((σ.w_waits (adwF σ m9 c9 d9)).mn + m9))) = vl_pause σ m9 c9 d9 := by simp only [vl_pause, St.kinds, St.refs, St.depths, St.waters, St.bR, St.bU, St.wears, St.order, St.waits, St.hR, St.hU, St.oR, St.oU, St.press, St.foam, St.pR, St.pU, St.seg, St.pit, St.away, St.mn, St.fc, St.fl, St.fo, St.n, St.ring, St.nh, St.hs, St.nb, St.bo, St.w_kinds, St.w_refs, St.w_depths, St.w_waters, St.w_bR, St.w_bU, St.w_wears, St.w_order, St.w_waits, St.w_hR, St.w_hU, St.w_oR, St.w_oU, St.w_press, St.w_foam, St.w_pR, St.w_pU, St.w_seg, St.w_pit, St.w_away, St.w_mn, St.w_fc, St.w_fl, St.w_fo, St.w_n, St.w_ring, St.w_nh, St.w_hs, St.w_nb, St.w_bo, St.w_course, St.a_ring, St.a_house, St.a_bore]
                have hg2 : grOK (nx_pause σ m9 c9 d9) (y.w_th 0) := grOK_cg hgr (by simp only [nx_pause, St.kinds, St.refs, St.depths, St.waters, St.bR, St.bU, St.wears, St.order, St.waits, St.hR, St.hU, St.oR, St.oU, St.press, St.foam, St.pR, St.pU, St.seg, St.pit, St.away, St.mn, St.fc, St.fl, St.fo, St.n, St.ring, St.nh, St.hs, St.nb, St.bo, St.w_kinds, St.w_refs, St.w_depths, St.w_waters, St.w_bR, St.w_bU, St.w_wears, St.w_order, St.w_waits, St.w_hR, St.w_hU, St.w_oR, St.w_oU, St.w_press, St.w_foam, St.w_pR, St.w_pU, St.w_seg, St.w_pit, St.w_away, St.w_mn, St.w_fc, St.w_fl, St.w_fo, St.w_n, St.w_ring, St.w_nh, St.w_hs, St.w_nb, St.w_bo, St.w_course, St.a_ring, St.a_house, St.a_bore]) (by simp only [nx_pause, St.kinds, St.refs, St.depths, St.waters, St.bR, St.bU, St.wears, St.order, St.waits, St.hR, St.hU, St.oR, St.oU, St.press, St.foam, St.pR, St.pU, St.seg, St.pit, St.away, St.mn, St.fc, St.fl, St.fo, St.n, St.ring, St.nh, St.hs, St.nb, St.bo, St.w_kinds, St.w_refs, St.w_depths, St.w_waters, St.w_bR, St.w_bU, St.w_wears, St.w_order, St.w_waits, St.w_hR, St.w_hU, St.w_oR, St.w_oU, St.w_press, St.w_foam, St.w_pR, St.w_pU, St.w_seg, St.w_pit, St.w_away, St.w_mn, St.w_fc, St.w_fl, St.w_fo, St.w_n, St.w_ring, St.w_nh, St.w_hs, St.w_nb, St.w_bo, St.w_course, St.a_ring, St.a_house, St.a_bore]) rfl
                exact okM_ok hcd rfl hv hR_153 rfl rfl rfl hg2
              · refine s_iload_n hC dX11_pause_125 rfl rfl 4 rfl ?_
                refine s_goto hC (tgt := 130) dX11_pause_126 (by decide) ?_
                refine WP.top (.int (awF σ c9 d9)) (congrArg Value.int (by first | exact absurd c_15 c_7 | exact absurd c_7 c_15 | (simp [awF, c_1, c_4, c_7, c_8, c_11, c_12, c_13, c_14, c_15, c_16]; done))) ?_
                refine s_istore hC (L' := [(5, _), (4, _), (0, _), (1, _), (2, _), (3, _)]) dX11_pause_130 rfl (le_b rfl) rfl ?_
                refine s_aload_n hC dX11_pause_132 rfl rfl 2 rfl ?_
                refine s_getf hC cs_X11 21 tw_1270 (le_b rfl) (RepM.f_main hR_1) rfl dX11_pause_133 rfl ?_
                refine s_iload hC dX11_pause_136 rfl 0 rfl ?_
                refine s_callS hC (ct_X11_whose l g _ _) ce_X11_whose tw_1799 rfl rfl ⟨⟨le_b rfl, le_b rfl⟩, le_b rfl, le_b rfl⟩ (le_b rfl) dX11_pause_138 rfl (dvk1 ?_) nokx
                refine s_dup2_11 hC dX11_pause_141 rfl rfl rfl ?_
                refine s_ialdK hC (Or.inl (RepM.f_waits hR_1)) (whF_in _).1 dX11_pause_142 rfl ?_
                refine s_iload_n hC dX11_pause_143 rfl rfl 3 rfl ?_
                refine s_iadd hC dX11_pause_144 rfl ?_
                refine WP.top (.int (atF 3 σ.waits (whF (awF σ c9 d9)) + m9)) (congrArg Value.int (by rw [(whF_in _).2])) ?_
                refine s_iast hC (RepM.f_waits hR_1) (whF_in _).1 dX11_pause_145 rfl ?_
                refine WP.rm (RepM.w_waits hR_1 _) (fun hR_145 => ?_)
                change RepM g ad _ (σ.w_waits (adwF σ m9 c9 d9)) _ at hR_145
                refine s_aload_n hC dX11_pause_146 rfl rfl 2 rfl ?_
                refine s_dup hC dX11_pause_147 rfl rfl ?_
                refine s_getf hC cs_X11 19 tw_1268 (le_b rfl) (RepM.f_main hR_145) rfl dX11_pause_148 rfl ?_
                refine s_iload_n hC dX11_pause_151 rfl rfl 3 rfl ?_
                refine s_iadd hC dX11_pause_152 rfl ?_
                refine s_putf hC cs_X11 19 tw_1268 (le_b rfl) rfl rfl rfl (RepM.f_main hR_145) (le_b rfl) dX11_pause_153 rfl ?_
                refine WP.rm (RepM.s_main_19 hR_145 _) (fun hR_153 => ?_)
                refine s_aload_n hC dX11_pause_156 rfl rfl 2 rfl ?_
                refine s_getf hC cs_X11 19 tw_1268 (le_b rfl) (RepM.f_main hR_153) rfl dX11_pause_157 rfl ?_
                refine s_iret hC hr dX11_pause_160 (le_b rfl) (le_b rfl) ?_
                have hcd : cd_pause σ m9 c9 d9 = 0 := by
                  first
                  | exact absurd c_15 c_7
                  | exact absurd c_7 c_15
                  | (simp [cd_pause, ← ho.1 c9, ← ho.1 d9, c_1, c_4, c_7, c_8, c_11, c_12, c_13, c_14, c_15, c_16]; done)
                  | (have hx9 : ¬ c9 = 45 := fun h => c_8 (h.trans (c_7).symm); simp [cd_pause, ← ho.1 c9, ← ho.1 d9, c_1, c_4, c_7, c_8, c_11, c_12, c_13, c_14, c_15, c_16, hx9])
                have hv : (St.mn ((σ.w_waits (adwF σ m9 c9 d9)).w_mn ((σ.w_waits (adwF σ m9 c9 d9)).mn + m9))) = vl_pause σ m9 c9 d9 := by simp only [vl_pause, St.kinds, St.refs, St.depths, St.waters, St.bR, St.bU, St.wears, St.order, St.waits, St.hR, St.hU, St.oR, St.oU, St.press, St.foam, St.pR, St.pU, St.seg, St.pit, St.away, St.mn, St.fc, St.fl, St.fo, St.n, St.ring, St.nh, St.hs, St.nb, St.bo, St.w_kinds, St.w_refs, St.w_depths, St.w_waters, St.w_bR, St.w_bU, St.w_wears, St.w_order, St.w_waits, St.w_hR, St.w_hU, St.w_oR, St.w_oU, St.w_press, St.w_foam, St.w_pR, St.w_pU, St.w_seg, St.w_pit, St.w_away, St.w_mn, St.w_fc, St.w_fl, St.w_fo, St.w_n, St.w_ring, St.w_nh, St.w_hs, St.w_nb, St.w_bo, St.w_course, St.a_ring, St.a_house, St.a_bore]
                have hg2 : grOK (nx_pause σ m9 c9 d9) (y.w_th 0) := grOK_cg hgr (by simp only [nx_pause, St.kinds, St.refs, St.depths, St.waters, St.bR, St.bU, St.wears, St.order, St.waits, St.hR, St.hU, St.oR, St.oU, St.press, St.foam, St.pR, St.pU, St.seg, St.pit, St.away, St.mn, St.fc, St.fl, St.fo, St.n, St.ring, St.nh, St.hs, St.nb, St.bo, St.w_kinds, St.w_refs, St.w_depths, St.w_waters, St.w_bR, St.w_bU, St.w_wears, St.w_order, St.w_waits, St.w_hR, St.w_hU, St.w_oR, St.w_oU, St.w_press, St.w_foam, St.w_pR, St.w_pU, St.w_seg, St.w_pit, St.w_away, St.w_mn, St.w_fc, St.w_fl, St.w_fo, St.w_n, St.w_ring, St.w_nh, St.w_hs, St.w_nb, St.w_bo, St.w_course, St.a_ring, St.a_house, St.a_bore]) (by simp only [nx_pause, St.kinds, St.refs, St.depths, St.waters, St.bR, St.bU, St.wears, St.order, St.waits, St.hR, St.hU, St.oR, St.oU, St.press, St.foam, St.pR, St.pU, St.seg, St.pit, St.away, St.mn, St.fc, St.fl, St.fo, St.n, St.ring, St.nh, St.hs, St.nb, St.bo, St.w_kinds, St.w_refs, St.w_depths, St.w_waters, St.w_bR, St.w_bU, St.w_wears, St.w_order, St.w_waits, St.w_hR, St.w_hU, St.w_oR, St.w_oU, St.w_press, St.w_foam, St.w_pR, St.w_pU, St.w_seg, St.w_pit, St.w_away, St.w_mn, St.w_fc, St.w_fl, St.w_fo, St.w_n, St.w_ring, St.w_nh, St.w_hs, St.w_nb, St.w_bo, St.w_course, St.a_ring, St.a_house, St.a_bore]) rfl
                exact okM_ok hcd rfl hv hR_153 rfl rfl rfl hg2
          · refine s_iconst hC (v := 1) dX11_pause_86 rfl (by decide) ?_
            refine s_goto hC (tgt := 91) dX11_pause_87 (by decide) ?_
            refine s_iconst hC (v := 2) dX11_pause_91 rfl (by decide) ?_
            refine s_callV hC (ct_X11_fails_t l g _ _ _ _ hR_1 (by first | rfl | exact hth) _ (by decide)) ce_X11_fails cs_X11 (RepM.f_main hR_1) tw_1422 rfl rfl ⟨⟨le_b rfl, le_b rfl⟩, le_b rfl, le_b rfl⟩ (le_b rfl) dX11_pause_92 rfl (dvk1 ?_) nokx
            refine WP.rm (RepM.s_main_0 hR_1 _) (fun hR_92 => ?_)
            refine z_if_eq hC (tgt := 100) dX11_pause_95 rfl (by decide) (fun c_17 => ((absurd c_17 (by decide) : False)).elim) (fun c_17 => ?_)
            refine s_iconst hC (v := (-1)) dX11_pause_98 rfl (by decide) ?_
            refine s_iret hC hr dX11_pause_99 (le_b rfl) (le_b rfl) ?_
            have hcd : cd_pause σ m9 c9 d9 = 2 := by
              first
              | (simp [cd_pause, ← ho.1 c9, ← ho.1 d9, c_1, c_4, c_7, c_8, c_11, c_12, c_13, c_17]; done)
              | (have hx9 : ¬ c9 = 45 := fun h => c_8 (h.trans (c_7).symm); simp [cd_pause, ← ho.1 c9, ← ho.1 d9, c_1, c_4, c_7, c_8, c_11, c_12, c_13, c_17, hx9])
            exact okM_no 2 hcd (by decide) (by rfl) hR_92 rfl rfl hgr
      · refine s_aload_n hC dX11_pause_33 rfl rfl 0 rfl ?_
        refine s_getf hC cs_X11 20 tw_1269 (le_b rfl) (RepM.f_main hR_1) rfl dX11_pause_34 rfl ?_
        refine s_iload_n hC dX11_pause_37 rfl rfl 3 rfl ?_
        refine s_callVs hC (ct_J0_indexOf_0f7a4 l g _ _ _ 7 f9 hsv (by decide) (by decide) _ hlf) ce_J0_indexOf_0f7a4 rfl hsv tw_1329 rfl rfl ⟨⟨le_b rfl, le_b rfl⟩, le_b rfl, le_b rfl⟩ (le_b rfl) dX11_pause_38 rfl (dvk1 ?_) nokx
        rw [ixF_c7 hf9]
        refine z_if_lt hC (tgt := 53) dX11_pause_41 rfl (by decide) (fun c_18 => ?_) (fun c_18 => ?_)
        · refine s_iconst hC (v := 0) dX11_pause_53 rfl (by decide) ?_
          refine s_istore hC (L' := [(4, _), (0, _), (1, _), (2, _), (3, _)]) dX11_pause_54 rfl (le_b rfl) rfl ?_
          refine s_aload_n hC dX11_pause_56 rfl rfl 1 rfl ?_
          refine s_iload hC dX11_pause_57 rfl 0 rfl ?_
          refine z_if_ne hC (tgt := 66) dX11_pause_59 rfl (by decide) (fun c_19 => ((absurd c_19 (by decide) : False)).elim) (fun c_19 => ?_)
          refine s_iconst hC (v := 1) dX11_pause_62 rfl (by decide) ?_
          refine s_goto hC (tgt := 67) dX11_pause_63 (by decide) ?_
          refine s_iconst hC (v := 1) dX11_pause_67 rfl (by decide) ?_
          refine s_callV hC (ct_X11_fails_t l g _ _ _ _ hR_1 (by first | rfl | exact hth) _ (by decide)) ce_X11_fails cs_X11 (RepM.f_main hR_1) tw_1422 rfl rfl ⟨⟨le_b rfl, le_b rfl⟩, le_b rfl, le_b rfl⟩ (le_b rfl) dX11_pause_68 rfl (dvk1 ?_) nokx
          refine WP.rm (RepM.s_main_0 hR_1 _) (fun hR_68 => ?_)
          refine z_if_ne hC (tgt := 98) dX11_pause_71 rfl (by decide) (fun c_20 => ?_) (fun c_20 => ((absurd c_20 (by decide) : False)).elim)
          refine s_iconst hC (v := (-1)) dX11_pause_98 rfl (by decide) ?_
          refine s_iret hC hr dX11_pause_99 (le_b rfl) (le_b rfl) ?_
          have hcd : cd_pause σ m9 c9 d9 = 1 := by
            first
            | (simp [cd_pause, ← ho.1 c9, ← ho.1 d9, c_1, c_4, c_7, c_18, c_19, c_20]; done)
          exact okM_no 1 hcd (by decide) (by rfl) hR_68 rfl rfl hgr
        · refine s_iload_n hC dX11_pause_44 rfl rfl 2 rfl ?_
          refine s_iload_n hC dX11_pause_45 rfl rfl 3 rfl ?_
          refine z_icmp_eq hC (tgt := 53) dX11_pause_46 rfl (by decide) (fun c_21 => ?_) (fun c_21 => ?_)
          · refine s_iconst hC (v := 0) dX11_pause_53 rfl (by decide) ?_
            refine s_istore hC (L' := [(4, _), (0, _), (1, _), (2, _), (3, _)]) dX11_pause_54 rfl (le_b rfl) rfl ?_
            refine s_aload_n hC dX11_pause_56 rfl rfl 1 rfl ?_
            refine s_iload hC dX11_pause_57 rfl 0 rfl ?_
            refine z_if_ne hC (tgt := 66) dX11_pause_59 rfl (by decide) (fun c_22 => ((absurd c_22 (by decide) : False)).elim) (fun c_22 => ?_)
            refine s_iconst hC (v := 1) dX11_pause_62 rfl (by decide) ?_
            refine s_goto hC (tgt := 67) dX11_pause_63 (by decide) ?_
            refine s_iconst hC (v := 1) dX11_pause_67 rfl (by decide) ?_
            refine s_callV hC (ct_X11_fails_t l g _ _ _ _ hR_1 (by first | rfl | exact hth) _ (by decide)) ce_X11_fails cs_X11 (RepM.f_main hR_1) tw_1422 rfl rfl ⟨⟨le_b rfl, le_b rfl⟩, le_b rfl, le_b rfl⟩ (le_b rfl) dX11_pause_68 rfl (dvk1 ?_) nokx
            refine WP.rm (RepM.s_main_0 hR_1 _) (fun hR_68 => ?_)
            refine z_if_ne hC (tgt := 98) dX11_pause_71 rfl (by decide) (fun c_23 => ?_) (fun c_23 => ((absurd c_23 (by decide) : False)).elim)
            refine s_iconst hC (v := (-1)) dX11_pause_98 rfl (by decide) ?_
            refine s_iret hC hr dX11_pause_99 (le_b rfl) (le_b rfl) ?_
            have hcd : cd_pause σ m9 c9 d9 = 1 := by
              first
              | (simp [cd_pause, ← ho.1 c9, ← ho.1 d9, c_1, c_4, c_7, c_18, c_21, c_22, c_23]; done)
              | (have hx9 : ¬ c9 = 45 := fun h => c_21 (h.trans (c_7).symm); simp [cd_pause, ← ho.1 c9, ← ho.1 d9, c_1, c_4, c_7, c_18, c_21, c_22, c_23, hx9])
            exact okM_no 1 hcd (by decide) (by rfl) hR_68 rfl rfl hgr
          · refine s_iconst hC (v := 1) dX11_pause_49 rfl (by decide) ?_
            refine s_goto hC (tgt := 54) dX11_pause_50 (by decide) ?_
            refine s_istore hC (L' := [(4, _), (0, _), (1, _), (2, _), (3, _)]) dX11_pause_54 rfl (le_b rfl) rfl ?_
            refine s_aload_n hC dX11_pause_56 rfl rfl 1 rfl ?_
            refine s_iload hC dX11_pause_57 rfl 0 rfl ?_
            refine z_if_ne hC (tgt := 66) dX11_pause_59 rfl (by decide) (fun c_24 => ?_) (fun c_24 => ((absurd c_24 (by decide) : False)).elim)
            refine s_iconst hC (v := 0) dX11_pause_66 rfl (by decide) ?_
            refine s_iconst hC (v := 1) dX11_pause_67 rfl (by decide) ?_
            refine s_callV hC (ct_X11_fails_f l g _ _ _ _ hR_1 (by first | rfl | exact hth) _) ce_X11_fails cs_X11 (RepM.f_main hR_1) tw_1422 rfl rfl ⟨⟨le_b rfl, le_b rfl⟩, le_b rfl, le_b rfl⟩ (le_b rfl) dX11_pause_68 rfl (dvk1 ?_) nokx
            refine z_if_ne hC (tgt := 98) dX11_pause_71 rfl (by decide) (fun c_25 => ((absurd c_25 (by decide) : False)).elim) (fun c_25 => ?_)
            refine s_aload_n hC dX11_pause_74 rfl rfl 1 rfl ?_
            refine s_aload_n hC dX11_pause_75 rfl rfl 1 rfl ?_
            refine s_getf hC cs_X11 19 tw_1268 (le_b rfl) (RepM.f_main hR_1) rfl dX11_pause_76 rfl ?_
            refine s_iload_n hC dX11_pause_79 rfl rfl 2 rfl ?_
            refine s_iadd hC dX11_pause_80 rfl ?_
            refine s_ldcI hC tw_1588 dX11_pause_81 rfl ?_
            refine z_icmp_le hC (tgt := 90) dX11_pause_83 rfl (by decide) (fun c_26 => ?_) (fun c_26 => ?_)
            · refine s_iconst hC (v := 0) dX11_pause_90 rfl (by decide) ?_
              refine s_iconst hC (v := 2) dX11_pause_91 rfl (by decide) ?_
              refine s_callV hC (ct_X11_fails_f l g _ _ _ _ hR_1 (by first | rfl | exact hth) _) ce_X11_fails cs_X11 (RepM.f_main hR_1) tw_1422 rfl rfl ⟨⟨le_b rfl, le_b rfl⟩, le_b rfl, le_b rfl⟩ (le_b rfl) dX11_pause_92 rfl (dvk1 ?_) nokx
              refine z_if_eq hC (tgt := 100) dX11_pause_95 rfl (by decide) (fun c_27 => ?_) (fun c_27 => ((absurd c_27 (by decide) : False)).elim)
              refine s_iload_n hC dX11_pause_100 rfl rfl 4 rfl ?_
              refine s_bipush hC (v := 45) dX11_pause_101 rfl (by decide) ?_
              refine z_icmp_eq hC (tgt := 129) dX11_pause_103 rfl (by decide) (fun c_28 => ?_) (fun c_28 => ?_)
              · refine s_iload_n hC dX11_pause_129 rfl rfl 3 rfl ?_
                refine WP.top (.int (awF σ c9 d9)) (congrArg Value.int (by first | exact absurd c_28 c_7 | exact absurd c_7 c_28 | (simp [awF, c_1, c_4, c_7, c_18, c_21, c_24, c_25, c_26, c_27, c_28]; done))) ?_
                refine s_istore hC (L' := [(5, _), (4, _), (0, _), (1, _), (2, _), (3, _)]) dX11_pause_130 rfl (le_b rfl) rfl ?_
                refine s_aload_n hC dX11_pause_132 rfl rfl 2 rfl ?_
                refine s_getf hC cs_X11 21 tw_1270 (le_b rfl) (RepM.f_main hR_1) rfl dX11_pause_133 rfl ?_
                refine s_iload hC dX11_pause_136 rfl 0 rfl ?_
                refine s_callS hC (ct_X11_whose l g _ _) ce_X11_whose tw_1799 rfl rfl ⟨⟨le_b rfl, le_b rfl⟩, le_b rfl, le_b rfl⟩ (le_b rfl) dX11_pause_138 rfl (dvk1 ?_) nokx
                refine s_dup2_11 hC dX11_pause_141 rfl rfl rfl ?_
                refine s_ialdK hC (Or.inl (RepM.f_waits hR_1)) (whF_in _).1 dX11_pause_142 rfl ?_
                refine s_iload_n hC dX11_pause_143 rfl rfl 3 rfl ?_
                refine s_iadd hC dX11_pause_144 rfl ?_
                refine WP.top (.int (atF 3 σ.waits (whF (awF σ c9 d9)) + m9)) (congrArg Value.int (by rw [(whF_in _).2])) ?_
                refine s_iast hC (RepM.f_waits hR_1) (whF_in _).1 dX11_pause_145 rfl ?_
                refine WP.rm (RepM.w_waits hR_1 _) (fun hR_145 => ?_)
                change RepM g ad _ (σ.w_waits (adwF σ m9 c9 d9)) _ at hR_145
                refine s_aload_n hC dX11_pause_146 rfl rfl 2 rfl ?_
                refine s_dup hC dX11_pause_147 rfl rfl ?_
                refine s_getf hC cs_X11 19 tw_1268 (le_b rfl) (RepM.f_main hR_145) rfl dX11_pause_148 rfl ?_
                refine s_iload_n hC dX11_pause_151 rfl rfl 3 rfl ?_
                refine s_iadd hC dX11_pause_152 rfl ?_
                refine s_putf hC cs_X11 19 tw_1268 (le_b rfl) rfl rfl rfl (RepM.f_main hR_145) (le_b rfl) dX11_pause_153 rfl ?_
                refine WP.rm (RepM.s_main_19 hR_145 _) (fun hR_153 => ?_)
                refine s_aload_n hC dX11_pause_156 rfl rfl 2 rfl ?_
                refine s_getf hC cs_X11 19 tw_1268 (le_b rfl) (RepM.f_main hR_153) rfl dX11_pause_157 rfl ?_
                refine s_iret hC hr dX11_pause_160 (le_b rfl) (le_b rfl) ?_
                have hcd : cd_pause σ m9 c9 d9 = 0 := by
                  first
                  | exact absurd c_28 c_7
                  | exact absurd c_7 c_28
                  | (simp [cd_pause, ← ho.1 c9, ← ho.1 d9, c_1, c_4, c_7, c_18, c_21, c_24, c_25, c_26, c_27, c_28]; done)
                  | (have hx9 : ¬ c9 = 45 := fun h => c_21 (h.trans (c_7).symm); simp [cd_pause, ← ho.1 c9, ← ho.1 d9, c_1, c_4, c_7, c_18, c_21, c_24, c_25, c_26, c_27, c_28, hx9])
                have hv : (St.mn ((σ.w_waits (adwF σ m9 c9 d9)).w_mn ((σ.w_waits (adwF σ m9 c9 d9)).mn + m9))) = vl_pause σ m9 c9 d9 := by simp only [vl_pause, St.kinds, St.refs, St.depths, St.waters, St.bR, St.bU, St.wears, St.order, St.waits, St.hR, St.hU, St.oR, St.oU, St.press, St.foam, St.pR, St.pU, St.seg, St.pit, St.away, St.mn, St.fc, St.fl, St.fo, St.n, St.ring, St.nh, St.hs, St.nb, St.bo, St.w_kinds, St.w_refs, St.w_depths, St.w_waters, St.w_bR, St.w_bU, St.w_wears, St.w_order, St.w_waits, St.w_hR, St.w_hU, St.w_oR, St.w_oU, St.w_press, St.w_foam, St.w_pR, St.w_pU, St.w_seg, St.w_pit, St.w_away, St.w_mn, St.w_fc, St.w_fl, St.w_fo, St.w_n, St.w_ring, St.w_nh, St.w_hs, St.w_nb, St.w_bo, St.w_course, St.a_ring, St.a_house, St.a_bore]
                have hg2 : grOK (nx_pause σ m9 c9 d9) (y.w_th 0) := grOK_cg hgr (by simp only [nx_pause, St.kinds, St.refs, St.depths, St.waters, St.bR, St.bU, St.wears, St.order, St.waits, St.hR, St.hU, St.oR, St.oU, St.press, St.foam, St.pR, St.pU, St.seg, St.pit, St.away, St.mn, St.fc, St.fl, St.fo, St.n, St.ring, St.nh, St.hs, St.nb, St.bo, St.w_kinds, St.w_refs, St.w_depths, St.w_waters, St.w_bR, St.w_bU, St.w_wears, St.w_order, St.w_waits, St.w_hR, St.w_hU, St.w_oR, St.w_oU, St.w_press, St.w_foam, St.w_pR, St.w_pU, St.w_seg, St.w_pit, St.w_away, St.w_mn, St.w_fc, St.w_fl, St.w_fo, St.w_n, St.w_ring, St.w_nh, St.w_hs, St.w_nb, St.w_bo, St.w_course, St.a_ring, St.a_house, St.a_bore]) (by simp only [nx_pause, St.kinds, St.refs, St.depths, St.waters, St.bR, St.bU, St.wears, St.order, St.waits, St.hR, St.hU, St.oR, St.oU, St.press, St.foam, St.pR, St.pU, St.seg, St.pit, St.away, St.mn, St.fc, St.fl, St.fo, St.n, St.ring, St.nh, St.hs, St.nb, St.bo, St.w_kinds, St.w_refs, St.w_depths, St.w_waters, St.w_bR, St.w_bU, St.w_wears, St.w_order, St.w_waits, St.w_hR, St.w_hU, St.w_oR, St.w_oU, St.w_press, St.w_foam, St.w_pR, St.w_pU, St.w_seg, St.w_pit, St.w_away, St.w_mn, St.w_fc, St.w_fl, St.w_fo, St.w_n, St.w_ring, St.w_nh, St.w_hs, St.w_nb, St.w_bo, St.w_course, St.a_ring, St.a_house, St.a_bore]) rfl
                exact okM_ok hcd rfl hv hR_153 rfl rfl rfl hg2
              · refine s_aload_n hC dX11_pause_106 rfl rfl 1 rfl ?_
                refine s_getf hC cs_X11 20 tw_1269 (le_b rfl) (RepM.f_main hR_1) rfl dX11_pause_107 rfl ?_
                refine s_iload_n hC dX11_pause_110 rfl rfl 4 rfl ?_
                refine s_callVs hC (ct_J0_indexOf_0f7a4 l g _ _ _ 7 f9 hsv (by decide) (by decide) _ hlf) ce_J0_indexOf_0f7a4 rfl hsv tw_1329 rfl rfl ⟨⟨le_b rfl, le_b rfl⟩, le_b rfl, le_b rfl⟩ (le_b rfl) dX11_pause_111 rfl (dvk1 ?_) nokx
                rw [ixF_c7 hf9]
                refine s_aload_n hC dX11_pause_114 rfl rfl 1 rfl ?_
                refine s_getf hC cs_X11 20 tw_1269 (le_b rfl) (RepM.f_main hR_1) rfl dX11_pause_115 rfl ?_
                refine s_iload_n hC dX11_pause_118 rfl rfl 3 rfl ?_
                refine s_callVs hC (ct_J0_indexOf_0f7a4 l g _ _ _ 7 f9 hsv (by decide) (by decide) _ hlf) ce_J0_indexOf_0f7a4 rfl hsv tw_1329 rfl rfl ⟨⟨le_b rfl, le_b rfl⟩, le_b rfl, le_b rfl⟩ (le_b rfl) dX11_pause_119 rfl (dvk1 ?_) nokx
                rw [ixF_c7 hf9]
                refine z_icmp_ge hC (tgt := 129) dX11_pause_122 rfl (by decide) (fun c_29 => ?_) (fun c_29 => ?_)
                · refine s_iload_n hC dX11_pause_129 rfl rfl 3 rfl ?_
                  refine WP.top (.int (awF σ c9 d9)) (congrArg Value.int (by first | exact absurd c_28 c_7 | exact absurd c_7 c_28 | (simp [awF, c_1, c_4, c_7, c_18, c_21, c_24, c_25, c_26, c_27, c_28, c_29]; done))) ?_
                  refine s_istore hC (L' := [(5, _), (4, _), (0, _), (1, _), (2, _), (3, _)]) dX11_pause_130 rfl (le_b rfl) rfl ?_
                  refine s_aload_n hC dX11_pause_132 rfl rfl 2 rfl ?_
                  refine s_getf hC cs_X11 21 tw_1270 (le_b rfl) (RepM.f_main hR_1) rfl dX11_pause_133 rfl ?_
                  refine s_iload hC dX11_pause_136 rfl 0 rfl ?_
                  refine s_callS hC (ct_X11_whose l g _ _) ce_X11_whose tw_1799 rfl rfl ⟨⟨le_b rfl, le_b rfl⟩, le_b rfl, le_b rfl⟩ (le_b rfl) dX11_pause_138 rfl (dvk1 ?_) nokx
                  refine s_dup2_11 hC dX11_pause_141 rfl rfl rfl ?_
                  refine s_ialdK hC (Or.inl (RepM.f_waits hR_1)) (whF_in _).1 dX11_pause_142 rfl ?_
                  refine s_iload_n hC dX11_pause_143 rfl rfl 3 rfl ?_
                  refine s_iadd hC dX11_pause_144 rfl ?_
                  refine WP.top (.int (atF 3 σ.waits (whF (awF σ c9 d9)) + m9)) (congrArg Value.int (by rw [(whF_in _).2])) ?_
                  refine s_iast hC (RepM.f_waits hR_1) (whF_in _).1 dX11_pause_145 rfl ?_
                  refine WP.rm (RepM.w_waits hR_1 _) (fun hR_145 => ?_)
                  change RepM g ad _ (σ.w_waits (adwF σ m9 c9 d9)) _ at hR_145
                  refine s_aload_n hC dX11_pause_146 rfl rfl 2 rfl ?_
                  refine s_dup hC dX11_pause_147 rfl rfl ?_
                  refine s_getf hC cs_X11 19 tw_1268 (le_b rfl) (RepM.f_main hR_145) rfl dX11_pause_148 rfl ?_
                  refine s_iload_n hC dX11_pause_151 rfl rfl 3 rfl ?_
                  refine s_iadd hC dX11_pause_152 rfl ?_
                  refine s_putf hC cs_X11 19 tw_1268 (le_b rfl) rfl rfl rfl (RepM.f_main hR_145) (le_b rfl) dX11_pause_153 rfl ?_
                  refine WP.rm (RepM.s_main_19 hR_145 _) (fun hR_153 => ?_)
                  refine s_aload_n hC dX11_pause_156 rfl rfl 2 rfl ?_
                  refine s_getf hC cs_X11 19 tw_1268 (le_b rfl) (RepM.f_main hR_153) rfl dX11_pause_157 rfl ?_
                  refine s_iret hC hr dX11_pause_160 (le_b rfl) (le_b rfl) ?_
                  have hcd : cd_pause σ m9 c9 d9 = 0 := by
                    first
                    | exact absurd c_28 c_7
                    | exact absurd c_7 c_28
                    | (simp [cd_pause, ← ho.1 c9, ← ho.1 d9, c_1, c_4, c_7, c_18, c_21, c_24, c_25, c_26, c_27, c_28, c_29]; done)
                    | (have hx9 : ¬ c9 = 45 := fun h => c_21 (h.trans (c_7).symm); simp [cd_pause, ← ho.1 c9, ← ho.1 d9, c_1, c_4, c_7, c_18, c_21, c_24, c_25, c_26, c_27, c_28, c_29, hx9])
                  have hv : (St.mn ((σ.w_waits (adwF σ m9 c9 d9)).w_mn ((σ.w_waits (adwF σ m9 c9 d9)).mn + m9))) = vl_pause σ m9 c9 d9 := by simp only [vl_pause, St.kinds, St.refs, St.depths, St.waters, St.bR, St.bU, St.wears, St.order, St.waits, St.hR, St.hU, St.oR, St.oU, St.press, St.foam, St.pR, St.pU, St.seg, St.pit, St.away, St.mn, St.fc, St.fl, St.fo, St.n, St.ring, St.nh, St.hs, St.nb, St.bo, St.w_kinds, St.w_refs, St.w_depths, St.w_waters, St.w_bR, St.w_bU, St.w_wears, St.w_order, St.w_waits, St.w_hR, St.w_hU, St.w_oR, St.w_oU, St.w_press, St.w_foam, St.w_pR, St.w_pU, St.w_seg, St.w_pit, St.w_away, St.w_mn, St.w_fc, St.w_fl, St.w_fo, St.w_n, St.w_ring, St.w_nh, St.w_hs, St.w_nb, St.w_bo, St.w_course, St.a_ring, St.a_house, St.a_bore]
                  have hg2 : grOK (nx_pause σ m9 c9 d9) (y.w_th 0) := grOK_cg hgr (by simp only [nx_pause, St.kinds, St.refs, St.depths, St.waters, St.bR, St.bU, St.wears, St.order, St.waits, St.hR, St.hU, St.oR, St.oU, St.press, St.foam, St.pR, St.pU, St.seg, St.pit, St.away, St.mn, St.fc, St.fl, St.fo, St.n, St.ring, St.nh, St.hs, St.nb, St.bo, St.w_kinds, St.w_refs, St.w_depths, St.w_waters, St.w_bR, St.w_bU, St.w_wears, St.w_order, St.w_waits, St.w_hR, St.w_hU, St.w_oR, St.w_oU, St.w_press, St.w_foam, St.w_pR, St.w_pU, St.w_seg, St.w_pit, St.w_away, St.w_mn, St.w_fc, St.w_fl, St.w_fo, St.w_n, St.w_ring, St.w_nh, St.w_hs, St.w_nb, St.w_bo, St.w_course, St.a_ring, St.a_house, St.a_bore]) (by simp only [nx_pause, St.kinds, St.refs, St.depths, St.waters, St.bR, St.bU, St.wears, St.order, St.waits, St.hR, St.hU, St.oR, St.oU, St.press, St.foam, St.pR, St.pU, St.seg, St.pit, St.away, St.mn, St.fc, St.fl, St.fo, St.n, St.ring, St.nh, St.hs, St.nb, St.bo, St.w_kinds, St.w_refs, St.w_depths, St.w_waters, St.w_bR, St.w_bU, St.w_wears, St.w_order, St.w_waits, St.w_hR, St.w_hU, St.w_oR, St.w_oU, St.w_press, St.w_foam, St.w_pR, St.w_pU, St.w_seg, St.w_pit, St.w_away, St.w_mn, St.w_fc, St.w_fl, St.w_fo, St.w_n, St.w_ring, St.w_nh, St.w_hs, St.w_nb, St.w_bo, St.w_course, St.a_ring, St.a_house, St.a_bore]) rfl
                  exact okM_ok hcd rfl hv hR_153 rfl rfl rfl hg2
                · refine s_iload_n hC dX11_pause_125 rfl rfl 4 rfl ?_
                  refine s_goto hC (tgt := 130) dX11_pause_126 (by decide) ?_
                  refine WP.top (.int (awF σ c9 d9)) (congrArg Value.int (by first | exact absurd c_28 c_7 | exact absurd c_7 c_28 | (simp [awF, c_1, c_4, c_7, c_18, c_21, c_24, c_25, c_26, c_27, c_28, c_29]; done))) ?_
                  refine s_istore hC (L' := [(5, _), (4, _), (0, _), (1, _), (2, _), (3, _)]) dX11_pause_130 rfl (le_b rfl) rfl ?_
                  refine s_aload_n hC dX11_pause_132 rfl rfl 2 rfl ?_
                  refine s_getf hC cs_X11 21 tw_1270 (le_b rfl) (RepM.f_main hR_1) rfl dX11_pause_133 rfl ?_
                  refine s_iload hC dX11_pause_136 rfl 0 rfl ?_
                  refine s_callS hC (ct_X11_whose l g _ _) ce_X11_whose tw_1799 rfl rfl ⟨⟨le_b rfl, le_b rfl⟩, le_b rfl, le_b rfl⟩ (le_b rfl) dX11_pause_138 rfl (dvk1 ?_) nokx
                  refine s_dup2_11 hC dX11_pause_141 rfl rfl rfl ?_
                  refine s_ialdK hC (Or.inl (RepM.f_waits hR_1)) (whF_in _).1 dX11_pause_142 rfl ?_
                  refine s_iload_n hC dX11_pause_143 rfl rfl 3 rfl ?_
                  refine s_iadd hC dX11_pause_144 rfl ?_
                  refine WP.top (.int (atF 3 σ.waits (whF (awF σ c9 d9)) + m9)) (congrArg Value.int (by rw [(whF_in _).2])) ?_
                  refine s_iast hC (RepM.f_waits hR_1) (whF_in _).1 dX11_pause_145 rfl ?_
                  refine WP.rm (RepM.w_waits hR_1 _) (fun hR_145 => ?_)
                  change RepM g ad _ (σ.w_waits (adwF σ m9 c9 d9)) _ at hR_145
                  refine s_aload_n hC dX11_pause_146 rfl rfl 2 rfl ?_
                  refine s_dup hC dX11_pause_147 rfl rfl ?_
                  refine s_getf hC cs_X11 19 tw_1268 (le_b rfl) (RepM.f_main hR_145) rfl dX11_pause_148 rfl ?_
                  refine s_iload_n hC dX11_pause_151 rfl rfl 3 rfl ?_
                  refine s_iadd hC dX11_pause_152 rfl ?_
                  refine s_putf hC cs_X11 19 tw_1268 (le_b rfl) rfl rfl rfl (RepM.f_main hR_145) (le_b rfl) dX11_pause_153 rfl ?_
                  refine WP.rm (RepM.s_main_19 hR_145 _) (fun hR_153 => ?_)
                  refine s_aload_n hC dX11_pause_156 rfl rfl 2 rfl ?_
                  refine s_getf hC cs_X11 19 tw_1268 (le_b rfl) (RepM.f_main hR_153) rfl dX11_pause_157 rfl ?_
                  refine s_iret hC hr dX11_pause_160 (le_b rfl) (le_b rfl) ?_
                  have hcd : cd_pause σ m9 c9 d9 = 0 := by
                    first
                    | exact absurd c_28 c_7
                    | exact absurd c_7 c_28
                    | (simp [cd_pause, ← ho.1 c9, ← ho.1 d9, c_1, c_4, c_7, c_18, c_21, c_24, c_25, c_26, c_27, c_28, c_29]; done)
                    | (have hx9 : ¬ c9 = 45 := fun h => c_21 (h.trans (c_7).symm); simp [cd_pause, ← ho.1 c9, ← ho.1 d9, c_1, c_4, c_7, c_18, c_21, c_24, c_25, c_26, c_27, c_28, c_29, hx9])
                  have hv : (St.mn ((σ.w_waits (adwF σ m9 c9 d9)).w_mn ((σ.w_waits (adwF σ m9 c9 d9)).mn + m9))) = vl_pause σ m9 c9 d9 := by simp only [vl_pause, St.kinds, St.refs, St.depths, St.waters, St.bR, St.bU, St.wears, St.order, St.waits, St.hR, St.hU, St.oR, St.oU, St.press, St.foam, St.pR, St.pU, St.seg, St.pit, St.away, St.mn, St.fc, St.fl, St.fo, St.n, St.ring, St.nh, St.hs, St.nb, St.bo, St.w_kinds, St.w_refs, St.w_depths, St.w_waters, St.w_bR, St.w_bU, St.w_wears, St.w_order, St.w_waits, St.w_hR, St.w_hU, St.w_oR, St.w_oU, St.w_press, St.w_foam, St.w_pR, St.w_pU, St.w_seg, St.w_pit, St.w_away, St.w_mn, St.w_fc, St.w_fl, St.w_fo, St.w_n, St.w_ring, St.w_nh, St.w_hs, St.w_nb, St.w_bo, St.w_course, St.a_ring, St.a_house, St.a_bore]
                  have hg2 : grOK (nx_pause σ m9 c9 d9) (y.w_th 0) := grOK_cg hgr (by simp only [nx_pause, St.kinds, St.refs, St.depths, St.waters, St.bR, St.bU, St.wears, St.order, St.waits, St.hR, St.hU, St.oR, St.oU, St.press, St.foam, St.pR, St.pU, St.seg, St.pit, St.away, St.mn, St.fc, St.fl, St.fo, St.n, St.ring, St.nh, St.hs, St.nb, St.bo, St.w_kinds, St.w_refs, St.w_depths, St.w_waters, St.w_bR, St.w_bU, St.w_wears, St.w_order, St.w_waits, St.w_hR, St.w_hU, St.w_oR, St.w_oU, St.w_press, St.w_foam, St.w_pR, St.w_pU, St.w_seg, St.w_pit, St.w_away, St.w_mn, St.w_fc, St.w_fl, St.w_fo, St.w_n, St.w_ring, St.w_nh, St.w_hs, St.w_nb, St.w_bo, St.w_course, St.a_ring, St.a_house, St.a_bore]) (by simp only [nx_pause, St.kinds, St.refs, St.depths, St.waters, St.bR, St.bU, St.wears, St.order, St.waits, St.hR, St.hU, St.oR, St.oU, St.press, St.foam, St.pR, St.pU, St.seg, St.pit, St.away, St.mn, St.fc, St.fl, St.fo, St.n, St.ring, St.nh, St.hs, St.nb, St.bo, St.w_kinds, St.w_refs, St.w_depths, St.w_waters, St.w_bR, St.w_bU, St.w_wears, St.w_order, St.w_waits, St.w_hR, St.w_hU, St.w_oR, St.w_oU, St.w_press, St.w_foam, St.w_pR, St.w_pU, St.w_seg, St.w_pit, St.w_away, St.w_mn, St.w_fc, St.w_fl, St.w_fo, St.w_n, St.w_ring, St.w_nh, St.w_hs, St.w_nb, St.w_bo, St.w_course, St.a_ring, St.a_house, St.a_bore]) rfl
                  exact okM_ok hcd rfl hv hR_153 rfl rfl rfl hg2
            · refine s_iconst hC (v := 1) dX11_pause_86 rfl (by decide) ?_
              refine s_goto hC (tgt := 91) dX11_pause_87 (by decide) ?_
              refine s_iconst hC (v := 2) dX11_pause_91 rfl (by decide) ?_
              refine s_callV hC (ct_X11_fails_t l g _ _ _ _ hR_1 (by first | rfl | exact hth) _ (by decide)) ce_X11_fails cs_X11 (RepM.f_main hR_1) tw_1422 rfl rfl ⟨⟨le_b rfl, le_b rfl⟩, le_b rfl, le_b rfl⟩ (le_b rfl) dX11_pause_92 rfl (dvk1 ?_) nokx
              refine WP.rm (RepM.s_main_0 hR_1 _) (fun hR_92 => ?_)
              refine z_if_eq hC (tgt := 100) dX11_pause_95 rfl (by decide) (fun c_30 => ((absurd c_30 (by decide) : False)).elim) (fun c_30 => ?_)
              refine s_iconst hC (v := (-1)) dX11_pause_98 rfl (by decide) ?_
              refine s_iret hC hr dX11_pause_99 (le_b rfl) (le_b rfl) ?_
              have hcd : cd_pause σ m9 c9 d9 = 2 := by
                first
                | (simp [cd_pause, ← ho.1 c9, ← ho.1 d9, c_1, c_4, c_7, c_18, c_21, c_24, c_25, c_26, c_30]; done)
                | (have hx9 : ¬ c9 = 45 := fun h => c_21 (h.trans (c_7).symm); simp [cd_pause, ← ho.1 c9, ← ho.1 d9, c_1, c_4, c_7, c_18, c_21, c_24, c_25, c_26, c_30, hx9])
              exact okM_no 2 hcd (by decide) (by rfl) hR_92 rfl rfl hgr
