theorem lt_of_lit {n k : Nat} {c : Int32} (hc : nI k = c) (hk : k < 2 ^ 31) (hn : n < 2 ^ 31) (h : ¬ c ≤ nI n) : n < k := by
  subst hc
  have := mt (nI_leI hk hn).mpr h
  omega
theorem RepC.e_ring {g : Gl} {ad : Ix → Nat} {x : Ex} {s : St} {ω : Wd} (h : RepC g ad x s ω) : (x.cB = 0 ∧ ad .rowB = g.2.2.1 19) ∨ (¬ x.cB = 0 ∧ ω (ad .rowB) = some (rwE g x.cB x.fB)) := by
  by_cases hz : x.cB = 0
  · exact Or.inl ⟨hz, h.lB.2.2.1 hz⟩
  · exact Or.inr ⟨hz, h.c .rowB hz⟩
theorem RepC.l_ring {g : Gl} {ad : Ix → Nat} {x : Ex} {s : St} {ω : Wd} (h : RepC g ad x s ω) : ∀ i : Nat, i < s.n → ∀ y : Nat, x.fB i = some y → elt g ω y := by
  intro i hi y hy
  rw [h.lB.2.2.2 i hi] at hy
  cases hy
  exact Or.inl ⟨10, _, _, _, _, h.f_ring hi, rfl, tw_2113⟩
theorem RepC.e_house {g : Gl} {ad : Ix → Nat} {x : Ex} {s : St} {ω : Wd} (h : RepC g ad x s ω) : (x.cH = 0 ∧ ad .rowH = g.2.2.1 19) ∨ (¬ x.cH = 0 ∧ ω (ad .rowH) = some (rwE g x.cH x.fH)) := by
  by_cases hz : x.cH = 0
  · exact Or.inl ⟨hz, h.lH.2.2.1 hz⟩
  · exact Or.inr ⟨hz, h.c .rowH hz⟩
theorem RepC.l_house {g : Gl} {ad : Ix → Nat} {x : Ex} {s : St} {ω : Wd} (h : RepC g ad x s ω) : ∀ i : Nat, i < s.nh → ∀ y : Nat, x.fH i = some y → elt g ω y := by
  intro i hi y hy
  rw [h.lH.2.2.2 i hi] at hy
  cases hy
  exact Or.inl ⟨9, _, _, _, _, h.f_house hi, rfl, tw_2115⟩
theorem RepC.e_bore {g : Gl} {ad : Ix → Nat} {x : Ex} {s : St} {ω : Wd} (h : RepC g ad x s ω) : (x.cO = 0 ∧ ad .rowO = g.2.2.1 19) ∨ (¬ x.cO = 0 ∧ ω (ad .rowO) = some (rwE g x.cO x.fO)) := by
  by_cases hz : x.cO = 0
  · exact Or.inl ⟨hz, h.lO.2.2.1 hz⟩
  · exact Or.inr ⟨hz, h.c .rowO hz⟩
theorem RepC.l_bore {g : Gl} {ad : Ix → Nat} {x : Ex} {s : St} {ω : Wd} (h : RepC g ad x s ω) : ∀ i : Nat, i < s.nb → ∀ y : Nat, x.fO i = some y → elt g ω y := by
  intro i hi y hy
  rw [h.lO.2.2.2 i hi] at hy
  cases hy
  exact Or.inl ⟨5, _, _, _, _, h.f_bore hi, rfl, tw_2109⟩
def cd_bore (σ : St) (p9 : Int32) (c9 : Int32) : Nat := if inR p9 0 199 = true then (if 0 ≤ ixF (stF [99, 115, 114, 98]) c9 4 0 then (if 20 ≤ nI σ.nb then 2 else 0) else 1) else 1
def vl_bore (σ : St) (p9 : Int32) (c9 : Int32) : Int32 := nI σ.nb
def nx_bore (σ : St) (p9 : Int32) (c9 : Int32) : St := σ.a_bore (p9, ixF (stF [99, 115, 114, 98]) c9 4 0)
set_option maxHeartbeats 1000000 in
set_option maxRecDepth 100000 in
theorem ct_X9_bore (l : Launch) (g : Gl) (hst : l.stackTraces = false) (ω : Wd) (ad : Ix → Nat) (x : Ex) (σ : St) (hR : RepC g ad x σ ω) (p9 : Int32) (c9 : Int32) : CT l g yX9_bore cX9_bore 5 (some .int) 7 152 2 165 [.ref (ad .main), .int p9, .int c9] ω (okC g ad (cd_bore σ p9 c9) (some (.int (vl_bore σ p9 c9))) (nx_bore σ p9 c9)) (exC g ad (cd_bore σ p9 c9) ["java/lang/IllegalArgumentException", "java/lang/IllegalStateException"] σ) := by
  refine CT.of (own := "Boringhead") rfl rfl (le_b rfl) rfl ?_
  intro p e s m args below meth c sz0 hC hr htab hin
  refine s_gets hC 0 rfl tw_436 dX9_bore_0 rfl ?_
  refine s_iload_n hC dX9_bore_3 rfl rfl 2 rfl ?_
  refine s_callS hC (ct_X9_indexIn l g _ _ 4 _ _ (ar_sc g _ 0 rfl) (by decide)) ce_X9_indexIn tw_438 rfl rfl ⟨⟨le_b rfl, le_b rfl⟩, le_b rfl, le_b rfl⟩ (le_b rfl) dX9_bore_4 rfl (dvk1 ?_) nokx
  refine s_istore_n hC (L' := [(3, _), (0, _), (1, _), (2, _)]) dX9_bore_7 rfl rfl (le_b rfl) rfl ?_
  refine s_iload_n hC dX9_bore_8 rfl rfl 2 rfl ?_
  refine s_callS hC (ct_X9_isPlace l g _ _) ce_X9_isPlace tw_444 rfl rfl ⟨⟨le_b rfl, le_b rfl⟩, le_b rfl, le_b rfl⟩ (le_b rfl) dX9_bore_9 rfl (dvk1 ?_) nokx
  refine z_if_eqB hC (tgt := 19) dX9_bore_12 rfl (by decide) (fun c_1 => ?_) (fun c_1 => ?_)
  · refine s_throwS hC htab hst (cls := "java/lang/IllegalArgumentException") (names := ["java/lang/RuntimeException", "java/lang/Exception"]) (i := 4) fit_IllegalArgumentException tw_450 tw_15 rfl at_X9_97 at_X9_97_ot dX9_bore_19 dX9_bore_22 dX9_bore_23 dX9_bore_25 dX9_bore_28 ⟨le_b rfl, le_b rfl, le_b rfl, le_b rfl⟩ ⟨le_b rfl, le_b rfl⟩ ?_
    exact exC_mk (by simp [cd_bore, c_1]) (by simp [cd_bore, c_1]) hR rfl
  · refine s_iload_n hC dX9_bore_15 rfl rfl 0 rfl ?_
    refine z_if_ge hC (tgt := 29) dX9_bore_16 rfl (by decide) (fun c_2 => ?_) (fun c_2 => ?_)
    · refine s_aload_n hC dX9_bore_29 rfl rfl 1 rfl ?_
      refine s_getf hC cs_X9 0 tw_237 (le_b rfl) (RepC.f_main hR) rfl dX9_bore_30 rfl ?_
      refine s_getfN hC cs_X7 6 tw_97 (le_b rfl) (RepC.f_soil hR) rfl dX9_bore_33 rfl ?_
      refine s_callV hC (ct_Jx4a65c_size_8abf5 l g _ _ _ _ _ (RepC.f_bores hR)) ce_Jx4a65c_size_8abf5 cs_Jx4a65c (RepC.f_bores hR) tw_273 rfl rfl ⟨⟨le_b rfl, le_b rfl⟩, le_b rfl, le_b rfl⟩ (le_b rfl) dX9_bore_36 rfl (dvk1 ?_) nokx
      refine s_istore hC (L' := [(4, _), (3, _), (0, _), (1, _), (2, _)]) dX9_bore_39 rfl (le_b rfl) rfl ?_
      refine s_iload hC dX9_bore_41 rfl 0 rfl ?_
      refine s_bipush hC (v := 20) dX9_bore_43 rfl (by decide) ?_
      refine z_icmp_lt hC (tgt := 58) dX9_bore_45 rfl (by decide) (fun c_3 => ?_) (fun c_3 => ?_)
      · refine s_aload_n hC dX9_bore_58 rfl rfl 2 rfl ?_
        refine s_getf hC cs_X9 0 tw_237 (le_b rfl) (RepC.f_main hR) rfl dX9_bore_59 rfl ?_
        refine s_getfN hC cs_X7 6 tw_97 (le_b rfl) (RepC.f_soil hR) rfl dX9_bore_62 rfl ?_
        refine s_new hC cs_X0 (fs := [.int 0, .int 0]) tw_604 tw_605 tw_24 (fun j hj => by rcases (show j = 0 ∨ j = 1 by omega) with rfl | rfl <;> rfl) (le_b rfl) (le_b rfl) dX9_bore_65 rfl (fun q_65 hq_65 => ?_)
        have hn_q_65 := RepC.ne hR hq_65
        refine WP.rc (RepC.new hR hq_65 _) (fun hR_q_65 => ?_)
        refine s_dup hC dX9_bore_68 rfl rfl ?_
        refine s_iload_n hC dX9_bore_69 rfl rfl 3 rfl ?_
        refine s_iload_n hC dX9_bore_70 rfl rfl 1 rfl ?_
        refine s_callI hC (ct_X0_init l g _ _ _ _ (wup_s _ _ _)) ce_X0_init tw_606 rfl rfl ⟨⟨le_b rfl, le_b rfl⟩, le_b rfl, le_b rfl⟩ (le_b rfl) dX9_bore_71 rfl (dvk0 ?_) nokx
        refine WP.rc (RepC.by hR_q_65 hn_q_65 _) (fun hR_71 => ?_)
        refine s_callV hC (ct_Jx4a65c_add_9ea2d l g _ _ _ _ _ (RepC.f_bores hR_71) _ _ _ hR_71.lO.1 hR_71.lO.2.1 (Nat.lt_of_lt_of_le (lt_of_lit (k := 20) rfl (by decide) (Nat.lt_of_le_of_lt (RepC.b_bore hR) (by decide)) c_3) (by decide)) (RepC.e_bore hR_71) (Or.inl ⟨5, _, _, _, _, (wup_s _ _ _), rfl, tw_2109⟩) (RepC.l_bore hR_71) hR_71.hg) ce_Jx4a65c_add_9ea2d cs_Jx4a65c (RepC.f_bores hR_71) tw_619 rfl rfl ⟨⟨le_b rfl, le_b rfl⟩, le_b rfl, le_b rfl⟩ (le_b rfl) dX9_bore_74 rfl (fun r w h9 => ?_) nokx
        obtain ⟨rfl, ed2, cap2, f2, a1, a2, a3, a4, a5, a6, a7, a8⟩ := h9
        refine s_pop hC dX9_bore_77 rfl rfl ?_
        refine s_iload hC dX9_bore_78 rfl 0 rfl ?_
        refine s_iret hC hr dX9_bore_80 (le_b rfl) (le_b rfl) ?_
        exact okC_mk (by simp [cd_bore, c_1, c_2, c_3]) rfl (RepC.a_bore hR_71 (r := (p9, ixF (stF [99, 115, 114, 98]) c9 4 0)) (wup_s _ _ _) hn_q_65 a1 a2 a3 a4 a5 a6 a7 a8) rfl rfl
      · refine s_throwS hC htab hst (cls := "java/lang/IllegalStateException") (names := ["java/lang/RuntimeException", "java/lang/Exception"]) (i := 5) fit_IllegalStateException tw_588 tw_23 rfl at_X9_139 at_X9_139_ot dX9_bore_48 dX9_bore_51 dX9_bore_52 dX9_bore_54 dX9_bore_57 ⟨le_b rfl, le_b rfl, le_b rfl, le_b rfl⟩ ⟨le_b rfl, le_b rfl⟩ ?_
        exact exC_mk (by simp [cd_bore, c_1, c_2, c_3]) (by simp [cd_bore, c_1, c_2, c_3]) hR rfl
    · refine s_throwS hC htab hst (cls := "java/lang/IllegalArgumentException") (names := ["java/lang/RuntimeException", "java/lang/Exception"]) (i := 4) fit_IllegalArgumentException tw_450 tw_15 rfl at_X9_97 at_X9_97_ot dX9_bore_19 dX9_bore_22 dX9_bore_23 dX9_bore_25 dX9_bore_28 ⟨le_b rfl, le_b rfl, le_b rfl, le_b rfl⟩ ⟨le_b rfl, le_b rfl⟩ ?_
      exact exC_mk (by simp [cd_bore, c_1, c_2]) (by simp [cd_bore, c_1, c_2]) hR rfl
def cd_house (σ : St) (f9 : Int32) (t9 : Int32) (o9 : Int32) : Nat := if isStr f9 t9 = true then (if inR o9 0 60 = true then (if 8 ≤ nI σ.nh then 2 else 0) else 1) else 1
def vl_house (σ : St) (f9 : Int32) (t9 : Int32) (o9 : Int32) : Int32 := nI σ.nh
def nx_house (σ : St) (f9 : Int32) (t9 : Int32) (o9 : Int32) : St := σ.a_house (f9, t9, o9, 0, 0, false, 0)
set_option maxHeartbeats 1000000 in
set_option maxRecDepth 100000 in
theorem ct_X9_house (l : Launch) (g : Gl) (hst : l.stackTraces = false) (ω : Wd) (ad : Ix → Nat) (x : Ex) (σ : St) (hR : RepC g ad x σ ω) (f9 : Int32) (t9 : Int32) (o9 : Int32) : CT l g yX9_house cX9_house 5 (some .int) 7 152 2 170 [.ref (ad .main), .int f9, .int t9, .int o9] ω (okC g ad (cd_house σ f9 t9 o9) (some (.int (vl_house σ f9 t9 o9))) (nx_house σ f9 t9 o9)) (exC g ad (cd_house σ f9 t9 o9) ["java/lang/IllegalArgumentException", "java/lang/IllegalStateException"] σ) := by
  refine CT.of (own := "Boringhead") rfl rfl (le_b rfl) rfl ?_
  intro p e s m args below meth c sz0 hC hr htab hin
  refine s_iload_n hC dX9_house_0 rfl rfl 1 rfl ?_
  refine s_iload_n hC dX9_house_1 rfl rfl 2 rfl ?_
  refine s_callS hC (ct_X9_isStretch l g _ _ _) ce_X9_isStretch tw_441 rfl rfl ⟨⟨le_b rfl, le_b rfl⟩, le_b rfl, le_b rfl⟩ (le_b rfl) dX9_house_2 rfl (dvk1 ?_) nokx
  refine z_if_eqB hC (tgt := 18) dX9_house_5 rfl (by decide) (fun c_1 => ?_) (fun c_1 => ?_)
  · refine s_throwSW hC htab hst (cls := "java/lang/IllegalArgumentException") (names := ["java/lang/RuntimeException", "java/lang/Exception"]) (i := 18) fit_IllegalArgumentException tw_450 tw_15 rfl at_X9_97 at_X9_97_ot dX9_house_18 dX9_house_21 dX9_house_22 dX9_house_25 dX9_house_28 ⟨le_b rfl, le_b rfl, le_b rfl, le_b rfl⟩ ⟨le_b rfl, le_b rfl⟩ ?_
    exact exC_mk (by simp [cd_house, c_1]) (by simp [cd_house, c_1]) hR rfl
  · refine s_iload_n hC dX9_house_8 rfl rfl 3 rfl ?_
    refine s_iconst hC (v := 0) dX9_house_9 rfl (by decide) ?_
    refine s_bipush hC (v := 60) dX9_house_10 rfl (by decide) ?_
    refine s_callS hC (ct_X9_isWithin l g _ _ _ _) ce_X9_isWithin tw_447 rfl rfl ⟨⟨le_b rfl, le_b rfl⟩, le_b rfl, le_b rfl⟩ (le_b rfl) dX9_house_12 rfl (dvk1 ?_) nokx
    refine z_if_neB hC (tgt := 29) dX9_house_15 rfl (by decide) (fun c_2 => ?_) (fun c_2 => ?_)
    · refine s_aload_n hC dX9_house_29 rfl rfl 0 rfl ?_
      refine s_getf hC cs_X9 8 tw_245 (le_b rfl) (RepC.f_main hR) rfl dX9_house_30 rfl ?_
      refine s_callV hC (ct_Jx4a65c_size_8abf5 l g _ _ _ _ _ (RepC.f_houses hR)) ce_Jx4a65c_size_8abf5 cs_Jx4a65c (RepC.f_houses hR) tw_273 rfl rfl ⟨⟨le_b rfl, le_b rfl⟩, le_b rfl, le_b rfl⟩ (le_b rfl) dX9_house_33 rfl (dvk1 ?_) nokx
      refine s_istore hC (L' := [(4, _), (0, _), (1, _), (2, _), (3, _)]) dX9_house_36 rfl (le_b rfl) rfl ?_
      refine s_iload hC dX9_house_38 rfl 0 rfl ?_
      refine s_bipush hC (v := 8) dX9_house_40 rfl (by decide) ?_
      refine z_icmp_lt hC (tgt := 56) dX9_house_42 rfl (by decide) (fun c_3 => ?_) (fun c_3 => ?_)
      · refine s_aload_n hC dX9_house_56 rfl rfl 1 rfl ?_
        refine s_getf hC cs_X9 8 tw_245 (le_b rfl) (RepC.f_main hR) rfl dX9_house_57 rfl ?_
        refine s_new hC cs_X4 (fs := [.int 0, .int 0, .int 0, .int 0, .int 0, .int 0, .int 0]) tw_852 tw_1032 tw_34 (fun j hj => by rcases (show j = 0 ∨ j = 1 ∨ j = 2 ∨ j = 3 ∨ j = 4 ∨ j = 5 ∨ j = 6 by omega) with rfl | rfl | rfl | rfl | rfl | rfl | rfl <;> rfl) (le_b rfl) (le_b rfl) dX9_house_60 rfl (fun q_60 hq_60 => ?_)
        have hn_q_60 := RepC.ne hR hq_60
        refine WP.rc (RepC.new hR hq_60 _) (fun hR_q_60 => ?_)
        refine s_dup hC dX9_house_63 rfl rfl ?_
        refine s_iload_n hC dX9_house_64 rfl rfl 2 rfl ?_
        refine s_iload_n hC dX9_house_65 rfl rfl 3 rfl ?_
        refine s_iload_n hC dX9_house_66 rfl rfl 4 rfl ?_
        refine s_callI hC (ct_X4_init l g _ _ _ _ _ (wup_s _ _ _)) ce_X4_init tw_1033 rfl rfl ⟨⟨le_b rfl, le_b rfl⟩, le_b rfl, le_b rfl⟩ (le_b rfl) dX9_house_67 rfl (dvk0 ?_) nokx
        refine WP.rc (RepC.by hR_q_60 hn_q_60 _) (fun hR_67 => ?_)
        refine s_callV hC (ct_Jx4a65c_add_9ea2d l g _ _ _ _ _ (RepC.f_houses hR_67) _ _ _ hR_67.lH.1 hR_67.lH.2.1 (Nat.lt_of_lt_of_le (lt_of_lit (k := 8) rfl (by decide) (Nat.lt_of_le_of_lt (RepC.b_house hR) (by decide)) c_3) (by decide)) (RepC.e_house hR_67) (Or.inl ⟨9, _, _, _, _, (wup_s _ _ _), rfl, tw_2115⟩) (RepC.l_house hR_67) hR_67.hg) ce_Jx4a65c_add_9ea2d cs_Jx4a65c (RepC.f_houses hR_67) tw_619 rfl rfl ⟨⟨le_b rfl, le_b rfl⟩, le_b rfl, le_b rfl⟩ (le_b rfl) dX9_house_70 rfl (fun r w h9 => ?_) nokx
        obtain ⟨rfl, ed2, cap2, f2, a1, a2, a3, a4, a5, a6, a7, a8⟩ := h9
        refine s_pop hC dX9_house_73 rfl rfl ?_
        refine s_iload hC dX9_house_74 rfl 0 rfl ?_
        refine s_iret hC hr dX9_house_76 (le_b rfl) (le_b rfl) ?_
        exact okC_mk (by simp [cd_house, c_1, c_2, c_3]) rfl (RepC.a_house hR_67 (r := (f9, t9, o9, 0, 0, false, 0)) (wup_s _ _ _) hn_q_60 a1 a2 a3 a4 a5 a6 a7 a8) rfl rfl
      · refine s_throwSW hC htab hst (cls := "java/lang/IllegalStateException") (names := ["java/lang/RuntimeException", "java/lang/Exception"]) (i := 19) fit_IllegalStateException tw_588 tw_23 rfl at_X9_139 at_X9_139_ot dX9_house_45 dX9_house_48 dX9_house_49 dX9_house_52 dX9_house_55 ⟨le_b rfl, le_b rfl, le_b rfl, le_b rfl⟩ ⟨le_b rfl, le_b rfl⟩ ?_
        exact exC_mk (by simp [cd_house, c_1, c_2, c_3]) (by simp [cd_house, c_1, c_2, c_3]) hR rfl
    · refine s_throwSW hC htab hst (cls := "java/lang/IllegalArgumentException") (names := ["java/lang/RuntimeException", "java/lang/Exception"]) (i := 18) fit_IllegalArgumentException tw_450 tw_15 rfl at_X9_97 at_X9_97_ot dX9_house_18 dX9_house_21 dX9_house_22 dX9_house_25 dX9_house_28 ⟨le_b rfl, le_b rfl, le_b rfl, le_b rfl⟩ ⟨le_b rfl, le_b rfl⟩ ?_
      exact exC_mk (by simp [cd_house, c_1, c_2]) (by simp [cd_house, c_1, c_2]) hR rfl
def vl_claimed (σ : St)  : Int32 := clF σ σ.n
set_option maxHeartbeats 1000000 in
set_option maxRecDepth 100000 in
theorem ct_X9_claimed (l : Launch) (g : Gl) (ω : Wd) (ad : Ix → Nat) (x : Ex) (σ : St) (hR : RepC g ad x σ ω) : CT l g yX9_claimed cX9_claimed 4 (some .int) 3 64 0 0 [.ref (ad .main)] ω (okC g ad 0 (some (.int (vl_claimed σ))) σ) (nox) := by
  refine CT.of (own := "Boringhead") rfl rfl (le_b rfl) rfl ?_
  intro p e s m args below meth c sz0 hC hr htab hin
  refine s_iconst hC (v := 0) dX9_claimed_0 rfl (by decide) ?_
  refine s_istore_n hC (L' := [(1, _), (0, _)]) dX9_claimed_1 rfl rfl (le_b rfl) rfl ?_
  refine s_iconst hC (v := 0) dX9_claimed_2 rfl (by decide) ?_
  refine s_istore_n hC (L' := [(2, _), (1, _), (0, _)]) dX9_claimed_3 rfl rfl (le_b rfl) rfl ?_
  refine WP.sub (L' := [(0, _), (1, _), (2, _)]) [2, 1, 0] rfl ?_
  refine wp_loop (σ := Int32 × Int32 × Nat) (I := fun (i, sm, j) => i = nI j ∧ j ≤ σ.n ∧ sm = clF σ j) (ωf := fun (i, sm, j) => ω) (Lf := fun (i, sm, j) => [(0, .ref (ad .main)), (1, .int sm), (2, .int i)]) (μ := fun (i, sm, j) => σ.n - j) (x0 := (_, _, 0)) ?_ ?_
  · exact ⟨rfl, Nat.zero_le _, rfl⟩
  · rintro ⟨i, sm, j⟩ hI ih
    dsimp only at hI ih ⊢
    obtain ⟨rfl, hj, rfl⟩ := hI
    have hin9 : ¬ nI (σ.n) ≤ nI j → j < σ.n := nI_ltc (Nat.lt_of_le_of_lt (RepC.b_ring hR) (by decide)) hj
    refine s_iload_n hC dX9_claimed_4 rfl rfl 2 rfl ?_
    refine s_aload_n hC dX9_claimed_5 rfl rfl 0 rfl ?_
    refine s_getf hC cs_X9 7 tw_244 (le_b rfl) (RepC.f_main hR) rfl dX9_claimed_6 rfl ?_
    refine s_callV hC (ct_Jx4a65c_size_8abf5 l g _ _ _ _ _ (RepC.f_built hR)) ce_Jx4a65c_size_8abf5 cs_Jx4a65c (RepC.f_built hR) tw_273 rfl rfl ⟨⟨le_b rfl, le_b rfl⟩, le_b rfl, le_b rfl⟩ (le_b rfl) dX9_claimed_9 rfl (dvk1 ?_) nokx
    refine z_icmp_ge hC (tgt := 47) dX9_claimed_12 rfl (by decide) (fun c_1 => ?_) (fun c_1 => ?_)
    · refine s_iload_n hC dX9_claimed_47 rfl rfl 1 rfl ?_
      refine s_iret hC hr dX9_claimed_48 (le_b rfl) (le_b rfl) ?_
      obtain rfl := nI_lec (Nat.lt_of_le_of_lt (RepC.b_ring hR) (by decide)) hj c_1
      exact okC_mk (by first | rfl | skip) rfl hR rfl rfl
    · refine s_aload_n hC dX9_claimed_15 rfl rfl 0 rfl ?_
      refine s_getf hC cs_X9 7 tw_244 (le_b rfl) (RepC.f_main hR) rfl dX9_claimed_16 rfl ?_
      refine s_iload_n hC dX9_claimed_19 rfl rfl 2 rfl ?_
      refine s_callV hC (ct_Jx4a65c_get_915e3 l g _ _ _ _ _ (RepC.f_built hR) _ _ (RepC.p_ring hR (hin9 c_1)).2.1 (RepC.p_ring hR (hin9 c_1)).2.2.1 _ _ (RepC.p_ring hR (hin9 c_1)).2.2.2.1 (hin9 c_1) (RepC.p_ring hR (hin9 c_1)).2.2.2.2) ce_Jx4a65c_get_915e3 cs_Jx4a65c (RepC.f_built hR) tw_285 rfl rfl ⟨⟨le_b rfl, le_b rfl⟩, le_b rfl, le_b rfl⟩ (le_b rfl) dX9_claimed_20 rfl (dvk1 ?_) nokx
      refine s_cast hC cs_X5 tw_299 (RepC.f_ring hR (hin9 c_1)) dX9_claimed_23 rfl ?_
      refine s_astore_n hC (L' := [(3, _), (0, _), (1, _), (2, _)]) dX9_claimed_26 rfl rfl (le_b rfl) rfl ?_
      refine s_aload_n hC dX9_claimed_27 rfl rfl 0 rfl ?_
      refine s_getfN hC cs_X5 11 tw_908 (le_b rfl) (RepC.f_ring hR (hin9 c_1)) rfl dX9_claimed_28 rfl ?_
      refine z_if_eqB hC (tgt := 41) dX9_claimed_31 rfl (by decide) (fun c_2 => ?_) (fun c_2 => ?_)
      · refine s_iinc hC (v := _ + 1) (j9 := 3) (L' := [(2, _), (3, _), (0, _), (1, _)]) dX9_claimed_41 rfl rfl rfl (le_b rfl) rfl ?_
        refine s_goto hC (tgt := 4) dX9_claimed_44 (by decide) ?_
        refine WP.sub (L' := [(0, _), (1, _), (2, _)]) [2, 3, 0] rfl ?_
        refine ih (_, _, j + 1) ?_ ?_
        · dsimp only
          have h9 := hin9 c_1
          refine ⟨nI_1 j, h9, ?_⟩
          all_goals first | (simp [clF, c_1, c_2]; done) | (simp [clF, c_1, c_2]; rfl)
        · dsimp only
          have h9 := hin9 c_1; omega
      · refine s_iload_n hC dX9_claimed_34 rfl rfl 2 rfl ?_
        refine s_aload_n hC dX9_claimed_35 rfl rfl 0 rfl ?_
        refine s_getfN hC cs_X5 9 tw_904 (le_b rfl) (RepC.f_ring hR (hin9 c_1)) rfl dX9_claimed_36 rfl ?_
        refine s_iadd hC dX9_claimed_39 rfl ?_
        refine s_istore_n hC (L' := [(1, _), (3, _), (0, _), (2, _)]) dX9_claimed_40 rfl rfl (le_b rfl) rfl ?_
        refine s_iinc hC (v := _ + 1) (j9 := 3) (L' := [(2, _), (1, _), (3, _), (0, _)]) dX9_claimed_41 rfl rfl rfl (le_b rfl) rfl ?_
        refine s_goto hC (tgt := 4) dX9_claimed_44 (by decide) ?_
        refine WP.sub (L' := [(0, _), (1, _), (2, _)]) [3, 1, 0] rfl ?_
        refine ih (_, _, j + 1) ?_ ?_
        · dsimp only
          have h9 := hin9 c_1
          refine ⟨nI_1 j, h9, ?_⟩
          all_goals first | (simp [clF, c_1, c_2]; done) | (simp [clF, c_1, c_2]; rfl)
        · dsimp only
          have h9 := hin9 c_1; omega
def cd_count (σ : St) (c9 : Int32) : Nat := if 0 ≤ ixF (stF [99, 115, 114, 98]) c9 4 0 then 0 else 1
def vl_count (σ : St) (c9 : Int32) : Int32 := coF σ (ixF (stF [99, 115, 114, 98]) c9 4 0) σ.n
set_option maxHeartbeats 1000000 in
set_option maxRecDepth 100000 in
theorem ct_X9_count (l : Launch) (g : Gl) (hst : l.stackTraces = false) (ω : Wd) (ad : Ix → Nat) (x : Ex) (σ : St) (hR : RepC g ad x σ ω) (c9 : Int32) : CT l g yX9_count cX9_count 5 (some .int) 6 90 1 6 [.ref (ad .main), .int c9] ω (okC g ad (cd_count σ c9) (some (.int (vl_count σ c9))) σ) (exC g ad (cd_count σ c9) ["java/lang/IllegalArgumentException"] σ) := by
  refine CT.of (own := "Boringhead") rfl rfl (le_b rfl) rfl ?_
  intro p e s m args below meth c sz0 hC hr htab hin
  refine s_gets hC 0 rfl tw_436 dX9_count_0 rfl ?_
  refine s_iload_n hC dX9_count_3 rfl rfl 1 rfl ?_
  refine s_callS hC (ct_X9_indexIn l g _ _ 4 _ _ (ar_sc g _ 0 rfl) (by decide)) ce_X9_indexIn tw_438 rfl rfl ⟨⟨le_b rfl, le_b rfl⟩, le_b rfl, le_b rfl⟩ (le_b rfl) dX9_count_4 rfl (dvk1 ?_) nokx
  refine s_istore_n hC (L' := [(2, _), (0, _), (1, _)]) dX9_count_7 rfl rfl (le_b rfl) rfl ?_
  refine s_iload_n hC dX9_count_8 rfl rfl 0 rfl ?_
  refine z_if_ge hC (tgt := 23) dX9_count_9 rfl (by decide) (fun c_1 => ?_) (fun c_1 => ?_)
  · refine s_iconst hC (v := 0) dX9_count_23 rfl (by decide) ?_
    refine s_istore_n hC (L' := [(3, _), (2, _), (0, _), (1, _)]) dX9_count_24 rfl rfl (le_b rfl) rfl ?_
    refine s_iconst hC (v := 0) dX9_count_25 rfl (by decide) ?_
    refine s_istore hC (L' := [(4, _), (3, _), (2, _), (0, _), (1, _)]) dX9_count_26 rfl (le_b rfl) rfl ?_
    refine WP.sub (L' := [(0, _), (2, _), (3, _), (4, _)]) [3, 2, 1, 0] rfl ?_
    refine wp_loop (σ := Int32 × Int32 × Nat) (I := fun (i, sm, j) => i = nI j ∧ j ≤ σ.n ∧ sm = coF σ (ixF (stF [99, 115, 114, 98]) c9 4 0) j) (ωf := fun (i, sm, j) => ω) (Lf := fun (i, sm, j) => [(0, .ref (ad .main)), (2, .int (ixF (stF [99, 115, 114, 98]) c9 4 0)), (3, .int sm), (4, .int i)]) (μ := fun (i, sm, j) => σ.n - j) (x0 := (_, _, 0)) ?_ ?_
    · exact ⟨rfl, Nat.zero_le _, rfl⟩
    · rintro ⟨i, sm, j⟩ hI ih
      dsimp only at hI ih ⊢
      obtain ⟨rfl, hj, rfl⟩ := hI
      have hin9 : ¬ nI (σ.n) ≤ nI j → j < σ.n := nI_ltc (Nat.lt_of_le_of_lt (RepC.b_ring hR) (by decide)) hj
      refine s_iload hC dX9_count_28 rfl 3 rfl ?_
      refine s_aload_n hC dX9_count_30 rfl rfl 0 rfl ?_
      refine s_getf hC cs_X9 7 tw_244 (le_b rfl) (RepC.f_main hR) rfl dX9_count_31 rfl ?_
      refine s_callV hC (ct_Jx4a65c_size_8abf5 l g _ _ _ _ _ (RepC.f_built hR)) ce_Jx4a65c_size_8abf5 cs_Jx4a65c (RepC.f_built hR) tw_273 rfl rfl ⟨⟨le_b rfl, le_b rfl⟩, le_b rfl, le_b rfl⟩ (le_b rfl) dX9_count_34 rfl (dvk1 ?_) nokx
      refine z_icmp_ge hC (tgt := 68) dX9_count_37 rfl (by decide) (fun c_2 => ?_) (fun c_2 => ?_)
      · refine s_iload_n hC dX9_count_68 rfl rfl 2 rfl ?_
        refine s_iret hC hr dX9_count_69 (le_b rfl) (le_b rfl) ?_
        obtain rfl := nI_lec (Nat.lt_of_le_of_lt (RepC.b_ring hR) (by decide)) hj c_2
        exact okC_mk (by simp [cd_count, c_1, c_2]) rfl hR rfl rfl
      · refine s_aload_n hC dX9_count_40 rfl rfl 0 rfl ?_
        refine s_getf hC cs_X9 7 tw_244 (le_b rfl) (RepC.f_main hR) rfl dX9_count_41 rfl ?_
        refine s_iload hC dX9_count_44 rfl 3 rfl ?_
        refine s_callV hC (ct_Jx4a65c_get_915e3 l g _ _ _ _ _ (RepC.f_built hR) _ _ (RepC.p_ring hR (hin9 c_2)).2.1 (RepC.p_ring hR (hin9 c_2)).2.2.1 _ _ (RepC.p_ring hR (hin9 c_2)).2.2.2.1 (hin9 c_2) (RepC.p_ring hR (hin9 c_2)).2.2.2.2) ce_Jx4a65c_get_915e3 cs_Jx4a65c (RepC.f_built hR) tw_285 rfl rfl ⟨⟨le_b rfl, le_b rfl⟩, le_b rfl, le_b rfl⟩ (le_b rfl) dX9_count_46 rfl (dvk1 ?_) nokx
        refine s_cast hC cs_X5 tw_299 (RepC.f_ring hR (hin9 c_2)) dX9_count_49 rfl ?_
        refine s_getfN hC cs_X5 1 tw_888 (le_b rfl) (RepC.f_ring hR (hin9 c_2)) rfl dX9_count_52 rfl ?_
        refine s_iload_n hC dX9_count_55 rfl rfl 1 rfl ?_
        refine z_icmp_ne hC (tgt := 62) dX9_count_56 rfl (by decide) (fun c_3 => ?_) (fun c_3 => ?_)
        · refine s_iinc hC (v := _ + 1) (j9 := 3) (L' := [(4, _), (0, _), (2, _), (3, _)]) dX9_count_62 rfl rfl rfl (le_b rfl) rfl ?_
          refine s_goto hC (tgt := 28) dX9_count_65 (by decide) ?_
          refine WP.sub (L' := [(0, _), (2, _), (3, _), (4, _)]) [1, 2, 3, 0] rfl ?_
          refine ih (_, _, j + 1) ?_ ?_
          · dsimp only
            have h9 := hin9 c_2
            refine ⟨nI_1 j, h9, ?_⟩
            all_goals first | (simp [coF, c_1, c_2, c_3]; done) | (simp [coF, c_1, c_2, c_3]; rfl)
          · dsimp only
            have h9 := hin9 c_2; omega
        · refine s_iinc hC (v := _ + 1) (j9 := 2) (L' := [(3, _), (0, _), (2, _), (4, _)]) dX9_count_59 rfl rfl rfl (le_b rfl) rfl ?_
          refine s_iinc hC (v := _ + 1) (j9 := 3) (L' := [(4, _), (3, _), (0, _), (2, _)]) dX9_count_62 rfl rfl rfl (le_b rfl) rfl ?_
          refine s_goto hC (tgt := 28) dX9_count_65 (by decide) ?_
          refine WP.sub (L' := [(0, _), (2, _), (3, _), (4, _)]) [2, 3, 1, 0] rfl ?_
          refine ih (_, _, j + 1) ?_ ?_
          · dsimp only
            have h9 := hin9 c_2
            refine ⟨nI_1 j, h9, ?_⟩
            all_goals first | (simp [coF, c_1, c_2, c_3]; done) | (simp [coF, c_1, c_2, c_3]; rfl)
          · dsimp only
            have h9 := hin9 c_2; omega
  · refine s_throwSW hC htab hst (cls := "java/lang/IllegalArgumentException") (names := ["java/lang/RuntimeException", "java/lang/Exception"]) (i := 29) fit_IllegalArgumentException tw_450 tw_15 rfl at_X9_97 at_X9_97_ot dX9_count_12 dX9_count_15 dX9_count_16 dX9_count_19 dX9_count_22 ⟨le_b rfl, le_b rfl, le_b rfl, le_b rfl⟩ ⟨le_b rfl, le_b rfl⟩ ?_
    exact exC_mk (by simp [cd_count, c_1]) (by simp [cd_count, c_1]) hR rfl
def vl_checksum (σ : St)  : Int64 := 31 * ckF σ σ.n + σ.mn.toInt64
set_option maxHeartbeats 1000000 in
set_option maxRecDepth 100000 in
theorem ct_X9_checksum (l : Launch) (g : Gl) (ω : Wd) (ad : Ix → Nat) (x : Ex) (σ : St) (hR : RepC g ad x σ ω) : CT l g yX9_checksum cX9_checksum 5 (some .long) 3 64 0 0 [.ref (ad .main)] ω (okC g ad 0 (some (.long (vl_checksum σ))) σ) (nox) := by
  refine CT.of (own := "Boringhead") rfl rfl (le_b rfl) rfl ?_
  intro p e s m args below meth c sz0 hC hr htab hin
  refine s_ldc2 hC tw_331 dX9_checksum_0 rfl ?_
  refine s_lstore_n hC (L' := [(1, _), (0, _)]) dX9_checksum_3 rfl rfl (le_b rfl) rfl ?_
  refine s_iconst hC (v := 0) dX9_checksum_4 rfl (by decide) ?_
  refine s_istore_n hC (L' := [(3, _), (1, _), (0, _)]) dX9_checksum_5 rfl rfl (le_b rfl) rfl ?_
  refine WP.sub (L' := [(0, _), (1, _), (3, _)]) [2, 1, 0] rfl ?_
  refine wp_loop (σ := Int32 × Int64 × Nat) (I := fun (i, sm, j) => i = nI j ∧ j ≤ σ.n ∧ sm = ckF σ j) (ωf := fun (i, sm, j) => ω) (Lf := fun (i, sm, j) => [(0, .ref (ad .main)), (1, .long sm), (3, .int i)]) (μ := fun (i, sm, j) => σ.n - j) (x0 := (_, _, 0)) ?_ ?_
  · exact ⟨rfl, Nat.zero_le _, rfl⟩
  · rintro ⟨i, sm, j⟩ hI ih
    dsimp only at hI ih ⊢
    obtain ⟨rfl, hj, rfl⟩ := hI
    have hin9 : ¬ nI (σ.n) ≤ nI j → j < σ.n := nI_ltc (Nat.lt_of_le_of_lt (RepC.b_ring hR) (by decide)) hj
    refine s_iload_n hC dX9_checksum_6 rfl rfl 2 rfl ?_
    refine s_aload_n hC dX9_checksum_7 rfl rfl 0 rfl ?_
    refine s_getf hC cs_X9 7 tw_244 (le_b rfl) (RepC.f_main hR) rfl dX9_checksum_8 rfl ?_
    refine s_callV hC (ct_Jx4a65c_size_8abf5 l g _ _ _ _ _ (RepC.f_built hR)) ce_Jx4a65c_size_8abf5 cs_Jx4a65c (RepC.f_built hR) tw_273 rfl rfl ⟨⟨le_b rfl, le_b rfl⟩, le_b rfl, le_b rfl⟩ (le_b rfl) dX9_checksum_11 rfl (dvk1 ?_) nokx
    refine z_icmp_ge hC (tgt := 88) dX9_checksum_14 rfl (by decide) (fun c_1 => ?_) (fun c_1 => ?_)
    · refine s_ldc2 hC tw_332 dX9_checksum_88 rfl ?_
      refine s_lload_n hC dX9_checksum_91 rfl rfl 1 rfl ?_
      refine s_lmul hC dX9_checksum_92 rfl ?_
      refine s_aload_n hC dX9_checksum_93 rfl rfl 0 rfl ?_
      refine s_getf hC cs_X9 5 tw_242 (le_b rfl) (RepC.f_main hR) rfl dX9_checksum_94 rfl ?_
      refine s_getfN hC cs_X1 0 tw_192 (le_b rfl) (RepC.f_clock hR) rfl dX9_checksum_97 rfl ?_
      refine s_i2l hC dX9_checksum_100 rfl rfl ?_
      refine s_ladd hC dX9_checksum_101 rfl ?_
      refine s_lret hC hr dX9_checksum_102 (le_b rfl) (le_b rfl) ?_
      obtain rfl := nI_lec (Nat.lt_of_le_of_lt (RepC.b_ring hR) (by decide)) hj c_1
      exact okC_mk rfl rfl hR rfl rfl
    · refine s_aload_n hC dX9_checksum_17 rfl rfl 0 rfl ?_
      refine s_getf hC cs_X9 7 tw_244 (le_b rfl) (RepC.f_main hR) rfl dX9_checksum_18 rfl ?_
      refine s_iload_n hC dX9_checksum_21 rfl rfl 2 rfl ?_
      refine s_callV hC (ct_Jx4a65c_get_915e3 l g _ _ _ _ _ (RepC.f_built hR) _ _ (RepC.p_ring hR (hin9 c_1)).2.1 (RepC.p_ring hR (hin9 c_1)).2.2.1 _ _ (RepC.p_ring hR (hin9 c_1)).2.2.2.1 (hin9 c_1) (RepC.p_ring hR (hin9 c_1)).2.2.2.2) ce_Jx4a65c_get_915e3 cs_Jx4a65c (RepC.f_built hR) tw_285 rfl rfl ⟨⟨le_b rfl, le_b rfl⟩, le_b rfl, le_b rfl⟩ (le_b rfl) dX9_checksum_22 rfl (dvk1 ?_) nokx
      refine s_cast hC cs_X5 tw_299 (RepC.f_ring hR (hin9 c_1)) dX9_checksum_25 rfl ?_
      refine s_astore hC (L' := [(4, _), (0, _), (1, _), (3, _)]) dX9_checksum_28 rfl (le_b rfl) rfl ?_
      refine s_ldc2 hC tw_332 dX9_checksum_30 rfl ?_
      refine s_lload_n hC dX9_checksum_33 rfl rfl 2 rfl ?_
      refine s_lmul hC dX9_checksum_34 rfl ?_
      refine s_aload hC dX9_checksum_35 rfl 0 rfl ?_
      refine s_getfN hC cs_X5 0 tw_886 (le_b rfl) (RepC.f_ring hR (hin9 c_1)) rfl dX9_checksum_37 rfl ?_
      refine s_i2l hC dX9_checksum_40 rfl rfl ?_
      refine s_ladd hC dX9_checksum_41 rfl ?_
      refine s_lstore_n hC (L' := [(1, _), (4, _), (0, _), (3, _)]) dX9_checksum_42 rfl rfl (le_b rfl) rfl ?_
      refine s_ldc2 hC tw_332 dX9_checksum_43 rfl ?_
      refine s_lload_n hC dX9_checksum_46 rfl rfl 0 rfl ?_
      refine s_lmul hC dX9_checksum_47 rfl ?_
      refine s_aload hC dX9_checksum_48 rfl 1 rfl ?_
      refine s_getfN hC cs_X5 5 tw_896 (le_b rfl) (RepC.f_ring hR (hin9 c_1)) rfl dX9_checksum_50 rfl ?_
      refine s_i2l hC dX9_checksum_53 rfl rfl ?_
      refine s_ladd hC dX9_checksum_54 rfl ?_
      refine s_lstore_n hC (L' := [(1, _), (4, _), (0, _), (3, _)]) dX9_checksum_55 rfl rfl (le_b rfl) rfl ?_
      refine s_ldc2 hC tw_332 dX9_checksum_56 rfl ?_
      refine s_lload_n hC dX9_checksum_59 rfl rfl 0 rfl ?_
      refine s_lmul hC dX9_checksum_60 rfl ?_
      refine s_aload hC dX9_checksum_61 rfl 1 rfl ?_
      refine s_getfN hC cs_X5 6 tw_898 (le_b rfl) (RepC.f_ring hR (hin9 c_1)) rfl dX9_checksum_63 rfl ?_
      refine s_i2l hC dX9_checksum_66 rfl rfl ?_
      refine s_ladd hC dX9_checksum_67 rfl ?_
      refine s_lstore_n hC (L' := [(1, _), (4, _), (0, _), (3, _)]) dX9_checksum_68 rfl rfl (le_b rfl) rfl ?_
      refine s_ldc2 hC tw_332 dX9_checksum_69 rfl ?_
      refine s_lload_n hC dX9_checksum_72 rfl rfl 0 rfl ?_
      refine s_lmul hC dX9_checksum_73 rfl ?_
      refine s_aload hC dX9_checksum_74 rfl 1 rfl ?_
      refine s_callV hC (ct_X5_missing l g _ _ _ (RepC.f_ring hR (hin9 c_1))) ce_X5_missing cs_X5 (RepC.f_ring hR (hin9 c_1)) tw_333 rfl rfl ⟨⟨le_b rfl, le_b rfl⟩, le_b rfl, le_b rfl⟩ (le_b rfl) dX9_checksum_76 rfl (dvk1 ?_) nokx
      refine s_i2l hC dX9_checksum_79 rfl rfl ?_
      refine s_ladd hC dX9_checksum_80 rfl ?_
      refine s_lstore_n hC (L' := [(1, _), (4, _), (0, _), (3, _)]) dX9_checksum_81 rfl rfl (le_b rfl) rfl ?_
      refine s_iinc hC (v := _ + 1) (j9 := 3) (L' := [(3, _), (1, _), (4, _), (0, _)]) dX9_checksum_82 rfl rfl rfl (le_b rfl) rfl ?_
      refine s_goto hC (tgt := 6) dX9_checksum_85 (by decide) ?_
      refine WP.sub (L' := [(0, _), (1, _), (3, _)]) [3, 1, 0] rfl ?_
      refine ih (_, _, j + 1) ?_ ?_
      · dsimp only
        have h9 := hin9 c_1
        refine ⟨nI_1 j, h9, ?_⟩
        rfl
      · dsimp only
        have h9 := hin9 c_1; omega
def fiF (σ : St) : Nat → Int32
  | 0 => 0
  | j + 1 => fiF σ j + (σ.ring j).fi
def gpF (σ : St) : Nat → Int32
  | 0 => 0
  | j + 1 => gpF σ j + gapF (σ.ring j).kind
def cd_groutShare (σ : St)  : Nat := if decide (σ.n = 0) = true then 1 else 0
def vl_groutShare (σ : St)  : UInt32 := FP.fdiv (FP.i2f (fiF σ σ.n)) (FP.i2f (gpF σ σ.n))
set_option maxHeartbeats 1000000 in
set_option maxRecDepth 100000 in
theorem ct_X9_groutShare (l : Launch) (g : Gl) (hst : l.stackTraces = false) (ω : Wd) (ad : Ix → Nat) (x : Ex) (σ : St) (hR : RepC g ad x σ ω) (hnn : ¬ σ.n = 0 → vf_n32 (FP.fdiv (FP.i2f (fiF σ σ.n)) (FP.i2f (gpF σ σ.n)))) : CT l g yX9_groutShare cX9_groutShare 4 (some .float) 6 90 1 6 [.ref (ad .main)] ω (okC g ad (cd_groutShare σ) (some (.float (vl_groutShare σ))) σ) (exC g ad (cd_groutShare σ) ["java/lang/ArithmeticException"] σ) := by
  refine CT.of (own := "Boringhead") rfl rfl (le_b rfl) rfl ?_
  intro p e s m args below meth c sz0 hC hr htab hin
  refine s_aload_n hC dX9_groutShare_0 rfl rfl 0 rfl ?_
  refine s_getf hC cs_X9 7 tw_244 (le_b rfl) (RepC.f_main hR) rfl dX9_groutShare_1 rfl ?_
  refine s_callV hC (ct_Jx4a65c_isEmpty_aae02 l g _ _ _ _ _ (RepC.f_built hR) (Nat.lt_of_le_of_lt (RepC.b_ring hR) (by decide))) ce_Jx4a65c_isEmpty_aae02 cs_Jx4a65c (RepC.f_built hR) tw_844 rfl rfl ⟨⟨le_b rfl, le_b rfl⟩, le_b rfl, le_b rfl⟩ (le_b rfl) dX9_groutShare_4 rfl (dvk1 ?_) nokx
  refine z_if_eqB hC (tgt := 21) dX9_groutShare_7 rfl (by decide) (fun c_1 => ?_) (fun c_1 => ?_)
  · refine s_iconst hC (v := 0) dX9_groutShare_21 rfl (by decide) ?_
    refine s_istore_n hC (L' := [(1, _), (0, _)]) dX9_groutShare_22 rfl rfl (le_b rfl) rfl ?_
    refine s_iconst hC (v := 0) dX9_groutShare_23 rfl (by decide) ?_
    refine s_istore_n hC (L' := [(2, _), (1, _), (0, _)]) dX9_groutShare_24 rfl rfl (le_b rfl) rfl ?_
    refine s_iconst hC (v := 0) dX9_groutShare_25 rfl (by decide) ?_
    refine s_istore_n hC (L' := [(3, _), (2, _), (1, _), (0, _)]) dX9_groutShare_26 rfl rfl (le_b rfl) rfl ?_
    refine WP.sub (L' := [(0, _), (1, _), (2, _), (3, _)]) [3, 2, 1, 0] rfl ?_
    refine wp_loop (σ := Int32 × Int32 × Int32 × Nat) (I := fun (i, sm, sg, j) => i = nI j ∧ j ≤ σ.n ∧ sm = fiF σ j ∧ sg = gpF σ j) (ωf := fun (i, sm, sg, j) => ω) (Lf := fun (i, sm, sg, j) => [(0, .ref (ad .main)), (1, .int sm), (2, .int sg), (3, .int i)]) (μ := fun (i, sm, sg, j) => σ.n - j) (x0 := (_, _, _, 0)) ?_ ?_
    · exact ⟨rfl, Nat.zero_le _, rfl, rfl⟩
    · rintro ⟨i, sm, sg, j⟩ hI ih
      dsimp only at hI ih ⊢
      obtain ⟨rfl, hj, rfl, rfl⟩ := hI
      have hin9 : ¬ nI (σ.n) ≤ nI j → j < σ.n := nI_ltc (Nat.lt_of_le_of_lt (RepC.b_ring hR) (by decide)) hj
      refine s_iload_n hC dX9_groutShare_27 rfl rfl 3 rfl ?_
      refine s_aload_n hC dX9_groutShare_28 rfl rfl 0 rfl ?_
      refine s_getf hC cs_X9 7 tw_244 (le_b rfl) (RepC.f_main hR) rfl dX9_groutShare_29 rfl ?_
      refine s_callV hC (ct_Jx4a65c_size_8abf5 l g _ _ _ _ _ (RepC.f_built hR)) ce_Jx4a65c_size_8abf5 cs_Jx4a65c (RepC.f_built hR) tw_273 rfl rfl ⟨⟨le_b rfl, le_b rfl⟩, le_b rfl, le_b rfl⟩ (le_b rfl) dX9_groutShare_32 rfl (dvk1 ?_) nokx
      refine z_icmp_ge hC (tgt := 78) dX9_groutShare_35 rfl (by decide) (fun c_2 => ?_) (fun c_2 => ?_)
      · obtain rfl := nI_lec (Nat.lt_of_le_of_lt (RepC.b_ring hR) (by decide)) hj c_2
        refine s_iload_n hC dX9_groutShare_78 rfl rfl 1 rfl ?_
        refine s_i2f hC dX9_groutShare_79 rfl ?_
        refine s_iload_n hC dX9_groutShare_80 rfl rfl 2 rfl ?_
        refine s_i2f hC dX9_groutShare_81 rfl ?_
        refine s_fdiv hC dX9_groutShare_82 rfl (hnn (of_decide_eq_false c_1)) ?_
        refine s_fret hC hr dX9_groutShare_83 (le_b rfl) (le_b rfl) ?_
        exact okC_mk (by simp [cd_groutShare, c_1, c_2]) (by first | (simp [vl_groutShare, c_1, c_2]; done) | rfl) hR rfl (rfl)
      · refine s_iload_n hC dX9_groutShare_38 rfl rfl 1 rfl ?_
        refine s_aload_n hC dX9_groutShare_39 rfl rfl 0 rfl ?_
        refine s_getf hC cs_X9 7 tw_244 (le_b rfl) (RepC.f_main hR) rfl dX9_groutShare_40 rfl ?_
        refine s_iload_n hC dX9_groutShare_43 rfl rfl 3 rfl ?_
        refine s_callV hC (ct_Jx4a65c_get_915e3 l g _ _ _ _ _ (RepC.f_built hR) _ _ (RepC.p_ring hR (hin9 c_2)).2.1 (RepC.p_ring hR (hin9 c_2)).2.2.1 _ _ (RepC.p_ring hR (hin9 c_2)).2.2.2.1 (hin9 c_2) (RepC.p_ring hR (hin9 c_2)).2.2.2.2) ce_Jx4a65c_get_915e3 cs_Jx4a65c (RepC.f_built hR) tw_285 rfl rfl ⟨⟨le_b rfl, le_b rfl⟩, le_b rfl, le_b rfl⟩ (le_b rfl) dX9_groutShare_44 rfl (dvk1 ?_) nokx
        refine s_cast hC cs_X5 tw_299 (RepC.f_ring hR (hin9 c_2)) dX9_groutShare_47 rfl ?_
        refine s_getfN hC cs_X5 12 tw_910 (le_b rfl) (RepC.f_ring hR (hin9 c_2)) rfl dX9_groutShare_50 rfl ?_
        refine s_iadd hC dX9_groutShare_53 rfl ?_
        refine s_istore_n hC (L' := [(1, _), (0, _), (2, _), (3, _)]) dX9_groutShare_54 rfl rfl (le_b rfl) rfl ?_
        refine s_iload_n hC dX9_groutShare_55 rfl rfl 2 rfl ?_
        refine s_aload_n hC dX9_groutShare_56 rfl rfl 1 rfl ?_
        refine s_getf hC cs_X9 7 tw_244 (le_b rfl) (RepC.f_main hR) rfl dX9_groutShare_57 rfl ?_
        refine s_iload_n hC dX9_groutShare_60 rfl rfl 3 rfl ?_
        refine s_callV hC (ct_Jx4a65c_get_915e3 l g _ _ _ _ _ (RepC.f_built hR) _ _ (RepC.p_ring hR (hin9 c_2)).2.1 (RepC.p_ring hR (hin9 c_2)).2.2.1 _ _ (RepC.p_ring hR (hin9 c_2)).2.2.2.1 (hin9 c_2) (RepC.p_ring hR (hin9 c_2)).2.2.2.2) ce_Jx4a65c_get_915e3 cs_Jx4a65c (RepC.f_built hR) tw_285 rfl rfl ⟨⟨le_b rfl, le_b rfl⟩, le_b rfl, le_b rfl⟩ (le_b rfl) dX9_groutShare_61 rfl (dvk1 ?_) nokx
        refine s_cast hC cs_X5 tw_299 (RepC.f_ring hR (hin9 c_2)) dX9_groutShare_64 rfl ?_
        refine s_callV hC (ct_X5_gap l g _ _ _ (RepC.f_ring hR (hin9 c_2))) ce_X5_gap cs_X5 (RepC.f_ring hR (hin9 c_2)) tw_1228 rfl rfl ⟨⟨le_b rfl, le_b rfl⟩, le_b rfl, le_b rfl⟩ (le_b rfl) dX9_groutShare_67 rfl (dvk1 ?_) nokx
        refine s_iadd hC dX9_groutShare_70 rfl ?_
        refine s_istore_n hC (L' := [(2, _), (1, _), (0, _), (3, _)]) dX9_groutShare_71 rfl rfl (le_b rfl) rfl ?_
        refine s_iinc hC (v := _ + 1) (j9 := 3) (L' := [(3, _), (2, _), (1, _), (0, _)]) dX9_groutShare_72 rfl rfl rfl (le_b rfl) rfl ?_
        refine s_goto hC (tgt := 27) dX9_groutShare_75 (by decide) ?_
        refine WP.sub (L' := [(0, _), (1, _), (2, _), (3, _)]) [3, 2, 1, 0] rfl ?_
        refine ih (_, _, _, j + 1) ?_ ?_
        · dsimp only
          have h9 := hin9 c_2
          refine ⟨nI_1 j, h9, ?_, ?_⟩
          all_goals rfl
        · dsimp only
          have h9 := hin9 c_2; omega
  · refine s_throwSW hC htab hst (cls := "java/lang/ArithmeticException") (names := ["java/lang/RuntimeException", "java/lang/Exception"]) (i := 30) fit_ArithmeticException tw_1225 tw_39 rfl at_X9_427 at_X9_427_ot dX9_groutShare_10 dX9_groutShare_13 dX9_groutShare_14 dX9_groutShare_17 dX9_groutShare_20 ⟨le_b rfl, le_b rfl, le_b rfl, le_b rfl⟩ ⟨le_b rfl, le_b rfl⟩ ?_
    exact exC_mk (by simp [cd_groutShare, c_1]) (by simp [cd_groutShare, c_1]) hR rfl
def cd_meanMinutes (σ : St)  : Nat := if decide (σ.n = 0) = true then 1 else 0
def vl_meanMinutes (σ : St)  : UInt64 := FP.ddiv (FP.i2d (mrF σ σ.n)) (FP.i2d (nI σ.n))
set_option maxHeartbeats 1000000 in
set_option maxRecDepth 100000 in
theorem ct_X9_meanMinutes (l : Launch) (g : Gl) (hst : l.stackTraces = false) (ω : Wd) (ad : Ix → Nat) (x : Ex) (σ : St) (hR : RepC g ad x σ ω) (hnn : ¬ σ.n = 0 → vf_n64 (FP.ddiv (FP.i2d (mrF σ σ.n)) (FP.i2d (nI σ.n)))) : CT l g yX9_meanMinutes cX9_meanMinutes 1 (some .double) 6 90 1 6 [.ref (ad .main)] ω (okC g ad (cd_meanMinutes σ) (some (.double (vl_meanMinutes σ))) σ) (exC g ad (cd_meanMinutes σ) ["java/lang/ArithmeticException"] σ) := by
  refine CT.of (own := "Boringhead") rfl rfl (le_b rfl) rfl ?_
  intro p e s m args below meth c sz0 hC hr htab hin
  refine s_aload_n hC dX9_meanMinutes_0 rfl rfl 0 rfl ?_
  refine s_getf hC cs_X9 7 tw_244 (le_b rfl) (RepC.f_main hR) rfl dX9_meanMinutes_1 rfl ?_
  refine s_callV hC (ct_Jx4a65c_isEmpty_aae02 l g _ _ _ _ _ (RepC.f_built hR) (Nat.lt_of_le_of_lt (RepC.b_ring hR) (by decide))) ce_Jx4a65c_isEmpty_aae02 cs_Jx4a65c (RepC.f_built hR) tw_844 rfl rfl ⟨⟨le_b rfl, le_b rfl⟩, le_b rfl, le_b rfl⟩ (le_b rfl) dX9_meanMinutes_4 rfl (dvk1 ?_) nokx
  refine z_if_eqB hC (tgt := 21) dX9_meanMinutes_7 rfl (by decide) (fun c_1 => ?_) (fun c_1 => ?_)
  · refine s_aload_n hC dX9_meanMinutes_21 rfl rfl 0 rfl ?_
    refine s_callV hC (ct_X9_minutesOfRings l g _ _ _ _ hR) ce_X9_minutesOfRings cs_X9 (RepC.f_main hR) tw_411 rfl rfl ⟨⟨le_b rfl, le_b rfl⟩, le_b rfl, le_b rfl⟩ (le_b rfl) dX9_meanMinutes_22 rfl (dvk1 ?_) nokx
    refine s_i2d hC dX9_meanMinutes_25 rfl ?_
    refine s_aload_n hC dX9_meanMinutes_26 rfl rfl 0 rfl ?_
    refine s_getf hC cs_X9 7 tw_244 (le_b rfl) (RepC.f_main hR) rfl dX9_meanMinutes_27 rfl ?_
    refine s_callV hC (ct_Jx4a65c_size_8abf5 l g _ _ _ _ _ (RepC.f_built hR)) ce_Jx4a65c_size_8abf5 cs_Jx4a65c (RepC.f_built hR) tw_273 rfl rfl ⟨⟨le_b rfl, le_b rfl⟩, le_b rfl, le_b rfl⟩ (le_b rfl) dX9_meanMinutes_30 rfl (dvk1 ?_) nokx
    refine s_i2d hC dX9_meanMinutes_33 rfl ?_
    refine s_ddiv hC dX9_meanMinutes_34 rfl (hnn (of_decide_eq_false c_1)) ?_
    refine s_dret hC hr dX9_meanMinutes_35 (le_b rfl) (le_b rfl) ?_
    exact okC_mk (by simp [cd_meanMinutes, c_1]) (by first | (simp [vl_meanMinutes, c_1]; done) | rfl) hR rfl (rfl)
  · refine s_throwSW hC htab hst (cls := "java/lang/ArithmeticException") (names := ["java/lang/RuntimeException", "java/lang/Exception"]) (i := 30) fit_ArithmeticException tw_1225 tw_39 rfl at_X9_427 at_X9_427_ot dX9_meanMinutes_10 dX9_meanMinutes_13 dX9_meanMinutes_14 dX9_meanMinutes_17 dX9_meanMinutes_20 ⟨le_b rfl, le_b rfl, le_b rfl, le_b rfl⟩ ⟨le_b rfl, le_b rfl⟩ ?_
    exact exC_mk (by simp [cd_meanMinutes, c_1]) (by simp [cd_meanMinutes, c_1]) hR rfl
def cd_plan (σ : St) (r9 : Int32) : Nat := if inR r9 1 3 = true then 0 else 1
def vl_plan (σ : St) (r9 : Int32) : Int32 := turnF (bsF σ r9.toNatClampNeg (8 ^ r9.toNatClampNeg)).1 0 r9
set_option maxHeartbeats 1000000 in
set_option maxRecDepth 100000 in
theorem ct_X9_plan (l : Launch) (g : Gl) (hst : l.stackTraces = false) (ω : Wd) (ad : Ix → Nat) (x : Ex) (σ : St) (hR : RepC g ad x σ ω) (r9 : Int32) : CT l g yX9_plan cX9_plan 2 (some .int) 6 138 1 6 [.ref (ad .main), .int r9] ω (okC g ad (cd_plan σ r9) (some (.int (vl_plan σ r9))) σ) (exC g ad (cd_plan σ r9) ["java/lang/IllegalArgumentException"] σ) := by
  refine CT.of (own := "Boringhead") rfl rfl (le_b rfl) rfl ?_
  intro p e s m args below meth c sz0 hC hr htab hin
  refine s_iload_n hC dX9_plan_0 rfl rfl 1 rfl ?_
  refine s_iconst hC (v := 1) dX9_plan_1 rfl (by decide) ?_
  refine s_iconst hC (v := 3) dX9_plan_2 rfl (by decide) ?_
  refine s_callS hC (ct_X9_isWithin l g _ _ _ _) ce_X9_isWithin tw_447 rfl rfl ⟨⟨le_b rfl, le_b rfl⟩, le_b rfl, le_b rfl⟩ (le_b rfl) dX9_plan_3 rfl (dvk1 ?_) nokx
  refine z_if_neB hC (tgt := 20) dX9_plan_6 rfl (by decide) (fun c_1 => ?_) (fun c_1 => ?_)
  · obtain ⟨m9, rfl, hm9⟩ := inR13 c_1
    refine s_aload_n hC dX9_plan_20 rfl rfl 0 rfl ?_
    refine s_iload_n hC dX9_plan_21 rfl rfl 1 rfl ?_
    refine s_callV hC (ct_X9_bestRow l g _ _ _ _ hR _ hm9) ce_X9_bestRow cs_X9 (RepC.f_main hR) tw_976 rfl rfl ⟨⟨le_b rfl, le_b rfl⟩, le_b rfl, le_b rfl⟩ (le_b rfl) dX9_plan_22 rfl (fun r w h9 => ?_) nokx
    obtain ⟨rfl, cc9, rfl⟩ := h9
    have hcl : (nI m9).toNatClampNeg = m9 := nI_clamp (by omega)
    have hRb := RepC.trial4 hR cc9
    refine s_iconst hC (v := 0) dX9_plan_25 rfl (by decide) ?_
    refine s_iload_n hC dX9_plan_26 rfl rfl 1 rfl ?_
    refine s_callS hC (ct_X9_turnOf l g _ _ _ _) ce_X9_turnOf tw_988 rfl rfl ⟨⟨le_b rfl, le_b rfl⟩, le_b rfl, le_b rfl⟩ (le_b rfl) dX9_plan_27 rfl (dvk1 ?_) nokx
    refine s_iret hC hr dX9_plan_30 (le_b rfl) (le_b rfl) ?_
    exact okC_mk (by simp [cd_plan, c_1, hcl]) (by first | (simp [vl_plan, c_1, hcl]; done) | rfl) hRb rfl (rfl)
  · refine s_throwSW hC htab hst (cls := "java/lang/IllegalArgumentException") (names := ["java/lang/RuntimeException", "java/lang/Exception"]) (i := 15) fit_IllegalArgumentException tw_450 tw_15 rfl at_X9_97 at_X9_97_ot dX9_plan_9 dX9_plan_12 dX9_plan_13 dX9_plan_16 dX9_plan_19 ⟨le_b rfl, le_b rfl, le_b rfl, le_b rfl⟩ ⟨le_b rfl, le_b rfl⟩ ?_
    exact exC_mk (by simp [cd_plan, c_1]) (by simp [cd_plan, c_1]) hR rfl
def cd_squares (σ : St) (r9 : Int32) : Nat := if inR r9 1 3 = true then 0 else 1
def vl_squares (σ : St) (r9 : Int32) : Int64 := sroF σ (bsF σ r9.toNatClampNeg (8 ^ r9.toNatClampNeg)).1 r9.toNatClampNeg
set_option maxHeartbeats 1000000 in
set_option maxRecDepth 100000 in
theorem ct_X9_squares (l : Launch) (g : Gl) (hst : l.stackTraces = false) (ω : Wd) (ad : Ix → Nat) (x : Ex) (σ : St) (hR : RepC g ad x σ ω) (r9 : Int32) : CT l g yX9_squares cX9_squares 2 (some .long) 6 138 1 6 [.ref (ad .main), .int r9] ω (okC g ad (cd_squares σ r9) (some (.long (vl_squares σ r9))) σ) (exC g ad (cd_squares σ r9) ["java/lang/IllegalArgumentException"] σ) := by
  refine CT.of (own := "Boringhead") rfl rfl (le_b rfl) rfl ?_
  intro p e s m args below meth c sz0 hC hr htab hin
  refine s_iload_n hC dX9_squares_0 rfl rfl 1 rfl ?_
  refine s_iconst hC (v := 1) dX9_squares_1 rfl (by decide) ?_
  refine s_iconst hC (v := 3) dX9_squares_2 rfl (by decide) ?_
  refine s_callS hC (ct_X9_isWithin l g _ _ _ _) ce_X9_isWithin tw_447 rfl rfl ⟨⟨le_b rfl, le_b rfl⟩, le_b rfl, le_b rfl⟩ (le_b rfl) dX9_squares_3 rfl (dvk1 ?_) nokx
  refine z_if_neB hC (tgt := 20) dX9_squares_6 rfl (by decide) (fun c_1 => ?_) (fun c_1 => ?_)
  · obtain ⟨m9, rfl, hm9⟩ := inR13 c_1
    refine s_aload_n hC dX9_squares_20 rfl rfl 0 rfl ?_
    refine s_aload_n hC dX9_squares_21 rfl rfl 0 rfl ?_
    refine s_iload_n hC dX9_squares_22 rfl rfl 1 rfl ?_
    refine s_callV hC (ct_X9_bestRow l g _ _ _ _ hR _ hm9) ce_X9_bestRow cs_X9 (RepC.f_main hR) tw_976 rfl rfl ⟨⟨le_b rfl, le_b rfl⟩, le_b rfl, le_b rfl⟩ (le_b rfl) dX9_squares_23 rfl (fun r w h9 => ?_) nokx
    obtain ⟨rfl, cc9, rfl⟩ := h9
    have hcl : (nI m9).toNatClampNeg = m9 := nI_clamp (by omega)
    have hRb := RepC.trial4 hR cc9
    refine s_iload_n hC dX9_squares_26 rfl rfl 1 rfl ?_
    refine s_callV hC (ct_X9_sumOfRow l g _ _ _ _ hRb _ _ hm9) ce_X9_sumOfRow cs_X9 (RepC.f_main hRb) tw_980 rfl rfl ⟨⟨le_b rfl, le_b rfl⟩, le_b rfl, le_b rfl⟩ (le_b rfl) dX9_squares_27 rfl (fun r w h9 => ?_) nokx
    obtain ⟨rfl, cc8, rfl⟩ := h9
    have hRc := RepC.trial4 hRb cc8
    refine s_lret hC hr dX9_squares_30 (le_b rfl) (le_b rfl) ?_
    exact okC_mk (by simp [cd_squares, c_1, hcl]) (by first | (simp [vl_squares, c_1, hcl]; done) | rfl) hRc rfl (rfl)
  · refine s_throwSW hC htab hst (cls := "java/lang/IllegalArgumentException") (names := ["java/lang/RuntimeException", "java/lang/Exception"]) (i := 15) fit_IllegalArgumentException tw_450 tw_15 rfl at_X9_97 at_X9_97_ot dX9_squares_9 dX9_squares_12 dX9_squares_13 dX9_squares_16 dX9_squares_19 ⟨le_b rfl, le_b rfl, le_b rfl, le_b rfl⟩ ⟨le_b rfl, le_b rfl⟩ ?_
    exact exC_mk (by simp [cd_squares, c_1]) (by simp [cd_squares, c_1]) hR rfl
def gr1 (σ : St) (j : Nat) : St := if (σ.ring j).fi = 0 then σ.w_ring (upT σ.ring j ((σ.ring j).w_ff σ.mn)) else σ
def gr2 (σ : St) (j : Nat) (a9 : Int32) : St := (gr1 σ j).w_ring (upT (gr1 σ j).ring j (((gr1 σ j).ring j).w_fi (((gr1 σ j).ring j).fi + a9)))
def cd_grout (σ : St) (r9 : Int32) (a9 : Int32) : Nat := if inL σ.n r9 = true then (if inR a9 1 200 = true then (if a9 ≤ roomF (σ.ring r9.toNatClampNeg) then (if setF (σ.ring r9.toNatClampNeg) σ.mn = true then 3 else 0) else 3) else 2) else 1
def vl_grout (σ : St) (r9 : Int32) (a9 : Int32) : Int32 := missF ((gr2 σ r9.toNatClampNeg a9).ring r9.toNatClampNeg)
def nx_grout (σ : St) (r9 : Int32) (a9 : Int32) : St := gr2 σ r9.toNatClampNeg a9
set_option maxHeartbeats 1000000 in
set_option maxRecDepth 100000 in
theorem ct_X9_grout (l : Launch) (g : Gl) (hst : l.stackTraces = false) (ω : Wd) (ad : Ix → Nat) (x : Ex) (σ : St) (hR : RepC g ad x σ ω) (r9 : Int32) (a9 : Int32) : CT l g yX9_grout cX9_grout 4 (some .int) 7 111 2 12 [.ref (ad .main), .int r9, .int a9] ω (okC g ad (cd_grout σ r9 a9) (some (.int (vl_grout σ r9 a9))) (nx_grout σ r9 a9)) (exC g ad (cd_grout σ r9 a9) ["java/lang/IndexOutOfBoundsException", "java/lang/IllegalArgumentException", "java/lang/UnsupportedOperationException"] σ) := by
  refine CT.of (own := "Boringhead") rfl rfl (le_b rfl) rfl ?_
  intro p e s m args below meth c sz0 hC hr htab hin
  refine s_aload_n hC dX9_grout_0 rfl rfl 0 rfl ?_
  refine s_iload_n hC dX9_grout_1 rfl rfl 1 rfl ?_
  refine s_callV hC (ct_X9_ringAt l g hst _ _ _ _ hR _) ce_X9_ringAt cs_X9 (RepC.f_main hR) tw_956 rfl rfl ⟨⟨le_b rfl, le_b rfl⟩, le_b rfl, le_b rfl⟩ (le_b rfl) dX9_grout_2 rfl (fun r w h9 => ?_) (outk hC htab (le_b rfl) (le_b rfl) (fun E w h9 => by obtain ⟨rfl, h8, rfl⟩ := h9; exact exC_mk (by simp [cd_grout, if_true, h8]) (by simp [cd_grout, if_true, h8]) hR rfl))
  obtain ⟨j, rfl, hj, rfl, rfl⟩ := h9
  have hcl : (nI j).toNatClampNeg = j := nI_clamp (by have := RepC.b_ring hR; omega)
  have hil : inL σ.n (nI j) = true := inL_t (by have := RepC.b_ring hR; omega) hj
  refine s_astore_n hC (L' := [(3, _), (0, _), (1, _), (2, _)]) dX9_grout_5 rfl rfl (le_b rfl) rfl ?_
  refine s_iload_n hC dX9_grout_6 rfl rfl 3 rfl ?_
  refine s_iconst hC (v := 1) dX9_grout_7 rfl (by decide) ?_
  refine s_sipush hC (v := 200) dX9_grout_8 rfl (by decide) ?_
  refine s_callS hC (ct_X9_isWithin l g _ _ _ _) ce_X9_isWithin tw_447 rfl rfl ⟨⟨le_b rfl, le_b rfl⟩, le_b rfl, le_b rfl⟩ (le_b rfl) dX9_grout_11 rfl (dvk1 ?_) nokx
  refine z_if_neB hC (tgt := 28) dX9_grout_14 rfl (by decide) (fun c_1 => ?_) (fun c_1 => ?_)
  · refine s_iload_n hC dX9_grout_28 rfl rfl 3 rfl ?_
    refine s_aload_n hC dX9_grout_29 rfl rfl 0 rfl ?_
    refine s_callV hC (ct_X5_room l g _ _ _ (RepC.f_ring hR hj)) ce_X5_room cs_X5 (RepC.f_ring hR hj) tw_403 rfl rfl ⟨⟨le_b rfl, le_b rfl⟩, le_b rfl, le_b rfl⟩ (le_b rfl) dX9_grout_30 rfl (dvk1 ?_) nokx
    refine z_icmp_gt hC (tgt := 50) dX9_grout_33 rfl (by decide) (fun c_2 => ?_) (fun c_2 => ?_)
    · refine s_throwSW hC htab hst (cls := "java/lang/UnsupportedOperationException") (names := ["java/lang/RuntimeException", "java/lang/Exception"]) (i := 17) fit_UnsupportedOperationException tw_525 tw_16 rfl at_X9_202 at_X9_202_ot dX9_grout_50 dX9_grout_53 dX9_grout_54 dX9_grout_57 dX9_grout_60 ⟨le_b rfl, le_b rfl, le_b rfl, le_b rfl⟩ ⟨le_b rfl, le_b rfl⟩ ?_
      exact exC_mk (by simp [cd_grout, hcl, hil, c_1, c_2]) (by simp [cd_grout, hcl, hil, c_1, c_2]) hR rfl
    · refine s_aload_n hC dX9_grout_36 rfl rfl 0 rfl ?_
      refine s_aload_n hC dX9_grout_37 rfl rfl 1 rfl ?_
      refine s_getf hC cs_X9 5 tw_242 (le_b rfl) (RepC.f_main hR) rfl dX9_grout_38 rfl ?_
      refine s_getfN hC cs_X1 0 tw_192 (le_b rfl) (RepC.f_clock hR) rfl dX9_grout_41 rfl ?_
      refine s_callV hC (ct_X5_hasSet l g _ _ _ (RepC.f_ring hR hj) _) ce_X5_hasSet cs_X5 (RepC.f_ring hR hj) tw_1011 rfl rfl ⟨⟨le_b rfl, le_b rfl⟩, le_b rfl, le_b rfl⟩ (le_b rfl) dX9_grout_44 rfl (dvk1 ?_) nokx
      refine z_if_eqB hC (tgt := 61) dX9_grout_47 rfl (by decide) (fun c_3 => ?_) (fun c_3 => ?_)
      · refine s_aload_n hC dX9_grout_61 rfl rfl 0 rfl ?_
        refine s_getfN hC cs_X5 12 tw_910 (le_b rfl) (RepC.f_ring hR hj) rfl dX9_grout_62 rfl ?_
        refine z_if_ne hC (tgt := 79) dX9_grout_65 rfl (by decide) (fun c_4 => ?_) (fun c_4 => ?_)
        · refine s_aload_n hC dX9_grout_79 rfl rfl 0 rfl ?_
          refine s_dup hC dX9_grout_80 rfl rfl ?_
          refine s_getfN hC cs_X5 12 tw_910 (le_b rfl) (RepC.f_ring hR hj) rfl dX9_grout_81 rfl ?_
          refine s_iload_n hC dX9_grout_84 rfl rfl 3 rfl ?_
          refine s_iadd hC dX9_grout_85 rfl ?_
          refine s_putfN hC cs_X5 12 tw_910 (le_b rfl) rfl rfl rfl (RepC.f_ring hR hj) (le_b rfl) dX9_grout_86 rfl ?_
          refine WP.rc (RepC.s_ring_12 hR hj _) (fun hR_86 => ?_)
          refine s_aload_n hC dX9_grout_89 rfl rfl 0 rfl ?_
          refine s_callV hC (ct_X5_missing l g _ _ _ (RepC.f_ring hR_86 hj)) ce_X5_missing cs_X5 (RepC.f_ring hR_86 hj) tw_333 rfl rfl ⟨⟨le_b rfl, le_b rfl⟩, le_b rfl, le_b rfl⟩ (le_b rfl) dX9_grout_90 rfl (dvk1 ?_) nokx
          refine s_iret hC hr dX9_grout_93 (le_b rfl) (le_b rfl) ?_
          have hcl9 := hcl
          first
            | exact okC_mk (by simp [cd_grout, hcl, hil, c_1, c_2, c_3, c_4]) (by simp only [vl_grout, gr2, gr1, hcl, hcl9]; rw [if_pos c_4]) hR_86 rfl (by simp only [nx_grout, gr2, gr1, hcl9]; rw [if_pos c_4])
            | exact okC_mk (by simp [cd_grout, hcl, hil, c_1, c_2, c_3, c_4]) (by simp only [vl_grout, gr2, gr1, hcl, hcl9]; rw [if_neg c_4]) hR_86 rfl (by simp only [nx_grout, gr2, gr1, hcl9]; rw [if_neg c_4])
        · refine s_aload_n hC dX9_grout_68 rfl rfl 0 rfl ?_
          refine s_aload_n hC dX9_grout_69 rfl rfl 1 rfl ?_
          refine s_getf hC cs_X9 5 tw_242 (le_b rfl) (RepC.f_main hR) rfl dX9_grout_70 rfl ?_
          refine s_getfN hC cs_X1 0 tw_192 (le_b rfl) (RepC.f_clock hR) rfl dX9_grout_73 rfl ?_
          refine s_putfN hC cs_X5 13 tw_912 (le_b rfl) rfl rfl rfl (RepC.f_ring hR hj) (le_b rfl) dX9_grout_76 rfl ?_
          refine WP.rc (RepC.s_ring_13 hR hj _) (fun hR_76 => ?_)
          refine s_aload_n hC dX9_grout_79 rfl rfl 0 rfl ?_
          refine s_dup hC dX9_grout_80 rfl rfl ?_
          refine s_getfN hC cs_X5 12 tw_910 (le_b rfl) (RepC.f_ring hR_76 hj) rfl dX9_grout_81 rfl ?_
          refine s_iload_n hC dX9_grout_84 rfl rfl 3 rfl ?_
          refine s_iadd hC dX9_grout_85 rfl ?_
          refine s_putfN hC cs_X5 12 tw_910 (le_b rfl) rfl rfl rfl (RepC.f_ring hR_76 hj) (le_b rfl) dX9_grout_86 rfl ?_
          refine WP.rc (RepC.s_ring_12 hR_76 hj _) (fun hR_86 => ?_)
          refine s_aload_n hC dX9_grout_89 rfl rfl 0 rfl ?_
          refine s_callV hC (ct_X5_missing l g _ _ _ (RepC.f_ring hR_86 hj)) ce_X5_missing cs_X5 (RepC.f_ring hR_86 hj) tw_333 rfl rfl ⟨⟨le_b rfl, le_b rfl⟩, le_b rfl, le_b rfl⟩ (le_b rfl) dX9_grout_90 rfl (dvk1 ?_) nokx
          refine s_iret hC hr dX9_grout_93 (le_b rfl) (le_b rfl) ?_
          have hcl9 := hcl
          first
            | exact okC_mk (by simp [cd_grout, hcl, hil, c_1, c_2, c_3, c_4]) (by simp only [vl_grout, gr2, gr1, hcl, hcl9]; rw [if_pos c_4]) hR_86 rfl (by simp only [nx_grout, gr2, gr1, hcl9]; rw [if_pos c_4])
            | exact okC_mk (by simp [cd_grout, hcl, hil, c_1, c_2, c_3, c_4]) (by simp only [vl_grout, gr2, gr1, hcl, hcl9]; rw [if_neg c_4]) hR_86 rfl (by simp only [nx_grout, gr2, gr1, hcl9]; rw [if_neg c_4])
      · refine s_throwSW hC htab hst (cls := "java/lang/UnsupportedOperationException") (names := ["java/lang/RuntimeException", "java/lang/Exception"]) (i := 17) fit_UnsupportedOperationException tw_525 tw_16 rfl at_X9_202 at_X9_202_ot dX9_grout_50 dX9_grout_53 dX9_grout_54 dX9_grout_57 dX9_grout_60 ⟨le_b rfl, le_b rfl, le_b rfl, le_b rfl⟩ ⟨le_b rfl, le_b rfl⟩ ?_
        exact exC_mk (by simp [cd_grout, hcl, hil, c_1, c_2, c_3]) (by simp [cd_grout, hcl, hil, c_1, c_2, c_3]) hR rfl
  · refine s_throwSW hC htab hst (cls := "java/lang/IllegalArgumentException") (names := ["java/lang/RuntimeException", "java/lang/Exception"]) (i := 16) fit_IllegalArgumentException tw_450 tw_15 rfl at_X9_97 at_X9_97_ot dX9_grout_17 dX9_grout_20 dX9_grout_21 dX9_grout_24 dX9_grout_27 ⟨le_b rfl, le_b rfl, le_b rfl, le_b rfl⟩ ⟨le_b rfl, le_b rfl⟩ ?_
    exact exC_mk (by simp [cd_grout, hcl, hil, c_1]) (by simp [cd_grout, hcl, hil, c_1]) hR rfl
def nt1 (σ : St) (j : Nat) : St := σ.w_ring (upT σ.ring j ((σ.ring j).w_no true))
def nt2 (σ : St) (j : Nat) : St := (nt1 σ j).w_ring (upT (nt1 σ j).ring j (((nt1 σ j).ring j).w_it (decide ((nt1 σ j).mn - ((nt1 σ j).ring j).en ≤ 4320))))
def cd_notice (σ : St) (r9 : Int32) : Nat := if inL σ.n r9 = true then (if evtF (σ.ring r9.toNatClampNeg) = true then (if (σ.ring r9.toNatClampNeg).no = true then 2 else 0) else 2) else 1
def vl_notice (σ : St) (r9 : Int32) : Bool := ((nt2 σ r9.toNatClampNeg).ring r9.toNatClampNeg).it
def nx_notice (σ : St) (r9 : Int32) : St := nt2 σ r9.toNatClampNeg
set_option maxHeartbeats 1000000 in
set_option maxRecDepth 100000 in
theorem ct_X9_notice (l : Launch) (g : Gl) (hst : l.stackTraces = false) (ω : Wd) (ad : Ix → Nat) (x : Ex) (σ : St) (hR : RepC g ad x σ ω) (r9 : Int32) : CT l g yX9_notice cX9_notice 3 (some .boolean) 7 111 2 12 [.ref (ad .main), .int r9] ω (okC g ad (cd_notice σ r9) (some (.int (bI (vl_notice σ r9)))) (nx_notice σ r9)) (exC g ad (cd_notice σ r9) ["java/lang/IndexOutOfBoundsException", "java/lang/UnsupportedOperationException"] σ) := by
  refine CT.of (own := "Boringhead") rfl rfl (le_b rfl) rfl ?_
  intro p e s m args below meth c sz0 hC hr htab hin
  refine s_aload_n hC dX9_notice_0 rfl rfl 0 rfl ?_
  refine s_iload_n hC dX9_notice_1 rfl rfl 1 rfl ?_
  refine s_callV hC (ct_X9_ringAt l g hst _ _ _ _ hR _) ce_X9_ringAt cs_X9 (RepC.f_main hR) tw_956 rfl rfl ⟨⟨le_b rfl, le_b rfl⟩, le_b rfl, le_b rfl⟩ (le_b rfl) dX9_notice_2 rfl (fun r w h9 => ?_) (outk hC htab (le_b rfl) (le_b rfl) (fun E w h9 => by obtain ⟨rfl, h8, rfl⟩ := h9; exact exC_mk (by simp [cd_notice, if_true, h8]) (by simp [cd_notice, if_true, h8]) hR rfl))
  obtain ⟨j, rfl, hj, rfl, rfl⟩ := h9
  have hcl : (nI j).toNatClampNeg = j := nI_clamp (by have := RepC.b_ring hR; omega)
  have hil : inL σ.n (nI j) = true := inL_t (by have := RepC.b_ring hR; omega) hj
  refine s_astore_n hC (L' := [(2, _), (0, _), (1, _)]) dX9_notice_5 rfl rfl (le_b rfl) rfl ?_
  refine s_aload_n hC dX9_notice_6 rfl rfl 0 rfl ?_
  refine s_callV hC (ct_X5_isEvent l g _ _ _ (RepC.f_ring hR hj)) ce_X5_isEvent cs_X5 (RepC.f_ring hR hj) tw_319 rfl rfl ⟨⟨le_b rfl, le_b rfl⟩, le_b rfl, le_b rfl⟩ (le_b rfl) dX9_notice_7 rfl (dvk1 ?_) nokx
  refine z_if_eqB hC (tgt := 20) dX9_notice_10 rfl (by decide) (fun c_1 => ?_) (fun c_1 => ?_)
  · refine s_throwSW hC htab hst (cls := "java/lang/UnsupportedOperationException") (names := ["java/lang/RuntimeException", "java/lang/Exception"]) (i := 28) fit_UnsupportedOperationException tw_525 tw_16 rfl at_X9_202 at_X9_202_ot dX9_notice_20 dX9_notice_23 dX9_notice_24 dX9_notice_27 dX9_notice_30 ⟨le_b rfl, le_b rfl, le_b rfl, le_b rfl⟩ ⟨le_b rfl, le_b rfl⟩ ?_
    exact exC_mk (by simp [cd_notice, hcl, hil, c_1]) (by simp [cd_notice, hcl, hil, c_1]) hR rfl
  · refine s_aload_n hC dX9_notice_13 rfl rfl 0 rfl ?_
    refine s_getfN hC cs_X5 10 tw_906 (le_b rfl) (RepC.f_ring hR hj) rfl dX9_notice_14 rfl ?_
    refine z_if_eqB hC (tgt := 31) dX9_notice_17 rfl (by decide) (fun c_2 => ?_) (fun c_2 => ?_)
    · refine s_aload_n hC dX9_notice_31 rfl rfl 0 rfl ?_
      refine s_iconst hC (v := 1) dX9_notice_32 rfl (by decide) ?_
      refine s_putfN hC cs_X5 10 tw_906 (le_b rfl) rfl (by first | rfl | exact bI_nz _) (by first | rfl | exact bI_ft _) (RepC.f_ring hR hj) (le_b rfl) dX9_notice_33 rfl ?_
      refine WP.rc (RepC.s_ring_10 hR hj true) (fun hR_33 => ?_)
      refine s_aload_n hC dX9_notice_36 rfl rfl 0 rfl ?_
      refine s_aload_n hC dX9_notice_37 rfl rfl 1 rfl ?_
      refine s_getf hC cs_X9 5 tw_242 (le_b rfl) (RepC.f_main hR_33) rfl dX9_notice_38 rfl ?_
      refine s_getfN hC cs_X1 0 tw_192 (le_b rfl) (RepC.f_clock hR_33) rfl dX9_notice_41 rfl ?_
      refine s_aload_n hC dX9_notice_44 rfl rfl 0 rfl ?_
      refine s_getfN hC cs_X5 8 tw_902 (le_b rfl) (RepC.f_ring hR_33 hj) rfl dX9_notice_45 rfl ?_
      refine s_isub hC dX9_notice_48 rfl ?_
      refine s_sipush hC (v := 4320) dX9_notice_49 rfl (by decide) ?_
      refine z_icmp_gt hC (tgt := 59) dX9_notice_52 rfl (by decide) (fun c_3 => ?_) (fun c_3 => ?_)
      · refine s_iconst hC (v := 0) dX9_notice_59 rfl (by decide) ?_
        refine s_putfN hC cs_X5 11 tw_908 (le_b rfl) rfl (by first | rfl | exact bI_nz _) (by first | rfl | exact bI_ft _) (RepC.f_ring hR_33 hj) (le_b rfl) dX9_notice_60 rfl ?_
        refine WP.rc (RepC.s_ring_11 hR_33 hj false) (fun hR_60 => ?_)
        refine s_aload_n hC dX9_notice_63 rfl rfl 0 rfl ?_
        refine s_getfN hC cs_X5 11 tw_908 (le_b rfl) (RepC.f_ring hR_60 hj) rfl dX9_notice_64 rfl ?_
        refine s_zret hC hr dX9_notice_67 (bI_nz _) (le_b rfl) (le_b rfl) ?_
        first
          | (have hz : decide ((nt1 σ j).mn - ((nt1 σ j).ring j).en ≤ 4320) = true := decide_eq_true c_3; exact okC_mk (by simp [cd_notice, hcl, hil, c_1, c_2, c_3]) (by simp only [vl_notice, nt2, hcl]; rw [hz]; rfl) hR_60 rfl (by simp only [nx_notice, nt2, hcl]; rw [hz]; rfl))
          | (have hz : decide ((nt1 σ j).mn - ((nt1 σ j).ring j).en ≤ 4320) = false := decide_eq_false c_3; exact okC_mk (by simp [cd_notice, hcl, hil, c_1, c_2, c_3]) (by simp only [vl_notice, nt2, hcl]; rw [hz]; rfl) hR_60 rfl (by simp only [nx_notice, nt2, hcl]; rw [hz]; rfl))
      · refine s_iconst hC (v := 1) dX9_notice_55 rfl (by decide) ?_
        refine s_goto hC (tgt := 60) dX9_notice_56 (by decide) ?_
        refine s_putfN hC cs_X5 11 tw_908 (le_b rfl) rfl (by first | rfl | exact bI_nz _) (by first | rfl | exact bI_ft _) (RepC.f_ring hR_33 hj) (le_b rfl) dX9_notice_60 rfl ?_
        refine WP.rc (RepC.s_ring_11 hR_33 hj true) (fun hR_60 => ?_)
        refine s_aload_n hC dX9_notice_63 rfl rfl 0 rfl ?_
        refine s_getfN hC cs_X5 11 tw_908 (le_b rfl) (RepC.f_ring hR_60 hj) rfl dX9_notice_64 rfl ?_
        refine s_zret hC hr dX9_notice_67 (bI_nz _) (le_b rfl) (le_b rfl) ?_
        first
          | (have hz : decide ((nt1 σ j).mn - ((nt1 σ j).ring j).en ≤ 4320) = true := decide_eq_true c_3; exact okC_mk (by simp [cd_notice, hcl, hil, c_1, c_2, c_3]) (by simp only [vl_notice, nt2, hcl]; rw [hz]; rfl) hR_60 rfl (by simp only [nx_notice, nt2, hcl]; rw [hz]; rfl))
          | (have hz : decide ((nt1 σ j).mn - ((nt1 σ j).ring j).en ≤ 4320) = false := decide_eq_false c_3; exact okC_mk (by simp [cd_notice, hcl, hil, c_1, c_2, c_3]) (by simp only [vl_notice, nt2, hcl]; rw [hz]; rfl) hR_60 rfl (by simp only [nx_notice, nt2, hcl]; rw [hz]; rfl))
    · refine s_throwSW hC htab hst (cls := "java/lang/UnsupportedOperationException") (names := ["java/lang/RuntimeException", "java/lang/Exception"]) (i := 28) fit_UnsupportedOperationException tw_525 tw_16 rfl at_X9_202 at_X9_202_ot dX9_notice_20 dX9_notice_23 dX9_notice_24 dX9_notice_27 dX9_notice_30 ⟨le_b rfl, le_b rfl, le_b rfl, le_b rfl⟩ ⟨le_b rfl, le_b rfl⟩ ?_
      exact exC_mk (by simp [cd_notice, hcl, hil, c_1, c_2]) (by simp [cd_notice, hcl, hil, c_1, c_2]) hR rfl
def rd1 (σ : St) (j : Nat) : St := σ.w_hs (upT σ.hs j ((σ.hs j).w_re (iMax (smF σ (σ.hs j) false) (smF σ (σ.hs j) true))))
def rd2 (σ : St) (j : Nat) : St := (rd1 σ j).w_hs (upT (rd1 σ j).hs j (((rd1 σ j).hs j).w_wr true))
def cd_read (σ : St) (r9 : Int32) : Nat := if inL σ.nh r9 = true then 0 else 1
def vl_read (σ : St) (r9 : Int32) : Int32 := ((rd2 σ r9.toNatClampNeg).hs r9.toNatClampNeg).re
def nx_read (σ : St) (r9 : Int32) : St := rd2 σ r9.toNatClampNeg
set_option maxHeartbeats 1000000 in
set_option maxRecDepth 100000 in
theorem ct_X9_read (l : Launch) (g : Gl) (hst : l.stackTraces = false) (ω : Wd) (ad : Ix → Nat) (x : Ex) (σ : St) (hR : RepC g ad x σ ω) (r9 : Int32) : CT l g yX9_read cX9_read 3 (some .int) 7 111 1 6 [.ref (ad .main), .int r9] ω (okC g ad (cd_read σ r9) (some (.int (vl_read σ r9))) (nx_read σ r9)) (exC g ad (cd_read σ r9) ["java/lang/IndexOutOfBoundsException"] σ) := by
  refine CT.of (own := "Boringhead") rfl rfl (le_b rfl) rfl ?_
  intro p e s m args below meth c sz0 hC hr htab hin
  refine s_aload_n hC dX9_read_0 rfl rfl 0 rfl ?_
  refine s_iload_n hC dX9_read_1 rfl rfl 1 rfl ?_
  refine s_callV hC (ct_X9_houseAt l g hst _ _ _ _ hR _) ce_X9_houseAt cs_X9 (RepC.f_main hR) tw_1073 rfl rfl ⟨⟨le_b rfl, le_b rfl⟩, le_b rfl, le_b rfl⟩ (le_b rfl) dX9_read_2 rfl (fun r w h9 => ?_) (outk hC htab (le_b rfl) (le_b rfl) (fun E w h9 => by obtain ⟨rfl, h8, rfl⟩ := h9; exact exC_mk (by simp [cd_read, if_true, h8]) (by simp [cd_read, if_true, h8]) hR rfl))
  obtain ⟨j, rfl, hj, rfl, rfl⟩ := h9
  have hcl : (nI j).toNatClampNeg = j := nI_clamp (by have := RepC.b_house hR; omega)
  have hil : inL σ.nh (nI j) = true := inL_t (by have := RepC.b_house hR; omega) hj
  refine s_astore_n hC (L' := [(2, _), (0, _), (1, _)]) dX9_read_5 rfl rfl (le_b rfl) rfl ?_
  refine s_aload_n hC dX9_read_6 rfl rfl 0 rfl ?_
  refine s_aload_n hC dX9_read_7 rfl rfl 1 rfl ?_
  refine s_aload_n hC dX9_read_8 rfl rfl 0 rfl ?_
  refine s_iconst hC (v := 0) dX9_read_9 rfl (by decide) ?_
  refine s_callV hC (ct_X9_settlement l g _ _ _ _ hR _ hj false) ce_X9_settlement cs_X9 (RepC.f_main hR) tw_1078 rfl rfl ⟨⟨le_b rfl, le_b rfl⟩, le_b rfl, le_b rfl⟩ (le_b rfl) dX9_read_10 rfl (dvk1 ?_) nokx
  refine s_aload_n hC dX9_read_13 rfl rfl 1 rfl ?_
  refine s_aload_n hC dX9_read_14 rfl rfl 0 rfl ?_
  refine s_iconst hC (v := 1) dX9_read_15 rfl (by decide) ?_
  refine s_callV hC (ct_X9_settlement l g _ _ _ _ hR _ hj true) ce_X9_settlement cs_X9 (RepC.f_main hR) tw_1078 rfl rfl ⟨⟨le_b rfl, le_b rfl⟩, le_b rfl, le_b rfl⟩ (le_b rfl) dX9_read_16 rfl (dvk1 ?_) nokx
  refine s_max hC tw_544 ⟨le_b rfl, le_b rfl, le_b rfl, le_b rfl⟩ dX9_read_19 rfl ?_
  refine s_putfN hC cs_X4 6 tw_1050 (le_b rfl) rfl rfl rfl (RepC.f_house hR hj) (le_b rfl) dX9_read_22 rfl ?_
  refine WP.rc (RepC.s_house_6 hR hj _) (fun hR_22 => ?_)
  refine s_aload_n hC dX9_read_25 rfl rfl 0 rfl ?_
  refine s_iconst hC (v := 1) dX9_read_26 rfl (by decide) ?_
  refine s_putfN hC cs_X4 5 tw_1048 (le_b rfl) rfl (by first | rfl | exact bI_nz _) (by first | rfl | exact bI_ft _) (RepC.f_house hR_22 hj) (le_b rfl) dX9_read_27 rfl ?_
  refine WP.rc (RepC.s_house_5 hR_22 hj true) (fun hR_27 => ?_)
  refine s_aload_n hC dX9_read_30 rfl rfl 0 rfl ?_
  refine s_getfN hC cs_X4 6 tw_1050 (le_b rfl) (RepC.f_house hR_27 hj) rfl dX9_read_31 rfl ?_
  refine s_iret hC hr dX9_read_34 (le_b rfl) (le_b rfl) ?_
  exact okC_mk (by simp [cd_read, hcl, hil]) (by simp only [vl_read, hcl]; rfl) hR_27 rfl (by simp only [nx_read, hcl]; rfl)
def lf1 (σ : St) (j : Nat) (b : Bool) (a9 : Int32) : St := if b = true then σ.w_hs (upT σ.hs j ((σ.hs j).w_ll ((σ.hs j).ll + a9))) else σ.w_hs (upT σ.hs j ((σ.hs j).w_lf ((σ.hs j).lf + a9)))
def lf2 (σ : St) (j : Nat) (b : Bool) (a9 : Int32) : St := ((lf1 σ j b a9).w_mn ((lf1 σ j b a9).mn + 15)).w_fl (((lf1 σ j b a9).w_mn ((lf1 σ j b a9).mn + 15)).fl + 15)
def cd_lift (σ : St) (r9 : Int32) (b9 : Bool) (a9 : Int32) : Nat := if inL σ.nh r9 = true then (if inR a9 1 50 = true then (if σ.mn + 15 ≤ 99999 then 0 else 3) else 2) else 1
def vl_lift (σ : St) (r9 : Int32) (b9 : Bool) (a9 : Int32) : Int32 := smF (lf2 σ r9.toNatClampNeg b9 a9) ((lf2 σ r9.toNatClampNeg b9 a9).hs r9.toNatClampNeg) b9
def nx_lift (σ : St) (r9 : Int32) (b9 : Bool) (a9 : Int32) : St := lf2 σ r9.toNatClampNeg b9 a9
set_option maxHeartbeats 1000000 in
set_option maxRecDepth 100000 in
theorem ct_X9_lift (l : Launch) (g : Gl) (hst : l.stackTraces = false) (ω : Wd) (ad : Ix → Nat) (x : Ex) (σ : St) (hR : RepC g ad x σ ω) (r9 : Int32) (b9 : Bool) (a9 : Int32) : CT l g yX9_lift cX9_lift 5 (some .int) 7 111 2 12 [.ref (ad .main), .int r9, .int (bI b9), .int a9] ω (okC g ad (cd_lift σ r9 b9 a9) (some (.int (vl_lift σ r9 b9 a9))) (nx_lift σ r9 b9 a9)) (exC g ad (cd_lift σ r9 b9 a9) ["java/lang/IndexOutOfBoundsException", "java/lang/IllegalArgumentException", "java/lang/IllegalStateException"] σ) := by
  refine CT.of (own := "Boringhead") rfl rfl (le_b rfl) rfl ?_
  intro p e s m args below meth c sz0 hC hr htab hin
  refine s_aload_n hC dX9_lift_0 rfl rfl 0 rfl ?_
  refine s_iload_n hC dX9_lift_1 rfl rfl 1 rfl ?_
  refine s_callV hC (ct_X9_houseAt l g hst _ _ _ _ hR _) ce_X9_houseAt cs_X9 (RepC.f_main hR) tw_1073 rfl rfl ⟨⟨le_b rfl, le_b rfl⟩, le_b rfl, le_b rfl⟩ (le_b rfl) dX9_lift_2 rfl (fun r w h9 => ?_) (outk hC htab (le_b rfl) (le_b rfl) (fun E w h9 => by obtain ⟨rfl, h8, rfl⟩ := h9; exact exC_mk (by simp [cd_lift, if_true, h8]) (by simp [cd_lift, if_true, h8]) hR rfl))
  obtain ⟨j, rfl, hj, rfl, rfl⟩ := h9
  have hcl : (nI j).toNatClampNeg = j := nI_clamp (by have := RepC.b_house hR; omega)
  have hil : inL σ.nh (nI j) = true := inL_t (by have := RepC.b_house hR; omega) hj
  refine s_astore hC (L' := [(4, _), (0, _), (1, _), (2, _), (3, _)]) dX9_lift_5 rfl (le_b rfl) rfl ?_
  refine s_iload_n hC dX9_lift_7 rfl rfl 4 rfl ?_
  refine s_iconst hC (v := 1) dX9_lift_8 rfl (by decide) ?_
  refine s_bipush hC (v := 50) dX9_lift_9 rfl (by decide) ?_
  refine s_callS hC (ct_X9_isWithin l g _ _ _ _) ce_X9_isWithin tw_447 rfl rfl ⟨⟨le_b rfl, le_b rfl⟩, le_b rfl, le_b rfl⟩ (le_b rfl) dX9_lift_11 rfl (dvk1 ?_) nokx
  refine z_if_neB hC (tgt := 28) dX9_lift_14 rfl (by decide) (fun c_1 => ?_) (fun c_1 => ?_)
  · refine s_aload_n hC dX9_lift_28 rfl rfl 1 rfl ?_
    refine s_bipush hC (v := 15) dX9_lift_29 rfl (by decide) ?_
    refine s_callV hC (ct_X9_refuseLate l g hst _ _ _ _ hR _) ce_X9_refuseLate cs_X9 (RepC.f_main hR) tw_807 rfl rfl ⟨⟨le_b rfl, le_b rfl⟩, le_b rfl, le_b rfl⟩ (le_b rfl) dX9_lift_31 rfl (fun r w h9 => ?_) (outk hC htab (le_b rfl) (le_b rfl) (fun E w h9 => by obtain ⟨rfl, h8, rfl⟩ := h9; exact exC_mk (by simp [cd_lift, hcl, hil, c_1, h8]) (by simp [cd_lift, hcl, hil, c_1, h8]) hR rfl))
    obtain ⟨c9_31, rfl, rfl⟩ := h9
    refine s_iload_n hC dX9_lift_34 rfl rfl 3 rfl ?_
    refine z_if_eqB hC (tgt := 52) dX9_lift_35 rfl (by decide) (fun c_2 => ?_) (fun c_2 => ?_)
    · refine s_aload hC dX9_lift_52 rfl 0 rfl ?_
      refine s_dup hC dX9_lift_54 rfl rfl ?_
      refine s_getfN hC cs_X4 3 tw_1044 (le_b rfl) (RepC.f_house hR hj) rfl dX9_lift_55 rfl ?_
      refine s_iload_n hC dX9_lift_58 rfl rfl 4 rfl ?_
      refine s_iadd hC dX9_lift_59 rfl ?_
      refine s_putfN hC cs_X4 3 tw_1044 (le_b rfl) rfl rfl rfl (RepC.f_house hR hj) (le_b rfl) dX9_lift_60 rfl ?_
      refine WP.rc (RepC.s_house_3 hR hj _) (fun hR_60 => ?_)
      refine s_aload_n hC dX9_lift_63 rfl rfl 1 rfl ?_
      refine s_getf hC cs_X9 5 tw_242 (le_b rfl) (RepC.f_main hR_60) rfl dX9_lift_64 rfl ?_
      refine s_dup hC dX9_lift_67 rfl rfl ?_
      refine s_getfN hC cs_X1 0 tw_192 (le_b rfl) (RepC.f_clock hR_60) rfl dX9_lift_68 rfl ?_
      refine s_bipush hC (v := 15) dX9_lift_71 rfl (by decide) ?_
      refine s_iadd hC dX9_lift_73 rfl ?_
      refine s_putfN hC cs_X1 0 tw_192 (le_b rfl) rfl rfl rfl (RepC.f_clock hR_60) (le_b rfl) dX9_lift_74 rfl ?_
      refine WP.rc (RepC.s_clock_0 hR_60 _) (fun hR_74 => ?_)
      refine s_aload_n hC dX9_lift_77 rfl rfl 1 rfl ?_
      refine s_getf hC cs_X9 5 tw_242 (le_b rfl) (RepC.f_main hR_74) rfl dX9_lift_78 rfl ?_
      refine s_dup hC dX9_lift_81 rfl rfl ?_
      refine s_getfN hC cs_X1 2 tw_196 (le_b rfl) (RepC.f_clock hR_74) rfl dX9_lift_82 rfl ?_
      refine s_bipush hC (v := 15) dX9_lift_85 rfl (by decide) ?_
      refine s_iadd hC dX9_lift_87 rfl ?_
      refine s_putfN hC cs_X1 2 tw_196 (le_b rfl) rfl rfl rfl (RepC.f_clock hR_74) (le_b rfl) dX9_lift_88 rfl ?_
      refine WP.rc (RepC.s_clock_2 hR_74 _) (fun hR_88 => ?_)
      refine s_aload_n hC dX9_lift_91 rfl rfl 1 rfl ?_
      refine s_aload hC dX9_lift_92 rfl 0 rfl ?_
      refine s_iload_n hC dX9_lift_94 rfl rfl 3 rfl ?_
      refine s_callV hC (ct_X9_settlement l g _ _ _ _ hR_88 _ hj _) ce_X9_settlement cs_X9 (RepC.f_main hR_88) tw_1078 rfl rfl ⟨⟨le_b rfl, le_b rfl⟩, le_b rfl, le_b rfl⟩ (le_b rfl) dX9_lift_95 rfl (dvk1 ?_) nokx
      refine s_iret hC hr dX9_lift_98 (le_b rfl) (le_b rfl) ?_
      first
        | exact okC_mk (by simp [cd_lift, hcl, hil, c_1, c9_31, c_2]) (by simp only [vl_lift, lf2, lf1, hcl]; rw [if_pos c_2]) hR_88 rfl (by simp only [nx_lift, lf2, lf1, hcl]; rw [if_pos c_2])
        | exact okC_mk (by simp [cd_lift, hcl, hil, c_1, c9_31, c_2]) (by simp only [vl_lift, lf2, lf1, hcl]; rw [if_neg (show ¬ b9 = true by rw [c_2]; decide)]) hR_88 rfl (by simp only [nx_lift, lf2, lf1, hcl]; rw [if_neg (show ¬ b9 = true by rw [c_2]; decide)])
    · refine s_aload hC dX9_lift_38 rfl 0 rfl ?_
      refine s_dup hC dX9_lift_40 rfl rfl ?_
      refine s_getfN hC cs_X4 4 tw_1046 (le_b rfl) (RepC.f_house hR hj) rfl dX9_lift_41 rfl ?_
      refine s_iload_n hC dX9_lift_44 rfl rfl 4 rfl ?_
      refine s_iadd hC dX9_lift_45 rfl ?_
      refine s_putfN hC cs_X4 4 tw_1046 (le_b rfl) rfl rfl rfl (RepC.f_house hR hj) (le_b rfl) dX9_lift_46 rfl ?_
      refine WP.rc (RepC.s_house_4 hR hj _) (fun hR_46 => ?_)
      refine s_goto hC (tgt := 63) dX9_lift_49 (by decide) ?_
      refine s_aload_n hC dX9_lift_63 rfl rfl 1 rfl ?_
      refine s_getf hC cs_X9 5 tw_242 (le_b rfl) (RepC.f_main hR_46) rfl dX9_lift_64 rfl ?_
      refine s_dup hC dX9_lift_67 rfl rfl ?_
      refine s_getfN hC cs_X1 0 tw_192 (le_b rfl) (RepC.f_clock hR_46) rfl dX9_lift_68 rfl ?_
      refine s_bipush hC (v := 15) dX9_lift_71 rfl (by decide) ?_
      refine s_iadd hC dX9_lift_73 rfl ?_
      refine s_putfN hC cs_X1 0 tw_192 (le_b rfl) rfl rfl rfl (RepC.f_clock hR_46) (le_b rfl) dX9_lift_74 rfl ?_
      refine WP.rc (RepC.s_clock_0 hR_46 _) (fun hR_74 => ?_)
      refine s_aload_n hC dX9_lift_77 rfl rfl 1 rfl ?_
      refine s_getf hC cs_X9 5 tw_242 (le_b rfl) (RepC.f_main hR_74) rfl dX9_lift_78 rfl ?_
      refine s_dup hC dX9_lift_81 rfl rfl ?_
      refine s_getfN hC cs_X1 2 tw_196 (le_b rfl) (RepC.f_clock hR_74) rfl dX9_lift_82 rfl ?_
      refine s_bipush hC (v := 15) dX9_lift_85 rfl (by decide) ?_
      refine s_iadd hC dX9_lift_87 rfl ?_
      refine s_putfN hC cs_X1 2 tw_196 (le_b rfl) rfl rfl rfl (RepC.f_clock hR_74) (le_b rfl) dX9_lift_88 rfl ?_
      refine WP.rc (RepC.s_clock_2 hR_74 _) (fun hR_88 => ?_)
      refine s_aload_n hC dX9_lift_91 rfl rfl 1 rfl ?_
      refine s_aload hC dX9_lift_92 rfl 0 rfl ?_
      refine s_iload_n hC dX9_lift_94 rfl rfl 3 rfl ?_
      refine s_callV hC (ct_X9_settlement l g _ _ _ _ hR_88 _ hj _) ce_X9_settlement cs_X9 (RepC.f_main hR_88) tw_1078 rfl rfl ⟨⟨le_b rfl, le_b rfl⟩, le_b rfl, le_b rfl⟩ (le_b rfl) dX9_lift_95 rfl (dvk1 ?_) nokx
      refine s_iret hC hr dX9_lift_98 (le_b rfl) (le_b rfl) ?_
      first
        | exact okC_mk (by simp [cd_lift, hcl, hil, c_1, c9_31, c_2]) (by simp only [vl_lift, lf2, lf1, hcl]; rw [if_pos c_2]) hR_88 rfl (by simp only [nx_lift, lf2, lf1, hcl]; rw [if_pos c_2])
        | exact okC_mk (by simp [cd_lift, hcl, hil, c_1, c9_31, c_2]) (by simp only [vl_lift, lf2, lf1, hcl]; rw [if_neg (show ¬ b9 = true by rw [c_2]; decide)]) hR_88 rfl (by simp only [nx_lift, lf2, lf1, hcl]; rw [if_neg (show ¬ b9 = true by rw [c_2]; decide)])
  · refine s_throwSW hC htab hst (cls := "java/lang/IllegalArgumentException") (names := ["java/lang/RuntimeException", "java/lang/Exception"]) (i := 16) fit_IllegalArgumentException tw_450 tw_15 rfl at_X9_97 at_X9_97_ot dX9_lift_17 dX9_lift_20 dX9_lift_21 dX9_lift_24 dX9_lift_27 ⟨le_b rfl, le_b rfl, le_b rfl, le_b rfl⟩ ⟨le_b rfl, le_b rfl⟩ ?_
    exact exC_mk (by simp [cd_lift, hcl, hil, c_1]) (by simp [cd_lift, hcl, hil, c_1]) hR rfl
def cd_lorries (σ : St) (m9 : Int32) : Nat := if inR m9 1 100 = true then (if lorF σ.mn = true then (if σ.pit ≤ 0 then 2 else if σ.mn + iMin m9 ((σ.pit + 20 - 1) / 20) * 5 ≤ 99999 then 0 else 3) else 2) else 1
def vl_lorries (σ : St) (m9 : Int32) : Int32 := iMin (iMin m9 ((σ.pit + 20 - 1) / 20) * 20) σ.pit
def nx_lorries (σ : St) (m9 : Int32) : St := let t := iMin (iMin m9 ((σ.pit + 20 - 1) / 20) * 20) σ.pit
  let g := iMin m9 ((σ.pit + 20 - 1) / 20) * 5
  let s1 := σ.w_pit (σ.pit - t)
  let s2 := s1.w_away (s1.away + t)
  let s3 := s2.w_mn (s2.mn + g)
  s3.w_fo (s3.fo + g)
set_option maxHeartbeats 1000000 in
set_option maxRecDepth 100000 in
theorem ct_X9_lorries (l : Launch) (g : Gl) (hst : l.stackTraces = false) (ω : Wd) (ad : Ix → Nat) (x : Ex) (σ : St) (hR : RepC g ad x σ ω) (m9 : Int32) : CT l g yX9_lorries cX9_lorries 5 (some .int) 7 111 1 6 [.ref (ad .main), .int m9] ω (okC g ad (cd_lorries σ m9) (some (.int (vl_lorries σ m9))) (nx_lorries σ m9)) (exC g ad (cd_lorries σ m9) ["java/lang/IllegalArgumentException", "java/lang/UnsupportedOperationException", "java/lang/IllegalStateException"] σ) := by
  refine CT.of (own := "Boringhead") rfl rfl (le_b rfl) rfl ?_
  intro p e s m args below meth c sz0 hC hr htab hin
  refine s_iload_n hC dX9_lorries_0 rfl rfl 1 rfl ?_
  refine s_iconst hC (v := 1) dX9_lorries_1 rfl (by decide) ?_
  refine s_bipush hC (v := 100) dX9_lorries_2 rfl (by decide) ?_
  refine s_callS hC (ct_X9_isWithin l g _ _ _ _) ce_X9_isWithin tw_447 rfl rfl ⟨⟨le_b rfl, le_b rfl⟩, le_b rfl, le_b rfl⟩ (le_b rfl) dX9_lorries_4 rfl (dvk1 ?_) nokx
  refine z_if_neB hC (tgt := 21) dX9_lorries_7 rfl (by decide) (fun c_1 => ?_) (fun c_1 => ?_)
  · refine s_aload_n hC dX9_lorries_21 rfl rfl 0 rfl ?_
    refine s_getf hC cs_X9 5 tw_242 (le_b rfl) (RepC.f_main hR) rfl dX9_lorries_22 rfl ?_
    refine s_callV hC (ct_X1_isLorryTime l g _ _ _ _ hR) ce_X1_isLorryTime cs_X1 (RepC.f_clock hR) tw_1143 rfl rfl ⟨⟨le_b rfl, le_b rfl⟩, le_b rfl, le_b rfl⟩ (le_b rfl) dX9_lorries_25 rfl (dvk1 ?_) nokx
    refine z_if_eqB hC (tgt := 41) dX9_lorries_28 rfl (by decide) (fun c_2 => ?_) (fun c_2 => ?_)
    · refine s_throwSW hC htab hst (cls := "java/lang/UnsupportedOperationException") (names := ["java/lang/RuntimeException", "java/lang/Exception"]) (i := 24) fit_UnsupportedOperationException tw_525 tw_16 rfl at_X9_202 at_X9_202_ot dX9_lorries_41 dX9_lorries_44 dX9_lorries_45 dX9_lorries_48 dX9_lorries_51 ⟨le_b rfl, le_b rfl, le_b rfl, le_b rfl⟩ ⟨le_b rfl, le_b rfl⟩ ?_
      exact exC_mk (by simp [cd_lorries, c_1, c_2]) (by simp [cd_lorries, c_1, c_2]) hR rfl
    · refine s_aload_n hC dX9_lorries_31 rfl rfl 0 rfl ?_
      refine s_getf hC cs_X9 4 tw_241 (le_b rfl) (RepC.f_main hR) rfl dX9_lorries_32 rfl ?_
      refine s_getfN hC cs_X8 1 tw_175 (le_b rfl) (RepC.f_yard hR) rfl dX9_lorries_35 rfl ?_
      refine z_if_gt hC (tgt := 52) dX9_lorries_38 rfl (by decide) (fun c_3 => ?_) (fun c_3 => ?_)
      · refine s_iload_n hC dX9_lorries_52 rfl rfl 1 rfl ?_
        refine s_aload_n hC dX9_lorries_53 rfl rfl 0 rfl ?_
        refine s_getf hC cs_X9 4 tw_241 (le_b rfl) (RepC.f_main hR) rfl dX9_lorries_54 rfl ?_
        refine s_getfN hC cs_X8 1 tw_175 (le_b rfl) (RepC.f_yard hR) rfl dX9_lorries_57 rfl ?_
        refine s_bipush hC (v := 20) dX9_lorries_60 rfl (by decide) ?_
        refine s_iadd hC dX9_lorries_62 rfl ?_
        refine s_iconst hC (v := 1) dX9_lorries_63 rfl (by decide) ?_
        refine s_isub hC dX9_lorries_64 rfl ?_
        refine s_bipush hC (v := 20) dX9_lorries_65 rfl (by decide) ?_
        refine s_idiv hC dX9_lorries_67 rfl (by decide) ?_
        refine s_min hC tw_875 ⟨le_b rfl, le_b rfl, le_b rfl, le_b rfl⟩ dX9_lorries_68 rfl ?_
        refine s_istore_n hC (L' := [(2, _), (0, _), (1, _)]) dX9_lorries_71 rfl rfl (le_b rfl) rfl ?_
        refine s_iload_n hC dX9_lorries_72 rfl rfl 0 rfl ?_
        refine s_iconst hC (v := 5) dX9_lorries_73 rfl (by decide) ?_
        refine s_imul hC dX9_lorries_74 rfl ?_
        refine s_istore_n hC (L' := [(3, _), (2, _), (0, _), (1, _)]) dX9_lorries_75 rfl rfl (le_b rfl) rfl ?_
        refine s_aload_n hC dX9_lorries_76 rfl rfl 2 rfl ?_
        refine s_iload_n hC dX9_lorries_77 rfl rfl 0 rfl ?_
        refine s_callV hC (ct_X9_refuseLate l g hst _ _ _ _ hR _) ce_X9_refuseLate cs_X9 (RepC.f_main hR) tw_807 rfl rfl ⟨⟨le_b rfl, le_b rfl⟩, le_b rfl, le_b rfl⟩ (le_b rfl) dX9_lorries_78 rfl (fun r w h9 => ?_) (outk hC htab (le_b rfl) (le_b rfl) (fun E w h9 => by obtain ⟨rfl, h8, rfl⟩ := h9; exact exC_mk (by simp [cd_lorries, c_1, c_2, c_3, h8]) (by simp [cd_lorries, c_1, c_2, c_3, h8]) hR rfl))
        obtain ⟨c9_78, rfl, rfl⟩ := h9
        refine s_iload_n hC dX9_lorries_81 rfl rfl 1 rfl ?_
        refine s_bipush hC (v := 20) dX9_lorries_82 rfl (by decide) ?_
        refine s_imul hC dX9_lorries_84 rfl ?_
        refine s_aload_n hC dX9_lorries_85 rfl rfl 2 rfl ?_
        refine s_getf hC cs_X9 4 tw_241 (le_b rfl) (RepC.f_main hR) rfl dX9_lorries_86 rfl ?_
        refine s_getfN hC cs_X8 1 tw_175 (le_b rfl) (RepC.f_yard hR) rfl dX9_lorries_89 rfl ?_
        refine s_min hC tw_875 ⟨le_b rfl, le_b rfl, le_b rfl, le_b rfl⟩ dX9_lorries_92 rfl ?_
        refine s_istore hC (L' := [(4, _), (3, _), (2, _), (0, _), (1, _)]) dX9_lorries_95 rfl (le_b rfl) rfl ?_
        refine s_aload_n hC dX9_lorries_97 rfl rfl 3 rfl ?_
        refine s_getf hC cs_X9 4 tw_241 (le_b rfl) (RepC.f_main hR) rfl dX9_lorries_98 rfl ?_
        refine s_dup hC dX9_lorries_101 rfl rfl ?_
        refine s_getfN hC cs_X8 1 tw_175 (le_b rfl) (RepC.f_yard hR) rfl dX9_lorries_102 rfl ?_
        refine s_iload hC dX9_lorries_105 rfl 0 rfl ?_
        refine s_isub hC dX9_lorries_107 rfl ?_
        refine s_putfN hC cs_X8 1 tw_175 (le_b rfl) rfl rfl rfl (RepC.f_yard hR) (le_b rfl) dX9_lorries_108 rfl ?_
        refine WP.rc (RepC.s_yard_1 hR _) (fun hR_108 => ?_)
        refine s_aload_n hC dX9_lorries_111 rfl rfl 3 rfl ?_
        refine s_getf hC cs_X9 4 tw_241 (le_b rfl) (RepC.f_main hR_108) rfl dX9_lorries_112 rfl ?_
        refine s_dup hC dX9_lorries_115 rfl rfl ?_
        refine s_getfN hC cs_X8 2 tw_177 (le_b rfl) (RepC.f_yard hR_108) rfl dX9_lorries_116 rfl ?_
        refine s_iload hC dX9_lorries_119 rfl 0 rfl ?_
        refine s_iadd hC dX9_lorries_121 rfl ?_
        refine s_putfN hC cs_X8 2 tw_177 (le_b rfl) rfl rfl rfl (RepC.f_yard hR_108) (le_b rfl) dX9_lorries_122 rfl ?_
        refine WP.rc (RepC.s_yard_2 hR_108 _) (fun hR_122 => ?_)
        refine s_aload_n hC dX9_lorries_125 rfl rfl 3 rfl ?_
        refine s_getf hC cs_X9 5 tw_242 (le_b rfl) (RepC.f_main hR_122) rfl dX9_lorries_126 rfl ?_
        refine s_dup hC dX9_lorries_129 rfl rfl ?_
        refine s_getfN hC cs_X1 0 tw_192 (le_b rfl) (RepC.f_clock hR_122) rfl dX9_lorries_130 rfl ?_
        refine s_iload_n hC dX9_lorries_133 rfl rfl 1 rfl ?_
        refine s_iadd hC dX9_lorries_134 rfl ?_
        refine s_putfN hC cs_X1 0 tw_192 (le_b rfl) rfl rfl rfl (RepC.f_clock hR_122) (le_b rfl) dX9_lorries_135 rfl ?_
        refine WP.rc (RepC.s_clock_0 hR_122 _) (fun hR_135 => ?_)
        refine s_aload_n hC dX9_lorries_138 rfl rfl 3 rfl ?_
        refine s_getf hC cs_X9 5 tw_242 (le_b rfl) (RepC.f_main hR_135) rfl dX9_lorries_139 rfl ?_
        refine s_dup hC dX9_lorries_142 rfl rfl ?_
        refine s_getfN hC cs_X1 3 tw_198 (le_b rfl) (RepC.f_clock hR_135) rfl dX9_lorries_143 rfl ?_
        refine s_iload_n hC dX9_lorries_146 rfl rfl 1 rfl ?_
        refine s_iadd hC dX9_lorries_147 rfl ?_
        refine s_putfN hC cs_X1 3 tw_198 (le_b rfl) rfl rfl rfl (RepC.f_clock hR_135) (le_b rfl) dX9_lorries_148 rfl ?_
        refine WP.rc (RepC.s_clock_3 hR_135 _) (fun hR_148 => ?_)
        refine s_iload hC dX9_lorries_151 rfl 0 rfl ?_
        refine s_iret hC hr dX9_lorries_153 (le_b rfl) (le_b rfl) ?_
        exact okC_mk (by simp [cd_lorries, c_1, c_2, c_3, c9_78]) (by first | (simp [vl_lorries, c_1, c_2, c_3, c9_78]; done) | rfl) hR_148 rfl (by first | rfl | (simp [nx_lorries, c_1, c_2, c_3, c9_78]; done))
      · refine s_throwSW hC htab hst (cls := "java/lang/UnsupportedOperationException") (names := ["java/lang/RuntimeException", "java/lang/Exception"]) (i := 24) fit_UnsupportedOperationException tw_525 tw_16 rfl at_X9_202 at_X9_202_ot dX9_lorries_41 dX9_lorries_44 dX9_lorries_45 dX9_lorries_48 dX9_lorries_51 ⟨le_b rfl, le_b rfl, le_b rfl, le_b rfl⟩ ⟨le_b rfl, le_b rfl⟩ ?_
        exact exC_mk (by simp [cd_lorries, c_1, c_2, c_3]) (by simp [cd_lorries, c_1, c_2, c_3]) hR rfl
  · refine s_throwSW hC htab hst (cls := "java/lang/IllegalArgumentException") (names := ["java/lang/RuntimeException", "java/lang/Exception"]) (i := 23) fit_IllegalArgumentException tw_450 tw_15 rfl at_X9_97 at_X9_97_ot dX9_lorries_10 dX9_lorries_13 dX9_lorries_14 dX9_lorries_17 dX9_lorries_20 ⟨le_b rfl, le_b rfl, le_b rfl, le_b rfl⟩ ⟨le_b rfl, le_b rfl⟩ ?_
    exact exC_mk (by simp [cd_lorries, c_1]) (by simp [cd_lorries, c_1]) hR rfl
def cd_pause (σ : St) (m9 : Int32) (c9 : Int32) (d9 : Int32) : Nat := if inR m9 1 1440 = true then (if 0 ≤ ixF (stF [103, 112, 99, 115, 109, 119, 104]) c9 7 0 then (if d9 = 45 then (if c9 = d9 then 1 else if σ.mn + m9 ≤ 99999 then 0 else 2) else if 0 ≤ ixF (stF [103, 112, 99, 115, 109, 119, 104]) d9 7 0 then (if c9 = d9 then 1 else if σ.mn + m9 ≤ 99999 then 0 else 2) else 1) else 1) else 1
def vl_pause (σ : St) (m9 : Int32) (c9 : Int32) (d9 : Int32) : Int32 := σ.mn + m9
def nx_pause (σ : St) (m9 : Int32) (c9 : Int32) (d9 : Int32) : St := (σ.w_waits (adwF σ m9 c9 d9)).w_mn ((σ.w_waits (adwF σ m9 c9 d9)).mn + m9)
set_option maxHeartbeats 1000000 in
set_option maxRecDepth 100000 in
theorem ct_X9_pause (l : Launch) (g : Gl) (hst : l.stackTraces = false) (ω : Wd) (ad : Ix → Nat) (x : Ex) (σ : St) (hR : RepC g ad x σ ω) (m9 : Int32) (c9 : Int32) (d9 : Int32) : CT l g yX9_pause cX9_pause 5 (some .int) 7 111 1 6 [.ref (ad .main), .int m9, .int c9, .int d9] ω (okC g ad (cd_pause σ m9 c9 d9) (some (.int (vl_pause σ m9 c9 d9))) (nx_pause σ m9 c9 d9)) (exC g ad (cd_pause σ m9 c9 d9) ["java/lang/IllegalArgumentException", "java/lang/IllegalStateException"] σ) := by
  refine CT.of (own := "Boringhead") rfl rfl (le_b rfl) rfl ?_
  intro p e s m args below meth c sz0 hC hr htab hin
  refine s_iload_n hC dX9_pause_0 rfl rfl 3 rfl ?_
  refine s_bipush hC (v := 45) dX9_pause_1 rfl (by decide) ?_
  refine z_icmp_eq hC (tgt := 16) dX9_pause_3 rfl (by decide) (fun c_1 => ?_) (fun c_1 => ?_)
  · refine s_iconst hC (v := 1) dX9_pause_16 rfl (by decide) ?_
    refine s_goto hC (tgt := 21) dX9_pause_17 (by decide) ?_
    refine s_istore hC (L' := [(4, _), (0, _), (1, _), (2, _), (3, _)]) dX9_pause_21 rfl (le_b rfl) rfl ?_
    refine s_iload_n hC dX9_pause_23 rfl rfl 2 rfl ?_
    refine s_iconst hC (v := 1) dX9_pause_24 rfl (by decide) ?_
    refine s_sipush hC (v := 1440) dX9_pause_25 rfl (by decide) ?_
    refine s_callS hC (ct_X9_isWithin l g _ _ _ _) ce_X9_isWithin tw_447 rfl rfl ⟨⟨le_b rfl, le_b rfl⟩, le_b rfl, le_b rfl⟩ (le_b rfl) dX9_pause_28 rfl (dvk1 ?_) nokx
    refine z_if_eqB hC (tgt := 54) dX9_pause_31 rfl (by decide) (fun c_2 => ?_) (fun c_2 => ?_)
    · refine s_throwSW hC htab hst (cls := "java/lang/IllegalArgumentException") (names := ["java/lang/RuntimeException", "java/lang/Exception"]) (i := 25) fit_IllegalArgumentException tw_450 tw_15 rfl at_X9_97 at_X9_97_ot dX9_pause_54 dX9_pause_57 dX9_pause_58 dX9_pause_61 dX9_pause_64 ⟨le_b rfl, le_b rfl, le_b rfl, le_b rfl⟩ ⟨le_b rfl, le_b rfl⟩ ?_
      exact exC_mk (by simp [cd_pause, c_1, c_2]) (by simp [cd_pause, c_1, c_2]) hR rfl
    · refine s_gets hC 9 rfl tw_1155 dX9_pause_34 rfl ?_
      refine s_iload_n hC dX9_pause_37 rfl rfl 3 rfl ?_
      refine s_callS hC (ct_X9_indexIn l g _ _ 7 _ _ (ar_sc g _ 9 rfl) (by decide)) ce_X9_indexIn tw_438 rfl rfl ⟨⟨le_b rfl, le_b rfl⟩, le_b rfl, le_b rfl⟩ (le_b rfl) dX9_pause_38 rfl (dvk1 ?_) nokx
      refine z_if_lt hC (tgt := 54) dX9_pause_41 rfl (by decide) (fun c_3 => ?_) (fun c_3 => ?_)
      · refine s_throwSW hC htab hst (cls := "java/lang/IllegalArgumentException") (names := ["java/lang/RuntimeException", "java/lang/Exception"]) (i := 25) fit_IllegalArgumentException tw_450 tw_15 rfl at_X9_97 at_X9_97_ot dX9_pause_54 dX9_pause_57 dX9_pause_58 dX9_pause_61 dX9_pause_64 ⟨le_b rfl, le_b rfl, le_b rfl, le_b rfl⟩ ⟨le_b rfl, le_b rfl⟩ ?_
        exact exC_mk (by simp [cd_pause, c_1, c_2, c_3]) (by simp [cd_pause, c_1, c_2, c_3]) hR rfl
      · refine s_iload hC dX9_pause_44 rfl 0 rfl ?_
        refine z_if_eq hC (tgt := 54) dX9_pause_46 rfl (by decide) (fun c_4 => ((absurd c_4 (by decide) : False)).elim) (fun c_4 => ?_)
        refine s_iload_n hC dX9_pause_49 rfl rfl 3 rfl ?_
        refine s_iload_n hC dX9_pause_50 rfl rfl 4 rfl ?_
        refine z_icmp_ne hC (tgt := 65) dX9_pause_51 rfl (by decide) (fun c_5 => ?_) (fun c_5 => ?_)
        · have hx9 : ¬ (d9 = 45 ∧ c9 = 45) := fun h => c_5 (h.2.trans h.1.symm)
          simp only [c_1, true_and, not_true, false_and, not_false_eq_true] at hx9
          refine s_aload_n hC dX9_pause_65 rfl rfl 1 rfl ?_
          refine s_iload_n hC dX9_pause_66 rfl rfl 2 rfl ?_
          refine s_callV hC (ct_X9_refuseLate l g hst _ _ _ _ hR _) ce_X9_refuseLate cs_X9 (RepC.f_main hR) tw_807 rfl rfl ⟨⟨le_b rfl, le_b rfl⟩, le_b rfl, le_b rfl⟩ (le_b rfl) dX9_pause_67 rfl (fun r w h9 => ?_) (outk hC htab (le_b rfl) (le_b rfl) (fun E w h9 => by obtain ⟨rfl, h8, rfl⟩ := h9; exact exC_mk (by simp [cd_pause, c_1, c_2, c_3, c_4, c_5, h8, hx9]) (by simp [cd_pause, c_1, c_2, c_3, c_4, c_5, h8, hx9]) hR rfl))
          obtain ⟨c9_67, rfl, rfl⟩ := h9
          refine s_aload_n hC dX9_pause_70 rfl rfl 1 rfl ?_
          refine s_getf hC cs_X9 6 tw_243 (le_b rfl) (RepC.f_main hR) rfl dX9_pause_71 rfl ?_
          refine s_iload_n hC dX9_pause_74 rfl rfl 2 rfl ?_
          refine s_iload_n hC dX9_pause_75 rfl rfl 3 rfl ?_
          refine s_iload_n hC dX9_pause_76 rfl rfl 4 rfl ?_
          refine s_callV hC (ct_X2_addWait l g _ _ _ _ hR _ _ _) ce_X2_addWait cs_X2 (RepC.f_contract hR) tw_1157 rfl rfl ⟨⟨le_b rfl, le_b rfl⟩, le_b rfl, le_b rfl⟩ (le_b rfl) dX9_pause_77 rfl (dvk0 ?_) nokx
          refine WP.rc (RepC.w_waits hR _) (fun hR_77 => ?_)
          refine s_aload_n hC dX9_pause_80 rfl rfl 1 rfl ?_
          refine s_getf hC cs_X9 5 tw_242 (le_b rfl) (RepC.f_main hR_77) rfl dX9_pause_81 rfl ?_
          refine s_dup hC dX9_pause_84 rfl rfl ?_
          refine s_getfN hC cs_X1 0 tw_192 (le_b rfl) (RepC.f_clock hR_77) rfl dX9_pause_85 rfl ?_
          refine s_iload_n hC dX9_pause_88 rfl rfl 2 rfl ?_
          refine s_iadd hC dX9_pause_89 rfl ?_
          refine s_putfN hC cs_X1 0 tw_192 (le_b rfl) rfl rfl rfl (RepC.f_clock hR_77) (le_b rfl) dX9_pause_90 rfl ?_
          refine WP.rc (RepC.s_clock_0 hR_77 _) (fun hR_90 => ?_)
          refine s_aload_n hC dX9_pause_93 rfl rfl 1 rfl ?_
          refine s_getf hC cs_X9 5 tw_242 (le_b rfl) (RepC.f_main hR_90) rfl dX9_pause_94 rfl ?_
          refine s_getfN hC cs_X1 0 tw_192 (le_b rfl) (RepC.f_clock hR_90) rfl dX9_pause_97 rfl ?_
          refine s_iret hC hr dX9_pause_100 (le_b rfl) (le_b rfl) ?_
          exact okC_mk (by simp [cd_pause, c_1, c_2, c_3, c_4, c_5, c9_67, hx9]) rfl hR_90 rfl rfl
        · refine s_throwSW hC htab hst (cls := "java/lang/IllegalArgumentException") (names := ["java/lang/RuntimeException", "java/lang/Exception"]) (i := 25) fit_IllegalArgumentException tw_450 tw_15 rfl at_X9_97 at_X9_97_ot dX9_pause_54 dX9_pause_57 dX9_pause_58 dX9_pause_61 dX9_pause_64 ⟨le_b rfl, le_b rfl, le_b rfl, le_b rfl⟩ ⟨le_b rfl, le_b rfl⟩ ?_
          exact exC_mk (by simp [cd_pause, c_1, c_2, c_3, c_4, c_5]) (by simp [cd_pause, c_1, c_2, c_3, c_4, c_5]) hR rfl
  · refine s_gets hC 9 rfl tw_1155 dX9_pause_6 rfl ?_
    refine s_iload_n hC dX9_pause_9 rfl rfl 3 rfl ?_
    refine s_callS hC (ct_X9_indexIn l g _ _ 7 _ _ (ar_sc g _ 9 rfl) (by decide)) ce_X9_indexIn tw_438 rfl rfl ⟨⟨le_b rfl, le_b rfl⟩, le_b rfl, le_b rfl⟩ (le_b rfl) dX9_pause_10 rfl (dvk1 ?_) nokx
    refine z_if_lt hC (tgt := 20) dX9_pause_13 rfl (by decide) (fun c_6 => ?_) (fun c_6 => ?_)
    · refine s_iconst hC (v := 0) dX9_pause_20 rfl (by decide) ?_
      refine s_istore hC (L' := [(4, _), (0, _), (1, _), (2, _), (3, _)]) dX9_pause_21 rfl (le_b rfl) rfl ?_
      refine s_iload_n hC dX9_pause_23 rfl rfl 2 rfl ?_
      refine s_iconst hC (v := 1) dX9_pause_24 rfl (by decide) ?_
      refine s_sipush hC (v := 1440) dX9_pause_25 rfl (by decide) ?_
      refine s_callS hC (ct_X9_isWithin l g _ _ _ _) ce_X9_isWithin tw_447 rfl rfl ⟨⟨le_b rfl, le_b rfl⟩, le_b rfl, le_b rfl⟩ (le_b rfl) dX9_pause_28 rfl (dvk1 ?_) nokx
      refine z_if_eqB hC (tgt := 54) dX9_pause_31 rfl (by decide) (fun c_7 => ?_) (fun c_7 => ?_)
      · refine s_throwSW hC htab hst (cls := "java/lang/IllegalArgumentException") (names := ["java/lang/RuntimeException", "java/lang/Exception"]) (i := 25) fit_IllegalArgumentException tw_450 tw_15 rfl at_X9_97 at_X9_97_ot dX9_pause_54 dX9_pause_57 dX9_pause_58 dX9_pause_61 dX9_pause_64 ⟨le_b rfl, le_b rfl, le_b rfl, le_b rfl⟩ ⟨le_b rfl, le_b rfl⟩ ?_
        exact exC_mk (by simp [cd_pause, c_1, c_6, c_7]) (by simp [cd_pause, c_1, c_6, c_7]) hR rfl
      · refine s_gets hC 9 rfl tw_1155 dX9_pause_34 rfl ?_
        refine s_iload_n hC dX9_pause_37 rfl rfl 3 rfl ?_
        refine s_callS hC (ct_X9_indexIn l g _ _ 7 _ _ (ar_sc g _ 9 rfl) (by decide)) ce_X9_indexIn tw_438 rfl rfl ⟨⟨le_b rfl, le_b rfl⟩, le_b rfl, le_b rfl⟩ (le_b rfl) dX9_pause_38 rfl (dvk1 ?_) nokx
        refine z_if_lt hC (tgt := 54) dX9_pause_41 rfl (by decide) (fun c_8 => ?_) (fun c_8 => ?_)
        · refine s_throwSW hC htab hst (cls := "java/lang/IllegalArgumentException") (names := ["java/lang/RuntimeException", "java/lang/Exception"]) (i := 25) fit_IllegalArgumentException tw_450 tw_15 rfl at_X9_97 at_X9_97_ot dX9_pause_54 dX9_pause_57 dX9_pause_58 dX9_pause_61 dX9_pause_64 ⟨le_b rfl, le_b rfl, le_b rfl, le_b rfl⟩ ⟨le_b rfl, le_b rfl⟩ ?_
          exact exC_mk (by simp [cd_pause, c_1, c_6, c_7, c_8]) (by simp [cd_pause, c_1, c_6, c_7, c_8]) hR rfl
        · refine s_iload hC dX9_pause_44 rfl 0 rfl ?_
          refine z_if_eq hC (tgt := 54) dX9_pause_46 rfl (by decide) (fun c_9 => ?_) (fun c_9 => ((absurd c_9 (by decide) : False)).elim)
          refine s_throwSW hC htab hst (cls := "java/lang/IllegalArgumentException") (names := ["java/lang/RuntimeException", "java/lang/Exception"]) (i := 25) fit_IllegalArgumentException tw_450 tw_15 rfl at_X9_97 at_X9_97_ot dX9_pause_54 dX9_pause_57 dX9_pause_58 dX9_pause_61 dX9_pause_64 ⟨le_b rfl, le_b rfl, le_b rfl, le_b rfl⟩ ⟨le_b rfl, le_b rfl⟩ ?_
          exact exC_mk (by simp [cd_pause, c_1, c_6, c_7, c_8, c_9]) (by simp [cd_pause, c_1, c_6, c_7, c_8, c_9]) hR rfl
    · refine s_iconst hC (v := 1) dX9_pause_16 rfl (by decide) ?_
      refine s_goto hC (tgt := 21) dX9_pause_17 (by decide) ?_
      refine s_istore hC (L' := [(4, _), (0, _), (1, _), (2, _), (3, _)]) dX9_pause_21 rfl (le_b rfl) rfl ?_
      refine s_iload_n hC dX9_pause_23 rfl rfl 2 rfl ?_
      refine s_iconst hC (v := 1) dX9_pause_24 rfl (by decide) ?_
      refine s_sipush hC (v := 1440) dX9_pause_25 rfl (by decide) ?_
      refine s_callS hC (ct_X9_isWithin l g _ _ _ _) ce_X9_isWithin tw_447 rfl rfl ⟨⟨le_b rfl, le_b rfl⟩, le_b rfl, le_b rfl⟩ (le_b rfl) dX9_pause_28 rfl (dvk1 ?_) nokx
      refine z_if_eqB hC (tgt := 54) dX9_pause_31 rfl (by decide) (fun c_10 => ?_) (fun c_10 => ?_)
      · refine s_throwSW hC htab hst (cls := "java/lang/IllegalArgumentException") (names := ["java/lang/RuntimeException", "java/lang/Exception"]) (i := 25) fit_IllegalArgumentException tw_450 tw_15 rfl at_X9_97 at_X9_97_ot dX9_pause_54 dX9_pause_57 dX9_pause_58 dX9_pause_61 dX9_pause_64 ⟨le_b rfl, le_b rfl, le_b rfl, le_b rfl⟩ ⟨le_b rfl, le_b rfl⟩ ?_
        exact exC_mk (by simp [cd_pause, c_1, c_6, c_10]) (by simp [cd_pause, c_1, c_6, c_10]) hR rfl
      · refine s_gets hC 9 rfl tw_1155 dX9_pause_34 rfl ?_
        refine s_iload_n hC dX9_pause_37 rfl rfl 3 rfl ?_
        refine s_callS hC (ct_X9_indexIn l g _ _ 7 _ _ (ar_sc g _ 9 rfl) (by decide)) ce_X9_indexIn tw_438 rfl rfl ⟨⟨le_b rfl, le_b rfl⟩, le_b rfl, le_b rfl⟩ (le_b rfl) dX9_pause_38 rfl (dvk1 ?_) nokx
        refine z_if_lt hC (tgt := 54) dX9_pause_41 rfl (by decide) (fun c_11 => ?_) (fun c_11 => ?_)
        · refine s_throwSW hC htab hst (cls := "java/lang/IllegalArgumentException") (names := ["java/lang/RuntimeException", "java/lang/Exception"]) (i := 25) fit_IllegalArgumentException tw_450 tw_15 rfl at_X9_97 at_X9_97_ot dX9_pause_54 dX9_pause_57 dX9_pause_58 dX9_pause_61 dX9_pause_64 ⟨le_b rfl, le_b rfl, le_b rfl, le_b rfl⟩ ⟨le_b rfl, le_b rfl⟩ ?_
          exact exC_mk (by simp [cd_pause, c_1, c_6, c_10, c_11]) (by simp [cd_pause, c_1, c_6, c_10, c_11]) hR rfl
        · refine s_iload hC dX9_pause_44 rfl 0 rfl ?_
          refine z_if_eq hC (tgt := 54) dX9_pause_46 rfl (by decide) (fun c_12 => ((absurd c_12 (by decide) : False)).elim) (fun c_12 => ?_)
          refine s_iload_n hC dX9_pause_49 rfl rfl 3 rfl ?_
          refine s_iload_n hC dX9_pause_50 rfl rfl 4 rfl ?_
          refine z_icmp_ne hC (tgt := 65) dX9_pause_51 rfl (by decide) (fun c_13 => ?_) (fun c_13 => ?_)
          · have hx9 : ¬ (d9 = 45 ∧ c9 = 45) := fun h => c_13 (h.2.trans h.1.symm)
            simp only [c_1, true_and, not_true, false_and, not_false_eq_true] at hx9
            refine s_aload_n hC dX9_pause_65 rfl rfl 1 rfl ?_
            refine s_iload_n hC dX9_pause_66 rfl rfl 2 rfl ?_
            refine s_callV hC (ct_X9_refuseLate l g hst _ _ _ _ hR _) ce_X9_refuseLate cs_X9 (RepC.f_main hR) tw_807 rfl rfl ⟨⟨le_b rfl, le_b rfl⟩, le_b rfl, le_b rfl⟩ (le_b rfl) dX9_pause_67 rfl (fun r w h9 => ?_) (outk hC htab (le_b rfl) (le_b rfl) (fun E w h9 => by obtain ⟨rfl, h8, rfl⟩ := h9; exact exC_mk (by simp [cd_pause, c_1, c_6, c_10, c_11, c_12, c_13, h8, hx9]) (by simp [cd_pause, c_1, c_6, c_10, c_11, c_12, c_13, h8, hx9]) hR rfl))
            obtain ⟨c9_67, rfl, rfl⟩ := h9
            refine s_aload_n hC dX9_pause_70 rfl rfl 1 rfl ?_
            refine s_getf hC cs_X9 6 tw_243 (le_b rfl) (RepC.f_main hR) rfl dX9_pause_71 rfl ?_
            refine s_iload_n hC dX9_pause_74 rfl rfl 2 rfl ?_
            refine s_iload_n hC dX9_pause_75 rfl rfl 3 rfl ?_
            refine s_iload_n hC dX9_pause_76 rfl rfl 4 rfl ?_
            refine s_callV hC (ct_X2_addWait l g _ _ _ _ hR _ _ _) ce_X2_addWait cs_X2 (RepC.f_contract hR) tw_1157 rfl rfl ⟨⟨le_b rfl, le_b rfl⟩, le_b rfl, le_b rfl⟩ (le_b rfl) dX9_pause_77 rfl (dvk0 ?_) nokx
            refine WP.rc (RepC.w_waits hR _) (fun hR_77 => ?_)
            refine s_aload_n hC dX9_pause_80 rfl rfl 1 rfl ?_
            refine s_getf hC cs_X9 5 tw_242 (le_b rfl) (RepC.f_main hR_77) rfl dX9_pause_81 rfl ?_
            refine s_dup hC dX9_pause_84 rfl rfl ?_
            refine s_getfN hC cs_X1 0 tw_192 (le_b rfl) (RepC.f_clock hR_77) rfl dX9_pause_85 rfl ?_
            refine s_iload_n hC dX9_pause_88 rfl rfl 2 rfl ?_
            refine s_iadd hC dX9_pause_89 rfl ?_
            refine s_putfN hC cs_X1 0 tw_192 (le_b rfl) rfl rfl rfl (RepC.f_clock hR_77) (le_b rfl) dX9_pause_90 rfl ?_
            refine WP.rc (RepC.s_clock_0 hR_77 _) (fun hR_90 => ?_)
            refine s_aload_n hC dX9_pause_93 rfl rfl 1 rfl ?_
            refine s_getf hC cs_X9 5 tw_242 (le_b rfl) (RepC.f_main hR_90) rfl dX9_pause_94 rfl ?_
            refine s_getfN hC cs_X1 0 tw_192 (le_b rfl) (RepC.f_clock hR_90) rfl dX9_pause_97 rfl ?_
            refine s_iret hC hr dX9_pause_100 (le_b rfl) (le_b rfl) ?_
            exact okC_mk (by simp [cd_pause, c_1, c_6, c_10, c_11, c_12, c_13, c9_67, hx9]) rfl hR_90 rfl rfl
          · refine s_throwSW hC htab hst (cls := "java/lang/IllegalArgumentException") (names := ["java/lang/RuntimeException", "java/lang/Exception"]) (i := 25) fit_IllegalArgumentException tw_450 tw_15 rfl at_X9_97 at_X9_97_ot dX9_pause_54 dX9_pause_57 dX9_pause_58 dX9_pause_61 dX9_pause_64 ⟨le_b rfl, le_b rfl, le_b rfl, le_b rfl⟩ ⟨le_b rfl, le_b rfl⟩ ?_
            exact exC_mk (by simp [cd_pause, c_1, c_6, c_10, c_11, c_12, c_13]) (by simp [cd_pause, c_1, c_6, c_10, c_11, c_12, c_13]) hR rfl
def cd_first (σ : St) (c9 : Int32) : Nat := if 0 ≤ ixF σ.order c9 7 0 then 0 else 1
def vl_first (σ : St) (c9 : Int32) : Int32 := ixF σ.order c9 7 0
def nx_first (σ : St) (c9 : Int32) : St := σ.w_order (pfF σ.order (ixF σ.order c9 7 0).toNatClampNeg)
set_option maxHeartbeats 1000000 in
set_option maxRecDepth 100000 in
theorem ct_X9_first (l : Launch) (g : Gl) (hst : l.stackTraces = false) (ω : Wd) (ad : Ix → Nat) (x : Ex) (σ : St) (hR : RepC g ad x σ ω) (c9 : Int32) (hch : ∀ k, vp_nar .char (σ.order k) = σ.order k) : CT l g yX9_first cX9_first 3 (some .int) 6 90 1 6 [.ref (ad .main), .int c9] ω (okC g ad (cd_first σ c9) (some (.int (vl_first σ c9))) (nx_first σ c9)) (exC g ad (cd_first σ c9) ["java/lang/IllegalArgumentException"] σ) := by
  refine CT.of (own := "Boringhead") rfl rfl (le_b rfl) rfl ?_
  intro p e s m args below meth c sz0 hC hr htab hin
  refine s_aload_n hC dX9_first_0 rfl rfl 0 rfl ?_
  refine s_getf hC cs_X9 6 tw_243 (le_b rfl) (RepC.f_main hR) rfl dX9_first_1 rfl ?_
  refine s_getfN hC cs_X2 0 tw_226 (le_b rfl) (RepC.f_contract hR) rfl dX9_first_4 rfl ?_
  refine s_iload_n hC dX9_first_7 rfl rfl 1 rfl ?_
  refine s_callS hC (ct_X9_indexIn l g _ _ _ _ _ (Or.inl (RepC.f_order hR)) (by decide)) ce_X9_indexIn tw_438 rfl rfl ⟨⟨le_b rfl, le_b rfl⟩, le_b rfl, le_b rfl⟩ (le_b rfl) dX9_first_8 rfl (dvk1 ?_) nokx
  refine s_istore_n hC (L' := [(2, _), (0, _), (1, _)]) dX9_first_11 rfl rfl (le_b rfl) rfl ?_
  refine s_iload_n hC dX9_first_12 rfl rfl 0 rfl ?_
  refine z_if_ge hC (tgt := 27) dX9_first_13 rfl (by decide) (fun c_1 => ?_) (fun c_1 => ?_)
  · obtain ⟨q9, hq9, he9, -⟩ := ixF_pos c_1
    rw [show 0 + q9 = q9 by omega] at he9
    refine s_aload_n hC dX9_first_27 rfl rfl 1 rfl ?_
    refine s_getf hC cs_X9 6 tw_243 (le_b rfl) (RepC.f_main hR) rfl dX9_first_28 rfl ?_
    refine s_iload_n hC dX9_first_31 rfl rfl 0 rfl ?_
    rw [he9]
    refine s_callV hC (ct_X2_putFirst l g _ _ _ _ hR q9 hq9 hch) ce_X2_putFirst cs_X2 (RepC.f_contract hR) tw_1175 rfl rfl ⟨⟨le_b rfl, le_b rfl⟩, le_b rfl, le_b rfl⟩ (le_b rfl) dX9_first_32 rfl (dvk0 ?_) nokx
    refine WP.rc (RepC.w_order hR _) (fun hR_32 => ?_)
    refine s_iload_n hC dX9_first_35 rfl rfl 0 rfl ?_
    refine s_iret hC hr dX9_first_36 (le_b rfl) (le_b rfl) ?_
    exact okC_mk (by simp [cd_first, c_1]) (by rw [vl_first, he9]) hR_32 rfl (by rw [nx_first, he9, nI_clamp (by omega)])
  · refine s_throwSW hC htab hst (cls := "java/lang/IllegalArgumentException") (names := ["java/lang/RuntimeException", "java/lang/Exception"]) (i := 26) fit_IllegalArgumentException tw_450 tw_15 rfl at_X9_97 at_X9_97_ot dX9_first_16 dX9_first_19 dX9_first_20 dX9_first_23 dX9_first_26 ⟨le_b rfl, le_b rfl, le_b rfl, le_b rfl⟩ ⟨le_b rfl, le_b rfl⟩ ?_
    exact exC_mk (by simp [cd_first, c_1]) (by simp [cd_first, c_1]) hR rfl
