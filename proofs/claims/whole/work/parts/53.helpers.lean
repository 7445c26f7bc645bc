def okH (g : Gl) (ad : Ix → Nat) (cd : Nat) (vl : Int64) (nx σ : St) (lo N : Nat) (fl : Nat → Int64) (ω2 : Wd) : Option Value → Wd → Prop := fun r w => ∃ w1 w2 ad' x', r = some (.int (nI cd)) ∧ RepC g ad' x' (if cd = 0 then nx else σ) w1 ∧ ad' .main = ad .main ∧ w = wjn w1 w2 ∧ djn w1 w2 ∧ w2 = if cd = 0 then wup ω2 lo (.inl (g.2.1 4, N, .inr (.inl (vp_updL fl 0 vl)))) else ω2
theorem wjn_up {w1 ω2 : Wd} {lo : Nat} {e : va_E} (h : w1 lo = none) : wup (wjn w1 ω2) lo e = wjn w1 (wup ω2 lo e) := by
  funext q
  by_cases hq : q = lo
  · rw [hq, wup_s, wjn_r h, wup_s]
  · rw [wup_n hq]
    cases h1 : w1 q with
    | none => rw [wjn_r h1, wjn_r h1, wup_n hq]
    | some e1 => rw [wjn_l h1, wjn_l h1]
theorem djn_at {w1 ω2 : Wd} {lo : Nat} {e : va_E} (hd : djn w1 ω2) (h : ω2 lo = some e) : w1 lo = none := (hd lo).elim id (fun z => by rw [h] at z; cases z)
theorem djn_up {w1 ω2 : Wd} {lo : Nat} {e : va_E} (hd : djn w1 ω2) (h : w1 lo = none) : djn w1 (wup ω2 lo e) := fun q => by
  by_cases hq : q = lo
  · exact Or.inl (by rw [hq]; exact h)
  · rw [wup_n hq]
    exact hd q
theorem okH_ok {g : Gl} {ad ad' : Ix → Nat} {x' : Ex} {cd : Nat} {vl : Int64} {nx σ : St} {lo N : Nat} {fl : Nat → Int64} {w1 ω2 : Wd} {r : Option Value} {w : Wd} {e : va_E} (hc : cd = 0) (hr : r = some (.int 0)) (hR : RepC g ad' x' nx w1) (hm : ad' .main = ad .main) (hd : djn w1 ω2) (hlo : ω2 lo = some e) (hw : w = wup (wjn w1 ω2) lo (.inl (g.2.1 4, N, .inr (.inl (vp_updL fl 0 vl))))) : okH g ad cd vl nx σ lo N fl ω2 r w := by
  subst hc
  have h1 := djn_at hd hlo
  exact ⟨w1, _, ad', x', hr, hR, hm, by rw [hw, wjn_up h1], djn_up hd h1, rfl⟩
theorem okH_no {g : Gl} {ad ad' : Ix → Nat} {x' : Ex} {cd : Nat} {vl : Int64} {nx σ : St} {lo N : Nat} {fl : Nat → Int64} {w1 ω2 : Wd} {r : Option Value} (hc : ¬ cd = 0) (hr : r = some (.int (nI cd))) (hR : RepC g ad' x' σ w1) (hm : ad' .main = ad .main) (hd : djn w1 ω2) : okH g ad cd vl nx σ lo N fl ω2 r (wjn w1 ω2) := ⟨w1, ω2, ad', x', hr, by rw [if_neg hc]; exact hR, hm, rfl, hd, by rw [if_neg hc]⟩
def okHD (g : Gl) (ad : Ix → Nat) (cd : Nat) (vl : UInt64) (nx σ : St) (lo N : Nat) (fl : Nat → UInt64) (ω2 : Wd) : Option Value → Wd → Prop := fun r w => ∃ w1 w2 ad' x', r = some (.int (nI cd)) ∧ RepC g ad' x' (if cd = 0 then nx else σ) w1 ∧ ad' .main = ad .main ∧ w = wjn w1 w2 ∧ djn w1 w2 ∧ w2 = if cd = 0 then wup ω2 lo (.inl (g.2.1 5, N, .inr (.inr (.inr (.inl (vf_upd fl 0 vl)))))) else ω2
theorem okHD_ok {g : Gl} {ad ad' : Ix → Nat} {x' : Ex} {cd : Nat} {vl : UInt64} {nx σ : St} {lo N : Nat} {fl : Nat → UInt64} {w1 ω2 : Wd} {r : Option Value} {w : Wd} {e : va_E} (hc : cd = 0) (hr : r = some (.int 0)) (hR : RepC g ad' x' nx w1) (hm : ad' .main = ad .main) (hd : djn w1 ω2) (hlo : ω2 lo = some e) (hw : w = wup (wjn w1 ω2) lo (.inl (g.2.1 5, N, .inr (.inr (.inr (.inl (vf_upd fl 0 vl))))))) : okHD g ad cd vl nx σ lo N fl ω2 r w := by
  subst hc
  have h1 := djn_at hd hlo
  exact ⟨w1, _, ad', x', hr, hR, hm, by rw [hw, wjn_up h1], djn_up hd h1, rfl⟩
theorem okHD_no {g : Gl} {ad ad' : Ix → Nat} {x' : Ex} {cd : Nat} {vl : UInt64} {nx σ : St} {lo N : Nat} {fl : Nat → UInt64} {w1 ω2 : Wd} {r : Option Value} (hc : ¬ cd = 0) (hr : r = some (.int (nI cd))) (hR : RepC g ad' x' σ w1) (hm : ad' .main = ad .main) (hd : djn w1 ω2) : okHD g ad cd vl nx σ lo N fl ω2 r (wjn w1 ω2) := ⟨w1, ω2, ad', x', hr, by rw [if_neg hc]; exact hR, hm, rfl, hd, by rw [if_neg hc]⟩
theorem ce_L_ground : CeX yL_ground cL_ground 6 (some .int) [(0, 12, 15, 13), (0, 12, 19, 15)] 5 := ⟨tw_425, tw_424, tw_0, ⟨by decide +kernel, by decide +kernel, by decide +kernel⟩⟩
set_option maxHeartbeats 1000000 in
set_option maxRecDepth 100000 in
theorem ct_L_ground (l : Launch) (g : Gl) (hst : l.stackTraces = false) (ω1 ω2 : Wd) (hd : djn ω1 ω2) (ad : Ix → Nat) (x : Ex) (σ : St) (hR : RepC g ad x σ ω1) (f9 : Int32) (t9 : Int32) (c9 : Int32)  (lo N : Nat) (fl : Nat → Int64) (ho : ω2 lo = some (.inl (g.2.1 4, N, .inr (.inl fl)))) (hN : 0 < N) (hN2 : N < 2 ^ 31) : CTH l g yL_ground cL_ground 6 (some .int) [(0, 12, 15, 13), (0, 12, 19, 15)] 9 159 1 6 [.ref (ad .main), .int f9, .int t9, .int c9, .ref lo] (wjn ω1 ω2) (okH g ad (cd_ground σ f9 t9 c9) (Int32.toInt64 (vl_ground σ f9 t9 c9)) (nx_ground σ f9 t9 c9) σ lo N fl ω2) := by
  refine CTH.of (own := "BoringheadLaw") rfl rfl (le_b rfl) rfl ?_
  intro p e s m args below meth c sz0 hC hr htab hNc
  refine s_aload hC dL_ground_0 rfl 4 rfl ?_
  refine s_iconst hC (v := 0) dL_ground_2 rfl (by decide) ?_
  refine s_aload_n hC dL_ground_3 rfl rfl 0 rfl ?_
  refine s_iload_n hC dL_ground_4 rfl rfl 1 rfl ?_
  refine s_iload_n hC dL_ground_5 rfl rfl 2 rfl ?_
  refine s_iload_n hC dL_ground_6 rfl rfl 3 rfl ?_
  refine s_callV hC (CT.frame (ct_X9_ground l g hst _ _ _ _ hR f9 t9 c9) hd) ce_X9_ground cs_X9 (wjn_l (RepC.f_main hR)) tw_428 rfl rfl ⟨⟨le_b rfl, le_b rfl⟩, le_b rfl, le_b rfl⟩ (le_b rfl) dL_ground_7 rfl (fun r w h9 => ?_) (fun E w h9 => ?_)
  · obtain ⟨w1, ⟨hc, rfl, ad2, x2, hR2, hm2⟩, rfl, hd2⟩ := h9
    refine s_i2l hC dL_ground_10 rfl rfl ?_
    refine s_last hC ((wjn_r (djn_at hd2 ho)).trans ho) (show vp_in 0 N from vp_in_nI hN hN2) dL_ground_11 rfl ?_
    refine s_goto hC (tgt := 23) dL_ground_12 (by decide) ?_
    refine s_iconst hC (v := 0) dL_ground_23 rfl (by decide) ?_
    refine s_iret hC hr dL_ground_24 (le_b rfl) (le_b rfl) ?_
    exact okH_ok hc rfl hR2 hm2 hd2 ho rfl
  · obtain ⟨w1, ⟨hc, hE, ad2, x2, hR2, hm2⟩, rfl, hd2⟩ := h9
    have hk : (cd_ground σ f9 t9 c9) = 1 ∨ (cd_ground σ f9 t9 c9) = 2 := by
      have h8 := (List.getElem?_eq_some_iff.mp hE).1
      simp only [List.length_cons, List.length_nil] at h8
      omega
    rcases hk with hk | hk
    · have hE2 : "java/lang/IllegalArgumentException" = E := by
        rw [hk] at hE
        exact Option.some.inj hE
      subst hE2
      refine s_catch hC hNc htab [] ⟨0, 12, 15, 13⟩ [⟨0, 12, 19, 15⟩] rfl (fun z hz => by cases hz) rfl (by decide) tw_426 tw_452 rfl (fun q => ?_)
      refine s_astore hC (L' := [(5, _), (0, _), (1, _), (2, _), (3, _), (4, _)]) dL_ground_15 rfl (le_b rfl) rfl ?_
      refine s_iconst hC (v := 1) dL_ground_17 rfl (by decide) ?_
      refine s_iret hC hr dL_ground_18 (le_b rfl) (le_b rfl) ?_
      exact okH_no hc (by rw [hk]; rfl) hR2 hm2 hd2
    · have hE2 : "java/lang/UnsupportedOperationException" = E := by
        rw [hk] at hE
        exact Option.some.inj hE
      subst hE2
      refine s_catch hC hNc htab [⟨0, 12, 15, 13⟩] ⟨0, 12, 19, 15⟩ [] rfl (fun z hz => by
        simp only [List.mem_cons, List.not_mem_nil, or_false] at hz
        rcases hz with rfl
        · exact ⟨by decide, "java/lang/IllegalArgumentException", tw_426, by decide, by decide, by decide⟩) rfl (by decide) tw_427 tw_527 rfl (fun q => ?_)
      refine s_astore hC (L' := [(5, _), (0, _), (1, _), (2, _), (3, _), (4, _)]) dL_ground_19 rfl (le_b rfl) rfl ?_
      refine s_iconst hC (v := 2) dL_ground_21 rfl (by decide) ?_
      refine s_iret hC hr dL_ground_22 (le_b rfl) (le_b rfl) ?_
      exact okH_no hc (by rw [hk]; rfl) hR2 hm2 hd2
theorem ce_L_reference : CeX yL_reference cL_reference 6 (some .int) [(0, 12, 15, 13), (0, 12, 19, 15)] 5 := ⟨tw_547, tw_546, tw_0, ⟨by decide +kernel, by decide +kernel, by decide +kernel⟩⟩
set_option maxHeartbeats 1000000 in
set_option maxRecDepth 100000 in
theorem ct_L_reference (l : Launch) (g : Gl) (hst : l.stackTraces = false) (ω1 ω2 : Wd) (hd : djn ω1 ω2) (ad : Ix → Nat) (x : Ex) (σ : St) (hR : RepC g ad x σ ω1) (f9 : Int32) (t9 : Int32) (c9 : Int32)  (lo N : Nat) (fl : Nat → Int64) (ho : ω2 lo = some (.inl (g.2.1 4, N, .inr (.inl fl)))) (hN : 0 < N) (hN2 : N < 2 ^ 31) : CTH l g yL_reference cL_reference 6 (some .int) [(0, 12, 15, 13), (0, 12, 19, 15)] 9 159 1 6 [.ref (ad .main), .int f9, .int t9, .int c9, .ref lo] (wjn ω1 ω2) (okH g ad (cd_reference σ f9 t9 c9) (Int32.toInt64 (vl_reference σ f9 t9 c9)) (nx_reference σ f9 t9 c9) σ lo N fl ω2) := by
  refine CTH.of (own := "BoringheadLaw") rfl rfl (le_b rfl) rfl ?_
  intro p e s m args below meth c sz0 hC hr htab hNc
  refine s_aload hC dL_reference_0 rfl 4 rfl ?_
  refine s_iconst hC (v := 0) dL_reference_2 rfl (by decide) ?_
  refine s_aload_n hC dL_reference_3 rfl rfl 0 rfl ?_
  refine s_iload_n hC dL_reference_4 rfl rfl 1 rfl ?_
  refine s_iload_n hC dL_reference_5 rfl rfl 2 rfl ?_
  refine s_iload_n hC dL_reference_6 rfl rfl 3 rfl ?_
  refine s_callV hC (CT.frame (ct_X9_reference l g hst _ _ _ _ hR f9 t9 c9) hd) ce_X9_reference cs_X9 (wjn_l (RepC.f_main hR)) tw_548 rfl rfl ⟨⟨le_b rfl, le_b rfl⟩, le_b rfl, le_b rfl⟩ (le_b rfl) dL_reference_7 rfl (fun r w h9 => ?_) (fun E w h9 => ?_)
  · obtain ⟨w1, ⟨hc, rfl, ad2, x2, hR2, hm2⟩, rfl, hd2⟩ := h9
    refine s_i2l hC dL_reference_10 rfl rfl ?_
    refine s_last hC ((wjn_r (djn_at hd2 ho)).trans ho) (show vp_in 0 N from vp_in_nI hN hN2) dL_reference_11 rfl ?_
    refine s_goto hC (tgt := 23) dL_reference_12 (by decide) ?_
    refine s_iconst hC (v := 0) dL_reference_23 rfl (by decide) ?_
    refine s_iret hC hr dL_reference_24 (le_b rfl) (le_b rfl) ?_
    exact okH_ok hc rfl hR2 hm2 hd2 ho rfl
  · obtain ⟨w1, ⟨hc, hE, ad2, x2, hR2, hm2⟩, rfl, hd2⟩ := h9
    have hk : (cd_reference σ f9 t9 c9) = 1 ∨ (cd_reference σ f9 t9 c9) = 2 := by
      have h8 := (List.getElem?_eq_some_iff.mp hE).1
      simp only [List.length_cons, List.length_nil] at h8
      omega
    rcases hk with hk | hk
    · have hE2 : "java/lang/IllegalArgumentException" = E := by
        rw [hk] at hE
        exact Option.some.inj hE
      subst hE2
      refine s_catch hC hNc htab [] ⟨0, 12, 15, 13⟩ [⟨0, 12, 19, 15⟩] rfl (fun z hz => by cases hz) rfl (by decide) tw_426 tw_452 rfl (fun q => ?_)
      refine s_astore hC (L' := [(5, _), (0, _), (1, _), (2, _), (3, _), (4, _)]) dL_reference_15 rfl (le_b rfl) rfl ?_
      refine s_iconst hC (v := 1) dL_reference_17 rfl (by decide) ?_
      refine s_iret hC hr dL_reference_18 (le_b rfl) (le_b rfl) ?_
      exact okH_no hc (by rw [hk]; rfl) hR2 hm2 hd2
    · have hE2 : "java/lang/UnsupportedOperationException" = E := by
        rw [hk] at hE
        exact Option.some.inj hE
      subst hE2
      refine s_catch hC hNc htab [⟨0, 12, 15, 13⟩] ⟨0, 12, 19, 15⟩ [] rfl (fun z hz => by
        simp only [List.mem_cons, List.not_mem_nil, or_false] at hz
        rcases hz with rfl
        · exact ⟨by decide, "java/lang/IllegalArgumentException", tw_426, by decide, by decide, by decide⟩) rfl (by decide) tw_427 tw_527 rfl (fun q => ?_)
      refine s_astore hC (L' := [(5, _), (0, _), (1, _), (2, _), (3, _), (4, _)]) dL_reference_19 rfl (le_b rfl) rfl ?_
      refine s_iconst hC (v := 2) dL_reference_21 rfl (by decide) ?_
      refine s_iret hC hr dL_reference_22 (le_b rfl) (le_b rfl) ?_
      exact okH_no hc (by rw [hk]; rfl) hR2 hm2 hd2
theorem ce_L_depth : CeX yL_depth cL_depth 6 (some .int) [(0, 12, 15, 13), (0, 12, 19, 15)] 5 := ⟨tw_554, tw_553, tw_0, ⟨by decide +kernel, by decide +kernel, by decide +kernel⟩⟩
set_option maxHeartbeats 1000000 in
set_option maxRecDepth 100000 in
theorem ct_L_depth (l : Launch) (g : Gl) (hst : l.stackTraces = false) (ω1 ω2 : Wd) (hd : djn ω1 ω2) (ad : Ix → Nat) (x : Ex) (σ : St) (hR : RepC g ad x σ ω1) (f9 : Int32) (t9 : Int32) (v9 : Int32)  (lo N : Nat) (fl : Nat → Int64) (ho : ω2 lo = some (.inl (g.2.1 4, N, .inr (.inl fl)))) (hN : 0 < N) (hN2 : N < 2 ^ 31) : CTH l g yL_depth cL_depth 6 (some .int) [(0, 12, 15, 13), (0, 12, 19, 15)] 9 161 1 6 [.ref (ad .main), .int f9, .int t9, .int v9, .ref lo] (wjn ω1 ω2) (okH g ad (cd_depth σ f9 t9 v9) (Int32.toInt64 (vl_depth σ f9 t9 v9)) (nx_depth σ f9 t9 v9) σ lo N fl ω2) := by
  refine CTH.of (own := "BoringheadLaw") rfl rfl (le_b rfl) rfl ?_
  intro p e s m args below meth c sz0 hC hr htab hNc
  refine s_aload hC dL_depth_0 rfl 4 rfl ?_
  refine s_iconst hC (v := 0) dL_depth_2 rfl (by decide) ?_
  refine s_aload_n hC dL_depth_3 rfl rfl 0 rfl ?_
  refine s_iload_n hC dL_depth_4 rfl rfl 1 rfl ?_
  refine s_iload_n hC dL_depth_5 rfl rfl 2 rfl ?_
  refine s_iload_n hC dL_depth_6 rfl rfl 3 rfl ?_
  refine s_callV hC (CT.frame (ct_X9_depth l g hst _ _ _ _ hR f9 t9 v9) hd) ce_X9_depth cs_X9 (wjn_l (RepC.f_main hR)) tw_555 rfl rfl ⟨⟨le_b rfl, le_b rfl⟩, le_b rfl, le_b rfl⟩ (le_b rfl) dL_depth_7 rfl (fun r w h9 => ?_) (fun E w h9 => ?_)
  · obtain ⟨w1, ⟨hc, rfl, ad2, x2, hR2, hm2⟩, rfl, hd2⟩ := h9
    refine s_i2l hC dL_depth_10 rfl rfl ?_
    refine s_last hC ((wjn_r (djn_at hd2 ho)).trans ho) (show vp_in 0 N from vp_in_nI hN hN2) dL_depth_11 rfl ?_
    refine s_goto hC (tgt := 23) dL_depth_12 (by decide) ?_
    refine s_iconst hC (v := 0) dL_depth_23 rfl (by decide) ?_
    refine s_iret hC hr dL_depth_24 (le_b rfl) (le_b rfl) ?_
    exact okH_ok hc rfl hR2 hm2 hd2 ho rfl
  · obtain ⟨w1, ⟨hc, hE, ad2, x2, hR2, hm2⟩, rfl, hd2⟩ := h9
    have hk : (cd_depth σ f9 t9 v9) = 1 ∨ (cd_depth σ f9 t9 v9) = 2 := by
      have h8 := (List.getElem?_eq_some_iff.mp hE).1
      simp only [List.length_cons, List.length_nil] at h8
      omega
    rcases hk with hk | hk
    · have hE2 : "java/lang/IllegalArgumentException" = E := by
        rw [hk] at hE
        exact Option.some.inj hE
      subst hE2
      refine s_catch hC hNc htab [] ⟨0, 12, 15, 13⟩ [⟨0, 12, 19, 15⟩] rfl (fun z hz => by cases hz) rfl (by decide) tw_426 tw_452 rfl (fun q => ?_)
      refine s_astore hC (L' := [(5, _), (0, _), (1, _), (2, _), (3, _), (4, _)]) dL_depth_15 rfl (le_b rfl) rfl ?_
      refine s_iconst hC (v := 1) dL_depth_17 rfl (by decide) ?_
      refine s_iret hC hr dL_depth_18 (le_b rfl) (le_b rfl) ?_
      exact okH_no hc (by rw [hk]; rfl) hR2 hm2 hd2
    · have hE2 : "java/lang/UnsupportedOperationException" = E := by
        rw [hk] at hE
        exact Option.some.inj hE
      subst hE2
      refine s_catch hC hNc htab [⟨0, 12, 15, 13⟩] ⟨0, 12, 19, 15⟩ [] rfl (fun z hz => by
        simp only [List.mem_cons, List.not_mem_nil, or_false] at hz
        rcases hz with rfl
        · exact ⟨by decide, "java/lang/IllegalArgumentException", tw_426, by decide, by decide, by decide⟩) rfl (by decide) tw_427 tw_527 rfl (fun q => ?_)
      refine s_astore hC (L' := [(5, _), (0, _), (1, _), (2, _), (3, _), (4, _)]) dL_depth_19 rfl (le_b rfl) rfl ?_
      refine s_iconst hC (v := 2) dL_depth_21 rfl (by decide) ?_
      refine s_iret hC hr dL_depth_22 (le_b rfl) (le_b rfl) ?_
      exact okH_no hc (by rw [hk]; rfl) hR2 hm2 hd2
theorem ce_L_water : CeX yL_water cL_water 6 (some .int) [(0, 12, 15, 13), (0, 12, 19, 15)] 5 := ⟨tw_566, tw_565, tw_0, ⟨by decide +kernel, by decide +kernel, by decide +kernel⟩⟩
set_option maxHeartbeats 1000000 in
set_option maxRecDepth 100000 in
theorem ct_L_water (l : Launch) (g : Gl) (hst : l.stackTraces = false) (ω1 ω2 : Wd) (hd : djn ω1 ω2) (ad : Ix → Nat) (x : Ex) (σ : St) (hR : RepC g ad x σ ω1) (f9 : Int32) (t9 : Int32) (v9 : Int32)  (lo N : Nat) (fl : Nat → Int64) (ho : ω2 lo = some (.inl (g.2.1 4, N, .inr (.inl fl)))) (hN : 0 < N) (hN2 : N < 2 ^ 31) : CTH l g yL_water cL_water 6 (some .int) [(0, 12, 15, 13), (0, 12, 19, 15)] 9 161 1 6 [.ref (ad .main), .int f9, .int t9, .int v9, .ref lo] (wjn ω1 ω2) (okH g ad (cd_water σ f9 t9 v9) (Int32.toInt64 (vl_water σ f9 t9 v9)) (nx_water σ f9 t9 v9) σ lo N fl ω2) := by
  refine CTH.of (own := "BoringheadLaw") rfl rfl (le_b rfl) rfl ?_
  intro p e s m args below meth c sz0 hC hr htab hNc
  refine s_aload hC dL_water_0 rfl 4 rfl ?_
  refine s_iconst hC (v := 0) dL_water_2 rfl (by decide) ?_
  refine s_aload_n hC dL_water_3 rfl rfl 0 rfl ?_
  refine s_iload_n hC dL_water_4 rfl rfl 1 rfl ?_
  refine s_iload_n hC dL_water_5 rfl rfl 2 rfl ?_
  refine s_iload_n hC dL_water_6 rfl rfl 3 rfl ?_
  refine s_callV hC (CT.frame (ct_X9_water l g hst _ _ _ _ hR f9 t9 v9) hd) ce_X9_water cs_X9 (wjn_l (RepC.f_main hR)) tw_567 rfl rfl ⟨⟨le_b rfl, le_b rfl⟩, le_b rfl, le_b rfl⟩ (le_b rfl) dL_water_7 rfl (fun r w h9 => ?_) (fun E w h9 => ?_)
  · obtain ⟨w1, ⟨hc, rfl, ad2, x2, hR2, hm2⟩, rfl, hd2⟩ := h9
    refine s_i2l hC dL_water_10 rfl rfl ?_
    refine s_last hC ((wjn_r (djn_at hd2 ho)).trans ho) (show vp_in 0 N from vp_in_nI hN hN2) dL_water_11 rfl ?_
    refine s_goto hC (tgt := 23) dL_water_12 (by decide) ?_
    refine s_iconst hC (v := 0) dL_water_23 rfl (by decide) ?_
    refine s_iret hC hr dL_water_24 (le_b rfl) (le_b rfl) ?_
    exact okH_ok hc rfl hR2 hm2 hd2 ho rfl
  · obtain ⟨w1, ⟨hc, hE, ad2, x2, hR2, hm2⟩, rfl, hd2⟩ := h9
    have hk : (cd_water σ f9 t9 v9) = 1 ∨ (cd_water σ f9 t9 v9) = 2 := by
      have h8 := (List.getElem?_eq_some_iff.mp hE).1
      simp only [List.length_cons, List.length_nil] at h8
      omega
    rcases hk with hk | hk
    · have hE2 : "java/lang/IllegalArgumentException" = E := by
        rw [hk] at hE
        exact Option.some.inj hE
      subst hE2
      refine s_catch hC hNc htab [] ⟨0, 12, 15, 13⟩ [⟨0, 12, 19, 15⟩] rfl (fun z hz => by cases hz) rfl (by decide) tw_426 tw_452 rfl (fun q => ?_)
      refine s_astore hC (L' := [(5, _), (0, _), (1, _), (2, _), (3, _), (4, _)]) dL_water_15 rfl (le_b rfl) rfl ?_
      refine s_iconst hC (v := 1) dL_water_17 rfl (by decide) ?_
      refine s_iret hC hr dL_water_18 (le_b rfl) (le_b rfl) ?_
      exact okH_no hc (by rw [hk]; rfl) hR2 hm2 hd2
    · have hE2 : "java/lang/UnsupportedOperationException" = E := by
        rw [hk] at hE
        exact Option.some.inj hE
      subst hE2
      refine s_catch hC hNc htab [⟨0, 12, 15, 13⟩] ⟨0, 12, 19, 15⟩ [] rfl (fun z hz => by
        simp only [List.mem_cons, List.not_mem_nil, or_false] at hz
        rcases hz with rfl
        · exact ⟨by decide, "java/lang/IllegalArgumentException", tw_426, by decide, by decide, by decide⟩) rfl (by decide) tw_427 tw_527 rfl (fun q => ?_)
      refine s_astore hC (L' := [(5, _), (0, _), (1, _), (2, _), (3, _), (4, _)]) dL_water_19 rfl (le_b rfl) rfl ?_
      refine s_iconst hC (v := 2) dL_water_21 rfl (by decide) ?_
      refine s_iret hC hr dL_water_22 (le_b rfl) (le_b rfl) ?_
      exact okH_no hc (by rw [hk]; rfl) hR2 hm2 hd2
theorem ce_L_bend : CeX yL_bend cL_bend 7 (some .int) [(0, 14, 17, 13), (0, 14, 21, 15)] 6 := ⟨tw_573, tw_572, tw_0, ⟨by decide +kernel, by decide +kernel, by decide +kernel⟩⟩
set_option maxHeartbeats 1000000 in
set_option maxRecDepth 100000 in
theorem ct_L_bend (l : Launch) (g : Gl) (hst : l.stackTraces = false) (ω1 ω2 : Wd) (hd : djn ω1 ω2) (ad : Ix → Nat) (x : Ex) (σ : St) (hR : RepC g ad x σ ω1) (f9 : Int32) (t9 : Int32) (r9 : Int32) (u9 : Int32)  (lo N : Nat) (fl : Nat → Int64) (ho : ω2 lo = some (.inl (g.2.1 4, N, .inr (.inl fl)))) (hN : 0 < N) (hN2 : N < 2 ^ 31) : CTH l g yL_bend cL_bend 7 (some .int) [(0, 14, 17, 13), (0, 14, 21, 15)] 8 135 1 6 [.ref (ad .main), .int f9, .int t9, .int r9, .int u9, .ref lo] (wjn ω1 ω2) (okH g ad (cd_bend σ f9 t9 r9 u9) (Int32.toInt64 (vl_bend σ f9 t9 r9 u9)) (nx_bend σ f9 t9 r9 u9) σ lo N fl ω2) := by
  refine CTH.of (own := "BoringheadLaw") rfl rfl (le_b rfl) rfl ?_
  intro p e s m args below meth c sz0 hC hr htab hNc
  refine s_aload hC dL_bend_0 rfl 5 rfl ?_
  refine s_iconst hC (v := 0) dL_bend_2 rfl (by decide) ?_
  refine s_aload_n hC dL_bend_3 rfl rfl 0 rfl ?_
  refine s_iload_n hC dL_bend_4 rfl rfl 1 rfl ?_
  refine s_iload_n hC dL_bend_5 rfl rfl 2 rfl ?_
  refine s_iload_n hC dL_bend_6 rfl rfl 3 rfl ?_
  refine s_iload hC dL_bend_7 rfl 4 rfl ?_
  refine s_callV hC (CT.frame (ct_X9_bend l g hst _ _ _ _ hR f9 t9 r9 u9) hd) ce_X9_bend cs_X9 (wjn_l (RepC.f_main hR)) tw_574 rfl rfl ⟨⟨le_b rfl, le_b rfl⟩, le_b rfl, le_b rfl⟩ (le_b rfl) dL_bend_9 rfl (fun r w h9 => ?_) (fun E w h9 => ?_)
  · obtain ⟨w1, ⟨hc, rfl, ad2, x2, hR2, hm2⟩, rfl, hd2⟩ := h9
    refine s_i2l hC dL_bend_12 rfl rfl ?_
    refine s_last hC ((wjn_r (djn_at hd2 ho)).trans ho) (show vp_in 0 N from vp_in_nI hN hN2) dL_bend_13 rfl ?_
    refine s_goto hC (tgt := 25) dL_bend_14 (by decide) ?_
    refine s_iconst hC (v := 0) dL_bend_25 rfl (by decide) ?_
    refine s_iret hC hr dL_bend_26 (le_b rfl) (le_b rfl) ?_
    exact okH_ok hc rfl hR2 hm2 hd2 ho rfl
  · obtain ⟨w1, ⟨hc, hE, ad2, x2, hR2, hm2⟩, rfl, hd2⟩ := h9
    have hk : (cd_bend σ f9 t9 r9 u9) = 1 ∨ (cd_bend σ f9 t9 r9 u9) = 2 := by
      have h8 := (List.getElem?_eq_some_iff.mp hE).1
      simp only [List.length_cons, List.length_nil] at h8
      omega
    rcases hk with hk | hk
    · have hE2 : "java/lang/IllegalArgumentException" = E := by
        rw [hk] at hE
        exact Option.some.inj hE
      subst hE2
      refine s_catch hC hNc htab [] ⟨0, 14, 17, 13⟩ [⟨0, 14, 21, 15⟩] rfl (fun z hz => by cases hz) rfl (by decide) tw_426 tw_452 rfl (fun q => ?_)
      refine s_astore hC (L' := [(6, _), (0, _), (1, _), (2, _), (3, _), (4, _), (5, _)]) dL_bend_17 rfl (le_b rfl) rfl ?_
      refine s_iconst hC (v := 1) dL_bend_19 rfl (by decide) ?_
      refine s_iret hC hr dL_bend_20 (le_b rfl) (le_b rfl) ?_
      exact okH_no hc (by rw [hk]; rfl) hR2 hm2 hd2
    · have hE2 : "java/lang/UnsupportedOperationException" = E := by
        rw [hk] at hE
        exact Option.some.inj hE
      subst hE2
      refine s_catch hC hNc htab [⟨0, 14, 17, 13⟩] ⟨0, 14, 21, 15⟩ [] rfl (fun z hz => by
        simp only [List.mem_cons, List.not_mem_nil, or_false] at hz
        rcases hz with rfl
        · exact ⟨by decide, "java/lang/IllegalArgumentException", tw_426, by decide, by decide, by decide⟩) rfl (by decide) tw_427 tw_527 rfl (fun q => ?_)
      refine s_astore hC (L' := [(6, _), (0, _), (1, _), (2, _), (3, _), (4, _), (5, _)]) dL_bend_21 rfl (le_b rfl) rfl ?_
      refine s_iconst hC (v := 2) dL_bend_23 rfl (by decide) ?_
      refine s_iret hC hr dL_bend_24 (le_b rfl) (le_b rfl) ?_
      exact okH_no hc (by rw [hk]; rfl) hR2 hm2 hd2
theorem ce_L_bore : CeX yL_bore cL_bore 5 (some .int) [(0, 10, 13, 13), (0, 10, 17, 35)] 4 := ⟨tw_581, tw_580, tw_0, ⟨by decide +kernel, by decide +kernel, by decide +kernel⟩⟩
set_option maxHeartbeats 1000000 in
set_option maxRecDepth 100000 in
theorem ct_L_bore (l : Launch) (g : Gl) (hst : l.stackTraces = false) (ω1 ω2 : Wd) (hd : djn ω1 ω2) (ad : Ix → Nat) (x : Ex) (σ : St) (hR : RepC g ad x σ ω1) (p9 : Int32) (c9 : Int32)  (lo N : Nat) (fl : Nat → Int64) (ho : ω2 lo = some (.inl (g.2.1 4, N, .inr (.inl fl)))) (hN : 0 < N) (hN2 : N < 2 ^ 31) : CTH l g yL_bore cL_bore 5 (some .int) [(0, 10, 13, 13), (0, 10, 17, 35)] 8 176 2 165 [.ref (ad .main), .int p9, .int c9, .ref lo] (wjn ω1 ω2) (okH g ad (cd_bore σ p9 c9) (Int32.toInt64 (vl_bore σ p9 c9)) (nx_bore σ p9 c9) σ lo N fl ω2) := by
  refine CTH.of (own := "BoringheadLaw") rfl rfl (le_b rfl) rfl ?_
  intro p e s m args below meth c sz0 hC hr htab hNc
  refine s_aload_n hC dL_bore_0 rfl rfl 3 rfl ?_
  refine s_iconst hC (v := 0) dL_bore_1 rfl (by decide) ?_
  refine s_aload_n hC dL_bore_2 rfl rfl 0 rfl ?_
  refine s_iload_n hC dL_bore_3 rfl rfl 1 rfl ?_
  refine s_iload_n hC dL_bore_4 rfl rfl 2 rfl ?_
  refine s_callV hC (CT.frame (ct_X9_bore l g hst _ _ _ _ hR p9 c9) hd) ce_X9_bore cs_X9 (wjn_l (RepC.f_main hR)) tw_583 rfl rfl ⟨⟨le_b rfl, le_b rfl⟩, le_b rfl, le_b rfl⟩ (le_b rfl) dL_bore_5 rfl (fun r w h9 => ?_) (fun E w h9 => ?_)
  · obtain ⟨w1, ⟨hc, rfl, ad2, x2, hR2, hm2⟩, rfl, hd2⟩ := h9
    refine s_i2l hC dL_bore_8 rfl rfl ?_
    refine s_last hC ((wjn_r (djn_at hd2 ho)).trans ho) (show vp_in 0 N from vp_in_nI hN hN2) dL_bore_9 rfl ?_
    refine s_goto hC (tgt := 21) dL_bore_10 (by decide) ?_
    refine s_iconst hC (v := 0) dL_bore_21 rfl (by decide) ?_
    refine s_iret hC hr dL_bore_22 (le_b rfl) (le_b rfl) ?_
    exact okH_ok hc rfl hR2 hm2 hd2 ho rfl
  · obtain ⟨w1, ⟨hc, hE, ad2, x2, hR2, hm2⟩, rfl, hd2⟩ := h9
    have hk : (cd_bore σ p9 c9) = 1 ∨ (cd_bore σ p9 c9) = 2 := by
      have h8 := (List.getElem?_eq_some_iff.mp hE).1
      simp only [List.length_cons, List.length_nil] at h8
      omega
    rcases hk with hk | hk
    · have hE2 : "java/lang/IllegalArgumentException" = E := by
        rw [hk] at hE
        exact Option.some.inj hE
      subst hE2
      refine s_catch hC hNc htab [] ⟨0, 10, 13, 13⟩ [⟨0, 10, 17, 35⟩] rfl (fun z hz => by cases hz) rfl (by decide) tw_426 tw_452 rfl (fun q => ?_)
      refine s_astore hC (L' := [(4, _), (0, _), (1, _), (2, _), (3, _)]) dL_bore_13 rfl (le_b rfl) rfl ?_
      refine s_iconst hC (v := 1) dL_bore_15 rfl (by decide) ?_
      refine s_iret hC hr dL_bore_16 (le_b rfl) (le_b rfl) ?_
      exact okH_no hc (by rw [hk]; rfl) hR2 hm2 hd2
    · have hE2 : "java/lang/IllegalStateException" = E := by
        rw [hk] at hE
        exact Option.some.inj hE
      subst hE2
      refine s_catch hC hNc htab [⟨0, 10, 13, 13⟩] ⟨0, 10, 17, 35⟩ [] rfl (fun z hz => by
        simp only [List.mem_cons, List.not_mem_nil, or_false] at hz
        rcases hz with rfl
        · exact ⟨by decide, "java/lang/IllegalArgumentException", tw_426, by decide, by decide, by decide⟩) rfl (by decide) tw_582 tw_590 rfl (fun q => ?_)
      refine s_astore hC (L' := [(4, _), (0, _), (1, _), (2, _), (3, _)]) dL_bore_17 rfl (le_b rfl) rfl ?_
      refine s_iconst hC (v := 2) dL_bore_19 rfl (by decide) ?_
      refine s_iret hC hr dL_bore_20 (le_b rfl) (le_b rfl) ?_
      exact okH_no hc (by rw [hk]; rfl) hR2 hm2 hd2
theorem ce_L_guess : CeX yL_guess cL_guess 4 (some .int) [(0, 9, 12, 13)] 3 := ⟨tw_688, tw_687, tw_0, ⟨by decide +kernel, by decide +kernel, by decide +kernel⟩⟩
set_option maxHeartbeats 1000000 in
set_option maxRecDepth 100000 in
theorem ct_L_guess (l : Launch) (g : Gl) (hst : l.stackTraces = false) (ω1 ω2 : Wd) (hd : djn ω1 ω2) (ad : Ix → Nat) (x : Ex) (σ : St) (hR : RepC g ad x σ ω1) (p9 : Int32)  (lo N : Nat) (fl : Nat → Int64) (ho : ω2 lo = some (.inl (g.2.1 4, N, .inr (.inl fl)))) (hN : 0 < N) (hN2 : N < 2 ^ 31) : CTH l g yL_guess cL_guess 4 (some .int) [(0, 9, 12, 13)] 7 137 1 6 [.ref (ad .main), .int p9, .ref lo] (wjn ω1 ω2) (okH g ad (cd_guess σ p9) (Int32.toInt64 (vl_guess σ p9)) σ σ lo N fl ω2) := by
  refine CTH.of (own := "BoringheadLaw") rfl rfl (le_b rfl) rfl ?_
  intro p e s m args below meth c sz0 hC hr htab hNc
  refine s_aload_n hC dL_guess_0 rfl rfl 2 rfl ?_
  refine s_iconst hC (v := 0) dL_guess_1 rfl (by decide) ?_
  refine s_aload_n hC dL_guess_2 rfl rfl 0 rfl ?_
  refine s_iload_n hC dL_guess_3 rfl rfl 1 rfl ?_
  refine s_callV hC (CT.frame (ct_X9_guess l g hst _ _ _ _ hR p9) hd) ce_X9_guess cs_X9 (wjn_l (RepC.f_main hR)) tw_689 rfl rfl ⟨⟨le_b rfl, le_b rfl⟩, le_b rfl, le_b rfl⟩ (le_b rfl) dL_guess_4 rfl (fun r w h9 => ?_) (fun E w h9 => ?_)
  · obtain ⟨w1, ⟨hc, rfl, ad2, x2, hR2, hm2⟩, rfl, hd2⟩ := h9
    refine s_i2l hC dL_guess_7 rfl rfl ?_
    refine s_last hC ((wjn_r (djn_at hd2 ho)).trans ho) (show vp_in 0 N from vp_in_nI hN hN2) dL_guess_8 rfl ?_
    refine s_goto hC (tgt := 15) dL_guess_9 (by decide) ?_
    refine s_iconst hC (v := 0) dL_guess_15 rfl (by decide) ?_
    refine s_iret hC hr dL_guess_16 (le_b rfl) (le_b rfl) ?_
    exact okH_ok hc rfl hR2 hm2 hd2 ho rfl
  · obtain ⟨w1, ⟨hc, hE, ad2, x2, hR2, hm2⟩, rfl, hd2⟩ := h9
    have hk : (cd_guess σ p9) = 1 := by
      have h8 := (List.getElem?_eq_some_iff.mp hE).1
      simp only [List.length_cons, List.length_nil] at h8
      omega
    rcases hk with hk
    · have hE2 : "java/lang/IllegalArgumentException" = E := by
        rw [hk] at hE
        exact Option.some.inj hE
      subst hE2
      refine s_catch hC hNc htab [] ⟨0, 9, 12, 13⟩ [] rfl (fun z hz => by cases hz) rfl (by decide) tw_426 tw_452 rfl (fun q => ?_)
      refine s_astore_n hC (L' := [(3, _), (0, _), (1, _), (2, _)]) dL_guess_12 rfl rfl (le_b rfl) rfl ?_
      refine s_iconst hC (v := 1) dL_guess_13 rfl (by decide) ?_
      refine s_iret hC hr dL_guess_14 (le_b rfl) (le_b rfl) ?_
      exact okH_no hc (by rw [hk]; rfl) hR2 hm2 hd2
theorem ce_L_doubt : CeX yL_doubt cL_doubt 4 (some .int) [(0, 9, 12, 13)] 3 := ⟨tw_712, tw_711, tw_0, ⟨by decide +kernel, by decide +kernel, by decide +kernel⟩⟩
set_option maxHeartbeats 1000000 in
set_option maxRecDepth 100000 in
theorem ct_L_doubt (l : Launch) (g : Gl) (hst : l.stackTraces = false) (ω1 ω2 : Wd) (hd : djn ω1 ω2) (ad : Ix → Nat) (x : Ex) (σ : St) (hR : RepC g ad x σ ω1) (p9 : Int32)  (lo N : Nat) (fl : Nat → Int64) (ho : ω2 lo = some (.inl (g.2.1 4, N, .inr (.inl fl)))) (hN : 0 < N) (hN2 : N < 2 ^ 31) : CTH l g yL_doubt cL_doubt 4 (some .int) [(0, 9, 12, 13)] 7 137 1 6 [.ref (ad .main), .int p9, .ref lo] (wjn ω1 ω2) (okH g ad (cd_doubt σ p9) (Int32.toInt64 (vl_doubt σ p9)) σ σ lo N fl ω2) := by
  refine CTH.of (own := "BoringheadLaw") rfl rfl (le_b rfl) rfl ?_
  intro p e s m args below meth c sz0 hC hr htab hNc
  refine s_aload_n hC dL_doubt_0 rfl rfl 2 rfl ?_
  refine s_iconst hC (v := 0) dL_doubt_1 rfl (by decide) ?_
  refine s_aload_n hC dL_doubt_2 rfl rfl 0 rfl ?_
  refine s_iload_n hC dL_doubt_3 rfl rfl 1 rfl ?_
  refine s_callV hC (CT.frame (ct_X9_doubt l g hst _ _ _ _ hR p9) hd) ce_X9_doubt cs_X9 (wjn_l (RepC.f_main hR)) tw_713 rfl rfl ⟨⟨le_b rfl, le_b rfl⟩, le_b rfl, le_b rfl⟩ (le_b rfl) dL_doubt_4 rfl (fun r w h9 => ?_) (fun E w h9 => ?_)
  · obtain ⟨w1, ⟨hc, rfl, ad2, x2, hR2, hm2⟩, rfl, hd2⟩ := h9
    refine s_i2l hC dL_doubt_7 rfl rfl ?_
    refine s_last hC ((wjn_r (djn_at hd2 ho)).trans ho) (show vp_in 0 N from vp_in_nI hN hN2) dL_doubt_8 rfl ?_
    refine s_goto hC (tgt := 15) dL_doubt_9 (by decide) ?_
    refine s_iconst hC (v := 0) dL_doubt_15 rfl (by decide) ?_
    refine s_iret hC hr dL_doubt_16 (le_b rfl) (le_b rfl) ?_
    exact okH_ok hc rfl hR2 hm2 hd2 ho rfl
  · obtain ⟨w1, ⟨hc, hE, ad2, x2, hR2, hm2⟩, rfl, hd2⟩ := h9
    have hk : (cd_doubt σ p9) = 1 := by
      have h8 := (List.getElem?_eq_some_iff.mp hE).1
      simp only [List.length_cons, List.length_nil] at h8
      omega
    rcases hk with hk
    · have hE2 : "java/lang/IllegalArgumentException" = E := by
        rw [hk] at hE
        exact Option.some.inj hE
      subst hE2
      refine s_catch hC hNc htab [] ⟨0, 9, 12, 13⟩ [] rfl (fun z hz => by cases hz) rfl (by decide) tw_426 tw_452 rfl (fun q => ?_)
      refine s_astore_n hC (L' := [(3, _), (0, _), (1, _), (2, _)]) dL_doubt_12 rfl rfl (le_b rfl) rfl ?_
      refine s_iconst hC (v := 1) dL_doubt_13 rfl (by decide) ?_
      refine s_iret hC hr dL_doubt_14 (le_b rfl) (le_b rfl) ?_
      exact okH_no hc (by rw [hk]; rfl) hR2 hm2 hd2
theorem ce_L_pressure : CeX yL_pressure cL_pressure 4 (some .int) [(0, 9, 12, 13)] 3 := ⟨tw_724, tw_723, tw_0, ⟨by decide +kernel, by decide +kernel, by decide +kernel⟩⟩
set_option maxHeartbeats 1000000 in
set_option maxRecDepth 100000 in
theorem ct_L_pressure (l : Launch) (g : Gl) (hst : l.stackTraces = false) (ω1 ω2 : Wd) (hd : djn ω1 ω2) (ad : Ix → Nat) (x : Ex) (σ : St) (hR : RepC g ad x σ ω1) (p9 : Int32)  (lo N : Nat) (fl : Nat → Int64) (ho : ω2 lo = some (.inl (g.2.1 4, N, .inr (.inl fl)))) (hN : 0 < N) (hN2 : N < 2 ^ 31) : CTH l g yL_pressure cL_pressure 4 (some .int) [(0, 9, 12, 13)] 7 112 1 6 [.ref (ad .main), .int p9, .ref lo] (wjn ω1 ω2) (okH g ad (cd_pressure σ p9) (Int32.toInt64 (vl_pressure σ p9)) (nx_pressure σ p9) σ lo N fl ω2) := by
  refine CTH.of (own := "BoringheadLaw") rfl rfl (le_b rfl) rfl ?_
  intro p e s m args below meth c sz0 hC hr htab hNc
  refine s_aload_n hC dL_pressure_0 rfl rfl 2 rfl ?_
  refine s_iconst hC (v := 0) dL_pressure_1 rfl (by decide) ?_
  refine s_aload_n hC dL_pressure_2 rfl rfl 0 rfl ?_
  refine s_iload_n hC dL_pressure_3 rfl rfl 1 rfl ?_
  refine s_callV hC (CT.frame (ct_X9_pressure l g hst _ _ _ _ hR p9) hd) ce_X9_pressure cs_X9 (wjn_l (RepC.f_main hR)) tw_725 rfl rfl ⟨⟨le_b rfl, le_b rfl⟩, le_b rfl, le_b rfl⟩ (le_b rfl) dL_pressure_4 rfl (fun r w h9 => ?_) (fun E w h9 => ?_)
  · obtain ⟨w1, ⟨hc, rfl, ad2, x2, hR2, hm2⟩, rfl, hd2⟩ := h9
    refine s_i2l hC dL_pressure_7 rfl rfl ?_
    refine s_last hC ((wjn_r (djn_at hd2 ho)).trans ho) (show vp_in 0 N from vp_in_nI hN hN2) dL_pressure_8 rfl ?_
    refine s_goto hC (tgt := 15) dL_pressure_9 (by decide) ?_
    refine s_iconst hC (v := 0) dL_pressure_15 rfl (by decide) ?_
    refine s_iret hC hr dL_pressure_16 (le_b rfl) (le_b rfl) ?_
    exact okH_ok hc rfl hR2 hm2 hd2 ho rfl
  · obtain ⟨w1, ⟨hc, hE, ad2, x2, hR2, hm2⟩, rfl, hd2⟩ := h9
    have hk : (cd_pressure σ p9) = 1 := by
      have h8 := (List.getElem?_eq_some_iff.mp hE).1
      simp only [List.length_cons, List.length_nil] at h8
      omega
    rcases hk with hk
    · have hE2 : "java/lang/IllegalArgumentException" = E := by
        rw [hk] at hE
        exact Option.some.inj hE
      subst hE2
      refine s_catch hC hNc htab [] ⟨0, 9, 12, 13⟩ [] rfl (fun z hz => by cases hz) rfl (by decide) tw_426 tw_452 rfl (fun q => ?_)
      refine s_astore_n hC (L' := [(3, _), (0, _), (1, _), (2, _)]) dL_pressure_12 rfl rfl (le_b rfl) rfl ?_
      refine s_iconst hC (v := 1) dL_pressure_13 rfl (by decide) ?_
      refine s_iret hC hr dL_pressure_14 (le_b rfl) (le_b rfl) ?_
      exact okH_no hc (by rw [hk]; rfl) hR2 hm2 hd2
theorem ce_L_lower : CeX yL_lower cL_lower 4 (some .int) [(0, 9, 12, 13)] 3 := ⟨tw_732, tw_731, tw_0, ⟨by decide +kernel, by decide +kernel, by decide +kernel⟩⟩
set_option maxHeartbeats 1000000 in
set_option maxRecDepth 100000 in
theorem ct_L_lower (l : Launch) (g : Gl) (hst : l.stackTraces = false) (ω1 ω2 : Wd) (hd : djn ω1 ω2) (ad : Ix → Nat) (x : Ex) (σ : St) (hR : RepC g ad x σ ω1) (p9 : Int32)  (lo N : Nat) (fl : Nat → Int64) (ho : ω2 lo = some (.inl (g.2.1 4, N, .inr (.inl fl)))) (hN : 0 < N) (hN2 : N < 2 ^ 31) : CTH l g yL_lower cL_lower 4 (some .int) [(0, 9, 12, 13)] 7 111 1 6 [.ref (ad .main), .int p9, .ref lo] (wjn ω1 ω2) (okH g ad (cd_lower σ p9) (Int32.toInt64 (vl_lower σ p9)) σ σ lo N fl ω2) := by
  refine CTH.of (own := "BoringheadLaw") rfl rfl (le_b rfl) rfl ?_
  intro p e s m args below meth c sz0 hC hr htab hNc
  refine s_aload_n hC dL_lower_0 rfl rfl 2 rfl ?_
  refine s_iconst hC (v := 0) dL_lower_1 rfl (by decide) ?_
  refine s_aload_n hC dL_lower_2 rfl rfl 0 rfl ?_
  refine s_iload_n hC dL_lower_3 rfl rfl 1 rfl ?_
  refine s_callV hC (CT.frame (ct_X9_lower l g hst _ _ _ _ hR p9) hd) ce_X9_lower cs_X9 (wjn_l (RepC.f_main hR)) tw_733 rfl rfl ⟨⟨le_b rfl, le_b rfl⟩, le_b rfl, le_b rfl⟩ (le_b rfl) dL_lower_4 rfl (fun r w h9 => ?_) (fun E w h9 => ?_)
  · obtain ⟨w1, ⟨hc, rfl, ad2, x2, hR2, hm2⟩, rfl, hd2⟩ := h9
    refine s_i2l hC dL_lower_7 rfl rfl ?_
    refine s_last hC ((wjn_r (djn_at hd2 ho)).trans ho) (show vp_in 0 N from vp_in_nI hN hN2) dL_lower_8 rfl ?_
    refine s_goto hC (tgt := 15) dL_lower_9 (by decide) ?_
    refine s_iconst hC (v := 0) dL_lower_15 rfl (by decide) ?_
    refine s_iret hC hr dL_lower_16 (le_b rfl) (le_b rfl) ?_
    exact okH_ok hc rfl hR2 hm2 hd2 ho rfl
  · obtain ⟨w1, ⟨hc, hE, ad2, x2, hR2, hm2⟩, rfl, hd2⟩ := h9
    have hk : (cd_lower σ p9) = 1 := by
      have h8 := (List.getElem?_eq_some_iff.mp hE).1
      simp only [List.length_cons, List.length_nil] at h8
      omega
    rcases hk with hk
    · have hE2 : "java/lang/IllegalArgumentException" = E := by
        rw [hk] at hE
        exact Option.some.inj hE
      subst hE2
      refine s_catch hC hNc htab [] ⟨0, 9, 12, 13⟩ [] rfl (fun z hz => by cases hz) rfl (by decide) tw_426 tw_452 rfl (fun q => ?_)
      refine s_astore_n hC (L' := [(3, _), (0, _), (1, _), (2, _)]) dL_lower_12 rfl rfl (le_b rfl) rfl ?_
      refine s_iconst hC (v := 1) dL_lower_13 rfl (by decide) ?_
      refine s_iret hC hr dL_lower_14 (le_b rfl) (le_b rfl) ?_
      exact okH_no hc (by rw [hk]; rfl) hR2 hm2 hd2
theorem ce_L_upper : CeX yL_upper cL_upper 4 (some .int) [(0, 9, 12, 13)] 3 := ⟨tw_745, tw_744, tw_0, ⟨by decide +kernel, by decide +kernel, by decide +kernel⟩⟩
set_option maxHeartbeats 1000000 in
set_option maxRecDepth 100000 in
theorem ct_L_upper (l : Launch) (g : Gl) (hst : l.stackTraces = false) (ω1 ω2 : Wd) (hd : djn ω1 ω2) (ad : Ix → Nat) (x : Ex) (σ : St) (hR : RepC g ad x σ ω1) (p9 : Int32)  (lo N : Nat) (fl : Nat → Int64) (ho : ω2 lo = some (.inl (g.2.1 4, N, .inr (.inl fl)))) (hN : 0 < N) (hN2 : N < 2 ^ 31) : CTH l g yL_upper cL_upper 4 (some .int) [(0, 9, 12, 13)] 7 111 1 6 [.ref (ad .main), .int p9, .ref lo] (wjn ω1 ω2) (okH g ad (cd_upper σ p9) (Int32.toInt64 (vl_upper σ p9)) σ σ lo N fl ω2) := by
  refine CTH.of (own := "BoringheadLaw") rfl rfl (le_b rfl) rfl ?_
  intro p e s m args below meth c sz0 hC hr htab hNc
  refine s_aload_n hC dL_upper_0 rfl rfl 2 rfl ?_
  refine s_iconst hC (v := 0) dL_upper_1 rfl (by decide) ?_
  refine s_aload_n hC dL_upper_2 rfl rfl 0 rfl ?_
  refine s_iload_n hC dL_upper_3 rfl rfl 1 rfl ?_
  refine s_callV hC (CT.frame (ct_X9_upper l g hst _ _ _ _ hR p9) hd) ce_X9_upper cs_X9 (wjn_l (RepC.f_main hR)) tw_746 rfl rfl ⟨⟨le_b rfl, le_b rfl⟩, le_b rfl, le_b rfl⟩ (le_b rfl) dL_upper_4 rfl (fun r w h9 => ?_) (fun E w h9 => ?_)
  · obtain ⟨w1, ⟨hc, rfl, ad2, x2, hR2, hm2⟩, rfl, hd2⟩ := h9
    refine s_i2l hC dL_upper_7 rfl rfl ?_
    refine s_last hC ((wjn_r (djn_at hd2 ho)).trans ho) (show vp_in 0 N from vp_in_nI hN hN2) dL_upper_8 rfl ?_
    refine s_goto hC (tgt := 15) dL_upper_9 (by decide) ?_
    refine s_iconst hC (v := 0) dL_upper_15 rfl (by decide) ?_
    refine s_iret hC hr dL_upper_16 (le_b rfl) (le_b rfl) ?_
    exact okH_ok hc rfl hR2 hm2 hd2 ho rfl
  · obtain ⟨w1, ⟨hc, hE, ad2, x2, hR2, hm2⟩, rfl, hd2⟩ := h9
    have hk : (cd_upper σ p9) = 1 := by
      have h8 := (List.getElem?_eq_some_iff.mp hE).1
      simp only [List.length_cons, List.length_nil] at h8
      omega
    rcases hk with hk
    · have hE2 : "java/lang/IllegalArgumentException" = E := by
        rw [hk] at hE
        exact Option.some.inj hE
      subst hE2
      refine s_catch hC hNc htab [] ⟨0, 9, 12, 13⟩ [] rfl (fun z hz => by cases hz) rfl (by decide) tw_426 tw_452 rfl (fun q => ?_)
      refine s_astore_n hC (L' := [(3, _), (0, _), (1, _), (2, _)]) dL_upper_12 rfl rfl (le_b rfl) rfl ?_
      refine s_iconst hC (v := 1) dL_upper_13 rfl (by decide) ?_
      refine s_iret hC hr dL_upper_14 (le_b rfl) (le_b rfl) ?_
      exact okH_no hc (by rw [hk]; rfl) hR2 hm2 hd2
theorem ce_L_worn : CeX yL_worn cL_worn 4 (some .int) [(0, 9, 12, 57)] 3 := ⟨tw_754, tw_753, tw_0, ⟨by decide +kernel, by decide +kernel, by decide +kernel⟩⟩
set_option maxHeartbeats 1000000 in
set_option maxRecDepth 100000 in
theorem ct_L_worn (l : Launch) (g : Gl) (hst : l.stackTraces = false) (ω1 ω2 : Wd) (hd : djn ω1 ω2) (ad : Ix → Nat) (x : Ex) (σ : St) (hR : RepC g ad x σ ω1) (c9 : Int32)  (lo N : Nat) (fl : Nat → Int64) (ho : ω2 lo = some (.inl (g.2.1 4, N, .inr (.inl fl)))) (hN : 0 < N) (hN2 : N < 2 ^ 31) : CTH l g yL_worn cL_worn 4 (some .int) [(0, 9, 12, 57)] 7 111 1 6 [.ref (ad .main), .int c9, .ref lo] (wjn ω1 ω2) (okH g ad (cd_worn σ c9) (Int32.toInt64 (vl_worn σ c9)) σ σ lo N fl ω2) := by
  refine CTH.of (own := "BoringheadLaw") rfl rfl (le_b rfl) rfl ?_
  intro p e s m args below meth c sz0 hC hr htab hNc
  refine s_aload_n hC dL_worn_0 rfl rfl 2 rfl ?_
  refine s_iconst hC (v := 0) dL_worn_1 rfl (by decide) ?_
  refine s_aload_n hC dL_worn_2 rfl rfl 0 rfl ?_
  refine s_iload_n hC dL_worn_3 rfl rfl 1 rfl ?_
  refine s_callV hC (CT.frame (ct_X9_worn l g hst _ _ _ _ hR c9) hd) ce_X9_worn cs_X9 (wjn_l (RepC.f_main hR)) tw_779 rfl rfl ⟨⟨le_b rfl, le_b rfl⟩, le_b rfl, le_b rfl⟩ (le_b rfl) dL_worn_4 rfl (fun r w h9 => ?_) (fun E w h9 => ?_)
  · obtain ⟨w1, ⟨hc, rfl, ad2, x2, hR2, hm2⟩, rfl, hd2⟩ := h9
    refine s_i2l hC dL_worn_7 rfl rfl ?_
    refine s_last hC ((wjn_r (djn_at hd2 ho)).trans ho) (show vp_in 0 N from vp_in_nI hN hN2) dL_worn_8 rfl ?_
    refine s_goto hC (tgt := 15) dL_worn_9 (by decide) ?_
    refine s_iconst hC (v := 0) dL_worn_15 rfl (by decide) ?_
    refine s_iret hC hr dL_worn_16 (le_b rfl) (le_b rfl) ?_
    exact okH_ok hc rfl hR2 hm2 hd2 ho rfl
  · obtain ⟨w1, ⟨hc, hE, ad2, x2, hR2, hm2⟩, rfl, hd2⟩ := h9
    have hk : (cd_worn σ c9) = 1 := by
      have h8 := (List.getElem?_eq_some_iff.mp hE).1
      simp only [List.length_cons, List.length_nil] at h8
      omega
    rcases hk with hk
    · have hE2 : "java/lang/IndexOutOfBoundsException" = E := by
        rw [hk] at hE
        exact Option.some.inj hE
      subst hE2
      refine s_catch hC hNc htab [] ⟨0, 9, 12, 57⟩ [] rfl (fun z hz => by cases hz) rfl (by decide) tw_755 tw_785 rfl (fun q => ?_)
      refine s_astore_n hC (L' := [(3, _), (0, _), (1, _), (2, _)]) dL_worn_12 rfl rfl (le_b rfl) rfl ?_
      refine s_iconst hC (v := 1) dL_worn_13 rfl (by decide) ?_
      refine s_iret hC hr dL_worn_14 (le_b rfl) (le_b rfl) ?_
      exact okH_no hc (by rw [hk]; rfl) hR2 hm2 hd2
theorem ce_L_change : CeX yL_change cL_change 4 (some .int) [(0, 9, 12, 57), (0, 9, 15, 15), (0, 9, 18, 35)] 3 := ⟨tw_798, tw_797, tw_0, ⟨by decide +kernel, by decide +kernel, by decide +kernel⟩⟩
set_option maxHeartbeats 1000000 in
set_option maxRecDepth 100000 in
theorem ct_L_change (l : Launch) (g : Gl) (hst : l.stackTraces = false) (ω1 ω2 : Wd) (hd : djn ω1 ω2) (ad : Ix → Nat) (x : Ex) (σ : St) (hR : RepC g ad x σ ω1) (c9 : Int32)  (lo N : Nat) (fl : Nat → Int64) (ho : ω2 lo = some (.inl (g.2.1 4, N, .inr (.inl fl)))) (hN : 0 < N) (hN2 : N < 2 ^ 31) : CTH l g yL_change cL_change 4 (some .int) [(0, 9, 12, 57), (0, 9, 15, 15), (0, 9, 18, 35)] 8 133 1 6 [.ref (ad .main), .int c9, .ref lo] (wjn ω1 ω2) (okH g ad (cd_change σ c9) (Int32.toInt64 (vl_change σ c9)) (nx_change σ c9) σ lo N fl ω2) := by
  refine CTH.of (own := "BoringheadLaw") rfl rfl (le_b rfl) rfl ?_
  intro p e s m args below meth c sz0 hC hr htab hNc
  refine s_aload_n hC dL_change_0 rfl rfl 2 rfl ?_
  refine s_iconst hC (v := 0) dL_change_1 rfl (by decide) ?_
  refine s_aload_n hC dL_change_2 rfl rfl 0 rfl ?_
  refine s_iload_n hC dL_change_3 rfl rfl 1 rfl ?_
  refine s_callV hC (CT.frame (ct_X9_change l g hst _ _ _ _ hR c9) hd) ce_X9_change cs_X9 (wjn_l (RepC.f_main hR)) tw_799 rfl rfl ⟨⟨le_b rfl, le_b rfl⟩, le_b rfl, le_b rfl⟩ (le_b rfl) dL_change_4 rfl (fun r w h9 => ?_) (fun E w h9 => ?_)
  · obtain ⟨w1, ⟨hc, rfl, ad2, x2, hR2, hm2⟩, rfl, hd2⟩ := h9
    refine s_i2l hC dL_change_7 rfl rfl ?_
    refine s_last hC ((wjn_r (djn_at hd2 ho)).trans ho) (show vp_in 0 N from vp_in_nI hN hN2) dL_change_8 rfl ?_
    refine s_goto hC (tgt := 21) dL_change_9 (by decide) ?_
    refine s_iconst hC (v := 0) dL_change_21 rfl (by decide) ?_
    refine s_iret hC hr dL_change_22 (le_b rfl) (le_b rfl) ?_
    exact okH_ok hc rfl hR2 hm2 hd2 ho rfl
  · obtain ⟨w1, ⟨hc, hE, ad2, x2, hR2, hm2⟩, rfl, hd2⟩ := h9
    have hk : (cd_change σ c9) = 1 ∨ (cd_change σ c9) = 2 ∨ (cd_change σ c9) = 3 := by
      have h8 := (List.getElem?_eq_some_iff.mp hE).1
      simp only [List.length_cons, List.length_nil] at h8
      omega
    rcases hk with hk | hk | hk
    · have hE2 : "java/lang/IndexOutOfBoundsException" = E := by
        rw [hk] at hE
        exact Option.some.inj hE
      subst hE2
      refine s_catch hC hNc htab [] ⟨0, 9, 12, 57⟩ [⟨0, 9, 15, 15⟩, ⟨0, 9, 18, 35⟩] rfl (fun z hz => by cases hz) rfl (by decide) tw_755 tw_785 rfl (fun q => ?_)
      refine s_astore_n hC (L' := [(3, _), (0, _), (1, _), (2, _)]) dL_change_12 rfl rfl (le_b rfl) rfl ?_
      refine s_iconst hC (v := 1) dL_change_13 rfl (by decide) ?_
      refine s_iret hC hr dL_change_14 (le_b rfl) (le_b rfl) ?_
      exact okH_no hc (by rw [hk]; rfl) hR2 hm2 hd2
    · have hE2 : "java/lang/UnsupportedOperationException" = E := by
        rw [hk] at hE
        exact Option.some.inj hE
      subst hE2
      refine s_catch hC hNc htab [⟨0, 9, 12, 57⟩] ⟨0, 9, 15, 15⟩ [⟨0, 9, 18, 35⟩] rfl (fun z hz => by
        simp only [List.mem_cons, List.not_mem_nil, or_false] at hz
        rcases hz with rfl
        · exact ⟨by decide, "java/lang/IndexOutOfBoundsException", tw_755, by decide, by decide, by decide⟩) rfl (by decide) tw_427 tw_527 rfl (fun q => ?_)
      refine s_astore_n hC (L' := [(3, _), (0, _), (1, _), (2, _)]) dL_change_15 rfl rfl (le_b rfl) rfl ?_
      refine s_iconst hC (v := 2) dL_change_16 rfl (by decide) ?_
      refine s_iret hC hr dL_change_17 (le_b rfl) (le_b rfl) ?_
      exact okH_no hc (by rw [hk]; rfl) hR2 hm2 hd2
    · have hE2 : "java/lang/IllegalStateException" = E := by
        rw [hk] at hE
        exact Option.some.inj hE
      subst hE2
      refine s_catch hC hNc htab [⟨0, 9, 12, 57⟩, ⟨0, 9, 15, 15⟩] ⟨0, 9, 18, 35⟩ [] rfl (fun z hz => by
        simp only [List.mem_cons, List.not_mem_nil, or_false] at hz
        rcases hz with rfl | rfl
        · exact ⟨by decide, "java/lang/IndexOutOfBoundsException", tw_755, by decide, by decide, by decide⟩
        · exact ⟨by decide, "java/lang/UnsupportedOperationException", tw_427, by decide, by decide, by decide⟩) rfl (by decide) tw_582 tw_590 rfl (fun q => ?_)
      refine s_astore_n hC (L' := [(3, _), (0, _), (1, _), (2, _)]) dL_change_18 rfl rfl (le_b rfl) rfl ?_
      refine s_iconst hC (v := 3) dL_change_19 rfl (by decide) ?_
      refine s_iret hC hr dL_change_20 (le_b rfl) (le_b rfl) ?_
      exact okH_no hc (by rw [hk]; rfl) hR2 hm2 hd2
theorem ce_L_steer : CeX yL_steer cL_steer 5 (some .int) [(0, 10, 13, 13)] 4 := ⟨tw_818, tw_817, tw_0, ⟨by decide +kernel, by decide +kernel, by decide +kernel⟩⟩
set_option maxHeartbeats 1000000 in
set_option maxRecDepth 100000 in
theorem ct_L_steer (l : Launch) (g : Gl) (hst : l.stackTraces = false) (ω1 ω2 : Wd) (hd : djn ω1 ω2) (ad : Ix → Nat) (x : Ex) (σ : St) (hR : RepC g ad x σ ω1) (r9 : Int32) (u9 : Int32)  (lo N : Nat) (fl : Nat → Int64) (ho : ω2 lo = some (.inl (g.2.1 4, N, .inr (.inl fl)))) (hN : 0 < N) (hN2 : N < 2 ^ 31) : CTH l g yL_steer cL_steer 5 (some .int) [(0, 10, 13, 13)] 7 113 1 6 [.ref (ad .main), .int r9, .int u9, .ref lo] (wjn ω1 ω2) (okH g ad (cd_steer σ r9 u9) (Int32.toInt64 (vl_steer σ r9 u9)) (nx_steer σ r9 u9) σ lo N fl ω2) := by
  refine CTH.of (own := "BoringheadLaw") rfl rfl (le_b rfl) rfl ?_
  intro p e s m args below meth c sz0 hC hr htab hNc
  refine s_aload_n hC dL_steer_0 rfl rfl 3 rfl ?_
  refine s_iconst hC (v := 0) dL_steer_1 rfl (by decide) ?_
  refine s_aload_n hC dL_steer_2 rfl rfl 0 rfl ?_
  refine s_iload_n hC dL_steer_3 rfl rfl 1 rfl ?_
  refine s_iload_n hC dL_steer_4 rfl rfl 2 rfl ?_
  refine s_callV hC (CT.frame (ct_X9_steer l g hst _ _ _ _ hR r9 u9) hd) ce_X9_steer cs_X9 (wjn_l (RepC.f_main hR)) tw_819 rfl rfl ⟨⟨le_b rfl, le_b rfl⟩, le_b rfl, le_b rfl⟩ (le_b rfl) dL_steer_5 rfl (fun r w h9 => ?_) (fun E w h9 => ?_)
  · obtain ⟨w1, ⟨hc, rfl, ad2, x2, hR2, hm2⟩, rfl, hd2⟩ := h9
    refine s_i2l hC dL_steer_8 rfl rfl ?_
    refine s_last hC ((wjn_r (djn_at hd2 ho)).trans ho) (show vp_in 0 N from vp_in_nI hN hN2) dL_steer_9 rfl ?_
    refine s_goto hC (tgt := 17) dL_steer_10 (by decide) ?_
    refine s_iconst hC (v := 0) dL_steer_17 rfl (by decide) ?_
    refine s_iret hC hr dL_steer_18 (le_b rfl) (le_b rfl) ?_
    exact okH_ok hc rfl hR2 hm2 hd2 ho rfl
  · obtain ⟨w1, ⟨hc, hE, ad2, x2, hR2, hm2⟩, rfl, hd2⟩ := h9
    have hk : (cd_steer σ r9 u9) = 1 := by
      have h8 := (List.getElem?_eq_some_iff.mp hE).1
      simp only [List.length_cons, List.length_nil] at h8
      omega
    rcases hk with hk
    · have hE2 : "java/lang/IllegalArgumentException" = E := by
        rw [hk] at hE
        exact Option.some.inj hE
      subst hE2
      refine s_catch hC hNc htab [] ⟨0, 10, 13, 13⟩ [] rfl (fun z hz => by cases hz) rfl (by decide) tw_426 tw_452 rfl (fun q => ?_)
      refine s_astore hC (L' := [(4, _), (0, _), (1, _), (2, _), (3, _)]) dL_steer_13 rfl (le_b rfl) rfl ?_
      refine s_iconst hC (v := 1) dL_steer_15 rfl (by decide) ?_
      refine s_iret hC hr dL_steer_16 (le_b rfl) (le_b rfl) ?_
      exact okH_no hc (by rw [hk]; rfl) hR2 hm2 hd2
theorem ce_L_bars : CeX yL_bars cL_bars 4 (some .int) [(0, 9, 12, 13)] 3 := ⟨tw_826, tw_825, tw_0, ⟨by decide +kernel, by decide +kernel, by decide +kernel⟩⟩
set_option maxHeartbeats 1000000 in
set_option maxRecDepth 100000 in
theorem ct_L_bars (l : Launch) (g : Gl) (hst : l.stackTraces = false) (ω1 ω2 : Wd) (hd : djn ω1 ω2) (ad : Ix → Nat) (x : Ex) (σ : St) (hR : RepC g ad x σ ω1) (t9 : Int32)  (lo N : Nat) (fl : Nat → Int64) (ho : ω2 lo = some (.inl (g.2.1 4, N, .inr (.inl fl)))) (hN : 0 < N) (hN2 : N < 2 ^ 31) : CTH l g yL_bars cL_bars 4 (some .int) [(0, 9, 12, 13)] 7 130 1 6 [.ref (ad .main), .int t9, .ref lo] (wjn ω1 ω2) (okH g ad (cd_bars σ t9) (Int32.toInt64 (vl_bars σ t9)) σ σ lo N fl ω2) := by
  refine CTH.of (own := "BoringheadLaw") rfl rfl (le_b rfl) rfl ?_
  intro p e s m args below meth c sz0 hC hr htab hNc
  refine s_aload_n hC dL_bars_0 rfl rfl 2 rfl ?_
  refine s_iconst hC (v := 0) dL_bars_1 rfl (by decide) ?_
  refine s_aload_n hC dL_bars_2 rfl rfl 0 rfl ?_
  refine s_iload_n hC dL_bars_3 rfl rfl 1 rfl ?_
  refine s_callV hC (CT.frame (ct_X9_bars l g hst _ _ _ _ hR t9) hd) ce_X9_bars cs_X9 (wjn_l (RepC.f_main hR)) tw_827 rfl rfl ⟨⟨le_b rfl, le_b rfl⟩, le_b rfl, le_b rfl⟩ (le_b rfl) dL_bars_4 rfl (fun r w h9 => ?_) (fun E w h9 => ?_)
  · obtain ⟨w1, ⟨hc, rfl, ad2, x2, hR2, hm2⟩, rfl, hd2⟩ := h9
    refine s_i2l hC dL_bars_7 rfl rfl ?_
    refine s_last hC ((wjn_r (djn_at hd2 ho)).trans ho) (show vp_in 0 N from vp_in_nI hN hN2) dL_bars_8 rfl ?_
    refine s_goto hC (tgt := 15) dL_bars_9 (by decide) ?_
    refine s_iconst hC (v := 0) dL_bars_15 rfl (by decide) ?_
    refine s_iret hC hr dL_bars_16 (le_b rfl) (le_b rfl) ?_
    exact okH_ok hc rfl hR2 hm2 hd2 ho rfl
  · obtain ⟨w1, ⟨hc, hE, ad2, x2, hR2, hm2⟩, rfl, hd2⟩ := h9
    have hk : (cd_bars σ t9) = 1 := by
      have h8 := (List.getElem?_eq_some_iff.mp hE).1
      simp only [List.length_cons, List.length_nil] at h8
      omega
    rcases hk with hk
    · have hE2 : "java/lang/IllegalArgumentException" = E := by
        rw [hk] at hE
        exact Option.some.inj hE
      subst hE2
      refine s_catch hC hNc htab [] ⟨0, 9, 12, 13⟩ [] rfl (fun z hz => by cases hz) rfl (by decide) tw_426 tw_452 rfl (fun q => ?_)
      refine s_astore_n hC (L' := [(3, _), (0, _), (1, _), (2, _)]) dL_bars_12 rfl rfl (le_b rfl) rfl ?_
      refine s_iconst hC (v := 1) dL_bars_13 rfl (by decide) ?_
      refine s_iret hC hr dL_bars_14 (le_b rfl) (le_b rfl) ?_
      exact okH_no hc (by rw [hk]; rfl) hR2 hm2 hd2
theorem ce_L_advance : CeX yL_advance cL_advance 4 (some .int) [(0, 9, 12, 13), (0, 9, 15, 15), (0, 9, 18, 35)] 3 := ⟨tw_864, tw_863, tw_0, ⟨by decide +kernel, by decide +kernel, by decide +kernel⟩⟩
set_option maxHeartbeats 1000000 in
set_option maxRecDepth 100000 in
theorem ct_L_advance (l : Launch) (g : Gl) (hst : l.stackTraces = false) (ω1 ω2 : Wd) (hd : djn ω1 ω2) (ad : Ix → Nat) (x : Ex) (σ : St) (hR : RepC g ad x σ ω1) (t9 : Int32)  (lo N : Nat) (fl : Nat → Int64) (ho : ω2 lo = some (.inl (g.2.1 4, N, .inr (.inl fl)))) (hN : 0 < N) (hN2 : N < 2 ^ 31) : CTH l g yL_advance cL_advance 4 (some .int) [(0, 9, 12, 13), (0, 9, 15, 15), (0, 9, 18, 35)] 9 199 3 183 [.ref (ad .main), .int t9, .ref lo] (wjn ω1 ω2) (okH g ad (cd_advance σ t9) (Int32.toInt64 (vl_advance σ t9)) (nx_advance σ t9) σ lo N fl ω2) := by
  refine CTH.of (own := "BoringheadLaw") rfl rfl (le_b rfl) rfl ?_
  intro p e s m args below meth c sz0 hC hr htab hNc
  refine s_aload_n hC dL_advance_0 rfl rfl 2 rfl ?_
  refine s_iconst hC (v := 0) dL_advance_1 rfl (by decide) ?_
  refine s_aload_n hC dL_advance_2 rfl rfl 0 rfl ?_
  refine s_iload_n hC dL_advance_3 rfl rfl 1 rfl ?_
  refine s_callV hC (CT.frame (ct_X9_advance l g hst _ _ _ _ hR t9) hd) ce_X9_advance cs_X9 (wjn_l (RepC.f_main hR)) tw_865 rfl rfl ⟨⟨le_b rfl, le_b rfl⟩, le_b rfl, le_b rfl⟩ (le_b rfl) dL_advance_4 rfl (fun r w h9 => ?_) (fun E w h9 => ?_)
  · obtain ⟨w1, ⟨hc, rfl, ad2, x2, hR2, hm2⟩, rfl, hd2⟩ := h9
    refine s_i2l hC dL_advance_7 rfl rfl ?_
    refine s_last hC ((wjn_r (djn_at hd2 ho)).trans ho) (show vp_in 0 N from vp_in_nI hN hN2) dL_advance_8 rfl ?_
    refine s_goto hC (tgt := 21) dL_advance_9 (by decide) ?_
    refine s_iconst hC (v := 0) dL_advance_21 rfl (by decide) ?_
    refine s_iret hC hr dL_advance_22 (le_b rfl) (le_b rfl) ?_
    exact okH_ok hc rfl hR2 hm2 hd2 ho rfl
  · obtain ⟨w1, ⟨hc, hE, ad2, x2, hR2, hm2⟩, rfl, hd2⟩ := h9
    have hk : (cd_advance σ t9) = 1 ∨ (cd_advance σ t9) = 2 ∨ (cd_advance σ t9) = 3 := by
      have h8 := (List.getElem?_eq_some_iff.mp hE).1
      simp only [List.length_cons, List.length_nil] at h8
      omega
    rcases hk with hk | hk | hk
    · have hE2 : "java/lang/IllegalArgumentException" = E := by
        rw [hk] at hE
        exact Option.some.inj hE
      subst hE2
      refine s_catch hC hNc htab [] ⟨0, 9, 12, 13⟩ [⟨0, 9, 15, 15⟩, ⟨0, 9, 18, 35⟩] rfl (fun z hz => by cases hz) rfl (by decide) tw_426 tw_452 rfl (fun q => ?_)
      refine s_astore_n hC (L' := [(3, _), (0, _), (1, _), (2, _)]) dL_advance_12 rfl rfl (le_b rfl) rfl ?_
      refine s_iconst hC (v := 1) dL_advance_13 rfl (by decide) ?_
      refine s_iret hC hr dL_advance_14 (le_b rfl) (le_b rfl) ?_
      exact okH_no hc (by rw [hk]; rfl) hR2 hm2 hd2
    · have hE2 : "java/lang/UnsupportedOperationException" = E := by
        rw [hk] at hE
        exact Option.some.inj hE
      subst hE2
      refine s_catch hC hNc htab [⟨0, 9, 12, 13⟩] ⟨0, 9, 15, 15⟩ [⟨0, 9, 18, 35⟩] rfl (fun z hz => by
        simp only [List.mem_cons, List.not_mem_nil, or_false] at hz
        rcases hz with rfl
        · exact ⟨by decide, "java/lang/IllegalArgumentException", tw_426, by decide, by decide, by decide⟩) rfl (by decide) tw_427 tw_527 rfl (fun q => ?_)
      refine s_astore_n hC (L' := [(3, _), (0, _), (1, _), (2, _)]) dL_advance_15 rfl rfl (le_b rfl) rfl ?_
      refine s_iconst hC (v := 2) dL_advance_16 rfl (by decide) ?_
      refine s_iret hC hr dL_advance_17 (le_b rfl) (le_b rfl) ?_
      exact okH_no hc (by rw [hk]; rfl) hR2 hm2 hd2
    · have hE2 : "java/lang/IllegalStateException" = E := by
        rw [hk] at hE
        exact Option.some.inj hE
      subst hE2
      refine s_catch hC hNc htab [⟨0, 9, 12, 13⟩, ⟨0, 9, 15, 15⟩] ⟨0, 9, 18, 35⟩ [] rfl (fun z hz => by
        simp only [List.mem_cons, List.not_mem_nil, or_false] at hz
        rcases hz with rfl | rfl
        · exact ⟨by decide, "java/lang/IllegalArgumentException", tw_426, by decide, by decide, by decide⟩
        · exact ⟨by decide, "java/lang/UnsupportedOperationException", tw_427, by decide, by decide, by decide⟩) rfl (by decide) tw_582 tw_590 rfl (fun q => ?_)
      refine s_astore_n hC (L' := [(3, _), (0, _), (1, _), (2, _)]) dL_advance_18 rfl rfl (le_b rfl) rfl ?_
      refine s_iconst hC (v := 3) dL_advance_19 rfl (by decide) ?_
      refine s_iret hC hr dL_advance_20 (le_b rfl) (le_b rfl) ?_
      exact okH_no hc (by rw [hk]; rfl) hR2 hm2 hd2
theorem ce_L_off : CeX yL_off cL_off 5 (some .int) [(0, 10, 13, 57)] 4 := ⟨tw_951, tw_950, tw_0, ⟨by decide +kernel, by decide +kernel, by decide +kernel⟩⟩
set_option maxHeartbeats 1000000 in
set_option maxRecDepth 100000 in
theorem ct_L_off (l : Launch) (g : Gl) (hst : l.stackTraces = false) (ω1 ω2 : Wd) (hd : djn ω1 ω2) (ad : Ix → Nat) (x : Ex) (σ : St) (hR : RepC g ad x σ ω1) (r9 : Int32) (b9 : Bool)  (lo N : Nat) (fl : Nat → Int64) (ho : ω2 lo = some (.inl (g.2.1 4, N, .inr (.inl fl)))) (hN : 0 < N) (hN2 : N < 2 ^ 31) : CTH l g yL_off cL_off 5 (some .int) [(0, 10, 13, 57)] 8 134 1 6 [.ref (ad .main), .int r9, .int (bI b9), .ref lo] (wjn ω1 ω2) (okH g ad (cd_off σ r9 b9) (Int32.toInt64 (vl_off σ r9 b9)) σ σ lo N fl ω2) := by
  refine CTH.of (own := "BoringheadLaw") rfl rfl (le_b rfl) rfl ?_
  intro p e s m args below meth c sz0 hC hr htab hNc
  refine s_aload_n hC dL_off_0 rfl rfl 3 rfl ?_
  refine s_iconst hC (v := 0) dL_off_1 rfl (by decide) ?_
  refine s_aload_n hC dL_off_2 rfl rfl 0 rfl ?_
  refine s_iload_n hC dL_off_3 rfl rfl 1 rfl ?_
  refine s_iload_n hC dL_off_4 rfl rfl 2 rfl ?_
  refine s_callV hC (CT.frame (ct_X9_off l g hst _ _ _ _ hR r9 b9) hd) ce_X9_off cs_X9 (wjn_l (RepC.f_main hR)) tw_952 rfl rfl ⟨⟨le_b rfl, le_b rfl⟩, le_b rfl, le_b rfl⟩ (le_b rfl) dL_off_5 rfl (fun r w h9 => ?_) (fun E w h9 => ?_)
  · obtain ⟨w1, ⟨hc, rfl, ad2, x2, hR2, hm2⟩, rfl, hd2⟩ := h9
    refine s_i2l hC dL_off_8 rfl rfl ?_
    refine s_last hC ((wjn_r (djn_at hd2 ho)).trans ho) (show vp_in 0 N from vp_in_nI hN hN2) dL_off_9 rfl ?_
    refine s_goto hC (tgt := 17) dL_off_10 (by decide) ?_
    refine s_iconst hC (v := 0) dL_off_17 rfl (by decide) ?_
    refine s_iret hC hr dL_off_18 (le_b rfl) (le_b rfl) ?_
    exact okH_ok hc rfl hR2 hm2 hd2 ho rfl
  · obtain ⟨w1, ⟨hc, hE, ad2, x2, hR2, hm2⟩, rfl, hd2⟩ := h9
    have hk : (cd_off σ r9 b9) = 1 := by
      have h8 := (List.getElem?_eq_some_iff.mp hE).1
      simp only [List.length_cons, List.length_nil] at h8
      omega
    rcases hk with hk
    · have hE2 : "java/lang/IndexOutOfBoundsException" = E := by
        rw [hk] at hE
        exact Option.some.inj hE
      subst hE2
      refine s_catch hC hNc htab [] ⟨0, 10, 13, 57⟩ [] rfl (fun z hz => by cases hz) rfl (by decide) tw_755 tw_785 rfl (fun q => ?_)
      refine s_astore hC (L' := [(4, _), (0, _), (1, _), (2, _), (3, _)]) dL_off_13 rfl (le_b rfl) rfl ?_
      refine s_iconst hC (v := 1) dL_off_15 rfl (by decide) ?_
      refine s_iret hC hr dL_off_16 (le_b rfl) (le_b rfl) ?_
      exact okH_no hc (by rw [hk]; rfl) hR2 hm2 hd2
theorem ce_L_rotation : CeX yL_rotation cL_rotation 4 (some .int) [(0, 9, 12, 57)] 3 := ⟨tw_963, tw_962, tw_0, ⟨by decide +kernel, by decide +kernel, by decide +kernel⟩⟩
set_option maxHeartbeats 1000000 in
set_option maxRecDepth 100000 in
theorem ct_L_rotation (l : Launch) (g : Gl) (hst : l.stackTraces = false) (ω1 ω2 : Wd) (hd : djn ω1 ω2) (ad : Ix → Nat) (x : Ex) (σ : St) (hR : RepC g ad x σ ω1) (r9 : Int32)  (lo N : Nat) (fl : Nat → Int64) (ho : ω2 lo = some (.inl (g.2.1 4, N, .inr (.inl fl)))) (hN : 0 < N) (hN2 : N < 2 ^ 31) : CTH l g yL_rotation cL_rotation 4 (some .int) [(0, 9, 12, 57)] 8 132 1 6 [.ref (ad .main), .int r9, .ref lo] (wjn ω1 ω2) (okH g ad (cd_rotation σ r9) (Int32.toInt64 (vl_rotation σ r9)) σ σ lo N fl ω2) := by
  refine CTH.of (own := "BoringheadLaw") rfl rfl (le_b rfl) rfl ?_
  intro p e s m args below meth c sz0 hC hr htab hNc
  refine s_aload_n hC dL_rotation_0 rfl rfl 2 rfl ?_
  refine s_iconst hC (v := 0) dL_rotation_1 rfl (by decide) ?_
  refine s_aload_n hC dL_rotation_2 rfl rfl 0 rfl ?_
  refine s_iload_n hC dL_rotation_3 rfl rfl 1 rfl ?_
  refine s_callV hC (CT.frame (ct_X9_rotation l g hst _ _ _ _ hR r9) hd) ce_X9_rotation cs_X9 (wjn_l (RepC.f_main hR)) tw_964 rfl rfl ⟨⟨le_b rfl, le_b rfl⟩, le_b rfl, le_b rfl⟩ (le_b rfl) dL_rotation_4 rfl (fun r w h9 => ?_) (fun E w h9 => ?_)
  · obtain ⟨w1, ⟨hc, rfl, ad2, x2, hR2, hm2⟩, rfl, hd2⟩ := h9
    refine s_i2l hC dL_rotation_7 rfl rfl ?_
    refine s_last hC ((wjn_r (djn_at hd2 ho)).trans ho) (show vp_in 0 N from vp_in_nI hN hN2) dL_rotation_8 rfl ?_
    refine s_goto hC (tgt := 15) dL_rotation_9 (by decide) ?_
    refine s_iconst hC (v := 0) dL_rotation_15 rfl (by decide) ?_
    refine s_iret hC hr dL_rotation_16 (le_b rfl) (le_b rfl) ?_
    exact okH_ok hc rfl hR2 hm2 hd2 ho rfl
  · obtain ⟨w1, ⟨hc, hE, ad2, x2, hR2, hm2⟩, rfl, hd2⟩ := h9
    have hk : (cd_rotation σ r9) = 1 := by
      have h8 := (List.getElem?_eq_some_iff.mp hE).1
      simp only [List.length_cons, List.length_nil] at h8
      omega
    rcases hk with hk
    · have hE2 : "java/lang/IndexOutOfBoundsException" = E := by
        rw [hk] at hE
        exact Option.some.inj hE
      subst hE2
      refine s_catch hC hNc htab [] ⟨0, 9, 12, 57⟩ [] rfl (fun z hz => by cases hz) rfl (by decide) tw_755 tw_785 rfl (fun q => ?_)
      refine s_astore_n hC (L' := [(3, _), (0, _), (1, _), (2, _)]) dL_rotation_12 rfl rfl (le_b rfl) rfl ?_
      refine s_iconst hC (v := 1) dL_rotation_13 rfl (by decide) ?_
      refine s_iret hC hr dL_rotation_14 (le_b rfl) (le_b rfl) ?_
      exact okH_no hc (by rw [hk]; rfl) hR2 hm2 hd2
theorem ce_L_plan : CeX yL_plan cL_plan 4 (some .int) [(0, 9, 12, 13)] 3 := ⟨tw_970, tw_969, tw_0, ⟨by decide +kernel, by decide +kernel, by decide +kernel⟩⟩
set_option maxHeartbeats 1000000 in
set_option maxRecDepth 100000 in
theorem ct_L_plan (l : Launch) (g : Gl) (hst : l.stackTraces = false) (ω1 ω2 : Wd) (hd : djn ω1 ω2) (ad : Ix → Nat) (x : Ex) (σ : St) (hR : RepC g ad x σ ω1) (r9 : Int32)  (lo N : Nat) (fl : Nat → Int64) (ho : ω2 lo = some (.inl (g.2.1 4, N, .inr (.inl fl)))) (hN : 0 < N) (hN2 : N < 2 ^ 31) : CTH l g yL_plan cL_plan 4 (some .int) [(0, 9, 12, 13)] 7 159 1 6 [.ref (ad .main), .int r9, .ref lo] (wjn ω1 ω2) (okH g ad (cd_plan σ r9) (Int32.toInt64 (vl_plan σ r9)) σ σ lo N fl ω2) := by
  refine CTH.of (own := "BoringheadLaw") rfl rfl (le_b rfl) rfl ?_
  intro p e s m args below meth c sz0 hC hr htab hNc
  refine s_aload_n hC dL_plan_0 rfl rfl 2 rfl ?_
  refine s_iconst hC (v := 0) dL_plan_1 rfl (by decide) ?_
  refine s_aload_n hC dL_plan_2 rfl rfl 0 rfl ?_
  refine s_iload_n hC dL_plan_3 rfl rfl 1 rfl ?_
  refine s_callV hC (CT.frame (ct_X9_plan l g hst _ _ _ _ hR r9) hd) ce_X9_plan cs_X9 (wjn_l (RepC.f_main hR)) tw_971 rfl rfl ⟨⟨le_b rfl, le_b rfl⟩, le_b rfl, le_b rfl⟩ (le_b rfl) dL_plan_4 rfl (fun r w h9 => ?_) (fun E w h9 => ?_)
  · obtain ⟨w1, ⟨hc, rfl, ad2, x2, hR2, hm2⟩, rfl, hd2⟩ := h9
    refine s_i2l hC dL_plan_7 rfl rfl ?_
    refine s_last hC ((wjn_r (djn_at hd2 ho)).trans ho) (show vp_in 0 N from vp_in_nI hN hN2) dL_plan_8 rfl ?_
    refine s_goto hC (tgt := 15) dL_plan_9 (by decide) ?_
    refine s_iconst hC (v := 0) dL_plan_15 rfl (by decide) ?_
    refine s_iret hC hr dL_plan_16 (le_b rfl) (le_b rfl) ?_
    exact okH_ok hc rfl hR2 hm2 hd2 ho rfl
  · obtain ⟨w1, ⟨hc, hE, ad2, x2, hR2, hm2⟩, rfl, hd2⟩ := h9
    have hk : (cd_plan σ r9) = 1 := by
      have h8 := (List.getElem?_eq_some_iff.mp hE).1
      simp only [List.length_cons, List.length_nil] at h8
      omega
    rcases hk with hk
    · have hE2 : "java/lang/IllegalArgumentException" = E := by
        rw [hk] at hE
        exact Option.some.inj hE
      subst hE2
      refine s_catch hC hNc htab [] ⟨0, 9, 12, 13⟩ [] rfl (fun z hz => by cases hz) rfl (by decide) tw_426 tw_452 rfl (fun q => ?_)
      refine s_astore_n hC (L' := [(3, _), (0, _), (1, _), (2, _)]) dL_plan_12 rfl rfl (le_b rfl) rfl ?_
      refine s_iconst hC (v := 1) dL_plan_13 rfl (by decide) ?_
      refine s_iret hC hr dL_plan_14 (le_b rfl) (le_b rfl) ?_
      exact okH_no hc (by rw [hk]; rfl) hR2 hm2 hd2
theorem ce_L_squares : CeX yL_squares cL_squares 4 (some .int) [(0, 8, 11, 13)] 3 := ⟨tw_998, tw_997, tw_0, ⟨by decide +kernel, by decide +kernel, by decide +kernel⟩⟩
set_option maxHeartbeats 1000000 in
set_option maxRecDepth 100000 in
theorem ct_L_squares (l : Launch) (g : Gl) (hst : l.stackTraces = false) (ω1 ω2 : Wd) (hd : djn ω1 ω2) (ad : Ix → Nat) (x : Ex) (σ : St) (hR : RepC g ad x σ ω1) (r9 : Int32)  (lo N : Nat) (fl : Nat → Int64) (ho : ω2 lo = some (.inl (g.2.1 4, N, .inr (.inl fl)))) (hN : 0 < N) (hN2 : N < 2 ^ 31) : CTH l g yL_squares cL_squares 4 (some .int) [(0, 8, 11, 13)] 7 159 1 6 [.ref (ad .main), .int r9, .ref lo] (wjn ω1 ω2) (okH g ad (cd_squares σ r9) (vl_squares σ r9) σ σ lo N fl ω2) := by
  refine CTH.of (own := "BoringheadLaw") rfl rfl (le_b rfl) rfl ?_
  intro p e s m args below meth c sz0 hC hr htab hNc
  refine s_aload_n hC dL_squares_0 rfl rfl 2 rfl ?_
  refine s_iconst hC (v := 0) dL_squares_1 rfl (by decide) ?_
  refine s_aload_n hC dL_squares_2 rfl rfl 0 rfl ?_
  refine s_iload_n hC dL_squares_3 rfl rfl 1 rfl ?_
  refine s_callV hC (CT.frame (ct_X9_squares l g hst _ _ _ _ hR r9) hd) ce_X9_squares cs_X9 (wjn_l (RepC.f_main hR)) tw_999 rfl rfl ⟨⟨le_b rfl, le_b rfl⟩, le_b rfl, le_b rfl⟩ (le_b rfl) dL_squares_4 rfl (fun r w h9 => ?_) (fun E w h9 => ?_)
  · obtain ⟨w1, ⟨hc, rfl, ad2, x2, hR2, hm2⟩, rfl, hd2⟩ := h9
    refine s_last hC ((wjn_r (djn_at hd2 ho)).trans ho) (show vp_in 0 N from vp_in_nI hN hN2) dL_squares_7 rfl ?_
    refine s_goto hC (tgt := 14) dL_squares_8 (by decide) ?_
    refine s_iconst hC (v := 0) dL_squares_14 rfl (by decide) ?_
    refine s_iret hC hr dL_squares_15 (le_b rfl) (le_b rfl) ?_
    exact okH_ok hc rfl hR2 hm2 hd2 ho rfl
  · obtain ⟨w1, ⟨hc, hE, ad2, x2, hR2, hm2⟩, rfl, hd2⟩ := h9
    have hk : (cd_squares σ r9) = 1 := by
      have h8 := (List.getElem?_eq_some_iff.mp hE).1
      simp only [List.length_cons, List.length_nil] at h8
      omega
    rcases hk with hk
    · have hE2 : "java/lang/IllegalArgumentException" = E := by
        rw [hk] at hE
        exact Option.some.inj hE
      subst hE2
      refine s_catch hC hNc htab [] ⟨0, 8, 11, 13⟩ [] rfl (fun z hz => by cases hz) rfl (by decide) tw_426 tw_452 rfl (fun q => ?_)
      refine s_astore_n hC (L' := [(3, _), (0, _), (1, _), (2, _)]) dL_squares_11 rfl rfl (le_b rfl) rfl ?_
      refine s_iconst hC (v := 1) dL_squares_12 rfl (by decide) ?_
      refine s_iret hC hr dL_squares_13 (le_b rfl) (le_b rfl) ?_
      exact okH_no hc (by rw [hk]; rfl) hR2 hm2 hd2
theorem ce_L_grout : CeX yL_grout cL_grout 5 (some .int) [(0, 10, 13, 57), (0, 10, 17, 13), (0, 10, 21, 15)] 4 := ⟨tw_1005, tw_1004, tw_0, ⟨by decide +kernel, by decide +kernel, by decide +kernel⟩⟩
set_option maxHeartbeats 1000000 in
set_option maxRecDepth 100000 in
theorem ct_L_grout (l : Launch) (g : Gl) (hst : l.stackTraces = false) (ω1 ω2 : Wd) (hd : djn ω1 ω2) (ad : Ix → Nat) (x : Ex) (σ : St) (hR : RepC g ad x σ ω1) (r9 : Int32) (a9 : Int32)  (lo N : Nat) (fl : Nat → Int64) (ho : ω2 lo = some (.inl (g.2.1 4, N, .inr (.inl fl)))) (hN : 0 < N) (hN2 : N < 2 ^ 31) : CTH l g yL_grout cL_grout 5 (some .int) [(0, 10, 13, 57), (0, 10, 17, 13), (0, 10, 21, 15)] 8 134 2 12 [.ref (ad .main), .int r9, .int a9, .ref lo] (wjn ω1 ω2) (okH g ad (cd_grout σ r9 a9) (Int32.toInt64 (vl_grout σ r9 a9)) (nx_grout σ r9 a9) σ lo N fl ω2) := by
  refine CTH.of (own := "BoringheadLaw") rfl rfl (le_b rfl) rfl ?_
  intro p e s m args below meth c sz0 hC hr htab hNc
  refine s_aload_n hC dL_grout_0 rfl rfl 3 rfl ?_
  refine s_iconst hC (v := 0) dL_grout_1 rfl (by decide) ?_
  refine s_aload_n hC dL_grout_2 rfl rfl 0 rfl ?_
  refine s_iload_n hC dL_grout_3 rfl rfl 1 rfl ?_
  refine s_iload_n hC dL_grout_4 rfl rfl 2 rfl ?_
  refine s_callV hC (CT.frame (ct_X9_grout l g hst _ _ _ _ hR r9 a9) hd) ce_X9_grout cs_X9 (wjn_l (RepC.f_main hR)) tw_1006 rfl rfl ⟨⟨le_b rfl, le_b rfl⟩, le_b rfl, le_b rfl⟩ (le_b rfl) dL_grout_5 rfl (fun r w h9 => ?_) (fun E w h9 => ?_)
  · obtain ⟨w1, ⟨hc, rfl, ad2, x2, hR2, hm2⟩, rfl, hd2⟩ := h9
    refine s_i2l hC dL_grout_8 rfl rfl ?_
    refine s_last hC ((wjn_r (djn_at hd2 ho)).trans ho) (show vp_in 0 N from vp_in_nI hN hN2) dL_grout_9 rfl ?_
    refine s_goto hC (tgt := 25) dL_grout_10 (by decide) ?_
    refine s_iconst hC (v := 0) dL_grout_25 rfl (by decide) ?_
    refine s_iret hC hr dL_grout_26 (le_b rfl) (le_b rfl) ?_
    exact okH_ok hc rfl hR2 hm2 hd2 ho rfl
  · obtain ⟨w1, ⟨hc, hE, ad2, x2, hR2, hm2⟩, rfl, hd2⟩ := h9
    have hk : (cd_grout σ r9 a9) = 1 ∨ (cd_grout σ r9 a9) = 2 ∨ (cd_grout σ r9 a9) = 3 := by
      have h8 := (List.getElem?_eq_some_iff.mp hE).1
      simp only [List.length_cons, List.length_nil] at h8
      omega
    rcases hk with hk | hk | hk
    · have hE2 : "java/lang/IndexOutOfBoundsException" = E := by
        rw [hk] at hE
        exact Option.some.inj hE
      subst hE2
      refine s_catch hC hNc htab [] ⟨0, 10, 13, 57⟩ [⟨0, 10, 17, 13⟩, ⟨0, 10, 21, 15⟩] rfl (fun z hz => by cases hz) rfl (by decide) tw_755 tw_785 rfl (fun q => ?_)
      refine s_astore hC (L' := [(4, _), (0, _), (1, _), (2, _), (3, _)]) dL_grout_13 rfl (le_b rfl) rfl ?_
      refine s_iconst hC (v := 1) dL_grout_15 rfl (by decide) ?_
      refine s_iret hC hr dL_grout_16 (le_b rfl) (le_b rfl) ?_
      exact okH_no hc (by rw [hk]; rfl) hR2 hm2 hd2
    · have hE2 : "java/lang/IllegalArgumentException" = E := by
        rw [hk] at hE
        exact Option.some.inj hE
      subst hE2
      refine s_catch hC hNc htab [⟨0, 10, 13, 57⟩] ⟨0, 10, 17, 13⟩ [⟨0, 10, 21, 15⟩] rfl (fun z hz => by
        simp only [List.mem_cons, List.not_mem_nil, or_false] at hz
        rcases hz with rfl
        · exact ⟨by decide, "java/lang/IndexOutOfBoundsException", tw_755, by decide, by decide, by decide⟩) rfl (by decide) tw_426 tw_452 rfl (fun q => ?_)
      refine s_astore hC (L' := [(4, _), (0, _), (1, _), (2, _), (3, _)]) dL_grout_17 rfl (le_b rfl) rfl ?_
      refine s_iconst hC (v := 2) dL_grout_19 rfl (by decide) ?_
      refine s_iret hC hr dL_grout_20 (le_b rfl) (le_b rfl) ?_
      exact okH_no hc (by rw [hk]; rfl) hR2 hm2 hd2
    · have hE2 : "java/lang/UnsupportedOperationException" = E := by
        rw [hk] at hE
        exact Option.some.inj hE
      subst hE2
      refine s_catch hC hNc htab [⟨0, 10, 13, 57⟩, ⟨0, 10, 17, 13⟩] ⟨0, 10, 21, 15⟩ [] rfl (fun z hz => by
        simp only [List.mem_cons, List.not_mem_nil, or_false] at hz
        rcases hz with rfl | rfl
        · exact ⟨by decide, "java/lang/IndexOutOfBoundsException", tw_755, by decide, by decide, by decide⟩
        · exact ⟨by decide, "java/lang/IllegalArgumentException", tw_426, by decide, by decide, by decide⟩) rfl (by decide) tw_427 tw_527 rfl (fun q => ?_)
      refine s_astore hC (L' := [(4, _), (0, _), (1, _), (2, _), (3, _)]) dL_grout_21 rfl (le_b rfl) rfl ?_
      refine s_iconst hC (v := 3) dL_grout_23 rfl (by decide) ?_
      refine s_iret hC hr dL_grout_24 (le_b rfl) (le_b rfl) ?_
      exact okH_no hc (by rw [hk]; rfl) hR2 hm2 hd2
theorem ce_L_lost : CeX yL_lost cL_lost 4 (some .int) [(0, 9, 12, 57)] 3 := ⟨tw_1018, tw_1017, tw_0, ⟨by decide +kernel, by decide +kernel, by decide +kernel⟩⟩
set_option maxHeartbeats 1000000 in
set_option maxRecDepth 100000 in
theorem ct_L_lost (l : Launch) (g : Gl) (hst : l.stackTraces = false) (ω1 ω2 : Wd) (hd : djn ω1 ω2) (ad : Ix → Nat) (x : Ex) (σ : St) (hR : RepC g ad x σ ω1) (r9 : Int32)  (lo N : Nat) (fl : Nat → Int64) (ho : ω2 lo = some (.inl (g.2.1 4, N, .inr (.inl fl)))) (hN : 0 < N) (hN2 : N < 2 ^ 31) : CTH l g yL_lost cL_lost 4 (some .int) [(0, 9, 12, 57)] 8 132 1 6 [.ref (ad .main), .int r9, .ref lo] (wjn ω1 ω2) (okH g ad (cd_lost σ r9) (Int32.toInt64 (vl_lost σ r9)) σ σ lo N fl ω2) := by
  refine CTH.of (own := "BoringheadLaw") rfl rfl (le_b rfl) rfl ?_
  intro p e s m args below meth c sz0 hC hr htab hNc
  refine s_aload_n hC dL_lost_0 rfl rfl 2 rfl ?_
  refine s_iconst hC (v := 0) dL_lost_1 rfl (by decide) ?_
  refine s_aload_n hC dL_lost_2 rfl rfl 0 rfl ?_
  refine s_iload_n hC dL_lost_3 rfl rfl 1 rfl ?_
  refine s_callV hC (CT.frame (ct_X9_lost l g hst _ _ _ _ hR r9) hd) ce_X9_lost cs_X9 (wjn_l (RepC.f_main hR)) tw_1019 rfl rfl ⟨⟨le_b rfl, le_b rfl⟩, le_b rfl, le_b rfl⟩ (le_b rfl) dL_lost_4 rfl (fun r w h9 => ?_) (fun E w h9 => ?_)
  · obtain ⟨w1, ⟨hc, rfl, ad2, x2, hR2, hm2⟩, rfl, hd2⟩ := h9
    refine s_i2l hC dL_lost_7 rfl rfl ?_
    refine s_last hC ((wjn_r (djn_at hd2 ho)).trans ho) (show vp_in 0 N from vp_in_nI hN hN2) dL_lost_8 rfl ?_
    refine s_goto hC (tgt := 15) dL_lost_9 (by decide) ?_
    refine s_iconst hC (v := 0) dL_lost_15 rfl (by decide) ?_
    refine s_iret hC hr dL_lost_16 (le_b rfl) (le_b rfl) ?_
    exact okH_ok hc rfl hR2 hm2 hd2 ho rfl
  · obtain ⟨w1, ⟨hc, hE, ad2, x2, hR2, hm2⟩, rfl, hd2⟩ := h9
    have hk : (cd_lost σ r9) = 1 := by
      have h8 := (List.getElem?_eq_some_iff.mp hE).1
      simp only [List.length_cons, List.length_nil] at h8
      omega
    rcases hk with hk
    · have hE2 : "java/lang/IndexOutOfBoundsException" = E := by
        rw [hk] at hE
        exact Option.some.inj hE
      subst hE2
      refine s_catch hC hNc htab [] ⟨0, 9, 12, 57⟩ [] rfl (fun z hz => by cases hz) rfl (by decide) tw_755 tw_785 rfl (fun q => ?_)
      refine s_astore_n hC (L' := [(3, _), (0, _), (1, _), (2, _)]) dL_lost_12 rfl rfl (le_b rfl) rfl ?_
      refine s_iconst hC (v := 1) dL_lost_13 rfl (by decide) ?_
      refine s_iret hC hr dL_lost_14 (le_b rfl) (le_b rfl) ?_
      exact okH_no hc (by rw [hk]; rfl) hR2 hm2 hd2
theorem ce_L_house : CeX yL_house cL_house 6 (some .int) [(0, 12, 15, 13), (0, 12, 19, 35)] 5 := ⟨tw_1025, tw_1024, tw_0, ⟨by decide +kernel, by decide +kernel, by decide +kernel⟩⟩
set_option maxHeartbeats 1000000 in
set_option maxRecDepth 100000 in
theorem ct_L_house (l : Launch) (g : Gl) (hst : l.stackTraces = false) (ω1 ω2 : Wd) (hd : djn ω1 ω2) (ad : Ix → Nat) (x : Ex) (σ : St) (hR : RepC g ad x σ ω1) (f9 : Int32) (t9 : Int32) (o9 : Int32)  (lo N : Nat) (fl : Nat → Int64) (ho : ω2 lo = some (.inl (g.2.1 4, N, .inr (.inl fl)))) (hN : 0 < N) (hN2 : N < 2 ^ 31) : CTH l g yL_house cL_house 6 (some .int) [(0, 12, 15, 13), (0, 12, 19, 35)] 8 176 2 170 [.ref (ad .main), .int f9, .int t9, .int o9, .ref lo] (wjn ω1 ω2) (okH g ad (cd_house σ f9 t9 o9) (Int32.toInt64 (vl_house σ f9 t9 o9)) (nx_house σ f9 t9 o9) σ lo N fl ω2) := by
  refine CTH.of (own := "BoringheadLaw") rfl rfl (le_b rfl) rfl ?_
  intro p e s m args below meth c sz0 hC hr htab hNc
  refine s_aload hC dL_house_0 rfl 4 rfl ?_
  refine s_iconst hC (v := 0) dL_house_2 rfl (by decide) ?_
  refine s_aload_n hC dL_house_3 rfl rfl 0 rfl ?_
  refine s_iload_n hC dL_house_4 rfl rfl 1 rfl ?_
  refine s_iload_n hC dL_house_5 rfl rfl 2 rfl ?_
  refine s_iload_n hC dL_house_6 rfl rfl 3 rfl ?_
  refine s_callV hC (CT.frame (ct_X9_house l g hst _ _ _ _ hR f9 t9 o9) hd) ce_X9_house cs_X9 (wjn_l (RepC.f_main hR)) tw_1026 rfl rfl ⟨⟨le_b rfl, le_b rfl⟩, le_b rfl, le_b rfl⟩ (le_b rfl) dL_house_7 rfl (fun r w h9 => ?_) (fun E w h9 => ?_)
  · obtain ⟨w1, ⟨hc, rfl, ad2, x2, hR2, hm2⟩, rfl, hd2⟩ := h9
    refine s_i2l hC dL_house_10 rfl rfl ?_
    refine s_last hC ((wjn_r (djn_at hd2 ho)).trans ho) (show vp_in 0 N from vp_in_nI hN hN2) dL_house_11 rfl ?_
    refine s_goto hC (tgt := 23) dL_house_12 (by decide) ?_
    refine s_iconst hC (v := 0) dL_house_23 rfl (by decide) ?_
    refine s_iret hC hr dL_house_24 (le_b rfl) (le_b rfl) ?_
    exact okH_ok hc rfl hR2 hm2 hd2 ho rfl
  · obtain ⟨w1, ⟨hc, hE, ad2, x2, hR2, hm2⟩, rfl, hd2⟩ := h9
    have hk : (cd_house σ f9 t9 o9) = 1 ∨ (cd_house σ f9 t9 o9) = 2 := by
      have h8 := (List.getElem?_eq_some_iff.mp hE).1
      simp only [List.length_cons, List.length_nil] at h8
      omega
    rcases hk with hk | hk
    · have hE2 : "java/lang/IllegalArgumentException" = E := by
        rw [hk] at hE
        exact Option.some.inj hE
      subst hE2
      refine s_catch hC hNc htab [] ⟨0, 12, 15, 13⟩ [⟨0, 12, 19, 35⟩] rfl (fun z hz => by cases hz) rfl (by decide) tw_426 tw_452 rfl (fun q => ?_)
      refine s_astore hC (L' := [(5, _), (0, _), (1, _), (2, _), (3, _), (4, _)]) dL_house_15 rfl (le_b rfl) rfl ?_
      refine s_iconst hC (v := 1) dL_house_17 rfl (by decide) ?_
      refine s_iret hC hr dL_house_18 (le_b rfl) (le_b rfl) ?_
      exact okH_no hc (by rw [hk]; rfl) hR2 hm2 hd2
    · have hE2 : "java/lang/IllegalStateException" = E := by
        rw [hk] at hE
        exact Option.some.inj hE
      subst hE2
      refine s_catch hC hNc htab [⟨0, 12, 15, 13⟩] ⟨0, 12, 19, 35⟩ [] rfl (fun z hz => by
        simp only [List.mem_cons, List.not_mem_nil, or_false] at hz
        rcases hz with rfl
        · exact ⟨by decide, "java/lang/IllegalArgumentException", tw_426, by decide, by decide, by decide⟩) rfl (by decide) tw_582 tw_590 rfl (fun q => ?_)
      refine s_astore hC (L' := [(5, _), (0, _), (1, _), (2, _), (3, _), (4, _)]) dL_house_19 rfl (le_b rfl) rfl ?_
      refine s_iconst hC (v := 2) dL_house_21 rfl (by decide) ?_
      refine s_iret hC hr dL_house_22 (le_b rfl) (le_b rfl) ?_
      exact okH_no hc (by rw [hk]; rfl) hR2 hm2 hd2
theorem ce_L_settles : CeX yL_settles cL_settles 5 (some .int) [(0, 10, 13, 57)] 4 := ⟨tw_1068, tw_1067, tw_0, ⟨by decide +kernel, by decide +kernel, by decide +kernel⟩⟩
set_option maxHeartbeats 1000000 in
set_option maxRecDepth 100000 in
theorem ct_L_settles (l : Launch) (g : Gl) (hst : l.stackTraces = false) (ω1 ω2 : Wd) (hd : djn ω1 ω2) (ad : Ix → Nat) (x : Ex) (σ : St) (hR : RepC g ad x σ ω1) (r9 : Int32) (b9 : Bool)  (lo N : Nat) (fl : Nat → Int64) (ho : ω2 lo = some (.inl (g.2.1 4, N, .inr (.inl fl)))) (hN : 0 < N) (hN2 : N < 2 ^ 31) : CTH l g yL_settles cL_settles 5 (some .int) [(0, 10, 13, 57)] 8 133 1 6 [.ref (ad .main), .int r9, .int (bI b9), .ref lo] (wjn ω1 ω2) (okH g ad (cd_settles σ r9 b9) (Int32.toInt64 (vl_settles σ r9 b9)) σ σ lo N fl ω2) := by
  refine CTH.of (own := "BoringheadLaw") rfl rfl (le_b rfl) rfl ?_
  intro p e s m args below meth c sz0 hC hr htab hNc
  refine s_aload_n hC dL_settles_0 rfl rfl 3 rfl ?_
  refine s_iconst hC (v := 0) dL_settles_1 rfl (by decide) ?_
  refine s_aload_n hC dL_settles_2 rfl rfl 0 rfl ?_
  refine s_iload_n hC dL_settles_3 rfl rfl 1 rfl ?_
  refine s_iload_n hC dL_settles_4 rfl rfl 2 rfl ?_
  refine s_callV hC (CT.frame (ct_X9_settles l g hst _ _ _ _ hR r9 b9) hd) ce_X9_settles cs_X9 (wjn_l (RepC.f_main hR)) tw_1069 rfl rfl ⟨⟨le_b rfl, le_b rfl⟩, le_b rfl, le_b rfl⟩ (le_b rfl) dL_settles_5 rfl (fun r w h9 => ?_) (fun E w h9 => ?_)
  · obtain ⟨w1, ⟨hc, rfl, ad2, x2, hR2, hm2⟩, rfl, hd2⟩ := h9
    refine s_i2l hC dL_settles_8 rfl rfl ?_
    refine s_last hC ((wjn_r (djn_at hd2 ho)).trans ho) (show vp_in 0 N from vp_in_nI hN hN2) dL_settles_9 rfl ?_
    refine s_goto hC (tgt := 17) dL_settles_10 (by decide) ?_
    refine s_iconst hC (v := 0) dL_settles_17 rfl (by decide) ?_
    refine s_iret hC hr dL_settles_18 (le_b rfl) (le_b rfl) ?_
    exact okH_ok hc rfl hR2 hm2 hd2 ho rfl
  · obtain ⟨w1, ⟨hc, hE, ad2, x2, hR2, hm2⟩, rfl, hd2⟩ := h9
    have hk : (cd_settles σ r9 b9) = 1 := by
      have h8 := (List.getElem?_eq_some_iff.mp hE).1
      simp only [List.length_cons, List.length_nil] at h8
      omega
    rcases hk with hk
    · have hE2 : "java/lang/IndexOutOfBoundsException" = E := by
        rw [hk] at hE
        exact Option.some.inj hE
      subst hE2
      refine s_catch hC hNc htab [] ⟨0, 10, 13, 57⟩ [] rfl (fun z hz => by cases hz) rfl (by decide) tw_755 tw_785 rfl (fun q => ?_)
      refine s_astore hC (L' := [(4, _), (0, _), (1, _), (2, _), (3, _)]) dL_settles_13 rfl (le_b rfl) rfl ?_
      refine s_iconst hC (v := 1) dL_settles_15 rfl (by decide) ?_
      refine s_iret hC hr dL_settles_16 (le_b rfl) (le_b rfl) ?_
      exact okH_no hc (by rw [hk]; rfl) hR2 hm2 hd2
theorem ce_L_tilt : CeX yL_tilt cL_tilt 4 (some .int) [(0, 9, 12, 57)] 3 := ⟨tw_1088, tw_1087, tw_0, ⟨by decide +kernel, by decide +kernel, by decide +kernel⟩⟩
set_option maxHeartbeats 1000000 in
set_option maxRecDepth 100000 in
theorem ct_L_tilt (l : Launch) (g : Gl) (hst : l.stackTraces = false) (ω1 ω2 : Wd) (hd : djn ω1 ω2) (ad : Ix → Nat) (x : Ex) (σ : St) (hR : RepC g ad x σ ω1) (r9 : Int32)  (lo N : Nat) (fl : Nat → Int64) (ho : ω2 lo = some (.inl (g.2.1 4, N, .inr (.inl fl)))) (hN : 0 < N) (hN2 : N < 2 ^ 31) : CTH l g yL_tilt cL_tilt 4 (some .int) [(0, 9, 12, 57)] 8 132 1 6 [.ref (ad .main), .int r9, .ref lo] (wjn ω1 ω2) (okH g ad (cd_tilt σ r9) (Int32.toInt64 (vl_tilt σ r9)) σ σ lo N fl ω2) := by
  refine CTH.of (own := "BoringheadLaw") rfl rfl (le_b rfl) rfl ?_
  intro p e s m args below meth c sz0 hC hr htab hNc
  refine s_aload_n hC dL_tilt_0 rfl rfl 2 rfl ?_
  refine s_iconst hC (v := 0) dL_tilt_1 rfl (by decide) ?_
  refine s_aload_n hC dL_tilt_2 rfl rfl 0 rfl ?_
  refine s_iload_n hC dL_tilt_3 rfl rfl 1 rfl ?_
  refine s_callV hC (CT.frame (ct_X9_tilt l g hst _ _ _ _ hR r9) hd) ce_X9_tilt cs_X9 (wjn_l (RepC.f_main hR)) tw_1089 rfl rfl ⟨⟨le_b rfl, le_b rfl⟩, le_b rfl, le_b rfl⟩ (le_b rfl) dL_tilt_4 rfl (fun r w h9 => ?_) (fun E w h9 => ?_)
  · obtain ⟨w1, ⟨hc, rfl, ad2, x2, hR2, hm2⟩, rfl, hd2⟩ := h9
    refine s_i2l hC dL_tilt_7 rfl rfl ?_
    refine s_last hC ((wjn_r (djn_at hd2 ho)).trans ho) (show vp_in 0 N from vp_in_nI hN hN2) dL_tilt_8 rfl ?_
    refine s_goto hC (tgt := 15) dL_tilt_9 (by decide) ?_
    refine s_iconst hC (v := 0) dL_tilt_15 rfl (by decide) ?_
    refine s_iret hC hr dL_tilt_16 (le_b rfl) (le_b rfl) ?_
    exact okH_ok hc rfl hR2 hm2 hd2 ho rfl
  · obtain ⟨w1, ⟨hc, hE, ad2, x2, hR2, hm2⟩, rfl, hd2⟩ := h9
    have hk : (cd_tilt σ r9) = 1 := by
      have h8 := (List.getElem?_eq_some_iff.mp hE).1
      simp only [List.length_cons, List.length_nil] at h8
      omega
    rcases hk with hk
    · have hE2 : "java/lang/IndexOutOfBoundsException" = E := by
        rw [hk] at hE
        exact Option.some.inj hE
      subst hE2
      refine s_catch hC hNc htab [] ⟨0, 9, 12, 57⟩ [] rfl (fun z hz => by cases hz) rfl (by decide) tw_755 tw_785 rfl (fun q => ?_)
      refine s_astore_n hC (L' := [(3, _), (0, _), (1, _), (2, _)]) dL_tilt_12 rfl rfl (le_b rfl) rfl ?_
      refine s_iconst hC (v := 1) dL_tilt_13 rfl (by decide) ?_
      refine s_iret hC hr dL_tilt_14 (le_b rfl) (le_b rfl) ?_
      exact okH_no hc (by rw [hk]; rfl) hR2 hm2 hd2
theorem ce_L_damage : CeX yL_damage cL_damage 4 (some .int) [(0, 9, 12, 57)] 3 := ⟨tw_1100, tw_1099, tw_0, ⟨by decide +kernel, by decide +kernel, by decide +kernel⟩⟩
set_option maxHeartbeats 1000000 in
set_option maxRecDepth 100000 in
theorem ct_L_damage (l : Launch) (g : Gl) (hst : l.stackTraces = false) (ω1 ω2 : Wd) (hd : djn ω1 ω2) (ad : Ix → Nat) (x : Ex) (σ : St) (hR : RepC g ad x σ ω1) (r9 : Int32)  (lo N : Nat) (fl : Nat → Int64) (ho : ω2 lo = some (.inl (g.2.1 4, N, .inr (.inl fl)))) (hN : 0 < N) (hN2 : N < 2 ^ 31) : CTH l g yL_damage cL_damage 4 (some .int) [(0, 9, 12, 57)] 8 133 1 6 [.ref (ad .main), .int r9, .ref lo] (wjn ω1 ω2) (okH g ad (cd_damage σ r9) (Int32.toInt64 (vl_damage σ r9)) σ σ lo N fl ω2) := by
  refine CTH.of (own := "BoringheadLaw") rfl rfl (le_b rfl) rfl ?_
  intro p e s m args below meth c sz0 hC hr htab hNc
  refine s_aload_n hC dL_damage_0 rfl rfl 2 rfl ?_
  refine s_iconst hC (v := 0) dL_damage_1 rfl (by decide) ?_
  refine s_aload_n hC dL_damage_2 rfl rfl 0 rfl ?_
  refine s_iload_n hC dL_damage_3 rfl rfl 1 rfl ?_
  refine s_callV hC (CT.frame (ct_X9_damage l g hst _ _ _ _ hR r9) hd) ce_X9_damage cs_X9 (wjn_l (RepC.f_main hR)) tw_1101 rfl rfl ⟨⟨le_b rfl, le_b rfl⟩, le_b rfl, le_b rfl⟩ (le_b rfl) dL_damage_4 rfl (fun r w h9 => ?_) (fun E w h9 => ?_)
  · obtain ⟨w1, ⟨hc, rfl, ad2, x2, hR2, hm2⟩, rfl, hd2⟩ := h9
    refine s_i2l hC dL_damage_7 rfl rfl ?_
    refine s_last hC ((wjn_r (djn_at hd2 ho)).trans ho) (show vp_in 0 N from vp_in_nI hN hN2) dL_damage_8 rfl ?_
    refine s_goto hC (tgt := 15) dL_damage_9 (by decide) ?_
    refine s_iconst hC (v := 0) dL_damage_15 rfl (by decide) ?_
    refine s_iret hC hr dL_damage_16 (le_b rfl) (le_b rfl) ?_
    exact okH_ok hc rfl hR2 hm2 hd2 ho rfl
  · obtain ⟨w1, ⟨hc, hE, ad2, x2, hR2, hm2⟩, rfl, hd2⟩ := h9
    have hk : (cd_damage σ r9) = 1 := by
      have h8 := (List.getElem?_eq_some_iff.mp hE).1
      simp only [List.length_cons, List.length_nil] at h8
      omega
    rcases hk with hk
    · have hE2 : "java/lang/IndexOutOfBoundsException" = E := by
        rw [hk] at hE
        exact Option.some.inj hE
      subst hE2
      refine s_catch hC hNc htab [] ⟨0, 9, 12, 57⟩ [] rfl (fun z hz => by cases hz) rfl (by decide) tw_755 tw_785 rfl (fun q => ?_)
      refine s_astore_n hC (L' := [(3, _), (0, _), (1, _), (2, _)]) dL_damage_12 rfl rfl (le_b rfl) rfl ?_
      refine s_iconst hC (v := 1) dL_damage_13 rfl (by decide) ?_
      refine s_iret hC hr dL_damage_14 (le_b rfl) (le_b rfl) ?_
      exact okH_no hc (by rw [hk]; rfl) hR2 hm2 hd2
theorem ce_L_read : CeX yL_read cL_read 4 (some .int) [(0, 9, 12, 57)] 3 := ⟨tw_1107, tw_1106, tw_0, ⟨by decide +kernel, by decide +kernel, by decide +kernel⟩⟩
set_option maxHeartbeats 1000000 in
set_option maxRecDepth 100000 in
theorem ct_L_read (l : Launch) (g : Gl) (hst : l.stackTraces = false) (ω1 ω2 : Wd) (hd : djn ω1 ω2) (ad : Ix → Nat) (x : Ex) (σ : St) (hR : RepC g ad x σ ω1) (r9 : Int32)  (lo N : Nat) (fl : Nat → Int64) (ho : ω2 lo = some (.inl (g.2.1 4, N, .inr (.inl fl)))) (hN : 0 < N) (hN2 : N < 2 ^ 31) : CTH l g yL_read cL_read 4 (some .int) [(0, 9, 12, 57)] 8 133 1 6 [.ref (ad .main), .int r9, .ref lo] (wjn ω1 ω2) (okH g ad (cd_read σ r9) (Int32.toInt64 (vl_read σ r9)) (nx_read σ r9) σ lo N fl ω2) := by
  refine CTH.of (own := "BoringheadLaw") rfl rfl (le_b rfl) rfl ?_
  intro p e s m args below meth c sz0 hC hr htab hNc
  refine s_aload_n hC dL_read_0 rfl rfl 2 rfl ?_
  refine s_iconst hC (v := 0) dL_read_1 rfl (by decide) ?_
  refine s_aload_n hC dL_read_2 rfl rfl 0 rfl ?_
  refine s_iload_n hC dL_read_3 rfl rfl 1 rfl ?_
  refine s_callV hC (CT.frame (ct_X9_read l g hst _ _ _ _ hR r9) hd) ce_X9_read cs_X9 (wjn_l (RepC.f_main hR)) tw_1108 rfl rfl ⟨⟨le_b rfl, le_b rfl⟩, le_b rfl, le_b rfl⟩ (le_b rfl) dL_read_4 rfl (fun r w h9 => ?_) (fun E w h9 => ?_)
  · obtain ⟨w1, ⟨hc, rfl, ad2, x2, hR2, hm2⟩, rfl, hd2⟩ := h9
    refine s_i2l hC dL_read_7 rfl rfl ?_
    refine s_last hC ((wjn_r (djn_at hd2 ho)).trans ho) (show vp_in 0 N from vp_in_nI hN hN2) dL_read_8 rfl ?_
    refine s_goto hC (tgt := 15) dL_read_9 (by decide) ?_
    refine s_iconst hC (v := 0) dL_read_15 rfl (by decide) ?_
    refine s_iret hC hr dL_read_16 (le_b rfl) (le_b rfl) ?_
    exact okH_ok hc rfl hR2 hm2 hd2 ho rfl
  · obtain ⟨w1, ⟨hc, hE, ad2, x2, hR2, hm2⟩, rfl, hd2⟩ := h9
    have hk : (cd_read σ r9) = 1 := by
      have h8 := (List.getElem?_eq_some_iff.mp hE).1
      simp only [List.length_cons, List.length_nil] at h8
      omega
    rcases hk with hk
    · have hE2 : "java/lang/IndexOutOfBoundsException" = E := by
        rw [hk] at hE
        exact Option.some.inj hE
      subst hE2
      refine s_catch hC hNc htab [] ⟨0, 9, 12, 57⟩ [] rfl (fun z hz => by cases hz) rfl (by decide) tw_755 tw_785 rfl (fun q => ?_)
      refine s_astore_n hC (L' := [(3, _), (0, _), (1, _), (2, _)]) dL_read_12 rfl rfl (le_b rfl) rfl ?_
      refine s_iconst hC (v := 1) dL_read_13 rfl (by decide) ?_
      refine s_iret hC hr dL_read_14 (le_b rfl) (le_b rfl) ?_
      exact okH_no hc (by rw [hk]; rfl) hR2 hm2 hd2
theorem ce_L_alarm : CeX yL_alarm cL_alarm 4 (some .int) [(0, 9, 12, 57)] 3 := ⟨tw_1114, tw_1113, tw_0, ⟨by decide +kernel, by decide +kernel, by decide +kernel⟩⟩
set_option maxHeartbeats 1000000 in
set_option maxRecDepth 100000 in
theorem ct_L_alarm (l : Launch) (g : Gl) (hst : l.stackTraces = false) (ω1 ω2 : Wd) (hd : djn ω1 ω2) (ad : Ix → Nat) (x : Ex) (σ : St) (hR : RepC g ad x σ ω1) (r9 : Int32)  (lo N : Nat) (fl : Nat → Int64) (ho : ω2 lo = some (.inl (g.2.1 4, N, .inr (.inl fl)))) (hN : 0 < N) (hN2 : N < 2 ^ 31) : CTH l g yL_alarm cL_alarm 4 (some .int) [(0, 9, 12, 57)] 8 132 1 6 [.ref (ad .main), .int r9, .ref lo] (wjn ω1 ω2) (okH g ad (cd_alarm σ r9) (Int32.toInt64 (vl_alarm σ r9)) σ σ lo N fl ω2) := by
  refine CTH.of (own := "BoringheadLaw") rfl rfl (le_b rfl) rfl ?_
  intro p e s m args below meth c sz0 hC hr htab hNc
  refine s_aload_n hC dL_alarm_0 rfl rfl 2 rfl ?_
  refine s_iconst hC (v := 0) dL_alarm_1 rfl (by decide) ?_
  refine s_aload_n hC dL_alarm_2 rfl rfl 0 rfl ?_
  refine s_iload_n hC dL_alarm_3 rfl rfl 1 rfl ?_
  refine s_callV hC (CT.frame (ct_X9_alarm l g hst _ _ _ _ hR r9) hd) ce_X9_alarm cs_X9 (wjn_l (RepC.f_main hR)) tw_1115 rfl rfl ⟨⟨le_b rfl, le_b rfl⟩, le_b rfl, le_b rfl⟩ (le_b rfl) dL_alarm_4 rfl (fun r w h9 => ?_) (fun E w h9 => ?_)
  · obtain ⟨w1, ⟨hc, rfl, ad2, x2, hR2, hm2⟩, rfl, hd2⟩ := h9
    refine s_i2l hC dL_alarm_7 rfl rfl ?_
    refine s_last hC ((wjn_r (djn_at hd2 ho)).trans ho) (show vp_in 0 N from vp_in_nI hN hN2) dL_alarm_8 rfl ?_
    refine s_goto hC (tgt := 15) dL_alarm_9 (by decide) ?_
    refine s_iconst hC (v := 0) dL_alarm_15 rfl (by decide) ?_
    refine s_iret hC hr dL_alarm_16 (le_b rfl) (le_b rfl) ?_
    exact okH_ok hc rfl hR2 hm2 hd2 ho rfl
  · obtain ⟨w1, ⟨hc, hE, ad2, x2, hR2, hm2⟩, rfl, hd2⟩ := h9
    have hk : (cd_alarm σ r9) = 1 := by
      have h8 := (List.getElem?_eq_some_iff.mp hE).1
      simp only [List.length_cons, List.length_nil] at h8
      omega
    rcases hk with hk
    · have hE2 : "java/lang/IndexOutOfBoundsException" = E := by
        rw [hk] at hE
        exact Option.some.inj hE
      subst hE2
      refine s_catch hC hNc htab [] ⟨0, 9, 12, 57⟩ [] rfl (fun z hz => by cases hz) rfl (by decide) tw_755 tw_785 rfl (fun q => ?_)
      refine s_astore_n hC (L' := [(3, _), (0, _), (1, _), (2, _)]) dL_alarm_12 rfl rfl (le_b rfl) rfl ?_
      refine s_iconst hC (v := 1) dL_alarm_13 rfl (by decide) ?_
      refine s_iret hC hr dL_alarm_14 (le_b rfl) (le_b rfl) ?_
      exact okH_no hc (by rw [hk]; rfl) hR2 hm2 hd2
theorem ce_L_lift : CeX yL_lift cL_lift 6 (some .int) [(0, 12, 15, 57), (0, 12, 19, 13), (0, 12, 23, 35)] 5 := ⟨tw_1121, tw_1120, tw_0, ⟨by decide +kernel, by decide +kernel, by decide +kernel⟩⟩
set_option maxHeartbeats 1000000 in
set_option maxRecDepth 100000 in
theorem ct_L_lift (l : Launch) (g : Gl) (hst : l.stackTraces = false) (ω1 ω2 : Wd) (hd : djn ω1 ω2) (ad : Ix → Nat) (x : Ex) (σ : St) (hR : RepC g ad x σ ω1) (r9 : Int32) (b9 : Bool) (a9 : Int32)  (lo N : Nat) (fl : Nat → Int64) (ho : ω2 lo = some (.inl (g.2.1 4, N, .inr (.inl fl)))) (hN : 0 < N) (hN2 : N < 2 ^ 31) : CTH l g yL_lift cL_lift 6 (some .int) [(0, 12, 15, 57), (0, 12, 19, 13), (0, 12, 23, 35)] 8 135 2 12 [.ref (ad .main), .int r9, .int (bI b9), .int a9, .ref lo] (wjn ω1 ω2) (okH g ad (cd_lift σ r9 b9 a9) (Int32.toInt64 (vl_lift σ r9 b9 a9)) (nx_lift σ r9 b9 a9) σ lo N fl ω2) := by
  refine CTH.of (own := "BoringheadLaw") rfl rfl (le_b rfl) rfl ?_
  intro p e s m args below meth c sz0 hC hr htab hNc
  refine s_aload hC dL_lift_0 rfl 4 rfl ?_
  refine s_iconst hC (v := 0) dL_lift_2 rfl (by decide) ?_
  refine s_aload_n hC dL_lift_3 rfl rfl 0 rfl ?_
  refine s_iload_n hC dL_lift_4 rfl rfl 1 rfl ?_
  refine s_iload_n hC dL_lift_5 rfl rfl 2 rfl ?_
  refine s_iload_n hC dL_lift_6 rfl rfl 3 rfl ?_
  refine s_callV hC (CT.frame (ct_X9_lift l g hst _ _ _ _ hR r9 b9 a9) hd) ce_X9_lift cs_X9 (wjn_l (RepC.f_main hR)) tw_1122 rfl rfl ⟨⟨le_b rfl, le_b rfl⟩, le_b rfl, le_b rfl⟩ (le_b rfl) dL_lift_7 rfl (fun r w h9 => ?_) (fun E w h9 => ?_)
  · obtain ⟨w1, ⟨hc, rfl, ad2, x2, hR2, hm2⟩, rfl, hd2⟩ := h9
    refine s_i2l hC dL_lift_10 rfl rfl ?_
    refine s_last hC ((wjn_r (djn_at hd2 ho)).trans ho) (show vp_in 0 N from vp_in_nI hN hN2) dL_lift_11 rfl ?_
    refine s_goto hC (tgt := 27) dL_lift_12 (by decide) ?_
    refine s_iconst hC (v := 0) dL_lift_27 rfl (by decide) ?_
    refine s_iret hC hr dL_lift_28 (le_b rfl) (le_b rfl) ?_
    exact okH_ok hc rfl hR2 hm2 hd2 ho rfl
  · obtain ⟨w1, ⟨hc, hE, ad2, x2, hR2, hm2⟩, rfl, hd2⟩ := h9
    have hk : (cd_lift σ r9 b9 a9) = 1 ∨ (cd_lift σ r9 b9 a9) = 2 ∨ (cd_lift σ r9 b9 a9) = 3 := by
      have h8 := (List.getElem?_eq_some_iff.mp hE).1
      simp only [List.length_cons, List.length_nil] at h8
      omega
    rcases hk with hk | hk | hk
    · have hE2 : "java/lang/IndexOutOfBoundsException" = E := by
        rw [hk] at hE
        exact Option.some.inj hE
      subst hE2
      refine s_catch hC hNc htab [] ⟨0, 12, 15, 57⟩ [⟨0, 12, 19, 13⟩, ⟨0, 12, 23, 35⟩] rfl (fun z hz => by cases hz) rfl (by decide) tw_755 tw_785 rfl (fun q => ?_)
      refine s_astore hC (L' := [(5, _), (0, _), (1, _), (2, _), (3, _), (4, _)]) dL_lift_15 rfl (le_b rfl) rfl ?_
      refine s_iconst hC (v := 1) dL_lift_17 rfl (by decide) ?_
      refine s_iret hC hr dL_lift_18 (le_b rfl) (le_b rfl) ?_
      exact okH_no hc (by rw [hk]; rfl) hR2 hm2 hd2
    · have hE2 : "java/lang/IllegalArgumentException" = E := by
        rw [hk] at hE
        exact Option.some.inj hE
      subst hE2
      refine s_catch hC hNc htab [⟨0, 12, 15, 57⟩] ⟨0, 12, 19, 13⟩ [⟨0, 12, 23, 35⟩] rfl (fun z hz => by
        simp only [List.mem_cons, List.not_mem_nil, or_false] at hz
        rcases hz with rfl
        · exact ⟨by decide, "java/lang/IndexOutOfBoundsException", tw_755, by decide, by decide, by decide⟩) rfl (by decide) tw_426 tw_452 rfl (fun q => ?_)
      refine s_astore hC (L' := [(5, _), (0, _), (1, _), (2, _), (3, _), (4, _)]) dL_lift_19 rfl (le_b rfl) rfl ?_
      refine s_iconst hC (v := 2) dL_lift_21 rfl (by decide) ?_
      refine s_iret hC hr dL_lift_22 (le_b rfl) (le_b rfl) ?_
      exact okH_no hc (by rw [hk]; rfl) hR2 hm2 hd2
    · have hE2 : "java/lang/IllegalStateException" = E := by
        rw [hk] at hE
        exact Option.some.inj hE
      subst hE2
      refine s_catch hC hNc htab [⟨0, 12, 15, 57⟩, ⟨0, 12, 19, 13⟩] ⟨0, 12, 23, 35⟩ [] rfl (fun z hz => by
        simp only [List.mem_cons, List.not_mem_nil, or_false] at hz
        rcases hz with rfl | rfl
        · exact ⟨by decide, "java/lang/IndexOutOfBoundsException", tw_755, by decide, by decide, by decide⟩
        · exact ⟨by decide, "java/lang/IllegalArgumentException", tw_426, by decide, by decide, by decide⟩) rfl (by decide) tw_582 tw_590 rfl (fun q => ?_)
      refine s_astore hC (L' := [(5, _), (0, _), (1, _), (2, _), (3, _), (4, _)]) dL_lift_23 rfl (le_b rfl) rfl ?_
      refine s_iconst hC (v := 3) dL_lift_25 rfl (by decide) ?_
      refine s_iret hC hr dL_lift_26 (le_b rfl) (le_b rfl) ?_
      exact okH_no hc (by rw [hk]; rfl) hR2 hm2 hd2
theorem ce_L_deliver : CeX yL_deliver cL_deliver 4 (some .int) [(0, 9, 12, 13), (0, 9, 15, 15)] 3 := ⟨tw_1128, tw_1127, tw_0, ⟨by decide +kernel, by decide +kernel, by decide +kernel⟩⟩
set_option maxHeartbeats 1000000 in
set_option maxRecDepth 100000 in
theorem ct_L_deliver (l : Launch) (g : Gl) (hst : l.stackTraces = false) (ω1 ω2 : Wd) (hd : djn ω1 ω2) (ad : Ix → Nat) (x : Ex) (σ : St) (hR : RepC g ad x σ ω1) (m9 : Int32)  (lo N : Nat) (fl : Nat → Int64) (ho : ω2 lo = some (.inl (g.2.1 4, N, .inr (.inl fl)))) (hN : 0 < N) (hN2 : N < 2 ^ 31) : CTH l g yL_deliver cL_deliver 4 (some .int) [(0, 9, 12, 13), (0, 9, 15, 15)] 7 111 1 6 [.ref (ad .main), .int m9, .ref lo] (wjn ω1 ω2) (okH g ad (cd_deliver σ m9) (Int32.toInt64 (vl_deliver σ m9)) (nx_deliver σ m9) σ lo N fl ω2) := by
  refine CTH.of (own := "BoringheadLaw") rfl rfl (le_b rfl) rfl ?_
  intro p e s m args below meth c sz0 hC hr htab hNc
  refine s_aload_n hC dL_deliver_0 rfl rfl 2 rfl ?_
  refine s_iconst hC (v := 0) dL_deliver_1 rfl (by decide) ?_
  refine s_aload_n hC dL_deliver_2 rfl rfl 0 rfl ?_
  refine s_iload_n hC dL_deliver_3 rfl rfl 1 rfl ?_
  refine s_callV hC (CT.frame (ct_X9_deliver l g hst _ _ _ _ hR m9) hd) ce_X9_deliver cs_X9 (wjn_l (RepC.f_main hR)) tw_1129 rfl rfl ⟨⟨le_b rfl, le_b rfl⟩, le_b rfl, le_b rfl⟩ (le_b rfl) dL_deliver_4 rfl (fun r w h9 => ?_) (fun E w h9 => ?_)
  · obtain ⟨w1, ⟨hc, rfl, ad2, x2, hR2, hm2⟩, rfl, hd2⟩ := h9
    refine s_i2l hC dL_deliver_7 rfl rfl ?_
    refine s_last hC ((wjn_r (djn_at hd2 ho)).trans ho) (show vp_in 0 N from vp_in_nI hN hN2) dL_deliver_8 rfl ?_
    refine s_goto hC (tgt := 18) dL_deliver_9 (by decide) ?_
    refine s_iconst hC (v := 0) dL_deliver_18 rfl (by decide) ?_
    refine s_iret hC hr dL_deliver_19 (le_b rfl) (le_b rfl) ?_
    exact okH_ok hc rfl hR2 hm2 hd2 ho rfl
  · obtain ⟨w1, ⟨hc, hE, ad2, x2, hR2, hm2⟩, rfl, hd2⟩ := h9
    have hk : (cd_deliver σ m9) = 1 ∨ (cd_deliver σ m9) = 2 := by
      have h8 := (List.getElem?_eq_some_iff.mp hE).1
      simp only [List.length_cons, List.length_nil] at h8
      omega
    rcases hk with hk | hk
    · have hE2 : "java/lang/IllegalArgumentException" = E := by
        rw [hk] at hE
        exact Option.some.inj hE
      subst hE2
      refine s_catch hC hNc htab [] ⟨0, 9, 12, 13⟩ [⟨0, 9, 15, 15⟩] rfl (fun z hz => by cases hz) rfl (by decide) tw_426 tw_452 rfl (fun q => ?_)
      refine s_astore_n hC (L' := [(3, _), (0, _), (1, _), (2, _)]) dL_deliver_12 rfl rfl (le_b rfl) rfl ?_
      refine s_iconst hC (v := 1) dL_deliver_13 rfl (by decide) ?_
      refine s_iret hC hr dL_deliver_14 (le_b rfl) (le_b rfl) ?_
      exact okH_no hc (by rw [hk]; rfl) hR2 hm2 hd2
    · have hE2 : "java/lang/UnsupportedOperationException" = E := by
        rw [hk] at hE
        exact Option.some.inj hE
      subst hE2
      refine s_catch hC hNc htab [⟨0, 9, 12, 13⟩] ⟨0, 9, 15, 15⟩ [] rfl (fun z hz => by
        simp only [List.mem_cons, List.not_mem_nil, or_false] at hz
        rcases hz with rfl
        · exact ⟨by decide, "java/lang/IllegalArgumentException", tw_426, by decide, by decide, by decide⟩) rfl (by decide) tw_427 tw_527 rfl (fun q => ?_)
      refine s_astore_n hC (L' := [(3, _), (0, _), (1, _), (2, _)]) dL_deliver_15 rfl rfl (le_b rfl) rfl ?_
      refine s_iconst hC (v := 2) dL_deliver_16 rfl (by decide) ?_
      refine s_iret hC hr dL_deliver_17 (le_b rfl) (le_b rfl) ?_
      exact okH_no hc (by rw [hk]; rfl) hR2 hm2 hd2
theorem ce_L_lorries : CeX yL_lorries cL_lorries 4 (some .int) [(0, 9, 12, 13), (0, 9, 15, 15), (0, 9, 18, 35)] 3 := ⟨tw_1137, tw_1136, tw_0, ⟨by decide +kernel, by decide +kernel, by decide +kernel⟩⟩
set_option maxHeartbeats 1000000 in
set_option maxRecDepth 100000 in
theorem ct_L_lorries (l : Launch) (g : Gl) (hst : l.stackTraces = false) (ω1 ω2 : Wd) (hd : djn ω1 ω2) (ad : Ix → Nat) (x : Ex) (σ : St) (hR : RepC g ad x σ ω1) (m9 : Int32)  (lo N : Nat) (fl : Nat → Int64) (ho : ω2 lo = some (.inl (g.2.1 4, N, .inr (.inl fl)))) (hN : 0 < N) (hN2 : N < 2 ^ 31) : CTH l g yL_lorries cL_lorries 4 (some .int) [(0, 9, 12, 13), (0, 9, 15, 15), (0, 9, 18, 35)] 8 135 1 6 [.ref (ad .main), .int m9, .ref lo] (wjn ω1 ω2) (okH g ad (cd_lorries σ m9) (Int32.toInt64 (vl_lorries σ m9)) (nx_lorries σ m9) σ lo N fl ω2) := by
  refine CTH.of (own := "BoringheadLaw") rfl rfl (le_b rfl) rfl ?_
  intro p e s m args below meth c sz0 hC hr htab hNc
  refine s_aload_n hC dL_lorries_0 rfl rfl 2 rfl ?_
  refine s_iconst hC (v := 0) dL_lorries_1 rfl (by decide) ?_
  refine s_aload_n hC dL_lorries_2 rfl rfl 0 rfl ?_
  refine s_iload_n hC dL_lorries_3 rfl rfl 1 rfl ?_
  refine s_callV hC (CT.frame (ct_X9_lorries l g hst _ _ _ _ hR m9) hd) ce_X9_lorries cs_X9 (wjn_l (RepC.f_main hR)) tw_1138 rfl rfl ⟨⟨le_b rfl, le_b rfl⟩, le_b rfl, le_b rfl⟩ (le_b rfl) dL_lorries_4 rfl (fun r w h9 => ?_) (fun E w h9 => ?_)
  · obtain ⟨w1, ⟨hc, rfl, ad2, x2, hR2, hm2⟩, rfl, hd2⟩ := h9
    refine s_i2l hC dL_lorries_7 rfl rfl ?_
    refine s_last hC ((wjn_r (djn_at hd2 ho)).trans ho) (show vp_in 0 N from vp_in_nI hN hN2) dL_lorries_8 rfl ?_
    refine s_goto hC (tgt := 21) dL_lorries_9 (by decide) ?_
    refine s_iconst hC (v := 0) dL_lorries_21 rfl (by decide) ?_
    refine s_iret hC hr dL_lorries_22 (le_b rfl) (le_b rfl) ?_
    exact okH_ok hc rfl hR2 hm2 hd2 ho rfl
  · obtain ⟨w1, ⟨hc, hE, ad2, x2, hR2, hm2⟩, rfl, hd2⟩ := h9
    have hk : (cd_lorries σ m9) = 1 ∨ (cd_lorries σ m9) = 2 ∨ (cd_lorries σ m9) = 3 := by
      have h8 := (List.getElem?_eq_some_iff.mp hE).1
      simp only [List.length_cons, List.length_nil] at h8
      omega
    rcases hk with hk | hk | hk
    · have hE2 : "java/lang/IllegalArgumentException" = E := by
        rw [hk] at hE
        exact Option.some.inj hE
      subst hE2
      refine s_catch hC hNc htab [] ⟨0, 9, 12, 13⟩ [⟨0, 9, 15, 15⟩, ⟨0, 9, 18, 35⟩] rfl (fun z hz => by cases hz) rfl (by decide) tw_426 tw_452 rfl (fun q => ?_)
      refine s_astore_n hC (L' := [(3, _), (0, _), (1, _), (2, _)]) dL_lorries_12 rfl rfl (le_b rfl) rfl ?_
      refine s_iconst hC (v := 1) dL_lorries_13 rfl (by decide) ?_
      refine s_iret hC hr dL_lorries_14 (le_b rfl) (le_b rfl) ?_
      exact okH_no hc (by rw [hk]; rfl) hR2 hm2 hd2
    · have hE2 : "java/lang/UnsupportedOperationException" = E := by
        rw [hk] at hE
        exact Option.some.inj hE
      subst hE2
      refine s_catch hC hNc htab [⟨0, 9, 12, 13⟩] ⟨0, 9, 15, 15⟩ [⟨0, 9, 18, 35⟩] rfl (fun z hz => by
        simp only [List.mem_cons, List.not_mem_nil, or_false] at hz
        rcases hz with rfl
        · exact ⟨by decide, "java/lang/IllegalArgumentException", tw_426, by decide, by decide, by decide⟩) rfl (by decide) tw_427 tw_527 rfl (fun q => ?_)
      refine s_astore_n hC (L' := [(3, _), (0, _), (1, _), (2, _)]) dL_lorries_15 rfl rfl (le_b rfl) rfl ?_
      refine s_iconst hC (v := 2) dL_lorries_16 rfl (by decide) ?_
      refine s_iret hC hr dL_lorries_17 (le_b rfl) (le_b rfl) ?_
      exact okH_no hc (by rw [hk]; rfl) hR2 hm2 hd2
    · have hE2 : "java/lang/IllegalStateException" = E := by
        rw [hk] at hE
        exact Option.some.inj hE
      subst hE2
      refine s_catch hC hNc htab [⟨0, 9, 12, 13⟩, ⟨0, 9, 15, 15⟩] ⟨0, 9, 18, 35⟩ [] rfl (fun z hz => by
        simp only [List.mem_cons, List.not_mem_nil, or_false] at hz
        rcases hz with rfl | rfl
        · exact ⟨by decide, "java/lang/IllegalArgumentException", tw_426, by decide, by decide, by decide⟩
        · exact ⟨by decide, "java/lang/UnsupportedOperationException", tw_427, by decide, by decide, by decide⟩) rfl (by decide) tw_582 tw_590 rfl (fun q => ?_)
      refine s_astore_n hC (L' := [(3, _), (0, _), (1, _), (2, _)]) dL_lorries_18 rfl rfl (le_b rfl) rfl ?_
      refine s_iconst hC (v := 3) dL_lorries_19 rfl (by decide) ?_
      refine s_iret hC hr dL_lorries_20 (le_b rfl) (le_b rfl) ?_
      exact okH_no hc (by rw [hk]; rfl) hR2 hm2 hd2
theorem ce_L_pause : CeX yL_pause cL_pause 6 (some .int) [(0, 12, 15, 13), (0, 12, 19, 35)] 5 := ⟨tw_1150, tw_1149, tw_0, ⟨by decide +kernel, by decide +kernel, by decide +kernel⟩⟩
set_option maxHeartbeats 1000000 in
set_option maxRecDepth 100000 in
theorem ct_L_pause (l : Launch) (g : Gl) (hst : l.stackTraces = false) (ω1 ω2 : Wd) (hd : djn ω1 ω2) (ad : Ix → Nat) (x : Ex) (σ : St) (hR : RepC g ad x σ ω1) (m9 : Int32) (c9 : Int32) (d9 : Int32)  (lo N : Nat) (fl : Nat → Int64) (ho : ω2 lo = some (.inl (g.2.1 4, N, .inr (.inl fl)))) (hN : 0 < N) (hN2 : N < 2 ^ 31) : CTH l g yL_pause cL_pause 6 (some .int) [(0, 12, 15, 13), (0, 12, 19, 35)] 8 135 1 6 [.ref (ad .main), .int m9, .int c9, .int d9, .ref lo] (wjn ω1 ω2) (okH g ad (cd_pause σ m9 c9 d9) (Int32.toInt64 (vl_pause σ m9 c9 d9)) (nx_pause σ m9 c9 d9) σ lo N fl ω2) := by
  refine CTH.of (own := "BoringheadLaw") rfl rfl (le_b rfl) rfl ?_
  intro p e s m args below meth c sz0 hC hr htab hNc
  refine s_aload hC dL_pause_0 rfl 4 rfl ?_
  refine s_iconst hC (v := 0) dL_pause_2 rfl (by decide) ?_
  refine s_aload_n hC dL_pause_3 rfl rfl 0 rfl ?_
  refine s_iload_n hC dL_pause_4 rfl rfl 1 rfl ?_
  refine s_iload_n hC dL_pause_5 rfl rfl 2 rfl ?_
  refine s_iload_n hC dL_pause_6 rfl rfl 3 rfl ?_
  refine s_callV hC (CT.frame (ct_X9_pause l g hst _ _ _ _ hR m9 c9 d9) hd) ce_X9_pause cs_X9 (wjn_l (RepC.f_main hR)) tw_1151 rfl rfl ⟨⟨le_b rfl, le_b rfl⟩, le_b rfl, le_b rfl⟩ (le_b rfl) dL_pause_7 rfl (fun r w h9 => ?_) (fun E w h9 => ?_)
  · obtain ⟨w1, ⟨hc, rfl, ad2, x2, hR2, hm2⟩, rfl, hd2⟩ := h9
    refine s_i2l hC dL_pause_10 rfl rfl ?_
    refine s_last hC ((wjn_r (djn_at hd2 ho)).trans ho) (show vp_in 0 N from vp_in_nI hN hN2) dL_pause_11 rfl ?_
    refine s_goto hC (tgt := 23) dL_pause_12 (by decide) ?_
    refine s_iconst hC (v := 0) dL_pause_23 rfl (by decide) ?_
    refine s_iret hC hr dL_pause_24 (le_b rfl) (le_b rfl) ?_
    exact okH_ok hc rfl hR2 hm2 hd2 ho rfl
  · obtain ⟨w1, ⟨hc, hE, ad2, x2, hR2, hm2⟩, rfl, hd2⟩ := h9
    have hk : (cd_pause σ m9 c9 d9) = 1 ∨ (cd_pause σ m9 c9 d9) = 2 := by
      have h8 := (List.getElem?_eq_some_iff.mp hE).1
      simp only [List.length_cons, List.length_nil] at h8
      omega
    rcases hk with hk | hk
    · have hE2 : "java/lang/IllegalArgumentException" = E := by
        rw [hk] at hE
        exact Option.some.inj hE
      subst hE2
      refine s_catch hC hNc htab [] ⟨0, 12, 15, 13⟩ [⟨0, 12, 19, 35⟩] rfl (fun z hz => by cases hz) rfl (by decide) tw_426 tw_452 rfl (fun q => ?_)
      refine s_astore hC (L' := [(5, _), (0, _), (1, _), (2, _), (3, _), (4, _)]) dL_pause_15 rfl (le_b rfl) rfl ?_
      refine s_iconst hC (v := 1) dL_pause_17 rfl (by decide) ?_
      refine s_iret hC hr dL_pause_18 (le_b rfl) (le_b rfl) ?_
      exact okH_no hc (by rw [hk]; rfl) hR2 hm2 hd2
    · have hE2 : "java/lang/IllegalStateException" = E := by
        rw [hk] at hE
        exact Option.some.inj hE
      subst hE2
      refine s_catch hC hNc htab [⟨0, 12, 15, 13⟩] ⟨0, 12, 19, 35⟩ [] rfl (fun z hz => by
        simp only [List.mem_cons, List.not_mem_nil, or_false] at hz
        rcases hz with rfl
        · exact ⟨by decide, "java/lang/IllegalArgumentException", tw_426, by decide, by decide, by decide⟩) rfl (by decide) tw_582 tw_590 rfl (fun q => ?_)
      refine s_astore hC (L' := [(5, _), (0, _), (1, _), (2, _), (3, _), (4, _)]) dL_pause_19 rfl (le_b rfl) rfl ?_
      refine s_iconst hC (v := 2) dL_pause_21 rfl (by decide) ?_
      refine s_iret hC hr dL_pause_22 (le_b rfl) (le_b rfl) ?_
      exact okH_no hc (by rw [hk]; rfl) hR2 hm2 hd2
theorem ce_L_first : CeX yL_first cL_first 4 (some .int) [(0, 9, 12, 13)] 3 := ⟨tw_1169, tw_1168, tw_0, ⟨by decide +kernel, by decide +kernel, by decide +kernel⟩⟩
set_option maxHeartbeats 1000000 in
set_option maxRecDepth 100000 in
theorem ct_L_first (l : Launch) (g : Gl) (hst : l.stackTraces = false) (ω1 ω2 : Wd) (hd : djn ω1 ω2) (ad : Ix → Nat) (x : Ex) (σ : St) (hR : RepC g ad x σ ω1) (c9 : Int32) (hch : ∀ k, vp_nar .char (σ.order k) = σ.order k) (lo N : Nat) (fl : Nat → Int64) (ho : ω2 lo = some (.inl (g.2.1 4, N, .inr (.inl fl)))) (hN : 0 < N) (hN2 : N < 2 ^ 31) : CTH l g yL_first cL_first 4 (some .int) [(0, 9, 12, 13)] 7 112 1 6 [.ref (ad .main), .int c9, .ref lo] (wjn ω1 ω2) (okH g ad (cd_first σ c9) (Int32.toInt64 (vl_first σ c9)) (nx_first σ c9) σ lo N fl ω2) := by
  refine CTH.of (own := "BoringheadLaw") rfl rfl (le_b rfl) rfl ?_
  intro p e s m args below meth c sz0 hC hr htab hNc
  refine s_aload_n hC dL_first_0 rfl rfl 2 rfl ?_
  refine s_iconst hC (v := 0) dL_first_1 rfl (by decide) ?_
  refine s_aload_n hC dL_first_2 rfl rfl 0 rfl ?_
  refine s_iload_n hC dL_first_3 rfl rfl 1 rfl ?_
  refine s_callV hC (CT.frame (ct_X9_first l g hst _ _ _ _ hR c9 hch) hd) ce_X9_first cs_X9 (wjn_l (RepC.f_main hR)) tw_1170 rfl rfl ⟨⟨le_b rfl, le_b rfl⟩, le_b rfl, le_b rfl⟩ (le_b rfl) dL_first_4 rfl (fun r w h9 => ?_) (fun E w h9 => ?_)
  · obtain ⟨w1, ⟨hc, rfl, ad2, x2, hR2, hm2⟩, rfl, hd2⟩ := h9
    refine s_i2l hC dL_first_7 rfl rfl ?_
    refine s_last hC ((wjn_r (djn_at hd2 ho)).trans ho) (show vp_in 0 N from vp_in_nI hN hN2) dL_first_8 rfl ?_
    refine s_goto hC (tgt := 15) dL_first_9 (by decide) ?_
    refine s_iconst hC (v := 0) dL_first_15 rfl (by decide) ?_
    refine s_iret hC hr dL_first_16 (le_b rfl) (le_b rfl) ?_
    exact okH_ok hc rfl hR2 hm2 hd2 ho rfl
  · obtain ⟨w1, ⟨hc, hE, ad2, x2, hR2, hm2⟩, rfl, hd2⟩ := h9
    have hk : (cd_first σ c9) = 1 := by
      have h8 := (List.getElem?_eq_some_iff.mp hE).1
      simp only [List.length_cons, List.length_nil] at h8
      omega
    rcases hk with hk
    · have hE2 : "java/lang/IllegalArgumentException" = E := by
        rw [hk] at hE
        exact Option.some.inj hE
      subst hE2
      refine s_catch hC hNc htab [] ⟨0, 9, 12, 13⟩ [] rfl (fun z hz => by cases hz) rfl (by decide) tw_426 tw_452 rfl (fun q => ?_)
      refine s_astore_n hC (L' := [(3, _), (0, _), (1, _), (2, _)]) dL_first_12 rfl rfl (le_b rfl) rfl ?_
      refine s_iconst hC (v := 1) dL_first_13 rfl (by decide) ?_
      refine s_iret hC hr dL_first_14 (le_b rfl) (le_b rfl) ?_
      exact okH_no hc (by rw [hk]; rfl) hR2 hm2 hd2
theorem ce_L_waited : CeX yL_waited cL_waited 4 (some .int) [(0, 9, 12, 13)] 3 := ⟨tw_1181, tw_1180, tw_0, ⟨by decide +kernel, by decide +kernel, by decide +kernel⟩⟩
set_option maxHeartbeats 1000000 in
set_option maxRecDepth 100000 in
theorem ct_L_waited (l : Launch) (g : Gl) (hst : l.stackTraces = false) (ω1 ω2 : Wd) (hd : djn ω1 ω2) (ad : Ix → Nat) (x : Ex) (σ : St) (hR : RepC g ad x σ ω1) (c9 : Int32)  (lo N : Nat) (fl : Nat → Int64) (ho : ω2 lo = some (.inl (g.2.1 4, N, .inr (.inl fl)))) (hN : 0 < N) (hN2 : N < 2 ^ 31) : CTH l g yL_waited cL_waited 4 (some .int) [(0, 9, 12, 13)] 7 112 1 6 [.ref (ad .main), .int c9, .ref lo] (wjn ω1 ω2) (okH g ad (cd_waited σ c9) (Int32.toInt64 (vl_waited σ c9)) σ σ lo N fl ω2) := by
  refine CTH.of (own := "BoringheadLaw") rfl rfl (le_b rfl) rfl ?_
  intro p e s m args below meth c sz0 hC hr htab hNc
  refine s_aload_n hC dL_waited_0 rfl rfl 2 rfl ?_
  refine s_iconst hC (v := 0) dL_waited_1 rfl (by decide) ?_
  refine s_aload_n hC dL_waited_2 rfl rfl 0 rfl ?_
  refine s_iload_n hC dL_waited_3 rfl rfl 1 rfl ?_
  refine s_callV hC (CT.frame (ct_X9_waited l g hst _ _ _ _ hR c9) hd) ce_X9_waited cs_X9 (wjn_l (RepC.f_main hR)) tw_1182 rfl rfl ⟨⟨le_b rfl, le_b rfl⟩, le_b rfl, le_b rfl⟩ (le_b rfl) dL_waited_4 rfl (fun r w h9 => ?_) (fun E w h9 => ?_)
  · obtain ⟨w1, ⟨hc, rfl, ad2, x2, hR2, hm2⟩, rfl, hd2⟩ := h9
    refine s_i2l hC dL_waited_7 rfl rfl ?_
    refine s_last hC ((wjn_r (djn_at hd2 ho)).trans ho) (show vp_in 0 N from vp_in_nI hN hN2) dL_waited_8 rfl ?_
    refine s_goto hC (tgt := 15) dL_waited_9 (by decide) ?_
    refine s_iconst hC (v := 0) dL_waited_15 rfl (by decide) ?_
    refine s_iret hC hr dL_waited_16 (le_b rfl) (le_b rfl) ?_
    exact okH_ok hc rfl hR2 hm2 hd2 ho rfl
  · obtain ⟨w1, ⟨hc, hE, ad2, x2, hR2, hm2⟩, rfl, hd2⟩ := h9
    have hk : (cd_waited σ c9) = 1 := by
      have h8 := (List.getElem?_eq_some_iff.mp hE).1
      simp only [List.length_cons, List.length_nil] at h8
      omega
    rcases hk with hk
    · have hE2 : "java/lang/IllegalArgumentException" = E := by
        rw [hk] at hE
        exact Option.some.inj hE
      subst hE2
      refine s_catch hC hNc htab [] ⟨0, 9, 12, 13⟩ [] rfl (fun z hz => by cases hz) rfl (by decide) tw_426 tw_452 rfl (fun q => ?_)
      refine s_astore_n hC (L' := [(3, _), (0, _), (1, _), (2, _)]) dL_waited_12 rfl rfl (le_b rfl) rfl ?_
      refine s_iconst hC (v := 1) dL_waited_13 rfl (by decide) ?_
      refine s_iret hC hr dL_waited_14 (le_b rfl) (le_b rfl) ?_
      exact okH_no hc (by rw [hk]; rfl) hR2 hm2 hd2
theorem ce_L_notice : CeX yL_notice cL_notice 4 (some .int) [(0, 16, 19, 57), (0, 16, 22, 15)] 3 := ⟨tw_1190, tw_1189, tw_0, ⟨by decide +kernel, by decide +kernel, by decide +kernel⟩⟩
set_option maxHeartbeats 1000000 in
set_option maxRecDepth 100000 in
theorem ct_L_notice (l : Launch) (g : Gl) (hst : l.stackTraces = false) (ω1 ω2 : Wd) (hd : djn ω1 ω2) (ad : Ix → Nat) (x : Ex) (σ : St) (hR : RepC g ad x σ ω1) (r9 : Int32)  (lo N : Nat) (fl : Nat → Int64) (ho : ω2 lo = some (.inl (g.2.1 4, N, .inr (.inl fl)))) (hN : 0 < N) (hN2 : N < 2 ^ 31) : CTH l g yL_notice cL_notice 4 (some .int) [(0, 16, 19, 57), (0, 16, 22, 15)] 8 133 2 12 [.ref (ad .main), .int r9, .ref lo] (wjn ω1 ω2) (okH g ad (cd_notice σ r9) (if (vl_notice σ r9) = true then 1 else 0) (nx_notice σ r9) σ lo N fl ω2) := by
  refine CTH.of (own := "BoringheadLaw") rfl rfl (le_b rfl) rfl ?_
  intro p e s m args below meth c sz0 hC hr htab hNc
  refine s_aload_n hC dL_notice_0 rfl rfl 2 rfl ?_
  refine s_iconst hC (v := 0) dL_notice_1 rfl (by decide) ?_
  refine s_aload_n hC dL_notice_2 rfl rfl 0 rfl ?_
  refine s_iload_n hC dL_notice_3 rfl rfl 1 rfl ?_
  refine s_callV hC (CT.frame (ct_X9_notice l g hst _ _ _ _ hR r9) hd) ce_X9_notice cs_X9 (wjn_l (RepC.f_main hR)) tw_1191 rfl rfl ⟨⟨le_b rfl, le_b rfl⟩, le_b rfl, le_b rfl⟩ (le_b rfl) dL_notice_4 rfl (fun r w h9 => ?_) (fun E w h9 => ?_)
  · obtain ⟨w1, ⟨hc, rfl, ad2, x2, hR2, hm2⟩, rfl, hd2⟩ := h9
    refine z_if_eqB hC (tgt := 14) dL_notice_7 rfl (by decide) (fun c9 => ?_) (fun c9 => ?_)
    · refine s_lconst hC (v := 0) dL_notice_14 rfl (by decide) ?_
      refine s_last hC ((wjn_r (djn_at hd2 ho)).trans ho) (show vp_in 0 N from vp_in_nI hN hN2) dL_notice_15 rfl ?_
      refine s_goto hC (tgt := 25) dL_notice_16 (by decide) ?_
      refine s_iconst hC (v := 0) dL_notice_25 rfl (by decide) ?_
      refine s_iret hC hr dL_notice_26 (le_b rfl) (le_b rfl) ?_
      exact okH_ok hc rfl hR2 hm2 hd2 ho (by rw [c9]; rfl)
    · refine s_lconst hC (v := 1) dL_notice_10 rfl (by decide) ?_
      refine s_goto hC (tgt := 15) dL_notice_11 (by decide) ?_
      refine s_last hC ((wjn_r (djn_at hd2 ho)).trans ho) (show vp_in 0 N from vp_in_nI hN hN2) dL_notice_15 rfl ?_
      refine s_goto hC (tgt := 25) dL_notice_16 (by decide) ?_
      refine s_iconst hC (v := 0) dL_notice_25 rfl (by decide) ?_
      refine s_iret hC hr dL_notice_26 (le_b rfl) (le_b rfl) ?_
      exact okH_ok hc rfl hR2 hm2 hd2 ho (by rw [c9]; rfl)
  · obtain ⟨w1, ⟨hc, hE, ad2, x2, hR2, hm2⟩, rfl, hd2⟩ := h9
    have hk : (cd_notice σ r9) = 1 ∨ (cd_notice σ r9) = 2 := by
      have h8 := (List.getElem?_eq_some_iff.mp hE).1
      simp only [List.length_cons, List.length_nil] at h8
      omega
    rcases hk with hk | hk
    · have hE2 : "java/lang/IndexOutOfBoundsException" = E := by
        rw [hk] at hE
        exact Option.some.inj hE
      subst hE2
      refine s_catch hC hNc htab [] ⟨0, 16, 19, 57⟩ [⟨0, 16, 22, 15⟩] rfl (fun z hz => by cases hz) rfl (by decide) tw_755 tw_785 rfl (fun q => ?_)
      refine s_astore_n hC (L' := [(3, _), (0, _), (1, _), (2, _)]) dL_notice_19 rfl rfl (le_b rfl) rfl ?_
      refine s_iconst hC (v := 1) dL_notice_20 rfl (by decide) ?_
      refine s_iret hC hr dL_notice_21 (le_b rfl) (le_b rfl) ?_
      exact okH_no hc (by rw [hk]; rfl) hR2 hm2 hd2
    · have hE2 : "java/lang/UnsupportedOperationException" = E := by
        rw [hk] at hE
        exact Option.some.inj hE
      subst hE2
      refine s_catch hC hNc htab [⟨0, 16, 19, 57⟩] ⟨0, 16, 22, 15⟩ [] rfl (fun z hz => by
        simp only [List.mem_cons, List.not_mem_nil, or_false] at hz
        rcases hz with rfl
        · exact ⟨by decide, "java/lang/IndexOutOfBoundsException", tw_755, by decide, by decide, by decide⟩) rfl (by decide) tw_427 tw_527 rfl (fun q => ?_)
      refine s_astore_n hC (L' := [(3, _), (0, _), (1, _), (2, _)]) dL_notice_22 rfl rfl (le_b rfl) rfl ?_
      refine s_iconst hC (v := 2) dL_notice_23 rfl (by decide) ?_
      refine s_iret hC hr dL_notice_24 (le_b rfl) (le_b rfl) ?_
      exact okH_no hc (by rw [hk]; rfl) hR2 hm2 hd2
theorem ce_L_count : CeX yL_count cL_count 4 (some .int) [(0, 9, 12, 13)] 3 := ⟨tw_1198, tw_1197, tw_0, ⟨by decide +kernel, by decide +kernel, by decide +kernel⟩⟩
set_option maxHeartbeats 1000000 in
set_option maxRecDepth 100000 in
theorem ct_L_count (l : Launch) (g : Gl) (hst : l.stackTraces = false) (ω1 ω2 : Wd) (hd : djn ω1 ω2) (ad : Ix → Nat) (x : Ex) (σ : St) (hR : RepC g ad x σ ω1) (c9 : Int32)  (lo N : Nat) (fl : Nat → Int64) (ho : ω2 lo = some (.inl (g.2.1 4, N, .inr (.inl fl)))) (hN : 0 < N) (hN2 : N < 2 ^ 31) : CTH l g yL_count cL_count 4 (some .int) [(0, 9, 12, 13)] 7 114 1 6 [.ref (ad .main), .int c9, .ref lo] (wjn ω1 ω2) (okH g ad (cd_count σ c9) (Int32.toInt64 (vl_count σ c9)) σ σ lo N fl ω2) := by
  refine CTH.of (own := "BoringheadLaw") rfl rfl (le_b rfl) rfl ?_
  intro p e s m args below meth c sz0 hC hr htab hNc
  refine s_aload_n hC dL_count_0 rfl rfl 2 rfl ?_
  refine s_iconst hC (v := 0) dL_count_1 rfl (by decide) ?_
  refine s_aload_n hC dL_count_2 rfl rfl 0 rfl ?_
  refine s_iload_n hC dL_count_3 rfl rfl 1 rfl ?_
  refine s_callV hC (CT.frame (ct_X9_count l g hst _ _ _ _ hR c9) hd) ce_X9_count cs_X9 (wjn_l (RepC.f_main hR)) tw_1199 rfl rfl ⟨⟨le_b rfl, le_b rfl⟩, le_b rfl, le_b rfl⟩ (le_b rfl) dL_count_4 rfl (fun r w h9 => ?_) (fun E w h9 => ?_)
  · obtain ⟨w1, ⟨hc, rfl, ad2, x2, hR2, hm2⟩, rfl, hd2⟩ := h9
    refine s_i2l hC dL_count_7 rfl rfl ?_
    refine s_last hC ((wjn_r (djn_at hd2 ho)).trans ho) (show vp_in 0 N from vp_in_nI hN hN2) dL_count_8 rfl ?_
    refine s_goto hC (tgt := 15) dL_count_9 (by decide) ?_
    refine s_iconst hC (v := 0) dL_count_15 rfl (by decide) ?_
    refine s_iret hC hr dL_count_16 (le_b rfl) (le_b rfl) ?_
    exact okH_ok hc rfl hR2 hm2 hd2 ho rfl
  · obtain ⟨w1, ⟨hc, hE, ad2, x2, hR2, hm2⟩, rfl, hd2⟩ := h9
    have hk : (cd_count σ c9) = 1 := by
      have h8 := (List.getElem?_eq_some_iff.mp hE).1
      simp only [List.length_cons, List.length_nil] at h8
      omega
    rcases hk with hk
    · have hE2 : "java/lang/IllegalArgumentException" = E := by
        rw [hk] at hE
        exact Option.some.inj hE
      subst hE2
      refine s_catch hC hNc htab [] ⟨0, 9, 12, 13⟩ [] rfl (fun z hz => by cases hz) rfl (by decide) tw_426 tw_452 rfl (fun q => ?_)
      refine s_astore_n hC (L' := [(3, _), (0, _), (1, _), (2, _)]) dL_count_12 rfl rfl (le_b rfl) rfl ?_
      refine s_iconst hC (v := 1) dL_count_13 rfl (by decide) ?_
      refine s_iret hC hr dL_count_14 (le_b rfl) (le_b rfl) ?_
      exact okH_no hc (by rw [hk]; rfl) hR2 hm2 hd2
theorem ce_L_groutShare : CeX yL_groutShare cL_groutShare 3 (some .int) [(0, 8, 11, 142)] 2 := ⟨tw_1206, tw_1205, tw_0, ⟨by decide +kernel, by decide +kernel, by decide +kernel⟩⟩
set_option maxHeartbeats 1000000 in
set_option maxRecDepth 100000 in
theorem ct_L_groutShare (l : Launch) (g : Gl) (hst : l.stackTraces = false) (ω1 ω2 : Wd) (hd : djn ω1 ω2) (ad : Ix → Nat) (x : Ex) (σ : St) (hR : RepC g ad x σ ω1)  (hnn : ¬ σ.n = 0 → vf_n32 (FP.fdiv (FP.i2f (fiF σ σ.n)) (FP.i2f (gpF σ σ.n)))) (hnd : ¬ σ.n = 0 → vf_n64 (FP.f2d (vl_groutShare σ))) (lo N : Nat) (fl : Nat → UInt64) (ho : ω2 lo = some (.inl (g.2.1 5, N, .inr (.inr (.inr (.inl fl)))))) (hN : 0 < N) (hN2 : N < 2 ^ 31) : CTH l g yL_groutShare cL_groutShare 3 (some .int) [(0, 8, 11, 142)] 7 113 1 6 [.ref (ad .main), .ref lo] (wjn ω1 ω2) (okHD g ad (cd_groutShare σ) (FP.f2d (vl_groutShare σ)) σ σ lo N fl ω2) := by
  refine CTH.of (own := "BoringheadLaw") rfl rfl (le_b rfl) rfl ?_
  intro p e s m args below meth c sz0 hC hr htab hNc
  refine s_aload_n hC dL_groutShare_0 rfl rfl 1 rfl ?_
  refine s_iconst hC (v := 0) dL_groutShare_1 rfl (by decide) ?_
  refine s_aload_n hC dL_groutShare_2 rfl rfl 0 rfl ?_
  refine s_callV hC (CT.frame (ct_X9_groutShare l g hst _ _ _ _ hR hnn) hd) ce_X9_groutShare cs_X9 (wjn_l (RepC.f_main hR)) tw_1221 rfl rfl ⟨⟨le_b rfl, le_b rfl⟩, le_b rfl, le_b rfl⟩ (le_b rfl) dL_groutShare_3 rfl (fun r w h9 => ?_) (fun E w h9 => ?_)
  · obtain ⟨w1, ⟨hc, rfl, ad2, x2, hR2, hm2⟩, rfl, hd2⟩ := h9
    refine s_f2d hC dL_groutShare_6 rfl (hnd (fun z => by simp [cd_groutShare, z] at hc)) ?_
    refine s_dast hC ((wjn_r (djn_at hd2 ho)).trans ho) (show vp_in 0 N from vp_in_nI hN hN2) dL_groutShare_7 rfl ?_
    refine s_goto hC (tgt := 14) dL_groutShare_8 (by decide) ?_
    refine s_iconst hC (v := 0) dL_groutShare_14 rfl (by decide) ?_
    refine s_iret hC hr dL_groutShare_15 (le_b rfl) (le_b rfl) ?_
    exact okHD_ok hc rfl hR2 hm2 hd2 ho rfl
  · obtain ⟨w1, ⟨hc, hE, ad2, x2, hR2, hm2⟩, rfl, hd2⟩ := h9
    have hk : (cd_groutShare σ) = 1 := by
      have h8 := (List.getElem?_eq_some_iff.mp hE).1
      simp only [List.length_cons, List.length_nil] at h8
      omega
    rcases hk with hk
    · have hE2 : "java/lang/ArithmeticException" = E := by
        rw [hk] at hE
        exact Option.some.inj hE
      subst hE2
      refine s_catch hC hNc htab [] ⟨0, 8, 11, 142⟩ [] rfl (fun z hz => by cases hz) rfl (by decide) tw_1207 tw_1219 rfl (fun q => ?_)
      refine s_astore_n hC (L' := [(2, _), (0, _), (1, _)]) dL_groutShare_11 rfl rfl (le_b rfl) rfl ?_
      refine s_iconst hC (v := 1) dL_groutShare_12 rfl (by decide) ?_
      refine s_iret hC hr dL_groutShare_13 (le_b rfl) (le_b rfl) ?_
      exact okHD_no hc (by rw [hk]; rfl) hR2 hm2 hd2
theorem ce_L_meanMinutes : CeX yL_meanMinutes cL_meanMinutes 3 (some .int) [(0, 7, 10, 142)] 2 := ⟨tw_1231, tw_1230, tw_0, ⟨by decide +kernel, by decide +kernel, by decide +kernel⟩⟩
set_option maxHeartbeats 1000000 in
set_option maxRecDepth 100000 in
theorem ct_L_meanMinutes (l : Launch) (g : Gl) (hst : l.stackTraces = false) (ω1 ω2 : Wd) (hd : djn ω1 ω2) (ad : Ix → Nat) (x : Ex) (σ : St) (hR : RepC g ad x σ ω1)  (hnn : ¬ σ.n = 0 → vf_n64 (FP.ddiv (FP.i2d (mrF σ σ.n)) (FP.i2d (nI σ.n)))) (lo N : Nat) (fl : Nat → UInt64) (ho : ω2 lo = some (.inl (g.2.1 5, N, .inr (.inr (.inr (.inl fl)))))) (hN : 0 < N) (hN2 : N < 2 ^ 31) : CTH l g yL_meanMinutes cL_meanMinutes 3 (some .int) [(0, 7, 10, 142)] 7 110 1 6 [.ref (ad .main), .ref lo] (wjn ω1 ω2) (okHD g ad (cd_meanMinutes σ) (vl_meanMinutes σ) σ σ lo N fl ω2) := by
  refine CTH.of (own := "BoringheadLaw") rfl rfl (le_b rfl) rfl ?_
  intro p e s m args below meth c sz0 hC hr htab hNc
  refine s_aload_n hC dL_meanMinutes_0 rfl rfl 1 rfl ?_
  refine s_iconst hC (v := 0) dL_meanMinutes_1 rfl (by decide) ?_
  refine s_aload_n hC dL_meanMinutes_2 rfl rfl 0 rfl ?_
  refine s_callV hC (CT.frame (ct_X9_meanMinutes l g hst _ _ _ _ hR hnn) hd) ce_X9_meanMinutes cs_X9 (wjn_l (RepC.f_main hR)) tw_1232 rfl rfl ⟨⟨le_b rfl, le_b rfl⟩, le_b rfl, le_b rfl⟩ (le_b rfl) dL_meanMinutes_3 rfl (fun r w h9 => ?_) (fun E w h9 => ?_)
  · obtain ⟨w1, ⟨hc, rfl, ad2, x2, hR2, hm2⟩, rfl, hd2⟩ := h9
    refine s_dast hC ((wjn_r (djn_at hd2 ho)).trans ho) (show vp_in 0 N from vp_in_nI hN hN2) dL_meanMinutes_6 rfl ?_
    refine s_goto hC (tgt := 13) dL_meanMinutes_7 (by decide) ?_
    refine s_iconst hC (v := 0) dL_meanMinutes_13 rfl (by decide) ?_
    refine s_iret hC hr dL_meanMinutes_14 (le_b rfl) (le_b rfl) ?_
    exact okHD_ok hc rfl hR2 hm2 hd2 ho rfl
  · obtain ⟨w1, ⟨hc, hE, ad2, x2, hR2, hm2⟩, rfl, hd2⟩ := h9
    have hk : (cd_meanMinutes σ) = 1 := by
      have h8 := (List.getElem?_eq_some_iff.mp hE).1
      simp only [List.length_cons, List.length_nil] at h8
      omega
    rcases hk with hk
    · have hE2 : "java/lang/ArithmeticException" = E := by
        rw [hk] at hE
        exact Option.some.inj hE
      subst hE2
      refine s_catch hC hNc htab [] ⟨0, 7, 10, 142⟩ [] rfl (fun z hz => by cases hz) rfl (by decide) tw_1207 tw_1219 rfl (fun q => ?_)
      refine s_astore_n hC (L' := [(2, _), (0, _), (1, _)]) dL_meanMinutes_10 rfl rfl (le_b rfl) rfl ?_
      refine s_iconst hC (v := 1) dL_meanMinutes_11 rfl (by decide) ?_
      refine s_iret hC hr dL_meanMinutes_12 (le_b rfl) (le_b rfl) ?_
      exact okHD_no hc (by rw [hk]; rfl) hR2 hm2 hd2
