section LDCW
variable {p : Program} {l : Launch} {e : Env} {R : Room} {s : State} {m : MethodId} {args : Array Value} {below : List Frame} {meth : Method} {c : Code} {cc : ByteArray} {nL : Nat} {own : String} {g : Gl} {ω0 : Wd} {sz0 : Nat} {Q : State → Prop} {ω : Wd} {k n pc pc' : Nat} {L : List (Nat × Value)} {rest : List Value}
theorem s_ldcSW (hC : Cx p l e R s m args below meth c cc nL own g ω0 sz0) {index : Nat} (i : Nat) {text : String} (h0 : stS[i]? = some (own, index, text)) (hdg : decode cc pc = .ok (.ldc_w index, 3)) (hp : pc + 3 = pc')
    (kk : WP p l e R s m args below meth c g ω0 sz0 Q nL ω k n pc' L (.ref (adS g i) :: rest)) : WP p l e R s m args below meth c g ω0 sz0 Q nL ω k n pc L rest := fun H locs ls hw hk hS hl => by
  subst hp
  intro T hT X
  obtain ⟨t, a1, b1⟩ := kk H locs ls hw hk hS hl T hT X
  have hZ := hC.2.2.2.2.2.1.2.2.2.2.2.1 i _ h0
  exact ⟨t, X.ldcStringW hC.1 hC.2.2.2.1 (text := text) (a := adS g i) hZ.1 hZ.2 (g := F0 m pc ls rest) rfl (by rw [hC.2.1]; exact hdg) t a1, b1⟩
end LDCW
theorem cdK_ns (σ : St) (f9 t9 c9 : Int32) : (if isStr f9 t9 = true then (if 0 ≤ ixF (stF [99, 115, 114, 98]) c9 4 0 then (if nI σ.n ≤ f9 then 0 else 2) else 1) else 1) = nsC σ f9 t9 (decide (0 ≤ ixF (stF [99, 115, 114, 98]) c9 4 0)) := by
  rw [nsC_eq]
  by_cases h : 0 ≤ ixF (stF [99, 115, 114, 98]) c9 4 0 <;> simp [h]
set_option maxHeartbeats 1000000 in
set_option maxRecDepth 100000 in
theorem ct_X11_tell_kinds (l : Launch) (g : Gl) (ω : Wd) (ad : Iy → Nat) (y : Ey) (σ : St) (hR : RepM g ad y σ ω) (f9 t9 c9 : Int32) (hgr : grOK σ y) : CT l g yX11_tell cX11_tell 8 (some .int) 4 91 0 0 [.ref (ad .main), .ref (ad .kinds), .int f9, .int t9, .int c9] ω (okM g ad (cd_tellKind_kinds σ f9 t9 c9) Value.int (vl_tellKind_kinds σ f9 t9 c9) (nx_tellKind_kinds σ f9 t9 c9) σ) (nox) := by
  refine CT.of (own := "BoringheadModel") rfl rfl (le_b rfl) rfl ?_
  intro p e s m args below meth c sz0 hC hr htab hin
  refine s_aload_n hC dX11_tell_0 rfl rfl 0 rfl ?_
  refine s_callV hC (ct_X11_begins l g _ _ _ _ hR) ce_X11_begins cs_X11 (RepM.f_main hR) tw_1324 rfl rfl ⟨⟨le_b rfl, le_b rfl⟩, le_b rfl, le_b rfl⟩ (le_b rfl) dX11_tell_1 rfl (dvk0 ?_) nokx
  refine WP.rm (RepM.s_main_0 hR 0) (fun hR_1 => ?_)
  refine s_ldcS hC 32 rfl dX11_tell_4 rfl ?_
  refine s_iload hC dX11_tell_6 rfl 4 rfl ?_
  refine s_callVs hC (ct_J0_indexOf_0f7a4 l g _ _ _ 4 (stF [99, 115, 114, 98]) (strK g _ (i := 1) rfl) (by decide) (by decide) _ lat_K) ce_J0_indexOf_0f7a4 rfl (strK g _ (i := 1) rfl) tw_1329 rfl rfl ⟨⟨le_b rfl, le_b rfl⟩, le_b rfl, le_b rfl⟩ (le_b rfl) dX11_tell_8 rfl (dvk1 ?_) nokx
  refine s_istore hC (L' := [(5, _), (0, _), (1, _), (2, _), (3, _), (4, _)]) dX11_tell_11 rfl (le_b rfl) rfl ?_
  refine s_aload_n hC dX11_tell_13 rfl rfl 1 rfl ?_
  refine s_iload_n hC dX11_tell_14 rfl rfl 3 rfl ?_
  refine s_iload_n hC dX11_tell_15 rfl rfl 4 rfl ?_
  refine s_iload hC dX11_tell_16 rfl 0 rfl ?_
  refine z_if_lt hC (tgt := 25) dX11_tell_18 rfl (by decide) (fun c_1 => ?_) (fun c_1 => ?_)
  · refine s_iconst hC (v := 0) dX11_tell_25 rfl (by decide) ?_
    refine s_callV hC (ct_X11_noStretch l g _ _ _ _ hR_1 rfl f9 t9 false) ce_X11_noStretch cs_X11 (RepM.f_main hR_1) tw_1411 rfl rfl ⟨⟨le_b rfl, le_b rfl⟩, le_b rfl, le_b rfl⟩ (le_b rfl) dX11_tell_26 rfl (fun r w h9 => ?_) nokx
    rcases h9 with ⟨hc, rfl, rfl⟩ | ⟨hc, rfl, rfl⟩
    · have hb9 : decide (0 ≤ ixF (stF [99, 115, 114, 98]) c9 4 0) = false := by simp [c_1]
      have hcd : (cd_tellKind_kinds σ f9 t9 c9) = 0 := by rw [cd_tellKind_kinds, cdK_ns, hb9]; exact hc
      obtain ⟨x9, z9, rfl, rfl, hxz, hz⟩ := isStr_spec (nsC_0 hc)
      refine z_if_eq hC (tgt := 34) dX11_tell_29 rfl (by decide) (fun c_2 => ?_) (fun c_2 => ((absurd c_2 (by decide) : False)).elim)
      refine s_iconst hC (v := 0) dX11_tell_34 rfl (by decide) ?_
      refine s_istore hC (L' := [(6, _), (5, _), (0, _), (1, _), (2, _), (3, _), (4, _)]) dX11_tell_35 rfl (le_b rfl) rfl ?_
      refine s_iload_n hC dX11_tell_37 rfl rfl 4 rfl ?_
      refine s_istore hC (L' := [(7, _), (6, _), (5, _), (0, _), (1, _), (2, _), (3, _), (4, _)]) dX11_tell_38 rfl (le_b rfl) rfl ?_
      refine WP.sub (L' := [(0, _), (1, _), (3, _), (5, _), (6, _), (7, _)]) [3, 4, 6, 2, 1, 0] rfl ?_
      refine wp_loop (σ := Int32 × Int32 × Wd × Nat) (I := fun (o, i, W, j) => j ≤ z9 + 1 - x9 ∧ i = nI (x9 + j) ∧ o = nI (cntN σ.kinds (ixF (stF [99, 115, 114, 98]) c9 4 0) x9 j) ∧ W = wup (wup ω (ad .main) (.inr (16, (mnL ad y σ).set 0 (.int 0)))) (ad .kinds) (.inl (g.2.1 0, 200, .inl (fillN σ.kinds x9 j (ixF (stF [99, 115, 114, 98]) c9 4 0))))) (ωf := fun (o, i, W, j) => W) (Lf := fun (o, i, W, j) => [(0, .ref (ad .main)), (1, .ref (ad .kinds)), (3, .int (nI z9)), (5, .int (ixF (stF [99, 115, 114, 98]) c9 4 0)), (6, .int o), (7, .int i)]) (μ := fun (o, i, W, j) => z9 + 1 - x9 - j) (x0 := (_, _, _, 0)) ?_ ?_
      · exact ⟨Nat.zero_le _, rfl, rfl, by rw [fillN_0]; exact (wup_self (RepM.f_kinds hR_1)).symm⟩
      · rintro ⟨o, i, W, j⟩ hI ih
        dsimp only at hI ih ⊢
        obtain ⟨hj, rfl, rfl, rfl⟩ := hI
        have hin9 : nI (x9 + j) ≤ nI z9 → j < z9 + 1 - x9 := fun h => by
          have h2 := (nI_leI (by omega) (by omega)).mp h
          omega
        have hW := RepM.w_kinds hR_1 (fillN σ.kinds x9 j (ixF (stF [99, 115, 114, 98]) c9 4 0))
        refine s_iload hC dX11_tell_40 rfl 5 rfl ?_
        refine s_iload_n hC dX11_tell_42 rfl rfl 2 rfl ?_
        refine z_icmp_gt hC (tgt := 77) dX11_tell_43 rfl (by decide) (fun c_3 => ?_) (fun c_3 => ?_)
        · refine s_iload hC dX11_tell_77 rfl 4 rfl ?_
          refine s_iret hC hr dX11_tell_79 (le_b rfl) (le_b rfl) ?_
          obtain rfl : j = z9 + 1 - x9 := by
            have : ¬ x9 + j ≤ z9 := fun h => c_3 (nI_le h (by omega))
            omega
          exact okM_ok hcd rfl (by rw [vl_tellKind_kinds, fcF, nI_clamp (by omega), nI_clamp (by omega)]) hW (by rw [nx_tellKind_kinds, fwF, nI_clamp (by omega), nI_clamp (by omega)]) rfl rfl hgr
        · refine s_iload hC dX11_tell_46 rfl 4 rfl ?_
          refine s_aload_n hC dX11_tell_48 rfl rfl 1 rfl ?_
          refine s_iload hC dX11_tell_49 rfl 5 rfl ?_
          refine s_ialdK hC (Or.inl (RepM.f_kinds hW)) (vp_in_nI (by have := hin9 c_3; omega : x9 + j < 200) (by decide)) dX11_tell_51 rfl ?_
          rw [nI_clamp (show x9 + j < 2 ^ 31 by have := hin9 c_3; omega), show (σ.w_kinds (fillN σ.kinds x9 j (ixF (stF [99, 115, 114, 98]) c9 4 0))).kinds = fillN σ.kinds x9 j (ixF (stF [99, 115, 114, 98]) c9 4 0) from rfl, fillN_at]
          refine s_iload hC dX11_tell_52 rfl 3 rfl ?_
          refine z_icmp_eq hC (tgt := 61) dX11_tell_54 rfl (by decide) (fun c_4 => ?_) (fun c_4 => ?_)
          · refine s_iconst hC (v := 0) dX11_tell_61 rfl (by decide) ?_
            refine s_iadd hC dX11_tell_62 rfl ?_
            refine s_istore hC (L' := [(6, _), (0, _), (1, _), (3, _), (5, _), (7, _)]) dX11_tell_63 rfl (le_b rfl) rfl ?_
            refine s_aload_n hC dX11_tell_65 rfl rfl 2 rfl ?_
            refine s_iload hC dX11_tell_66 rfl 5 rfl ?_
            refine s_iload hC dX11_tell_68 rfl 4 rfl ?_
            refine s_iast hC (RepM.f_kinds hW) (vp_in_nI (by have := hin9 c_3; omega : x9 + j < 200) (by decide)) dX11_tell_70 rfl ?_
            refine WP.rm (RepM.w_kinds hW _) (fun hR_70 => ?_)
            refine s_iinc hC (v := _ + 1) (j9 := 5) (L' := [(7, _), (6, _), (0, _), (1, _), (3, _), (5, _)]) dX11_tell_71 rfl rfl rfl (le_b rfl) rfl ?_
            refine s_goto hC (tgt := 40) dX11_tell_74 (by decide) ?_
            refine WP.sub (L' := [(0, _), (1, _), (3, _), (5, _), (6, _), (7, _)]) [2, 3, 4, 5, 1, 0] rfl ?_
            refine ih (_, _, (wup _ _ _), j + 1) ?_ ?_
            · dsimp only
              have h9 := hin9 c_3
              refine ⟨by omega, nI_1 (x9 + j), ?_, by rw [wup_wup, nI_clamp (by omega), ← fillN_up]; rfl⟩
              first
                | (rw [cntN, if_pos c_4]; exact Int32.add_zero _)
                | (rw [cntN, if_neg c_4, nI_1])
            · dsimp only
              have h9 := hin9 c_3; omega
          · refine s_iconst hC (v := 1) dX11_tell_57 rfl (by decide) ?_
            refine s_goto hC (tgt := 62) dX11_tell_58 (by decide) ?_
            refine s_iadd hC dX11_tell_62 rfl ?_
            refine s_istore hC (L' := [(6, _), (0, _), (1, _), (3, _), (5, _), (7, _)]) dX11_tell_63 rfl (le_b rfl) rfl ?_
            refine s_aload_n hC dX11_tell_65 rfl rfl 2 rfl ?_
            refine s_iload hC dX11_tell_66 rfl 5 rfl ?_
            refine s_iload hC dX11_tell_68 rfl 4 rfl ?_
            refine s_iast hC (RepM.f_kinds hW) (vp_in_nI (by have := hin9 c_3; omega : x9 + j < 200) (by decide)) dX11_tell_70 rfl ?_
            refine WP.rm (RepM.w_kinds hW _) (fun hR_70 => ?_)
            refine s_iinc hC (v := _ + 1) (j9 := 5) (L' := [(7, _), (6, _), (0, _), (1, _), (3, _), (5, _)]) dX11_tell_71 rfl rfl rfl (le_b rfl) rfl ?_
            refine s_goto hC (tgt := 40) dX11_tell_74 (by decide) ?_
            refine WP.sub (L' := [(0, _), (1, _), (3, _), (5, _), (6, _), (7, _)]) [2, 3, 4, 5, 1, 0] rfl ?_
            refine ih (_, _, (wup _ _ _), j + 1) ?_ ?_
            · dsimp only
              have h9 := hin9 c_3
              refine ⟨by omega, nI_1 (x9 + j), ?_, by rw [wup_wup, nI_clamp (by omega), ← fillN_up]; rfl⟩
              first
                | (rw [cntN, if_pos c_4]; exact Int32.add_zero _)
                | (rw [cntN, if_neg c_4, nI_1])
            · dsimp only
              have h9 := hin9 c_3; omega
    · have hb9 : decide (0 ≤ ixF (stF [99, 115, 114, 98]) c9 4 0) = false := by simp [c_1]
      have hcd : (cd_tellKind_kinds σ f9 t9 c9) = nsC σ f9 t9 false := by rw [cd_tellKind_kinds, cdK_ns, hb9]
      refine WP.rm (RepM.s_main_0 hR_1 _) (fun hR_9 => ?_)
      refine z_if_eq hC (tgt := 34) dX11_tell_29 rfl (by decide) (fun c_5 => ((absurd c_5 (by decide) : False)).elim) (fun c_5 => ?_)
      refine s_iconst hC (v := (-1)) dX11_tell_32 rfl (by decide) ?_
      refine s_iret hC hr dX11_tell_33 (le_b rfl) (le_b rfl) ?_
      exact okM_no _ hcd hc rfl hR_9 rfl rfl hgr
  · refine s_iconst hC (v := 1) dX11_tell_21 rfl (by decide) ?_
    refine s_goto hC (tgt := 26) dX11_tell_22 (by decide) ?_
    refine s_callV hC (ct_X11_noStretch l g _ _ _ _ hR_1 rfl f9 t9 true) ce_X11_noStretch cs_X11 (RepM.f_main hR_1) tw_1411 rfl rfl ⟨⟨le_b rfl, le_b rfl⟩, le_b rfl, le_b rfl⟩ (le_b rfl) dX11_tell_26 rfl (fun r w h9 => ?_) nokx
    rcases h9 with ⟨hc, rfl, rfl⟩ | ⟨hc, rfl, rfl⟩
    · have hb9 : decide (0 ≤ ixF (stF [99, 115, 114, 98]) c9 4 0) = true := by simp [c_1]
      have hcd : (cd_tellKind_kinds σ f9 t9 c9) = 0 := by rw [cd_tellKind_kinds, cdK_ns, hb9]; exact hc
      obtain ⟨x9, z9, rfl, rfl, hxz, hz⟩ := isStr_spec (nsC_0 hc)
      refine z_if_eq hC (tgt := 34) dX11_tell_29 rfl (by decide) (fun c_6 => ?_) (fun c_6 => ((absurd c_6 (by decide) : False)).elim)
      refine s_iconst hC (v := 0) dX11_tell_34 rfl (by decide) ?_
      refine s_istore hC (L' := [(6, _), (5, _), (0, _), (1, _), (2, _), (3, _), (4, _)]) dX11_tell_35 rfl (le_b rfl) rfl ?_
      refine s_iload_n hC dX11_tell_37 rfl rfl 4 rfl ?_
      refine s_istore hC (L' := [(7, _), (6, _), (5, _), (0, _), (1, _), (2, _), (3, _), (4, _)]) dX11_tell_38 rfl (le_b rfl) rfl ?_
      refine WP.sub (L' := [(0, _), (1, _), (3, _), (5, _), (6, _), (7, _)]) [3, 4, 6, 2, 1, 0] rfl ?_
      refine wp_loop (σ := Int32 × Int32 × Wd × Nat) (I := fun (o, i, W, j) => j ≤ z9 + 1 - x9 ∧ i = nI (x9 + j) ∧ o = nI (cntN σ.kinds (ixF (stF [99, 115, 114, 98]) c9 4 0) x9 j) ∧ W = wup (wup ω (ad .main) (.inr (16, (mnL ad y σ).set 0 (.int 0)))) (ad .kinds) (.inl (g.2.1 0, 200, .inl (fillN σ.kinds x9 j (ixF (stF [99, 115, 114, 98]) c9 4 0))))) (ωf := fun (o, i, W, j) => W) (Lf := fun (o, i, W, j) => [(0, .ref (ad .main)), (1, .ref (ad .kinds)), (3, .int (nI z9)), (5, .int (ixF (stF [99, 115, 114, 98]) c9 4 0)), (6, .int o), (7, .int i)]) (μ := fun (o, i, W, j) => z9 + 1 - x9 - j) (x0 := (_, _, _, 0)) ?_ ?_
      · exact ⟨Nat.zero_le _, rfl, rfl, by rw [fillN_0]; exact (wup_self (RepM.f_kinds hR_1)).symm⟩
      · rintro ⟨o, i, W, j⟩ hI ih
        dsimp only at hI ih ⊢
        obtain ⟨hj, rfl, rfl, rfl⟩ := hI
        have hin9 : nI (x9 + j) ≤ nI z9 → j < z9 + 1 - x9 := fun h => by
          have h2 := (nI_leI (by omega) (by omega)).mp h
          omega
        have hW := RepM.w_kinds hR_1 (fillN σ.kinds x9 j (ixF (stF [99, 115, 114, 98]) c9 4 0))
        refine s_iload hC dX11_tell_40 rfl 5 rfl ?_
        refine s_iload_n hC dX11_tell_42 rfl rfl 2 rfl ?_
        refine z_icmp_gt hC (tgt := 77) dX11_tell_43 rfl (by decide) (fun c_7 => ?_) (fun c_7 => ?_)
        · refine s_iload hC dX11_tell_77 rfl 4 rfl ?_
          refine s_iret hC hr dX11_tell_79 (le_b rfl) (le_b rfl) ?_
          obtain rfl : j = z9 + 1 - x9 := by
            have : ¬ x9 + j ≤ z9 := fun h => c_7 (nI_le h (by omega))
            omega
          exact okM_ok hcd rfl (by rw [vl_tellKind_kinds, fcF, nI_clamp (by omega), nI_clamp (by omega)]) hW (by rw [nx_tellKind_kinds, fwF, nI_clamp (by omega), nI_clamp (by omega)]) rfl rfl hgr
        · refine s_iload hC dX11_tell_46 rfl 4 rfl ?_
          refine s_aload_n hC dX11_tell_48 rfl rfl 1 rfl ?_
          refine s_iload hC dX11_tell_49 rfl 5 rfl ?_
          refine s_ialdK hC (Or.inl (RepM.f_kinds hW)) (vp_in_nI (by have := hin9 c_7; omega : x9 + j < 200) (by decide)) dX11_tell_51 rfl ?_
          rw [nI_clamp (show x9 + j < 2 ^ 31 by have := hin9 c_7; omega), show (σ.w_kinds (fillN σ.kinds x9 j (ixF (stF [99, 115, 114, 98]) c9 4 0))).kinds = fillN σ.kinds x9 j (ixF (stF [99, 115, 114, 98]) c9 4 0) from rfl, fillN_at]
          refine s_iload hC dX11_tell_52 rfl 3 rfl ?_
          refine z_icmp_eq hC (tgt := 61) dX11_tell_54 rfl (by decide) (fun c_8 => ?_) (fun c_8 => ?_)
          · refine s_iconst hC (v := 0) dX11_tell_61 rfl (by decide) ?_
            refine s_iadd hC dX11_tell_62 rfl ?_
            refine s_istore hC (L' := [(6, _), (0, _), (1, _), (3, _), (5, _), (7, _)]) dX11_tell_63 rfl (le_b rfl) rfl ?_
            refine s_aload_n hC dX11_tell_65 rfl rfl 2 rfl ?_
            refine s_iload hC dX11_tell_66 rfl 5 rfl ?_
            refine s_iload hC dX11_tell_68 rfl 4 rfl ?_
            refine s_iast hC (RepM.f_kinds hW) (vp_in_nI (by have := hin9 c_7; omega : x9 + j < 200) (by decide)) dX11_tell_70 rfl ?_
            refine WP.rm (RepM.w_kinds hW _) (fun hR_70 => ?_)
            refine s_iinc hC (v := _ + 1) (j9 := 5) (L' := [(7, _), (6, _), (0, _), (1, _), (3, _), (5, _)]) dX11_tell_71 rfl rfl rfl (le_b rfl) rfl ?_
            refine s_goto hC (tgt := 40) dX11_tell_74 (by decide) ?_
            refine WP.sub (L' := [(0, _), (1, _), (3, _), (5, _), (6, _), (7, _)]) [2, 3, 4, 5, 1, 0] rfl ?_
            refine ih (_, _, (wup _ _ _), j + 1) ?_ ?_
            · dsimp only
              have h9 := hin9 c_7
              refine ⟨by omega, nI_1 (x9 + j), ?_, by rw [wup_wup, nI_clamp (by omega), ← fillN_up]; rfl⟩
              first
                | (rw [cntN, if_pos c_8]; exact Int32.add_zero _)
                | (rw [cntN, if_neg c_8, nI_1])
            · dsimp only
              have h9 := hin9 c_7; omega
          · refine s_iconst hC (v := 1) dX11_tell_57 rfl (by decide) ?_
            refine s_goto hC (tgt := 62) dX11_tell_58 (by decide) ?_
            refine s_iadd hC dX11_tell_62 rfl ?_
            refine s_istore hC (L' := [(6, _), (0, _), (1, _), (3, _), (5, _), (7, _)]) dX11_tell_63 rfl (le_b rfl) rfl ?_
            refine s_aload_n hC dX11_tell_65 rfl rfl 2 rfl ?_
            refine s_iload hC dX11_tell_66 rfl 5 rfl ?_
            refine s_iload hC dX11_tell_68 rfl 4 rfl ?_
            refine s_iast hC (RepM.f_kinds hW) (vp_in_nI (by have := hin9 c_7; omega : x9 + j < 200) (by decide)) dX11_tell_70 rfl ?_
            refine WP.rm (RepM.w_kinds hW _) (fun hR_70 => ?_)
            refine s_iinc hC (v := _ + 1) (j9 := 5) (L' := [(7, _), (6, _), (0, _), (1, _), (3, _), (5, _)]) dX11_tell_71 rfl rfl rfl (le_b rfl) rfl ?_
            refine s_goto hC (tgt := 40) dX11_tell_74 (by decide) ?_
            refine WP.sub (L' := [(0, _), (1, _), (3, _), (5, _), (6, _), (7, _)]) [2, 3, 4, 5, 1, 0] rfl ?_
            refine ih (_, _, (wup _ _ _), j + 1) ?_ ?_
            · dsimp only
              have h9 := hin9 c_7
              refine ⟨by omega, nI_1 (x9 + j), ?_, by rw [wup_wup, nI_clamp (by omega), ← fillN_up]; rfl⟩
              first
                | (rw [cntN, if_pos c_8]; exact Int32.add_zero _)
                | (rw [cntN, if_neg c_8, nI_1])
            · dsimp only
              have h9 := hin9 c_7; omega
    · have hb9 : decide (0 ≤ ixF (stF [99, 115, 114, 98]) c9 4 0) = true := by simp [c_1]
      have hcd : (cd_tellKind_kinds σ f9 t9 c9) = nsC σ f9 t9 true := by rw [cd_tellKind_kinds, cdK_ns, hb9]
      refine WP.rm (RepM.s_main_0 hR_1 _) (fun hR_9 => ?_)
      refine z_if_eq hC (tgt := 34) dX11_tell_29 rfl (by decide) (fun c_9 => ((absurd c_9 (by decide) : False)).elim) (fun c_9 => ?_)
      refine s_iconst hC (v := (-1)) dX11_tell_32 rfl (by decide) ?_
      refine s_iret hC hr dX11_tell_33 (le_b rfl) (le_b rfl) ?_
      exact okM_no _ hcd hc rfl hR_9 rfl rfl hgr
set_option maxHeartbeats 1000000 in
set_option maxRecDepth 100000 in
theorem ct_X11_tell_refs (l : Launch) (g : Gl) (ω : Wd) (ad : Iy → Nat) (y : Ey) (σ : St) (hR : RepM g ad y σ ω) (f9 t9 c9 : Int32) (hgr : grOK σ y) : CT l g yX11_tell cX11_tell 8 (some .int) 4 91 0 0 [.ref (ad .main), .ref (ad .refs), .int f9, .int t9, .int c9] ω (okM g ad (cd_tellKind_refs σ f9 t9 c9) Value.int (vl_tellKind_refs σ f9 t9 c9) (nx_tellKind_refs σ f9 t9 c9) σ) (nox) := by
  refine CT.of (own := "BoringheadModel") rfl rfl (le_b rfl) rfl ?_
  intro p e s m args below meth c sz0 hC hr htab hin
  refine s_aload_n hC dX11_tell_0 rfl rfl 0 rfl ?_
  refine s_callV hC (ct_X11_begins l g _ _ _ _ hR) ce_X11_begins cs_X11 (RepM.f_main hR) tw_1324 rfl rfl ⟨⟨le_b rfl, le_b rfl⟩, le_b rfl, le_b rfl⟩ (le_b rfl) dX11_tell_1 rfl (dvk0 ?_) nokx
  refine WP.rm (RepM.s_main_0 hR 0) (fun hR_1 => ?_)
  refine s_ldcS hC 32 rfl dX11_tell_4 rfl ?_
  refine s_iload hC dX11_tell_6 rfl 4 rfl ?_
  refine s_callVs hC (ct_J0_indexOf_0f7a4 l g _ _ _ 4 (stF [99, 115, 114, 98]) (strK g _ (i := 1) rfl) (by decide) (by decide) _ lat_K) ce_J0_indexOf_0f7a4 rfl (strK g _ (i := 1) rfl) tw_1329 rfl rfl ⟨⟨le_b rfl, le_b rfl⟩, le_b rfl, le_b rfl⟩ (le_b rfl) dX11_tell_8 rfl (dvk1 ?_) nokx
  refine s_istore hC (L' := [(5, _), (0, _), (1, _), (2, _), (3, _), (4, _)]) dX11_tell_11 rfl (le_b rfl) rfl ?_
  refine s_aload_n hC dX11_tell_13 rfl rfl 1 rfl ?_
  refine s_iload_n hC dX11_tell_14 rfl rfl 3 rfl ?_
  refine s_iload_n hC dX11_tell_15 rfl rfl 4 rfl ?_
  refine s_iload hC dX11_tell_16 rfl 0 rfl ?_
  refine z_if_lt hC (tgt := 25) dX11_tell_18 rfl (by decide) (fun c_1 => ?_) (fun c_1 => ?_)
  · refine s_iconst hC (v := 0) dX11_tell_25 rfl (by decide) ?_
    refine s_callV hC (ct_X11_noStretch l g _ _ _ _ hR_1 rfl f9 t9 false) ce_X11_noStretch cs_X11 (RepM.f_main hR_1) tw_1411 rfl rfl ⟨⟨le_b rfl, le_b rfl⟩, le_b rfl, le_b rfl⟩ (le_b rfl) dX11_tell_26 rfl (fun r w h9 => ?_) nokx
    rcases h9 with ⟨hc, rfl, rfl⟩ | ⟨hc, rfl, rfl⟩
    · have hb9 : decide (0 ≤ ixF (stF [99, 115, 114, 98]) c9 4 0) = false := by simp [c_1]
      have hcd : (cd_tellKind_refs σ f9 t9 c9) = 0 := by rw [cd_tellKind_refs, cdK_ns, hb9]; exact hc
      obtain ⟨x9, z9, rfl, rfl, hxz, hz⟩ := isStr_spec (nsC_0 hc)
      refine z_if_eq hC (tgt := 34) dX11_tell_29 rfl (by decide) (fun c_2 => ?_) (fun c_2 => ((absurd c_2 (by decide) : False)).elim)
      refine s_iconst hC (v := 0) dX11_tell_34 rfl (by decide) ?_
      refine s_istore hC (L' := [(6, _), (5, _), (0, _), (1, _), (2, _), (3, _), (4, _)]) dX11_tell_35 rfl (le_b rfl) rfl ?_
      refine s_iload_n hC dX11_tell_37 rfl rfl 4 rfl ?_
      refine s_istore hC (L' := [(7, _), (6, _), (5, _), (0, _), (1, _), (2, _), (3, _), (4, _)]) dX11_tell_38 rfl (le_b rfl) rfl ?_
      refine WP.sub (L' := [(0, _), (1, _), (3, _), (5, _), (6, _), (7, _)]) [3, 4, 6, 2, 1, 0] rfl ?_
      refine wp_loop (σ := Int32 × Int32 × Wd × Nat) (I := fun (o, i, W, j) => j ≤ z9 + 1 - x9 ∧ i = nI (x9 + j) ∧ o = nI (cntN σ.refs (ixF (stF [99, 115, 114, 98]) c9 4 0) x9 j) ∧ W = wup (wup ω (ad .main) (.inr (16, (mnL ad y σ).set 0 (.int 0)))) (ad .refs) (.inl (g.2.1 0, 200, .inl (fillN σ.refs x9 j (ixF (stF [99, 115, 114, 98]) c9 4 0))))) (ωf := fun (o, i, W, j) => W) (Lf := fun (o, i, W, j) => [(0, .ref (ad .main)), (1, .ref (ad .refs)), (3, .int (nI z9)), (5, .int (ixF (stF [99, 115, 114, 98]) c9 4 0)), (6, .int o), (7, .int i)]) (μ := fun (o, i, W, j) => z9 + 1 - x9 - j) (x0 := (_, _, _, 0)) ?_ ?_
      · exact ⟨Nat.zero_le _, rfl, rfl, by rw [fillN_0]; exact (wup_self (RepM.f_refs hR_1)).symm⟩
      · rintro ⟨o, i, W, j⟩ hI ih
        dsimp only at hI ih ⊢
        obtain ⟨hj, rfl, rfl, rfl⟩ := hI
        have hin9 : nI (x9 + j) ≤ nI z9 → j < z9 + 1 - x9 := fun h => by
          have h2 := (nI_leI (by omega) (by omega)).mp h
          omega
        have hW := RepM.w_refs hR_1 (fillN σ.refs x9 j (ixF (stF [99, 115, 114, 98]) c9 4 0))
        refine s_iload hC dX11_tell_40 rfl 5 rfl ?_
        refine s_iload_n hC dX11_tell_42 rfl rfl 2 rfl ?_
        refine z_icmp_gt hC (tgt := 77) dX11_tell_43 rfl (by decide) (fun c_3 => ?_) (fun c_3 => ?_)
        · refine s_iload hC dX11_tell_77 rfl 4 rfl ?_
          refine s_iret hC hr dX11_tell_79 (le_b rfl) (le_b rfl) ?_
          obtain rfl : j = z9 + 1 - x9 := by
            have : ¬ x9 + j ≤ z9 := fun h => c_3 (nI_le h (by omega))
            omega
          exact okM_ok hcd rfl (by rw [vl_tellKind_refs, fcF, nI_clamp (by omega), nI_clamp (by omega)]) hW (by rw [nx_tellKind_refs, fwF, nI_clamp (by omega), nI_clamp (by omega)]) rfl rfl hgr
        · refine s_iload hC dX11_tell_46 rfl 4 rfl ?_
          refine s_aload_n hC dX11_tell_48 rfl rfl 1 rfl ?_
          refine s_iload hC dX11_tell_49 rfl 5 rfl ?_
          refine s_ialdK hC (Or.inl (RepM.f_refs hW)) (vp_in_nI (by have := hin9 c_3; omega : x9 + j < 200) (by decide)) dX11_tell_51 rfl ?_
          rw [nI_clamp (show x9 + j < 2 ^ 31 by have := hin9 c_3; omega), show (σ.w_refs (fillN σ.refs x9 j (ixF (stF [99, 115, 114, 98]) c9 4 0))).refs = fillN σ.refs x9 j (ixF (stF [99, 115, 114, 98]) c9 4 0) from rfl, fillN_at]
          refine s_iload hC dX11_tell_52 rfl 3 rfl ?_
          refine z_icmp_eq hC (tgt := 61) dX11_tell_54 rfl (by decide) (fun c_4 => ?_) (fun c_4 => ?_)
          · refine s_iconst hC (v := 0) dX11_tell_61 rfl (by decide) ?_
            refine s_iadd hC dX11_tell_62 rfl ?_
            refine s_istore hC (L' := [(6, _), (0, _), (1, _), (3, _), (5, _), (7, _)]) dX11_tell_63 rfl (le_b rfl) rfl ?_
            refine s_aload_n hC dX11_tell_65 rfl rfl 2 rfl ?_
            refine s_iload hC dX11_tell_66 rfl 5 rfl ?_
            refine s_iload hC dX11_tell_68 rfl 4 rfl ?_
            refine s_iast hC (RepM.f_refs hW) (vp_in_nI (by have := hin9 c_3; omega : x9 + j < 200) (by decide)) dX11_tell_70 rfl ?_
            refine WP.rm (RepM.w_refs hW _) (fun hR_70 => ?_)
            refine s_iinc hC (v := _ + 1) (j9 := 5) (L' := [(7, _), (6, _), (0, _), (1, _), (3, _), (5, _)]) dX11_tell_71 rfl rfl rfl (le_b rfl) rfl ?_
            refine s_goto hC (tgt := 40) dX11_tell_74 (by decide) ?_
            refine WP.sub (L' := [(0, _), (1, _), (3, _), (5, _), (6, _), (7, _)]) [2, 3, 4, 5, 1, 0] rfl ?_
            refine ih (_, _, (wup _ _ _), j + 1) ?_ ?_
            · dsimp only
              have h9 := hin9 c_3
              refine ⟨by omega, nI_1 (x9 + j), ?_, by rw [wup_wup, nI_clamp (by omega), ← fillN_up]; rfl⟩
              first
                | (rw [cntN, if_pos c_4]; exact Int32.add_zero _)
                | (rw [cntN, if_neg c_4, nI_1])
            · dsimp only
              have h9 := hin9 c_3; omega
          · refine s_iconst hC (v := 1) dX11_tell_57 rfl (by decide) ?_
            refine s_goto hC (tgt := 62) dX11_tell_58 (by decide) ?_
            refine s_iadd hC dX11_tell_62 rfl ?_
            refine s_istore hC (L' := [(6, _), (0, _), (1, _), (3, _), (5, _), (7, _)]) dX11_tell_63 rfl (le_b rfl) rfl ?_
            refine s_aload_n hC dX11_tell_65 rfl rfl 2 rfl ?_
            refine s_iload hC dX11_tell_66 rfl 5 rfl ?_
            refine s_iload hC dX11_tell_68 rfl 4 rfl ?_
            refine s_iast hC (RepM.f_refs hW) (vp_in_nI (by have := hin9 c_3; omega : x9 + j < 200) (by decide)) dX11_tell_70 rfl ?_
            refine WP.rm (RepM.w_refs hW _) (fun hR_70 => ?_)
            refine s_iinc hC (v := _ + 1) (j9 := 5) (L' := [(7, _), (6, _), (0, _), (1, _), (3, _), (5, _)]) dX11_tell_71 rfl rfl rfl (le_b rfl) rfl ?_
            refine s_goto hC (tgt := 40) dX11_tell_74 (by decide) ?_
            refine WP.sub (L' := [(0, _), (1, _), (3, _), (5, _), (6, _), (7, _)]) [2, 3, 4, 5, 1, 0] rfl ?_
            refine ih (_, _, (wup _ _ _), j + 1) ?_ ?_
            · dsimp only
              have h9 := hin9 c_3
              refine ⟨by omega, nI_1 (x9 + j), ?_, by rw [wup_wup, nI_clamp (by omega), ← fillN_up]; rfl⟩
              first
                | (rw [cntN, if_pos c_4]; exact Int32.add_zero _)
                | (rw [cntN, if_neg c_4, nI_1])
            · dsimp only
              have h9 := hin9 c_3; omega
    · have hb9 : decide (0 ≤ ixF (stF [99, 115, 114, 98]) c9 4 0) = false := by simp [c_1]
      have hcd : (cd_tellKind_refs σ f9 t9 c9) = nsC σ f9 t9 false := by rw [cd_tellKind_refs, cdK_ns, hb9]
      refine WP.rm (RepM.s_main_0 hR_1 _) (fun hR_9 => ?_)
      refine z_if_eq hC (tgt := 34) dX11_tell_29 rfl (by decide) (fun c_5 => ((absurd c_5 (by decide) : False)).elim) (fun c_5 => ?_)
      refine s_iconst hC (v := (-1)) dX11_tell_32 rfl (by decide) ?_
      refine s_iret hC hr dX11_tell_33 (le_b rfl) (le_b rfl) ?_
      exact okM_no _ hcd hc rfl hR_9 rfl rfl hgr
  · refine s_iconst hC (v := 1) dX11_tell_21 rfl (by decide) ?_
    refine s_goto hC (tgt := 26) dX11_tell_22 (by decide) ?_
    refine s_callV hC (ct_X11_noStretch l g _ _ _ _ hR_1 rfl f9 t9 true) ce_X11_noStretch cs_X11 (RepM.f_main hR_1) tw_1411 rfl rfl ⟨⟨le_b rfl, le_b rfl⟩, le_b rfl, le_b rfl⟩ (le_b rfl) dX11_tell_26 rfl (fun r w h9 => ?_) nokx
    rcases h9 with ⟨hc, rfl, rfl⟩ | ⟨hc, rfl, rfl⟩
    · have hb9 : decide (0 ≤ ixF (stF [99, 115, 114, 98]) c9 4 0) = true := by simp [c_1]
      have hcd : (cd_tellKind_refs σ f9 t9 c9) = 0 := by rw [cd_tellKind_refs, cdK_ns, hb9]; exact hc
      obtain ⟨x9, z9, rfl, rfl, hxz, hz⟩ := isStr_spec (nsC_0 hc)
      refine z_if_eq hC (tgt := 34) dX11_tell_29 rfl (by decide) (fun c_6 => ?_) (fun c_6 => ((absurd c_6 (by decide) : False)).elim)
      refine s_iconst hC (v := 0) dX11_tell_34 rfl (by decide) ?_
      refine s_istore hC (L' := [(6, _), (5, _), (0, _), (1, _), (2, _), (3, _), (4, _)]) dX11_tell_35 rfl (le_b rfl) rfl ?_
      refine s_iload_n hC dX11_tell_37 rfl rfl 4 rfl ?_
      refine s_istore hC (L' := [(7, _), (6, _), (5, _), (0, _), (1, _), (2, _), (3, _), (4, _)]) dX11_tell_38 rfl (le_b rfl) rfl ?_
      refine WP.sub (L' := [(0, _), (1, _), (3, _), (5, _), (6, _), (7, _)]) [3, 4, 6, 2, 1, 0] rfl ?_
      refine wp_loop (σ := Int32 × Int32 × Wd × Nat) (I := fun (o, i, W, j) => j ≤ z9 + 1 - x9 ∧ i = nI (x9 + j) ∧ o = nI (cntN σ.refs (ixF (stF [99, 115, 114, 98]) c9 4 0) x9 j) ∧ W = wup (wup ω (ad .main) (.inr (16, (mnL ad y σ).set 0 (.int 0)))) (ad .refs) (.inl (g.2.1 0, 200, .inl (fillN σ.refs x9 j (ixF (stF [99, 115, 114, 98]) c9 4 0))))) (ωf := fun (o, i, W, j) => W) (Lf := fun (o, i, W, j) => [(0, .ref (ad .main)), (1, .ref (ad .refs)), (3, .int (nI z9)), (5, .int (ixF (stF [99, 115, 114, 98]) c9 4 0)), (6, .int o), (7, .int i)]) (μ := fun (o, i, W, j) => z9 + 1 - x9 - j) (x0 := (_, _, _, 0)) ?_ ?_
      · exact ⟨Nat.zero_le _, rfl, rfl, by rw [fillN_0]; exact (wup_self (RepM.f_refs hR_1)).symm⟩
      · rintro ⟨o, i, W, j⟩ hI ih
        dsimp only at hI ih ⊢
        obtain ⟨hj, rfl, rfl, rfl⟩ := hI
        have hin9 : nI (x9 + j) ≤ nI z9 → j < z9 + 1 - x9 := fun h => by
          have h2 := (nI_leI (by omega) (by omega)).mp h
          omega
        have hW := RepM.w_refs hR_1 (fillN σ.refs x9 j (ixF (stF [99, 115, 114, 98]) c9 4 0))
        refine s_iload hC dX11_tell_40 rfl 5 rfl ?_
        refine s_iload_n hC dX11_tell_42 rfl rfl 2 rfl ?_
        refine z_icmp_gt hC (tgt := 77) dX11_tell_43 rfl (by decide) (fun c_7 => ?_) (fun c_7 => ?_)
        · refine s_iload hC dX11_tell_77 rfl 4 rfl ?_
          refine s_iret hC hr dX11_tell_79 (le_b rfl) (le_b rfl) ?_
          obtain rfl : j = z9 + 1 - x9 := by
            have : ¬ x9 + j ≤ z9 := fun h => c_7 (nI_le h (by omega))
            omega
          exact okM_ok hcd rfl (by rw [vl_tellKind_refs, fcF, nI_clamp (by omega), nI_clamp (by omega)]) hW (by rw [nx_tellKind_refs, fwF, nI_clamp (by omega), nI_clamp (by omega)]) rfl rfl hgr
        · refine s_iload hC dX11_tell_46 rfl 4 rfl ?_
          refine s_aload_n hC dX11_tell_48 rfl rfl 1 rfl ?_
          refine s_iload hC dX11_tell_49 rfl 5 rfl ?_
          refine s_ialdK hC (Or.inl (RepM.f_refs hW)) (vp_in_nI (by have := hin9 c_7; omega : x9 + j < 200) (by decide)) dX11_tell_51 rfl ?_
          rw [nI_clamp (show x9 + j < 2 ^ 31 by have := hin9 c_7; omega), show (σ.w_refs (fillN σ.refs x9 j (ixF (stF [99, 115, 114, 98]) c9 4 0))).refs = fillN σ.refs x9 j (ixF (stF [99, 115, 114, 98]) c9 4 0) from rfl, fillN_at]
          refine s_iload hC dX11_tell_52 rfl 3 rfl ?_
          refine z_icmp_eq hC (tgt := 61) dX11_tell_54 rfl (by decide) (fun c_8 => ?_) (fun c_8 => ?_)
          · refine s_iconst hC (v := 0) dX11_tell_61 rfl (by decide) ?_
            refine s_iadd hC dX11_tell_62 rfl ?_
            refine s_istore hC (L' := [(6, _), (0, _), (1, _), (3, _), (5, _), (7, _)]) dX11_tell_63 rfl (le_b rfl) rfl ?_
            refine s_aload_n hC dX11_tell_65 rfl rfl 2 rfl ?_
            refine s_iload hC dX11_tell_66 rfl 5 rfl ?_
            refine s_iload hC dX11_tell_68 rfl 4 rfl ?_
            refine s_iast hC (RepM.f_refs hW) (vp_in_nI (by have := hin9 c_7; omega : x9 + j < 200) (by decide)) dX11_tell_70 rfl ?_
            refine WP.rm (RepM.w_refs hW _) (fun hR_70 => ?_)
            refine s_iinc hC (v := _ + 1) (j9 := 5) (L' := [(7, _), (6, _), (0, _), (1, _), (3, _), (5, _)]) dX11_tell_71 rfl rfl rfl (le_b rfl) rfl ?_
            refine s_goto hC (tgt := 40) dX11_tell_74 (by decide) ?_
            refine WP.sub (L' := [(0, _), (1, _), (3, _), (5, _), (6, _), (7, _)]) [2, 3, 4, 5, 1, 0] rfl ?_
            refine ih (_, _, (wup _ _ _), j + 1) ?_ ?_
            · dsimp only
              have h9 := hin9 c_7
              refine ⟨by omega, nI_1 (x9 + j), ?_, by rw [wup_wup, nI_clamp (by omega), ← fillN_up]; rfl⟩
              first
                | (rw [cntN, if_pos c_8]; exact Int32.add_zero _)
                | (rw [cntN, if_neg c_8, nI_1])
            · dsimp only
              have h9 := hin9 c_7; omega
          · refine s_iconst hC (v := 1) dX11_tell_57 rfl (by decide) ?_
            refine s_goto hC (tgt := 62) dX11_tell_58 (by decide) ?_
            refine s_iadd hC dX11_tell_62 rfl ?_
            refine s_istore hC (L' := [(6, _), (0, _), (1, _), (3, _), (5, _), (7, _)]) dX11_tell_63 rfl (le_b rfl) rfl ?_
            refine s_aload_n hC dX11_tell_65 rfl rfl 2 rfl ?_
            refine s_iload hC dX11_tell_66 rfl 5 rfl ?_
            refine s_iload hC dX11_tell_68 rfl 4 rfl ?_
            refine s_iast hC (RepM.f_refs hW) (vp_in_nI (by have := hin9 c_7; omega : x9 + j < 200) (by decide)) dX11_tell_70 rfl ?_
            refine WP.rm (RepM.w_refs hW _) (fun hR_70 => ?_)
            refine s_iinc hC (v := _ + 1) (j9 := 5) (L' := [(7, _), (6, _), (0, _), (1, _), (3, _), (5, _)]) dX11_tell_71 rfl rfl rfl (le_b rfl) rfl ?_
            refine s_goto hC (tgt := 40) dX11_tell_74 (by decide) ?_
            refine WP.sub (L' := [(0, _), (1, _), (3, _), (5, _), (6, _), (7, _)]) [2, 3, 4, 5, 1, 0] rfl ?_
            refine ih (_, _, (wup _ _ _), j + 1) ?_ ?_
            · dsimp only
              have h9 := hin9 c_7
              refine ⟨by omega, nI_1 (x9 + j), ?_, by rw [wup_wup, nI_clamp (by omega), ← fillN_up]; rfl⟩
              first
                | (rw [cntN, if_pos c_8]; exact Int32.add_zero _)
                | (rw [cntN, if_neg c_8, nI_1])
            · dsimp only
              have h9 := hin9 c_7; omega
    · have hb9 : decide (0 ≤ ixF (stF [99, 115, 114, 98]) c9 4 0) = true := by simp [c_1]
      have hcd : (cd_tellKind_refs σ f9 t9 c9) = nsC σ f9 t9 true := by rw [cd_tellKind_refs, cdK_ns, hb9]
      refine WP.rm (RepM.s_main_0 hR_1 _) (fun hR_9 => ?_)
      refine z_if_eq hC (tgt := 34) dX11_tell_29 rfl (by decide) (fun c_9 => ((absurd c_9 (by decide) : False)).elim) (fun c_9 => ?_)
      refine s_iconst hC (v := (-1)) dX11_tell_32 rfl (by decide) ?_
      refine s_iret hC hr dX11_tell_33 (le_b rfl) (le_b rfl) ?_
      exact okM_no _ hcd hc rfl hR_9 rfl rfl hgr
set_option maxHeartbeats 1000000 in
set_option maxRecDepth 100000 in
theorem ct_X11_ground (l : Launch) (g : Gl) (ω : Wd) (ad : Iy → Nat) (y : Ey) (σ : St) (hR : RepM g ad y σ ω) (f9 : Int32) (t9 : Int32) (c9 : Int32) (hgr : grOK σ y) : CT l g yX11_ground cX11_ground 4 (some .int) 5 118 0 0 [.ref (ad .main), .int f9, .int t9, .int c9] ω (okM g ad (cd_ground σ f9 t9 c9) Value.int (vl_ground σ f9 t9 c9) (nx_ground σ f9 t9 c9) σ) (nox) := by
  refine CT.of (own := "BoringheadModel") rfl rfl (le_b rfl) rfl ?_
  intro p e s m args below meth c sz0 hC hr htab hin
  refine s_aload_n hC dX11_ground_0 rfl rfl 0 rfl ?_
  refine s_aload_n hC dX11_ground_1 rfl rfl 0 rfl ?_
  refine s_getf hC cs_X11 1 tw_1250 (le_b rfl) (RepM.f_main hR) rfl dX11_ground_2 rfl ?_
  refine s_iload_n hC dX11_ground_5 rfl rfl 1 rfl ?_
  refine s_iload_n hC dX11_ground_6 rfl rfl 2 rfl ?_
  refine s_iload_n hC dX11_ground_7 rfl rfl 3 rfl ?_
  refine s_callV hC (ct_X11_tell_kinds l g _ _ _ _ hR _ _ _ hgr) ce_X11_tell cs_X11 (RepM.f_main hR) tw_1320 rfl rfl ⟨⟨le_b rfl, le_b rfl⟩, le_b rfl, le_b rfl⟩ (le_b rfl) dX11_ground_8 rfl (fun r w h9 => ?_) nokx
  obtain ⟨b9, ad2, y2, rfl, h8⟩ := h9
  refine s_iret hC hr dX11_ground_11 (le_b rfl) (le_b rfl) ?_
  exact ⟨b9, ad2, y2, rfl, h8⟩
set_option maxHeartbeats 1000000 in
set_option maxRecDepth 100000 in
theorem ct_X11_reference (l : Launch) (g : Gl) (ω : Wd) (ad : Iy → Nat) (y : Ey) (σ : St) (hR : RepM g ad y σ ω) (f9 : Int32) (t9 : Int32) (c9 : Int32) (hgr : grOK σ y) : CT l g yX11_reference cX11_reference 4 (some .int) 5 118 0 0 [.ref (ad .main), .int f9, .int t9, .int c9] ω (okM g ad (cd_reference σ f9 t9 c9) Value.int (vl_reference σ f9 t9 c9) (nx_reference σ f9 t9 c9) σ) (nox) := by
  refine CT.of (own := "BoringheadModel") rfl rfl (le_b rfl) rfl ?_
  intro p e s m args below meth c sz0 hC hr htab hin
  refine s_aload_n hC dX11_reference_0 rfl rfl 0 rfl ?_
  refine s_aload_n hC dX11_reference_1 rfl rfl 0 rfl ?_
  refine s_getf hC cs_X11 2 tw_1251 (le_b rfl) (RepM.f_main hR) rfl dX11_reference_2 rfl ?_
  refine s_iload_n hC dX11_reference_5 rfl rfl 1 rfl ?_
  refine s_iload_n hC dX11_reference_6 rfl rfl 2 rfl ?_
  refine s_iload_n hC dX11_reference_7 rfl rfl 3 rfl ?_
  refine s_callV hC (ct_X11_tell_refs l g _ _ _ _ hR _ _ _ hgr) ce_X11_tell cs_X11 (RepM.f_main hR) tw_1320 rfl rfl ⟨⟨le_b rfl, le_b rfl⟩, le_b rfl, le_b rfl⟩ (le_b rfl) dX11_reference_8 rfl (fun r w h9 => ?_) nokx
  obtain ⟨b9, ad2, y2, rfl, h8⟩ := h9
  refine s_iret hC hr dX11_reference_11 (le_b rfl) (le_b rfl) ?_
  exact ⟨b9, ad2, y2, rfl, h8⟩
set_option maxHeartbeats 1000000 in
set_option maxRecDepth 100000 in
theorem ct_X11_count (l : Launch) (g : Gl) (ω : Wd) (ad : Iy → Nat) (y : Ey) (σ : St) (hR : RepM g ad y σ ω) (c9 : Int32) (hgr : grOK σ y) (hk : kIn σ) (hrk : rkOK σ) (hn : nOK σ) : CT l g yX11_count cX11_count 4 (some .int) 4 91 0 0 [.ref (ad .main), .int c9] ω (okM g ad (cd_count σ c9) Value.int (vl_count σ c9) σ σ) (nox) := by
  have hn120 : σ.n ≤ 120 := hn
  refine CT.of (own := "BoringheadModel") rfl rfl (le_b rfl) rfl ?_
  intro p e s m args below meth c sz0 hC hr htab hin
  refine s_aload_n hC dX11_count_0 rfl rfl 0 rfl ?_
  refine s_callV hC (ct_X11_begins l g _ _ _ _ hR) ce_X11_begins cs_X11 (RepM.f_main hR) tw_1324 rfl rfl ⟨⟨le_b rfl, le_b rfl⟩, le_b rfl, le_b rfl⟩ (le_b rfl) dX11_count_1 rfl (dvk0 ?_) nokx
  refine WP.rm (RepM.s_main_0 hR 0) (fun hR_1 => ?_)
  refine s_aload_n hC dX11_count_4 rfl rfl 0 rfl ?_
  refine s_ldcS hC 32 rfl dX11_count_5 rfl ?_
  refine s_iload_n hC dX11_count_7 rfl rfl 1 rfl ?_
  refine s_callVs hC (ct_J0_indexOf_0f7a4 l g _ _ _ 4 (stF [99, 115, 114, 98]) (strK g _ (i := 1) rfl) (by decide) (by decide) _ lat_K) ce_J0_indexOf_0f7a4 rfl (strK g _ (i := 1) rfl) tw_1329 rfl rfl ⟨⟨le_b rfl, le_b rfl⟩, le_b rfl, le_b rfl⟩ (le_b rfl) dX11_count_8 rfl (dvk1 ?_) nokx
  refine z_if_ge hC (tgt := 18) dX11_count_11 rfl (by decide) (fun c_1 => ?_) (fun c_1 => ?_)
  · refine s_iconst hC (v := 0) dX11_count_18 rfl (by decide) ?_
    refine s_iconst hC (v := 1) dX11_count_19 rfl (by decide) ?_
    refine s_callV hC (ct_X11_fails_f l g _ _ _ _ hR_1 (by first | rfl | exact hth) _) ce_X11_fails cs_X11 (RepM.f_main hR_1) tw_1422 rfl rfl ⟨⟨le_b rfl, le_b rfl⟩, le_b rfl, le_b rfl⟩ (le_b rfl) dX11_count_20 rfl (dvk1 ?_) nokx
    refine z_if_eq hC (tgt := 28) dX11_count_23 rfl (by decide) (fun c_2 => ?_) (fun c_2 => ((absurd c_2 (by decide) : False)).elim)
    refine s_iconst hC (v := 0) dX11_count_28 rfl (by decide) ?_
    refine s_istore_n hC (L' := [(2, _), (0, _), (1, _)]) dX11_count_29 rfl rfl (le_b rfl) rfl ?_
    refine s_iconst hC (v := 0) dX11_count_30 rfl (by decide) ?_
    refine s_istore_n hC (L' := [(3, _), (2, _), (0, _), (1, _)]) dX11_count_31 rfl rfl (le_b rfl) rfl ?_
    refine WP.sub (L' := [(0, _), (1, _), (2, _), (3, _)]) [2, 3, 1, 0] rfl ?_
    refine wp_loop (σ := Int32 × Int32 × Nat) (I := fun (i, sm, j) => i = nI j ∧ j ≤ σ.n ∧ sm = coF σ (ixF (stF [99, 115, 114, 98]) c9 4 0) j) (ωf := fun (i, sm, j) => wup ω (ad .main) (.inr (16, (mnL ad y σ).set 0 (.int 0)))) (Lf := fun (i, sm, j) => [(0, .ref (ad .main)), (1, .int c9), (2, .int sm), (3, .int i)]) (μ := fun (i, sm, j) => σ.n - j) (x0 := (_, _, 0)) ?_ ?_
    · exact ⟨rfl, Nat.zero_le _, rfl⟩
    · rintro ⟨i, sm, j⟩ hI ih
      dsimp only at hI ih ⊢
      obtain ⟨rfl, hj, rfl⟩ := hI
      have hin9 : ¬ nI (σ.n) ≤ nI j → j < σ.n := nI_ltc (Nat.lt_of_le_of_lt (RepM.b_ring hR) (by decide)) hj
      refine s_iload_n hC dX11_count_32 rfl rfl 3 rfl ?_
      refine s_aload_n hC dX11_count_33 rfl rfl 0 rfl ?_
      refine s_getf hC cs_X11 8 tw_1257 (le_b rfl) (RepM.f_main hR_1) rfl dX11_count_34 rfl ?_
      refine s_callF hC (nA := 0) 0 (ct_Jx4a65c_size_8abf5 l g _ _ _ _ _ (RepM.f_rings hR_1)) rfl tw_276 tw_5 tw_274 tw_1431 (by decide +kernel) cs_Jx4a65c (RepM.f_rings hR_1) tw_1427 rfl rfl ⟨⟨le_b rfl, le_b rfl⟩, le_b rfl, le_b rfl⟩ (le_b rfl) dX11_count_37 rfl (dvk1 ?_) nokx
      refine z_icmp_ge hC (tgt := 74) dX11_count_42 rfl (by decide) (fun c_3 => ?_) (fun c_3 => ?_)
      · refine s_iload_n hC dX11_count_74 rfl rfl 2 rfl ?_
        refine s_iret hC hr dX11_count_75 (le_b rfl) (le_b rfl) ?_
        obtain rfl := nI_lec (Nat.lt_of_le_of_lt (RepM.b_ring hR) (by decide)) hj c_3
        exact okM_ok (by simp [cd_count, c_1]) rfl rfl hR_1 rfl rfl rfl hgr
      · refine s_iload_n hC dX11_count_45 rfl rfl 2 rfl ?_
        refine s_aload_n hC dX11_count_46 rfl rfl 0 rfl ?_
        refine s_getf hC cs_X11 1 tw_1250 (le_b rfl) (RepM.f_main hR_1) rfl dX11_count_47 rfl ?_
        refine s_iload_n hC dX11_count_50 rfl rfl 3 rfl ?_
        refine s_ialdK hC (Or.inl (RepM.f_kinds hR_1)) (vp_in_nI (by have := hin9 c_3; omega : j < 200) (by decide)) dX11_count_51 rfl ?_
        rw [nI_clamp (show j < 2 ^ 31 by have := hin9 c_3; omega)]
        refine s_ldcS hC 32 rfl dX11_count_52 rfl ?_
        refine s_iload_n hC dX11_count_54 rfl rfl 1 rfl ?_
        refine s_callVs hC (ct_J0_indexOf_0f7a4 l g _ _ _ 4 (stF [99, 115, 114, 98]) (strK g _ (i := 1) rfl) (by decide) (by decide) _ lat_K) ce_J0_indexOf_0f7a4 rfl (strK g _ (i := 1) rfl) tw_1329 rfl rfl ⟨⟨le_b rfl, le_b rfl⟩, le_b rfl, le_b rfl⟩ (le_b rfl) dX11_count_55 rfl (dvk1 ?_) nokx
        refine z_icmp_ne hC (tgt := 65) dX11_count_58 rfl (by decide) (fun c_4 => ?_) (fun c_4 => ?_)
        · refine s_iconst hC (v := 0) dX11_count_65 rfl (by decide) ?_
          refine s_iadd hC dX11_count_66 rfl ?_
          refine s_istore_n hC (L' := [(2, _), (0, _), (1, _), (3, _)]) dX11_count_67 rfl rfl (le_b rfl) rfl ?_
          refine s_iinc hC (v := _ + 1) (j9 := 3) (L' := [(3, _), (2, _), (0, _), (1, _)]) dX11_count_68 rfl rfl rfl (le_b rfl) rfl ?_
          refine s_goto hC (tgt := 32) dX11_count_71 (by decide) ?_
          refine WP.sub (L' := [(0, _), (1, _), (2, _), (3, _)]) [2, 3, 1, 0] rfl ?_
          refine ih (_, _, j + 1) ?_ ?_
          · dsimp only
            have h9 := hin9 c_3
            refine ⟨nI_1 j, h9, ?_⟩
            have hz := hrk j h9
            simp [coF, hz, c_1, c_2, c_3, c_4]
          · dsimp only
            have h9 := hin9 c_3; omega
        · refine s_iconst hC (v := 1) dX11_count_61 rfl (by decide) ?_
          refine s_goto hC (tgt := 66) dX11_count_62 (by decide) ?_
          refine s_iadd hC dX11_count_66 rfl ?_
          refine s_istore_n hC (L' := [(2, _), (0, _), (1, _), (3, _)]) dX11_count_67 rfl rfl (le_b rfl) rfl ?_
          refine s_iinc hC (v := _ + 1) (j9 := 3) (L' := [(3, _), (2, _), (0, _), (1, _)]) dX11_count_68 rfl rfl rfl (le_b rfl) rfl ?_
          refine s_goto hC (tgt := 32) dX11_count_71 (by decide) ?_
          refine WP.sub (L' := [(0, _), (1, _), (2, _), (3, _)]) [2, 3, 1, 0] rfl ?_
          refine ih (_, _, j + 1) ?_ ?_
          · dsimp only
            have h9 := hin9 c_3
            refine ⟨nI_1 j, h9, ?_⟩
            have hz := hrk j h9
            simp [coF, hz, c_1, c_2, c_3, c_4]
          · dsimp only
            have h9 := hin9 c_3; omega
  · refine s_iconst hC (v := 1) dX11_count_14 rfl (by decide) ?_
    refine s_goto hC (tgt := 19) dX11_count_15 (by decide) ?_
    refine s_iconst hC (v := 1) dX11_count_19 rfl (by decide) ?_
    refine s_callV hC (ct_X11_fails_t l g _ _ _ _ hR_1 (by first | rfl | exact hth) _ (by decide)) ce_X11_fails cs_X11 (RepM.f_main hR_1) tw_1422 rfl rfl ⟨⟨le_b rfl, le_b rfl⟩, le_b rfl, le_b rfl⟩ (le_b rfl) dX11_count_20 rfl (dvk1 ?_) nokx
    refine WP.rm (RepM.s_main_0 hR_1 _) (fun hR_20 => ?_)
    refine z_if_eq hC (tgt := 28) dX11_count_23 rfl (by decide) (fun c_5 => ((absurd c_5 (by decide) : False)).elim) (fun c_5 => ?_)
    refine s_iconst hC (v := (-1)) dX11_count_26 rfl (by decide) ?_
    refine s_iret hC hr dX11_count_27 (le_b rfl) (le_b rfl) ?_
    first
      | exact okM_ok (by simp [cd_count, c_1, c_5]) rfl (by first | (simp [vl_count, c_1, c_5]; done) | rfl) hR_20 rfl rfl rfl hgr
      | exact okM_no 1 (by simp [cd_count, c_1, c_5]) (by decide) (by rfl) hR_20 rfl rfl hgr
set_option maxHeartbeats 1000000 in
set_option maxRecDepth 100000 in
theorem ct_X11_whose (l : Launch) (g : Gl) (ω : Wd) (c9 : Int32) : CT l g yX11_whose cX11_whose 1 (some .int) 0 0 0 0 [.int c9] ω (dv (some (.int (whF c9))) ω) (nox) := by
  refine CT.of (own := "BoringheadModel") rfl rfl (le_b rfl) rfl ?_
  intro p e s m args below meth c sz0 hC hr htab hin
  refine s_iload_n hC dX11_whose_0 rfl rfl 0 rfl ?_
  refine s_bipush hC (v := 103) dX11_whose_1 rfl (by decide) ?_
  refine z_icmp_eq hC (tgt := 12) dX11_whose_3 rfl (by decide) (fun c_1 => ?_) (fun c_1 => ?_)
  · refine s_iconst hC (v := 1) dX11_whose_12 rfl (by decide) ?_
    refine s_goto hC (tgt := 27) dX11_whose_13 (by decide) ?_
    refine s_iret hC hr dX11_whose_27 (le_b rfl) (le_b rfl) ?_
    exact ⟨by simp [whF, c_1], rfl⟩
  · refine s_iload_n hC dX11_whose_6 rfl rfl 0 rfl ?_
    refine s_bipush hC (v := 104) dX11_whose_7 rfl (by decide) ?_
    refine z_icmp_ne hC (tgt := 16) dX11_whose_9 rfl (by decide) (fun c_2 => ?_) (fun c_2 => ?_)
    · refine s_iload_n hC dX11_whose_16 rfl rfl 0 rfl ?_
      refine s_bipush hC (v := 119) dX11_whose_17 rfl (by decide) ?_
      refine z_icmp_ne hC (tgt := 26) dX11_whose_19 rfl (by decide) (fun c_3 => ?_) (fun c_3 => ?_)
      · refine s_iconst hC (v := 0) dX11_whose_26 rfl (by decide) ?_
        refine s_iret hC hr dX11_whose_27 (le_b rfl) (le_b rfl) ?_
        exact ⟨by simp [whF, c_1, c_2, c_3], rfl⟩
      · refine s_iconst hC (v := 2) dX11_whose_22 rfl (by decide) ?_
        refine s_goto hC (tgt := 27) dX11_whose_23 (by decide) ?_
        refine s_iret hC hr dX11_whose_27 (le_b rfl) (le_b rfl) ?_
        exact ⟨by simp [whF, c_1, c_2, c_3], rfl⟩
    · refine s_iconst hC (v := 1) dX11_whose_12 rfl (by decide) ?_
      refine s_goto hC (tgt := 27) dX11_whose_13 (by decide) ?_
      refine s_iret hC hr dX11_whose_27 (le_b rfl) (le_b rfl) ?_
      exact ⟨by simp [whF, c_1, c_2], rfl⟩
theorem ixF_in {f : Nat → Int32} {c : Int32} {n : Nat} (hn : n < 2 ^ 31) (h : 0 ≤ ixF f c n 0) : ∃ q, q < n ∧ ixF f c n 0 = nI q ∧ f q = c := by
  obtain ⟨q, h1, h2, h3⟩ := ixF_pos h
  rw [Nat.zero_add] at h2 h3
  exact ⟨q, h1, h2, h3⟩
set_option maxHeartbeats 1000000 in
set_option maxRecDepth 100000 in
theorem ct_X11_waited (l : Launch) (g : Gl) (ω : Wd) (ad : Iy → Nat) (y : Ey) (σ : St) (hR : RepM g ad y σ ω) (c9 : Int32) (hgr : grOK σ y) : CT l g yX11_waited cX11_waited 3 (some .int) 4 91 0 0 [.ref (ad .main), .int c9] ω (okM g ad (cd_waited σ c9) Value.int (vl_waited σ c9) σ σ) (nox) := by
  refine CT.of (own := "BoringheadModel") rfl rfl (le_b rfl) rfl ?_
  intro p e s m args below meth c sz0 hC hr htab hin
  refine s_aload_n hC dX11_waited_0 rfl rfl 0 rfl ?_
  refine s_callV hC (ct_X11_begins l g _ _ _ _ hR) ce_X11_begins cs_X11 (RepM.f_main hR) tw_1324 rfl rfl ⟨⟨le_b rfl, le_b rfl⟩, le_b rfl, le_b rfl⟩ (le_b rfl) dX11_waited_1 rfl (dvk0 ?_) nokx
  refine WP.rm (RepM.s_main_0 hR 0) (fun hR_1 => ?_)
  refine s_ldcSW hC 36 rfl dX11_waited_4 rfl ?_
  refine s_iload_n hC dX11_waited_7 rfl rfl 1 rfl ?_
  refine s_callVs hC (ct_J0_indexOf_0f7a4 l g _ _ _ 3 (stF [98, 107, 110]) (strK g _ (i := 3) rfl) (by decide) (by decide) _ lat_O) ce_J0_indexOf_0f7a4 rfl (strK g _ (i := 3) rfl) tw_1329 rfl rfl ⟨⟨le_b rfl, le_b rfl⟩, le_b rfl, le_b rfl⟩ (le_b rfl) dX11_waited_8 rfl (dvk1 ?_) nokx
  refine s_istore_n hC (L' := [(2, _), (0, _), (1, _)]) dX11_waited_11 rfl rfl (le_b rfl) rfl ?_
  refine s_aload_n hC dX11_waited_12 rfl rfl 1 rfl ?_
  refine s_iload_n hC dX11_waited_13 rfl rfl 0 rfl ?_
  refine z_if_ge hC (tgt := 21) dX11_waited_14 rfl (by decide) (fun c_1 => ?_) (fun c_1 => ?_)
  · obtain ⟨q9, hq9, he9, -⟩ := ixF_in (by decide) c_1
    refine s_iconst hC (v := 0) dX11_waited_21 rfl (by decide) ?_
    refine s_iconst hC (v := 1) dX11_waited_22 rfl (by decide) ?_
    refine s_callV hC (ct_X11_fails_f l g _ _ _ _ hR_1 (by first | rfl | exact hth) _) ce_X11_fails cs_X11 (RepM.f_main hR_1) tw_1422 rfl rfl ⟨⟨le_b rfl, le_b rfl⟩, le_b rfl, le_b rfl⟩ (le_b rfl) dX11_waited_23 rfl (dvk1 ?_) nokx
    refine z_if_eq hC (tgt := 33) dX11_waited_26 rfl (by decide) (fun c_2 => ?_) (fun c_2 => ((absurd c_2 (by decide) : False)).elim)
    refine s_aload_n hC dX11_waited_33 rfl rfl 1 rfl ?_
    refine s_getf hC cs_X11 21 tw_1270 (le_b rfl) (RepM.f_main hR_1) rfl dX11_waited_34 rfl ?_
    refine s_iload_n hC dX11_waited_37 rfl rfl 0 rfl ?_
    refine s_ialdK hC (Or.inl (RepM.f_waits hR_1)) (by rw [he9]; exact vp_in_nI hq9 (by decide)) dX11_waited_38 rfl ?_
    refine s_iret hC hr dX11_waited_39 (le_b rfl) (le_b rfl) ?_
    first
      | exact okM_no 1 (by simp [cd_waited, c_1, c_2]) (by decide) (by rfl) hR_1 rfl rfl hgr
      | exact okM_ok (by simp [cd_waited, c_1, c_2]) rfl (by rw [vl_waited, he9, atF_in (by decide) hq9, nI_clamp (by omega)]) hR_1 rfl rfl rfl hgr
  · skip
    refine s_iconst hC (v := 1) dX11_waited_17 rfl (by decide) ?_
    refine s_goto hC (tgt := 22) dX11_waited_18 (by decide) ?_
    refine s_iconst hC (v := 1) dX11_waited_22 rfl (by decide) ?_
    refine s_callV hC (ct_X11_fails_t l g _ _ _ _ hR_1 (by first | rfl | exact hth) _ (by decide)) ce_X11_fails cs_X11 (RepM.f_main hR_1) tw_1422 rfl rfl ⟨⟨le_b rfl, le_b rfl⟩, le_b rfl, le_b rfl⟩ (le_b rfl) dX11_waited_23 rfl (dvk1 ?_) nokx
    refine WP.rm (RepM.s_main_0 hR_1 _) (fun hR_23 => ?_)
    refine z_if_eq hC (tgt := 33) dX11_waited_26 rfl (by decide) (fun c_3 => ((absurd c_3 (by decide) : False)).elim) (fun c_3 => ?_)
    refine s_iconst hC (v := (-1)) dX11_waited_29 rfl (by decide) ?_
    refine s_goto hC (tgt := 39) dX11_waited_30 (by decide) ?_
    refine s_iret hC hr dX11_waited_39 (le_b rfl) (le_b rfl) ?_
    first
      | exact okM_no 1 (by simp [cd_waited, c_1, c_3]) (by decide) (by rfl) hR_23 rfl rfl hgr
      | exact okM_ok (by simp [cd_waited, c_1, c_3]) rfl (by rw [vl_waited, he9, atF_in (by decide) hq9, nI_clamp (by omega)]) hR_23 rfl rfl rfl hgr
