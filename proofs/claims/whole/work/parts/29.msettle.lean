def dIn (σ : St) : Prop := ∀ i, i < 200 → ∃ a, 10 ≤ a ∧ a ≤ 60 ∧ σ.depths i = nI a
def hIn (σ : St) : Prop := ∀ i, i < σ.nh → ∃ b c e, b < 200 ∧ c < 200 ∧ e ≤ 60 ∧ (σ.hs i).fr = nI b ∧ (σ.hs i).to = nI c ∧ (σ.hs i).ofs = nI e
theorem stl_div {σ : St} (hd : dIn σ) (hh : hIn σ) {i9 j : Nat} (hi : i9 < σ.nh) (hj : j < 200) (b : Bool) : ¬ 10 * (σ.depths j * σ.depths j + ((if b = true then (σ.hs i9).to else (σ.hs i9).fr) - nI j) * ((if b = true then (σ.hs i9).to else (σ.hs i9).fr) - nI j) + (σ.hs i9).ofs * (σ.hs i9).ofs) ≤ 0 := by
  obtain ⟨a, h1, h2, h3⟩ := hd j hj
  obtain ⟨b2, c2, e2, g1, g2, g3, g4, g5, g6⟩ := hh i9 hi
  rw [h3, g4, g5, g6]
  cases b
  · exact div_pos9 h1 h2 g1 hj g3
  · exact div_pos9 h1 h2 g2 hj g3
theorem not_le0 {x : Int32} (h : ¬ x ≤ 0) : ¬ x = 0 := fun z => h (by rw [z]; decide)
set_option maxHeartbeats 1000000 in
set_option maxRecDepth 100000 in
theorem ct_X11_settled (l : Launch) (g : Gl) (ω : Wd) (ad : Iy → Nat) (y : Ey) (σ : St) (hR : RepM g ad y σ ω) (hk : kIn σ) (hrk : rkOK σ) (hn : nOK σ) (hd : dIn σ) (hh : hIn σ) (i9 : Nat) (hi : i9 < σ.nh) (b : Bool) : CT l g yX11_settled cX11_settled 9 (some .int) 4 85 0 0 [.ref (ad .main), .int (nI i9), .int (bI b)] ω (dv (some (.int (smF σ (σ.hs i9) b))) ω) (nox) := by
  have hn120 : σ.n ≤ 120 := hn
  refine CT.of (own := "BoringheadModel") rfl rfl (le_b rfl) rfl ?_
  intro p e s m args below meth c sz0 hC hr htab hin
  refine s_aload_n hC dX11_settled_0 rfl rfl 0 rfl ?_
  refine s_getf hC cs_X11 10 tw_1259 (le_b rfl) (RepM.f_main hR) rfl dX11_settled_1 rfl ?_
  refine s_iload_n hC dX11_settled_4 rfl rfl 1 rfl ?_
  refine s_callF hC (nA := 1) 3 (ct_Jx4a65c_get_915e3 l g _ _ _ _ _ (RepM.f_houses hR) _ _ (RepM.p_house hR hi).2.1 (RepM.p_house hR hi).2.2.1 _ _ (RepM.p_house hR hi).2.2.2.1 hi (RepM.p_house hR hi).2.2.2.2) rfl tw_288 tw_5 tw_286 tw_1610 (by decide +kernel) cs_Jx4a65c (RepM.f_houses hR) tw_1607 rfl rfl ⟨⟨le_b rfl, le_b rfl⟩, le_b rfl, le_b rfl⟩ (le_b rfl) dX11_settled_5 rfl (dvk1 ?_) nokx
  refine s_castI hC tw_1544 (RepM.f_house hR hi) dX11_settled_10 rfl ?_
  refine s_astore_n hC (L' := [(3, _), (0, _), (1, _), (2, _)]) dX11_settled_13 rfl rfl (le_b rfl) rfl ?_
  refine s_iload_n hC dX11_settled_14 rfl rfl 3 rfl ?_
  refine z_if_eqB hC (tgt := 24) dX11_settled_15 rfl (by decide) (fun c_1 => ?_) (fun c_1 => ?_)
  · refine s_aload_n hC dX11_settled_24 rfl rfl 0 rfl ?_
    refine s_iconst hC (v := 0) dX11_settled_25 rfl (by decide) ?_
    refine s_ialdK hC (Or.inl (RepM.f_house hR hi)) (vp_in_nI (by decide : 0 < 7) (by decide)) dX11_settled_26 rfl ?_
    rw [show hsA (σ.hs i9) (Int32.toNatClampNeg 0) = (if b = true then (σ.hs i9).to else (σ.hs i9).fr) from (if_neg (fun h9 => by rw [c_1] at h9; cases h9)).symm]
    refine s_istore hC (L' := [(4, _), (3, _), (0, _), (1, _), (2, _)]) dX11_settled_27 rfl (le_b rfl) rfl ?_
    refine s_iconst hC (v := 0) dX11_settled_29 rfl (by decide) ?_
    refine s_istore hC (L' := [(5, _), (4, _), (3, _), (0, _), (1, _), (2, _)]) dX11_settled_30 rfl (le_b rfl) rfl ?_
    refine s_iconst hC (v := 0) dX11_settled_32 rfl (by decide) ?_
    refine s_istore hC (L' := [(6, _), (5, _), (4, _), (3, _), (0, _), (1, _), (2, _)]) dX11_settled_33 rfl (le_b rfl) rfl ?_
    refine WP.sub (L' := [(0, _), (1, _), (2, _), (3, _), (4, _), (5, _), (6, _)]) [4, 5, 6, 3, 2, 1, 0] rfl ?_
    refine wp_loop (σ := Int32 × Int32 × Nat) (I := fun (i, sm, j) => i = nI j ∧ j ≤ σ.n ∧ sm = stlF σ (if b = true then (σ.hs i9).to else (σ.hs i9).fr) (σ.hs i9).ofs j) (ωf := fun (i, sm, j) => ω) (Lf := fun (i, sm, j) => [(0, .ref (ad .main)), (1, .int (nI i9)), (2, .int (bI b)), (3, .ref (ad (.house i9))), (4, .int (if b = true then (σ.hs i9).to else (σ.hs i9).fr)), (5, .int sm), (6, .int i)]) (μ := fun (i, sm, j) => σ.n - j) (x0 := (_, _, 0)) ?_ ?_
    · exact ⟨rfl, Nat.zero_le _, rfl⟩
    · rintro ⟨i, sm, j⟩ hI ih
      dsimp only at hI ih ⊢
      obtain ⟨rfl, hj, rfl⟩ := hI
      have hin9 : ¬ nI (σ.n) ≤ nI j → j < σ.n := nI_ltc (Nat.lt_of_le_of_lt (RepM.b_ring hR) (by decide)) hj
      refine s_iload hC dX11_settled_35 rfl 6 rfl ?_
      refine s_aload_n hC dX11_settled_37 rfl rfl 0 rfl ?_
      refine s_getf hC cs_X11 8 tw_1257 (le_b rfl) (RepM.f_main hR) rfl dX11_settled_38 rfl ?_
      refine s_callF hC (nA := 0) 0 (ct_Jx4a65c_size_8abf5 l g _ _ _ _ _ (RepM.f_rings hR)) rfl tw_276 tw_5 tw_274 tw_1431 (by decide +kernel) cs_Jx4a65c (RepM.f_rings hR) tw_1427 rfl rfl ⟨⟨le_b rfl, le_b rfl⟩, le_b rfl, le_b rfl⟩ (le_b rfl) dX11_settled_41 rfl (dvk1 ?_) nokx
      refine z_icmp_ge hC (tgt := 116) dX11_settled_46 rfl (by decide) (fun c_2 => ?_) (fun c_2 => ?_)
      · refine s_iload hC dX11_settled_116 rfl 5 rfl ?_
        refine s_aload_n hC dX11_settled_118 rfl rfl 3 rfl ?_
        refine s_iload_n hC dX11_settled_119 rfl rfl 2 rfl ?_
        refine z_if_eqB hC (tgt := 127) dX11_settled_120 rfl (by decide) (fun c_3 => ?_) (fun c_3 => ?_)
        · refine s_iconst hC (v := 3) dX11_settled_127 rfl (by decide) ?_
          refine s_ialdK hC (Or.inl (RepM.f_house hR hi)) (by first | exact vp_in_nI (by decide : 4 < 7) (by decide) | exact vp_in_nI (by decide : 3 < 7) (by decide)) dX11_settled_128 rfl ?_
          refine s_isub hC dX11_settled_129 rfl ?_
          refine s_iret hC hr dX11_settled_130 (le_b rfl) (le_b rfl) ?_
          obtain rfl := nI_lec (Nat.lt_of_le_of_lt (RepM.b_ring hR) (by decide)) hj c_2
          have hb9 : ¬ b = true := fun h9 => by rw [c_3] at h9; cases h9
          exact ⟨by rw [smF, if_neg hb9, if_neg hb9]; rfl, rfl⟩
        · refine s_iconst hC (v := 4) dX11_settled_123 rfl (by decide) ?_
          refine s_goto hC (tgt := 128) dX11_settled_124 (by decide) ?_
          refine s_ialdK hC (Or.inl (RepM.f_house hR hi)) (by first | exact vp_in_nI (by decide : 4 < 7) (by decide) | exact vp_in_nI (by decide : 3 < 7) (by decide)) dX11_settled_128 rfl ?_
          refine s_isub hC dX11_settled_129 rfl ?_
          refine s_iret hC hr dX11_settled_130 (le_b rfl) (le_b rfl) ?_
          obtain rfl := nI_lec (Nat.lt_of_le_of_lt (RepM.b_ring hR) (by decide)) hj c_2
          exact ⟨by rw [smF, if_pos c_3]; first | rfl | (rw [if_pos c_3]; rfl), rfl⟩
      · refine s_aload_n hC dX11_settled_49 rfl rfl 0 rfl ?_
        refine s_getf hC cs_X11 3 tw_1252 (le_b rfl) (RepM.f_main hR) rfl dX11_settled_50 rfl ?_
        refine s_iload hC dX11_settled_53 rfl 6 rfl ?_
        refine s_ialdK hC (Or.inl (RepM.f_depths hR)) (vp_in_nI (by have := hin9 c_2; omega : j < 200) (by decide)) dX11_settled_55 rfl ?_
        refine s_aload_n hC dX11_settled_56 rfl rfl 0 rfl ?_
        refine s_getf hC cs_X11 3 tw_1252 (le_b rfl) (RepM.f_main hR) rfl dX11_settled_57 rfl ?_
        refine s_iload hC dX11_settled_60 rfl 6 rfl ?_
        refine s_ialdK hC (Or.inl (RepM.f_depths hR)) (vp_in_nI (by have := hin9 c_2; omega : j < 200) (by decide)) dX11_settled_62 rfl ?_
        refine s_imul hC dX11_settled_63 rfl ?_
        refine s_istore hC (L' := [(7, _), (0, _), (1, _), (2, _), (3, _), (4, _), (5, _), (6, _)]) dX11_settled_64 rfl (le_b rfl) rfl ?_
        refine s_iload hC dX11_settled_66 rfl 5 rfl ?_
        refine s_iload hC dX11_settled_68 rfl 7 rfl ?_
        refine s_isub hC dX11_settled_70 rfl ?_
        refine s_iload hC dX11_settled_71 rfl 5 rfl ?_
        refine s_iload hC dX11_settled_73 rfl 7 rfl ?_
        refine s_isub hC dX11_settled_75 rfl ?_
        refine s_imul hC dX11_settled_76 rfl ?_
        refine s_aload_n hC dX11_settled_77 rfl rfl 4 rfl ?_
        refine s_iconst hC (v := 2) dX11_settled_78 rfl (by decide) ?_
        refine s_ialdK hC (Or.inl (RepM.f_house hR hi)) (vp_in_nI (by decide : 2 < 7) (by decide)) dX11_settled_79 rfl ?_
        refine s_aload_n hC dX11_settled_80 rfl rfl 4 rfl ?_
        refine s_iconst hC (v := 2) dX11_settled_81 rfl (by decide) ?_
        refine s_ialdK hC (Or.inl (RepM.f_house hR hi)) (vp_in_nI (by decide : 2 < 7) (by decide)) dX11_settled_82 rfl ?_
        refine s_imul hC dX11_settled_83 rfl ?_
        refine s_iadd hC dX11_settled_84 rfl ?_
        refine s_istore hC (L' := [(8, _), (7, _), (0, _), (1, _), (2, _), (3, _), (4, _), (5, _), (6, _)]) dX11_settled_85 rfl (le_b rfl) rfl ?_
        refine s_iload hC dX11_settled_87 rfl 7 rfl ?_
        refine s_aload_n hC dX11_settled_89 rfl rfl 2 rfl ?_
        refine s_iload hC dX11_settled_90 rfl 8 rfl ?_
        refine s_callV hC (ct_X11_lostAt l g _ _ _ _ hR hk hrk hn _ (hin9 c_2)) ce_X11_lostAt cs_X11 (RepM.f_main hR) tw_1724 rfl rfl ⟨⟨le_b rfl, le_b rfl⟩, le_b rfl, le_b rfl⟩ (le_b rfl) dX11_settled_92 rfl (dvk1 ?_) nokx
        refine s_iload hC dX11_settled_95 rfl 1 rfl ?_
        refine s_imul hC dX11_settled_97 rfl ?_
        refine s_bipush hC (v := 10) dX11_settled_98 rfl (by decide) ?_
        refine s_iload hC dX11_settled_100 rfl 1 rfl ?_
        refine s_iload hC dX11_settled_102 rfl 0 rfl ?_
        refine s_iadd hC dX11_settled_104 rfl ?_
        refine s_imul hC dX11_settled_105 rfl ?_
        have hdv := stl_div hd hh hi (show j < 200 by have := hin9 c_2; omega) b
        have hdw := hdv
        rw [Int32.add_assoc] at hdw
        refine s_idiv hC dX11_settled_106 rfl (by rw [nI_clamp (show j < 2 ^ 31 by have := hin9 c_2; omega)]; exact not_le0 hdw) ?_
        refine s_iadd hC dX11_settled_107 rfl ?_
        refine s_istore hC (L' := [(5, _), (8, _), (7, _), (0, _), (1, _), (2, _), (3, _), (4, _), (6, _)]) dX11_settled_108 rfl (le_b rfl) rfl ?_
        refine s_iinc hC (v := _ + 1) (j9 := 8) (L' := [(6, _), (5, _), (8, _), (7, _), (0, _), (1, _), (2, _), (3, _), (4, _)]) dX11_settled_110 rfl rfl rfl (le_b rfl) rfl ?_
        refine s_goto hC (tgt := 35) dX11_settled_113 (by decide) ?_
        refine WP.sub (L' := [(0, _), (1, _), (2, _), (3, _), (4, _), (5, _), (6, _)]) [4, 5, 6, 7, 8, 1, 0] rfl ?_
        refine ih (_, _, j + 1) ?_ ?_
        · dsimp only
          have h9 := hin9 c_2
          refine ⟨nI_1 j, h9, ?_⟩
          rw [stlF, skF, atF_in (by decide) (show j < 200 by omega), if_neg hdv, nI_clamp (show j < 2 ^ 31 by omega), Int32.mul_assoc, Int32.add_assoc]
          rfl
        · dsimp only
          have h9 := hin9 c_2; omega
  · refine s_aload_n hC dX11_settled_18 rfl rfl 0 rfl ?_
    refine s_iconst hC (v := 1) dX11_settled_19 rfl (by decide) ?_
    refine s_ialdK hC (Or.inl (RepM.f_house hR hi)) (vp_in_nI (by decide : 1 < 7) (by decide)) dX11_settled_20 rfl ?_
    rw [show hsA (σ.hs i9) (Int32.toNatClampNeg 1) = (if b = true then (σ.hs i9).to else (σ.hs i9).fr) from (if_pos c_1).symm]
    refine s_goto hC (tgt := 27) dX11_settled_21 (by decide) ?_
    skip
    refine s_istore hC (L' := [(4, _), (3, _), (0, _), (1, _), (2, _)]) dX11_settled_27 rfl (le_b rfl) rfl ?_
    refine s_iconst hC (v := 0) dX11_settled_29 rfl (by decide) ?_
    refine s_istore hC (L' := [(5, _), (4, _), (3, _), (0, _), (1, _), (2, _)]) dX11_settled_30 rfl (le_b rfl) rfl ?_
    refine s_iconst hC (v := 0) dX11_settled_32 rfl (by decide) ?_
    refine s_istore hC (L' := [(6, _), (5, _), (4, _), (3, _), (0, _), (1, _), (2, _)]) dX11_settled_33 rfl (le_b rfl) rfl ?_
    refine WP.sub (L' := [(0, _), (1, _), (2, _), (3, _), (4, _), (5, _), (6, _)]) [4, 5, 6, 3, 2, 1, 0] rfl ?_
    refine wp_loop (σ := Int32 × Int32 × Nat) (I := fun (i, sm, j) => i = nI j ∧ j ≤ σ.n ∧ sm = stlF σ (if b = true then (σ.hs i9).to else (σ.hs i9).fr) (σ.hs i9).ofs j) (ωf := fun (i, sm, j) => ω) (Lf := fun (i, sm, j) => [(0, .ref (ad .main)), (1, .int (nI i9)), (2, .int (bI b)), (3, .ref (ad (.house i9))), (4, .int (if b = true then (σ.hs i9).to else (σ.hs i9).fr)), (5, .int sm), (6, .int i)]) (μ := fun (i, sm, j) => σ.n - j) (x0 := (_, _, 0)) ?_ ?_
    · exact ⟨rfl, Nat.zero_le _, rfl⟩
    · rintro ⟨i, sm, j⟩ hI ih
      dsimp only at hI ih ⊢
      obtain ⟨rfl, hj, rfl⟩ := hI
      have hin9 : ¬ nI (σ.n) ≤ nI j → j < σ.n := nI_ltc (Nat.lt_of_le_of_lt (RepM.b_ring hR) (by decide)) hj
      refine s_iload hC dX11_settled_35 rfl 6 rfl ?_
      refine s_aload_n hC dX11_settled_37 rfl rfl 0 rfl ?_
      refine s_getf hC cs_X11 8 tw_1257 (le_b rfl) (RepM.f_main hR) rfl dX11_settled_38 rfl ?_
      refine s_callF hC (nA := 0) 0 (ct_Jx4a65c_size_8abf5 l g _ _ _ _ _ (RepM.f_rings hR)) rfl tw_276 tw_5 tw_274 tw_1431 (by decide +kernel) cs_Jx4a65c (RepM.f_rings hR) tw_1427 rfl rfl ⟨⟨le_b rfl, le_b rfl⟩, le_b rfl, le_b rfl⟩ (le_b rfl) dX11_settled_41 rfl (dvk1 ?_) nokx
      refine z_icmp_ge hC (tgt := 116) dX11_settled_46 rfl (by decide) (fun c_4 => ?_) (fun c_4 => ?_)
      · refine s_iload hC dX11_settled_116 rfl 5 rfl ?_
        refine s_aload_n hC dX11_settled_118 rfl rfl 3 rfl ?_
        refine s_iload_n hC dX11_settled_119 rfl rfl 2 rfl ?_
        refine z_if_eqB hC (tgt := 127) dX11_settled_120 rfl (by decide) (fun c_5 => ?_) (fun c_5 => ?_)
        · refine s_iconst hC (v := 3) dX11_settled_127 rfl (by decide) ?_
          refine s_ialdK hC (Or.inl (RepM.f_house hR hi)) (by first | exact vp_in_nI (by decide : 4 < 7) (by decide) | exact vp_in_nI (by decide : 3 < 7) (by decide)) dX11_settled_128 rfl ?_
          refine s_isub hC dX11_settled_129 rfl ?_
          refine s_iret hC hr dX11_settled_130 (le_b rfl) (le_b rfl) ?_
          obtain rfl := nI_lec (Nat.lt_of_le_of_lt (RepM.b_ring hR) (by decide)) hj c_4
          have hb9 : ¬ b = true := fun h9 => by rw [c_5] at h9; cases h9
          exact ⟨by rw [smF, if_neg hb9, if_neg hb9]; rfl, rfl⟩
        · refine s_iconst hC (v := 4) dX11_settled_123 rfl (by decide) ?_
          refine s_goto hC (tgt := 128) dX11_settled_124 (by decide) ?_
          refine s_ialdK hC (Or.inl (RepM.f_house hR hi)) (by first | exact vp_in_nI (by decide : 4 < 7) (by decide) | exact vp_in_nI (by decide : 3 < 7) (by decide)) dX11_settled_128 rfl ?_
          refine s_isub hC dX11_settled_129 rfl ?_
          refine s_iret hC hr dX11_settled_130 (le_b rfl) (le_b rfl) ?_
          obtain rfl := nI_lec (Nat.lt_of_le_of_lt (RepM.b_ring hR) (by decide)) hj c_4
          exact ⟨by rw [smF, if_pos c_5]; first | rfl | (rw [if_pos c_5]; rfl), rfl⟩
      · refine s_aload_n hC dX11_settled_49 rfl rfl 0 rfl ?_
        refine s_getf hC cs_X11 3 tw_1252 (le_b rfl) (RepM.f_main hR) rfl dX11_settled_50 rfl ?_
        refine s_iload hC dX11_settled_53 rfl 6 rfl ?_
        refine s_ialdK hC (Or.inl (RepM.f_depths hR)) (vp_in_nI (by have := hin9 c_4; omega : j < 200) (by decide)) dX11_settled_55 rfl ?_
        refine s_aload_n hC dX11_settled_56 rfl rfl 0 rfl ?_
        refine s_getf hC cs_X11 3 tw_1252 (le_b rfl) (RepM.f_main hR) rfl dX11_settled_57 rfl ?_
        refine s_iload hC dX11_settled_60 rfl 6 rfl ?_
        refine s_ialdK hC (Or.inl (RepM.f_depths hR)) (vp_in_nI (by have := hin9 c_4; omega : j < 200) (by decide)) dX11_settled_62 rfl ?_
        refine s_imul hC dX11_settled_63 rfl ?_
        refine s_istore hC (L' := [(7, _), (0, _), (1, _), (2, _), (3, _), (4, _), (5, _), (6, _)]) dX11_settled_64 rfl (le_b rfl) rfl ?_
        refine s_iload hC dX11_settled_66 rfl 5 rfl ?_
        refine s_iload hC dX11_settled_68 rfl 7 rfl ?_
        refine s_isub hC dX11_settled_70 rfl ?_
        refine s_iload hC dX11_settled_71 rfl 5 rfl ?_
        refine s_iload hC dX11_settled_73 rfl 7 rfl ?_
        refine s_isub hC dX11_settled_75 rfl ?_
        refine s_imul hC dX11_settled_76 rfl ?_
        refine s_aload_n hC dX11_settled_77 rfl rfl 4 rfl ?_
        refine s_iconst hC (v := 2) dX11_settled_78 rfl (by decide) ?_
        refine s_ialdK hC (Or.inl (RepM.f_house hR hi)) (vp_in_nI (by decide : 2 < 7) (by decide)) dX11_settled_79 rfl ?_
        refine s_aload_n hC dX11_settled_80 rfl rfl 4 rfl ?_
        refine s_iconst hC (v := 2) dX11_settled_81 rfl (by decide) ?_
        refine s_ialdK hC (Or.inl (RepM.f_house hR hi)) (vp_in_nI (by decide : 2 < 7) (by decide)) dX11_settled_82 rfl ?_
        refine s_imul hC dX11_settled_83 rfl ?_
        refine s_iadd hC dX11_settled_84 rfl ?_
        refine s_istore hC (L' := [(8, _), (7, _), (0, _), (1, _), (2, _), (3, _), (4, _), (5, _), (6, _)]) dX11_settled_85 rfl (le_b rfl) rfl ?_
        refine s_iload hC dX11_settled_87 rfl 7 rfl ?_
        refine s_aload_n hC dX11_settled_89 rfl rfl 2 rfl ?_
        refine s_iload hC dX11_settled_90 rfl 8 rfl ?_
        refine s_callV hC (ct_X11_lostAt l g _ _ _ _ hR hk hrk hn _ (hin9 c_4)) ce_X11_lostAt cs_X11 (RepM.f_main hR) tw_1724 rfl rfl ⟨⟨le_b rfl, le_b rfl⟩, le_b rfl, le_b rfl⟩ (le_b rfl) dX11_settled_92 rfl (dvk1 ?_) nokx
        refine s_iload hC dX11_settled_95 rfl 1 rfl ?_
        refine s_imul hC dX11_settled_97 rfl ?_
        refine s_bipush hC (v := 10) dX11_settled_98 rfl (by decide) ?_
        refine s_iload hC dX11_settled_100 rfl 1 rfl ?_
        refine s_iload hC dX11_settled_102 rfl 0 rfl ?_
        refine s_iadd hC dX11_settled_104 rfl ?_
        refine s_imul hC dX11_settled_105 rfl ?_
        have hdv := stl_div hd hh hi (show j < 200 by have := hin9 c_4; omega) b
        have hdw := hdv
        rw [Int32.add_assoc] at hdw
        refine s_idiv hC dX11_settled_106 rfl (by rw [nI_clamp (show j < 2 ^ 31 by have := hin9 c_4; omega)]; exact not_le0 hdw) ?_
        refine s_iadd hC dX11_settled_107 rfl ?_
        refine s_istore hC (L' := [(5, _), (8, _), (7, _), (0, _), (1, _), (2, _), (3, _), (4, _), (6, _)]) dX11_settled_108 rfl (le_b rfl) rfl ?_
        refine s_iinc hC (v := _ + 1) (j9 := 8) (L' := [(6, _), (5, _), (8, _), (7, _), (0, _), (1, _), (2, _), (3, _), (4, _)]) dX11_settled_110 rfl rfl rfl (le_b rfl) rfl ?_
        refine s_goto hC (tgt := 35) dX11_settled_113 (by decide) ?_
        refine WP.sub (L' := [(0, _), (1, _), (2, _), (3, _), (4, _), (5, _), (6, _)]) [4, 5, 6, 7, 8, 1, 0] rfl ?_
        refine ih (_, _, j + 1) ?_ ?_
        · dsimp only
          have h9 := hin9 c_4
          refine ⟨nI_1 j, h9, ?_⟩
          rw [stlF, skF, atF_in (by decide) (show j < 200 by omega), if_neg hdv, nI_clamp (show j < 2 ^ 31 by omega), Int32.mul_assoc, Int32.add_assoc]
          rfl
        · dsimp only
          have h9 := hin9 c_4; omega
