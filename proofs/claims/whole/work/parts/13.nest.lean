theorem bI_ft (b : Bool) : fits .boolean (.int (bI b)) = true := by cases b <;> rfl
set_option maxHeartbeats 1000000 in
set_option maxRecDepth 100000 in
theorem ct_X3_go (l : Launch) (g : Gl) (ω : Wd) (a : Nat) (a0 a1 a2 a3 : Int32) (h0 : ω a = some (.inr (8, [.int a0, .int a1, .int a2, .int a3]))) (r u : Int32) : CT l g yX3_go cX3_go 3 none 0 0 0 0 [.ref a, .int r, .int u] ω (dv none (wup ω a (.inr (8, [.int (a0 + r), .int (a1 + u), .int (a2 + (a0 + r)), .int (a3 + (a1 + u))])))) (nox) := by
  refine CT.of (own := "Boringhead$Course") rfl rfl (le_b rfl) rfl ?_
  intro p e s m args below meth c sz0 hC hr htab hin
  refine s_aload_n hC dX3_go_0 rfl rfl 0 rfl ?_
  refine s_dup hC dX3_go_1 rfl rfl ?_
  refine s_getf hC cs_X3 0 tw_149 (le_b rfl) h0 rfl dX3_go_2 rfl ?_
  refine s_iload_n hC dX3_go_5 rfl rfl 1 rfl ?_
  refine s_iadd hC dX3_go_6 rfl ?_
  refine s_putf hC cs_X3 0 tw_149 (le_b rfl) rfl rfl rfl h0 (le_b rfl) dX3_go_7 rfl ?_
  refine s_aload_n hC dX3_go_10 rfl rfl 0 rfl ?_
  refine s_dup hC dX3_go_11 rfl rfl ?_
  refine s_getf hC cs_X3 1 tw_151 (le_b rfl) (wup_s _ _ _) rfl dX3_go_12 rfl ?_
  refine s_iload_n hC dX3_go_15 rfl rfl 2 rfl ?_
  refine s_iadd hC dX3_go_16 rfl ?_
  refine s_putf hC cs_X3 1 tw_151 (le_b rfl) rfl rfl rfl (wup_s _ _ _) (le_b rfl) dX3_go_17 rfl ?_
  refine s_aload_n hC dX3_go_20 rfl rfl 0 rfl ?_
  refine s_dup hC dX3_go_21 rfl rfl ?_
  refine s_getf hC cs_X3 2 tw_153 (le_b rfl) (wup_s _ _ _) rfl dX3_go_22 rfl ?_
  refine s_aload_n hC dX3_go_25 rfl rfl 0 rfl ?_
  refine s_getf hC cs_X3 0 tw_149 (le_b rfl) (wup_s _ _ _) rfl dX3_go_26 rfl ?_
  refine s_iadd hC dX3_go_29 rfl ?_
  refine s_putf hC cs_X3 2 tw_153 (le_b rfl) rfl rfl rfl (wup_s _ _ _) (le_b rfl) dX3_go_30 rfl ?_
  refine s_aload_n hC dX3_go_33 rfl rfl 0 rfl ?_
  refine s_dup hC dX3_go_34 rfl rfl ?_
  refine s_getf hC cs_X3 3 tw_155 (le_b rfl) (wup_s _ _ _) rfl dX3_go_35 rfl ?_
  refine s_aload_n hC dX3_go_38 rfl rfl 0 rfl ?_
  refine s_getf hC cs_X3 1 tw_151 (le_b rfl) (wup_s _ _ _) rfl dX3_go_39 rfl ?_
  refine s_iadd hC dX3_go_42 rfl ?_
  refine s_putf hC cs_X3 3 tw_155 (le_b rfl) rfl rfl rfl (wup_s _ _ _) (le_b rfl) dX3_go_43 rfl ?_
  refine s_vret hC hr dX3_go_46 (le_b rfl) (le_b rfl) ?_
  exact ⟨rfl, by rw [wup_wup, wup_wup, wup_wup]; rfl⟩
set_option maxHeartbeats 1000000 in
set_option maxRecDepth 100000 in
theorem ct_X3_startAtLine (l : Launch) (g : Gl) (ω : Wd) (a : Nat) (a0 a1 a2 a3 : Int32) (h0 : ω a = some (.inr (8, [.int a0, .int a1, .int a2, .int a3]))) : CT l g yX3_startAtLine cX3_startAtLine 1 none 0 0 0 0 [.ref a] ω (dv none (wup ω a (.inr (8, [.int 0, .int 0, .int 0, .int 0])))) (nox) := by
  refine CT.of (own := "Boringhead$Course") rfl rfl (le_b rfl) rfl ?_
  intro p e s m args below meth c sz0 hC hr htab hin
  refine s_aload_n hC dX3_startAtLine_0 rfl rfl 0 rfl ?_
  refine s_iconst hC (v := 0) dX3_startAtLine_1 rfl (by decide) ?_
  refine s_putf hC cs_X3 0 tw_149 (le_b rfl) rfl rfl rfl h0 (le_b rfl) dX3_startAtLine_2 rfl ?_
  refine s_aload_n hC dX3_startAtLine_5 rfl rfl 0 rfl ?_
  refine s_iconst hC (v := 0) dX3_startAtLine_6 rfl (by decide) ?_
  refine s_putf hC cs_X3 1 tw_151 (le_b rfl) rfl rfl rfl (wup_s _ _ _) (le_b rfl) dX3_startAtLine_7 rfl ?_
  refine s_aload_n hC dX3_startAtLine_10 rfl rfl 0 rfl ?_
  refine s_iconst hC (v := 0) dX3_startAtLine_11 rfl (by decide) ?_
  refine s_putf hC cs_X3 2 tw_153 (le_b rfl) rfl rfl rfl (wup_s _ _ _) (le_b rfl) dX3_startAtLine_12 rfl ?_
  refine s_aload_n hC dX3_startAtLine_15 rfl rfl 0 rfl ?_
  refine s_iconst hC (v := 0) dX3_startAtLine_16 rfl (by decide) ?_
  refine s_putf hC cs_X3 3 tw_155 (le_b rfl) rfl rfl rfl (wup_s _ _ _) (le_b rfl) dX3_startAtLine_17 rfl ?_
  refine s_vret hC hr dX3_startAtLine_20 (le_b rfl) (le_b rfl) ?_
  exact ⟨rfl, by rw [wup_wup, wup_wup, wup_wup]; rfl⟩
set_option maxHeartbeats 1000000 in
set_option maxRecDepth 100000 in
theorem ct_X3_startAt (l : Launch) (g : Gl) (ω : Wd) (a : Nat) (a0 a1 a2 a3 : Int32) (h0 : ω a = some (.inr (8, [.int a0, .int a1, .int a2, .int a3]))) (b : Nat) (b0 b1 b2 b3 : Int32) (h1 : ω b = some (.inr (8, [.int b0, .int b1, .int b2, .int b3]))) (hne : b ≠ a) : CT l g yX3_startAt cX3_startAt 2 none 0 0 0 0 [.ref a, .ref b] ω (dv none (wup ω a (.inr (8, [.int b0, .int b1, .int b2, .int b3])))) (nox) := by
  refine CT.of (own := "Boringhead$Course") rfl rfl (le_b rfl) rfl ?_
  intro p e s m args below meth c sz0 hC hr htab hin
  refine s_aload_n hC dX3_startAt_0 rfl rfl 0 rfl ?_
  refine s_aload_n hC dX3_startAt_1 rfl rfl 1 rfl ?_
  refine s_getf hC cs_X3 0 tw_149 (le_b rfl) h1 rfl dX3_startAt_2 rfl ?_
  refine s_putf hC cs_X3 0 tw_149 (le_b rfl) rfl rfl rfl h0 (le_b rfl) dX3_startAt_5 rfl ?_
  refine s_aload_n hC dX3_startAt_8 rfl rfl 0 rfl ?_
  refine s_aload_n hC dX3_startAt_9 rfl rfl 1 rfl ?_
  refine s_getf hC cs_X3 1 tw_151 (le_b rfl) ((wup_n hne).trans h1) rfl dX3_startAt_10 rfl ?_
  refine s_putf hC cs_X3 1 tw_151 (le_b rfl) rfl rfl rfl (wup_s _ _ _) (le_b rfl) dX3_startAt_13 rfl ?_
  refine s_aload_n hC dX3_startAt_16 rfl rfl 0 rfl ?_
  refine s_aload_n hC dX3_startAt_17 rfl rfl 1 rfl ?_
  refine s_getf hC cs_X3 2 tw_153 (le_b rfl) ((wup_n hne).trans ((wup_n hne).trans h1)) rfl dX3_startAt_18 rfl ?_
  refine s_putf hC cs_X3 2 tw_153 (le_b rfl) rfl rfl rfl (wup_s _ _ _) (le_b rfl) dX3_startAt_21 rfl ?_
  refine s_aload_n hC dX3_startAt_24 rfl rfl 0 rfl ?_
  refine s_aload_n hC dX3_startAt_25 rfl rfl 1 rfl ?_
  refine s_getf hC cs_X3 3 tw_155 (le_b rfl) ((wup_n hne).trans ((wup_n hne).trans ((wup_n hne).trans h1))) rfl dX3_startAt_26 rfl ?_
  refine s_putf hC cs_X3 3 tw_155 (le_b rfl) rfl rfl rfl (wup_s _ _ _) (le_b rfl) dX3_startAt_29 rfl ?_
  refine s_vret hC hr dX3_startAt_32 (le_b rfl) (le_b rfl) ?_
  exact ⟨rfl, by rw [wup_wup, wup_wup, wup_wup]; rfl⟩
set_option maxHeartbeats 1000000 in
set_option maxRecDepth 100000 in
theorem ct_X3_square (l : Launch) (g : Gl) (ω : Wd) (a : Nat) (a0 a1 a2 a3 : Int32) (h0 : ω a = some (.inr (8, [.int a0, .int a1, .int a2, .int a3]))) : CT l g yX3_square cX3_square 1 (some .long) 0 0 0 0 [.ref a] ω (dv (some (.long (a2.toInt64 * a2.toInt64 + a3.toInt64 * a3.toInt64))) ω) (nox) := by
  refine CT.of (own := "Boringhead$Course") rfl rfl (le_b rfl) rfl ?_
  intro p e s m args below meth c sz0 hC hr htab hin
  refine s_aload_n hC dX3_square_0 rfl rfl 0 rfl ?_
  refine s_getf hC cs_X3 2 tw_153 (le_b rfl) h0 rfl dX3_square_1 rfl ?_
  refine s_i2l hC dX3_square_4 rfl rfl ?_
  refine s_aload_n hC dX3_square_5 rfl rfl 0 rfl ?_
  refine s_getf hC cs_X3 2 tw_153 (le_b rfl) h0 rfl dX3_square_6 rfl ?_
  refine s_i2l hC dX3_square_9 rfl rfl ?_
  refine s_lmul hC dX3_square_10 rfl ?_
  refine s_aload_n hC dX3_square_11 rfl rfl 0 rfl ?_
  refine s_getf hC cs_X3 3 tw_155 (le_b rfl) h0 rfl dX3_square_12 rfl ?_
  refine s_i2l hC dX3_square_15 rfl rfl ?_
  refine s_aload_n hC dX3_square_16 rfl rfl 0 rfl ?_
  refine s_getf hC cs_X3 3 tw_155 (le_b rfl) h0 rfl dX3_square_17 rfl ?_
  refine s_i2l hC dX3_square_20 rfl rfl ?_
  refine s_lmul hC dX3_square_21 rfl ?_
  refine s_ladd hC dX3_square_22 rfl ?_
  refine s_lret hC hr dX3_square_23 (le_b rfl) (le_b rfl) ?_
  exact ⟨rfl, rfl⟩
set_option maxHeartbeats 1000000 in
set_option maxRecDepth 100000 in
theorem ct_X3_isLike (l : Launch) (g : Gl) (ω : Wd) (a : Nat) (a0 a1 a2 a3 : Int32) (h0 : ω a = some (.inr (8, [.int a0, .int a1, .int a2, .int a3]))) (b : Nat) (b0 b1 b2 b3 : Int32) (h1 : ω b = some (.inr (8, [.int b0, .int b1, .int b2, .int b3]))) : CT l g yX3_isLike cX3_isLike 2 (some .boolean) 0 0 0 0 [.ref a, .ref b] ω (dv (some (.int (bI (decide (a0 = b0) && decide (a1 = b1) && decide (a2 = b2) && decide (a3 = b3))))) ω) (nox) := by
  refine CT.of (own := "Boringhead$Course") rfl rfl (le_b rfl) rfl ?_
  intro p e s m args below meth c sz0 hC hr htab hin
  refine s_aload_n hC dX3_isLike_0 rfl rfl 0 rfl ?_
  refine s_getf hC cs_X3 0 tw_149 (le_b rfl) h0 rfl dX3_isLike_1 rfl ?_
  refine s_aload_n hC dX3_isLike_4 rfl rfl 1 rfl ?_
  refine s_getf hC cs_X3 0 tw_149 (le_b rfl) h1 rfl dX3_isLike_5 rfl ?_
  refine z_icmp_ne hC (tgt := 48) dX3_isLike_8 rfl (by decide) (fun c_1 => ?_) (fun c_1 => ?_)
  · refine s_iconst hC (v := 0) dX3_isLike_48 rfl (by decide) ?_
    refine s_zret hC hr dX3_isLike_49 rfl (le_b rfl) (le_b rfl) ?_
    exact ⟨by simp [bI, c_1], rfl⟩
  · refine s_aload_n hC dX3_isLike_11 rfl rfl 0 rfl ?_
    refine s_getf hC cs_X3 1 tw_151 (le_b rfl) h0 rfl dX3_isLike_12 rfl ?_
    refine s_aload_n hC dX3_isLike_15 rfl rfl 1 rfl ?_
    refine s_getf hC cs_X3 1 tw_151 (le_b rfl) h1 rfl dX3_isLike_16 rfl ?_
    refine z_icmp_ne hC (tgt := 48) dX3_isLike_19 rfl (by decide) (fun c_2 => ?_) (fun c_2 => ?_)
    · refine s_iconst hC (v := 0) dX3_isLike_48 rfl (by decide) ?_
      refine s_zret hC hr dX3_isLike_49 rfl (le_b rfl) (le_b rfl) ?_
      exact ⟨by simp [bI, c_1, c_2], rfl⟩
    · refine s_aload_n hC dX3_isLike_22 rfl rfl 0 rfl ?_
      refine s_getf hC cs_X3 2 tw_153 (le_b rfl) h0 rfl dX3_isLike_23 rfl ?_
      refine s_aload_n hC dX3_isLike_26 rfl rfl 1 rfl ?_
      refine s_getf hC cs_X3 2 tw_153 (le_b rfl) h1 rfl dX3_isLike_27 rfl ?_
      refine z_icmp_ne hC (tgt := 48) dX3_isLike_30 rfl (by decide) (fun c_3 => ?_) (fun c_3 => ?_)
      · refine s_iconst hC (v := 0) dX3_isLike_48 rfl (by decide) ?_
        refine s_zret hC hr dX3_isLike_49 rfl (le_b rfl) (le_b rfl) ?_
        exact ⟨by simp [bI, c_1, c_2, c_3], rfl⟩
      · refine s_aload_n hC dX3_isLike_33 rfl rfl 0 rfl ?_
        refine s_getf hC cs_X3 3 tw_155 (le_b rfl) h0 rfl dX3_isLike_34 rfl ?_
        refine s_aload_n hC dX3_isLike_37 rfl rfl 1 rfl ?_
        refine s_getf hC cs_X3 3 tw_155 (le_b rfl) h1 rfl dX3_isLike_38 rfl ?_
        refine z_icmp_ne hC (tgt := 48) dX3_isLike_41 rfl (by decide) (fun c_4 => ?_) (fun c_4 => ?_)
        · refine s_iconst hC (v := 0) dX3_isLike_48 rfl (by decide) ?_
          refine s_zret hC hr dX3_isLike_49 rfl (le_b rfl) (le_b rfl) ?_
          exact ⟨by simp [bI, c_1, c_2, c_3, c_4], rfl⟩
        · refine s_iconst hC (v := 1) dX3_isLike_44 rfl (by decide) ?_
          refine s_goto hC (tgt := 49) dX3_isLike_45 (by decide) ?_
          refine s_zret hC hr dX3_isLike_49 rfl (le_b rfl) (le_b rfl) ?_
          exact ⟨by simp [bI, c_1, c_2, c_3, c_4], rfl⟩
def gapF (kd : Int32) : Int32 := 100 + 10 * atF 4 (stF [2, 5, 1, 4]) kd
def roomF (r : Rg) : Int32 := gapF r.kind + gapF r.kind / 5 - r.fi
def missF (r : Rg) : Int32 := iMax (gapF r.kind - r.fi) 0
def setF (r : Rg) (m9 : Int32) : Bool := decide (¬ r.fi ≤ 0) && decide (600 ≤ m9 - r.ff)
def offF (r : Rg) : Bool := decide (¬ iAbs r.oR ≤ 50) || decide (¬ iAbs r.oU ≤ 50)
def evtF (r : Rg) : Bool := decide (¬ r.mo ≤ 0)
set_option maxHeartbeats 1000000 in
set_option maxRecDepth 100000 in
theorem ct_X5_gap (l : Launch) (g : Gl) (ω : Wd) (a : Nat) (r : Rg) (h0 : ω a = some (.inr (10, rfs r))) : CT l g yX5_gap cX5_gap 1 (some .int) 1 21 0 0 [.ref a] ω (dv (some (.int (gapF r.kind))) ω) (nox) := by
  refine CT.of (own := "Boringhead$Ring") rfl rfl (le_b rfl) rfl ?_
  intro p e s m args below meth c sz0 hC hr htab hin
  refine s_bipush hC (v := 100) dX5_gap_0 rfl (by decide) ?_
  refine s_bipush hC (v := 10) dX5_gap_2 rfl (by decide) ?_
  refine s_getsN hC 6 rfl tw_341 dX5_gap_4 rfl ?_
  refine s_aload_n hC dX5_gap_7 rfl rfl 0 rfl ?_
  refine s_getf hC cs_X5 1 tw_887 (le_b rfl) h0 rfl dX5_gap_8 rfl ?_
  refine s_callSN hC (ct_X9_at l g _ _ 4 _ _ (ar_st g _ 6 rfl) (by first | decide | assumption)) ce_X9_at tw_343 rfl rfl ⟨⟨le_b rfl, le_b rfl⟩, le_b rfl, le_b rfl⟩ (le_b rfl) dX5_gap_11 rfl (dvk1 ?_) nokx
  refine s_imul hC dX5_gap_14 rfl ?_
  refine s_iadd hC dX5_gap_15 rfl ?_
  refine s_iret hC hr dX5_gap_16 (le_b rfl) (le_b rfl) ?_
  exact ⟨rfl, rfl⟩
set_option maxHeartbeats 1000000 in
set_option maxRecDepth 100000 in
theorem ct_X5_room (l : Launch) (g : Gl) (ω : Wd) (a : Nat) (r : Rg) (h0 : ω a = some (.inr (10, rfs r))) : CT l g yX5_room cX5_room 1 (some .int) 2 41 0 0 [.ref a] ω (dv (some (.int (roomF r))) ω) (nox) := by
  refine CT.of (own := "Boringhead$Ring") rfl rfl (le_b rfl) rfl ?_
  intro p e s m args below meth c sz0 hC hr htab hin
  refine s_aload_n hC dX5_room_0 rfl rfl 0 rfl ?_
  refine s_callV hC (ct_X5_gap l g _ _ _ h0) ce_X5_gap cs_X5 h0 tw_337 rfl rfl ⟨⟨le_b rfl, le_b rfl⟩, le_b rfl, le_b rfl⟩ (le_b rfl) dX5_room_1 rfl (dvk1 ?_) nokx
  refine s_aload_n hC dX5_room_4 rfl rfl 0 rfl ?_
  refine s_callV hC (ct_X5_gap l g _ _ _ h0) ce_X5_gap cs_X5 h0 tw_337 rfl rfl ⟨⟨le_b rfl, le_b rfl⟩, le_b rfl, le_b rfl⟩ (le_b rfl) dX5_room_5 rfl (dvk1 ?_) nokx
  refine s_iconst hC (v := 5) dX5_room_8 rfl (by decide) ?_
  refine s_idiv hC dX5_room_9 rfl (by decide) ?_
  refine s_iadd hC dX5_room_10 rfl ?_
  refine s_aload_n hC dX5_room_11 rfl rfl 0 rfl ?_
  refine s_getf hC cs_X5 12 tw_909 (le_b rfl) h0 rfl dX5_room_12 rfl ?_
  refine s_isub hC dX5_room_15 rfl ?_
  refine s_iret hC hr dX5_room_16 (le_b rfl) (le_b rfl) ?_
  exact ⟨rfl, rfl⟩
set_option maxHeartbeats 1000000 in
set_option maxRecDepth 100000 in
theorem ct_X5_missing (l : Launch) (g : Gl) (ω : Wd) (a : Nat) (r : Rg) (h0 : ω a = some (.inr (10, rfs r))) : CT l g yX5_missing cX5_missing 1 (some .int) 2 41 0 0 [.ref a] ω (dv (some (.int (missF r))) ω) (nox) := by
  refine CT.of (own := "Boringhead$Ring") rfl rfl (le_b rfl) rfl ?_
  intro p e s m args below meth c sz0 hC hr htab hin
  refine s_aload_n hC dX5_missing_0 rfl rfl 0 rfl ?_
  refine s_callV hC (ct_X5_gap l g _ _ _ h0) ce_X5_gap cs_X5 h0 tw_337 rfl rfl ⟨⟨le_b rfl, le_b rfl⟩, le_b rfl, le_b rfl⟩ (le_b rfl) dX5_missing_1 rfl (dvk1 ?_) nokx
  refine s_aload_n hC dX5_missing_4 rfl rfl 0 rfl ?_
  refine s_getf hC cs_X5 12 tw_909 (le_b rfl) h0 rfl dX5_missing_5 rfl ?_
  refine s_isub hC dX5_missing_8 rfl ?_
  refine s_iconst hC (v := 0) dX5_missing_9 rfl (by decide) ?_
  refine s_max hC tw_346 ⟨le_b rfl, le_b rfl, le_b rfl, le_b rfl⟩ dX5_missing_10 rfl ?_
  refine s_iret hC hr dX5_missing_13 (le_b rfl) (le_b rfl) ?_
  exact ⟨rfl, rfl⟩
set_option maxHeartbeats 1000000 in
set_option maxRecDepth 100000 in
theorem ct_X5_isOff (l : Launch) (g : Gl) (ω : Wd) (a : Nat) (r : Rg) (h0 : ω a = some (.inr (10, rfs r))) : CT l g yX5_isOff cX5_isOff 1 (some .boolean) 1 21 0 0 [.ref a] ω (dv (some (.int (bI (offF r)))) ω) (nox) := by
  refine CT.of (own := "Boringhead$Ring") rfl rfl (le_b rfl) rfl ?_
  intro p e s m args below meth c sz0 hC hr htab hin
  refine s_aload_n hC dX5_isOff_0 rfl rfl 0 rfl ?_
  refine s_getf hC cs_X5 5 tw_895 (le_b rfl) h0 rfl dX5_isOff_1 rfl ?_
  refine s_abs hC tw_304 ⟨le_b rfl, le_b rfl, le_b rfl, le_b rfl⟩ dX5_isOff_4 rfl ?_
  refine s_bipush hC (v := 50) dX5_isOff_7 rfl (by decide) ?_
  refine z_icmp_gt hC (tgt := 24) dX5_isOff_9 rfl (by decide) (fun c_1 => ?_) (fun c_1 => ?_)
  · refine s_iconst hC (v := 1) dX5_isOff_24 rfl (by decide) ?_
    refine s_goto hC (tgt := 29) dX5_isOff_25 (by decide) ?_
    refine s_zret hC hr dX5_isOff_29 rfl (le_b rfl) (le_b rfl) ?_
    exact ⟨by simp [offF, bI, c_1], rfl⟩
  · refine s_aload_n hC dX5_isOff_12 rfl rfl 0 rfl ?_
    refine s_getf hC cs_X5 6 tw_897 (le_b rfl) h0 rfl dX5_isOff_13 rfl ?_
    refine s_abs hC tw_304 ⟨le_b rfl, le_b rfl, le_b rfl, le_b rfl⟩ dX5_isOff_16 rfl ?_
    refine s_bipush hC (v := 50) dX5_isOff_19 rfl (by decide) ?_
    refine z_icmp_le hC (tgt := 28) dX5_isOff_21 rfl (by decide) (fun c_2 => ?_) (fun c_2 => ?_)
    · refine s_iconst hC (v := 0) dX5_isOff_28 rfl (by decide) ?_
      refine s_zret hC hr dX5_isOff_29 rfl (le_b rfl) (le_b rfl) ?_
      exact ⟨by simp [offF, bI, c_1, c_2], rfl⟩
    · refine s_iconst hC (v := 1) dX5_isOff_24 rfl (by decide) ?_
      refine s_goto hC (tgt := 29) dX5_isOff_25 (by decide) ?_
      refine s_zret hC hr dX5_isOff_29 rfl (le_b rfl) (le_b rfl) ?_
      exact ⟨by simp [offF, bI, c_1, c_2], rfl⟩
set_option maxHeartbeats 1000000 in
set_option maxRecDepth 100000 in
theorem ct_X5_isEvent (l : Launch) (g : Gl) (ω : Wd) (a : Nat) (r : Rg) (h0 : ω a = some (.inr (10, rfs r))) : CT l g yX5_isEvent cX5_isEvent 1 (some .boolean) 0 0 0 0 [.ref a] ω (dv (some (.int (bI (evtF r)))) ω) (nox) := by
  refine CT.of (own := "Boringhead$Ring") rfl rfl (le_b rfl) rfl ?_
  intro p e s m args below meth c sz0 hC hr htab hin
  refine s_aload_n hC dX5_isEvent_0 rfl rfl 0 rfl ?_
  refine s_getf hC cs_X5 9 tw_903 (le_b rfl) h0 rfl dX5_isEvent_1 rfl ?_
  refine z_if_le hC (tgt := 11) dX5_isEvent_4 rfl (by decide) (fun c_1 => ?_) (fun c_1 => ?_)
  · refine s_iconst hC (v := 0) dX5_isEvent_11 rfl (by decide) ?_
    refine s_zret hC hr dX5_isEvent_12 rfl (le_b rfl) (le_b rfl) ?_
    exact ⟨by simp [evtF, bI, c_1], rfl⟩
  · refine s_iconst hC (v := 1) dX5_isEvent_7 rfl (by decide) ?_
    refine s_goto hC (tgt := 12) dX5_isEvent_8 (by decide) ?_
    refine s_zret hC hr dX5_isEvent_12 rfl (le_b rfl) (le_b rfl) ?_
    exact ⟨by simp [evtF, bI, c_1], rfl⟩
set_option maxHeartbeats 1000000 in
set_option maxRecDepth 100000 in
theorem ct_X5_hasSet (l : Launch) (g : Gl) (ω : Wd) (a : Nat) (r : Rg) (h0 : ω a = some (.inr (10, rfs r))) (m9 : Int32) : CT l g yX5_hasSet cX5_hasSet 2 (some .boolean) 0 0 0 0 [.ref a, .int m9] ω (dv (some (.int (bI (setF r m9)))) ω) (nox) := by
  refine CT.of (own := "Boringhead$Ring") rfl rfl (le_b rfl) rfl ?_
  intro p e s m args below meth c sz0 hC hr htab hin
  refine s_aload_n hC dX5_hasSet_0 rfl rfl 0 rfl ?_
  refine s_getf hC cs_X5 12 tw_909 (le_b rfl) h0 rfl dX5_hasSet_1 rfl ?_
  refine z_if_le hC (tgt := 23) dX5_hasSet_4 rfl (by decide) (fun c_1 => ?_) (fun c_1 => ?_)
  · refine s_iconst hC (v := 0) dX5_hasSet_23 rfl (by decide) ?_
    refine s_zret hC hr dX5_hasSet_24 rfl (le_b rfl) (le_b rfl) ?_
    exact ⟨by simp [setF, bI, c_1], rfl⟩
  · refine s_iload_n hC dX5_hasSet_7 rfl rfl 1 rfl ?_
    refine s_aload_n hC dX5_hasSet_8 rfl rfl 0 rfl ?_
    refine s_getf hC cs_X5 13 tw_911 (le_b rfl) h0 rfl dX5_hasSet_9 rfl ?_
    refine s_isub hC dX5_hasSet_12 rfl ?_
    refine s_sipush hC (v := 600) dX5_hasSet_13 rfl (by decide) ?_
    refine z_icmp_lt hC (tgt := 23) dX5_hasSet_16 rfl (by decide) (fun c_2 => ?_) (fun c_2 => ?_)
    · refine s_iconst hC (v := 0) dX5_hasSet_23 rfl (by decide) ?_
      refine s_zret hC hr dX5_hasSet_24 rfl (le_b rfl) (le_b rfl) ?_
      exact ⟨by simp [setF, bI, c_1, c_2], rfl⟩
    · refine s_iconst hC (v := 1) dX5_hasSet_19 rfl (by decide) ?_
      refine s_goto hC (tgt := 24) dX5_hasSet_20 (by decide) ?_
      refine s_zret hC hr dX5_hasSet_24 rfl (le_b rfl) (le_b rfl) ?_
      exact ⟨by simp [setF, bI, c_1, c_2], rfl⟩
def awayF (h : Hs) (p9 : Int32) : Int32 := iMax (iMax (h.fr - p9) (p9 - h.to)) 0
def colF (h : Hs) : Int32 := if h.wr = true then (if 20 ≤ h.re then (if 50 ≤ h.re then 114 else 121) else 103) else 45
set_option maxHeartbeats 1000000 in
set_option maxRecDepth 100000 in
theorem ct_X4_awayFrom (l : Launch) (g : Gl) (ω : Wd) (a : Nat) (r : Hs) (h0 : ω a = some (.inr (9, hfs r))) (p9 : Int32) : CT l g yX4_awayFrom cX4_awayFrom 2 (some .int) 1 21 0 0 [.ref a, .int p9] ω (dv (some (.int (awayF r p9))) ω) (nox) := by
  refine CT.of (own := "Boringhead$House") rfl rfl (le_b rfl) rfl ?_
  intro p e s m args below meth c sz0 hC hr htab hin
  refine s_aload_n hC dX4_awayFrom_0 rfl rfl 0 rfl ?_
  refine s_getf hC cs_X4 0 tw_1037 (le_b rfl) h0 rfl dX4_awayFrom_1 rfl ?_
  refine s_iload_n hC dX4_awayFrom_4 rfl rfl 1 rfl ?_
  refine s_isub hC dX4_awayFrom_5 rfl ?_
  refine s_iload_n hC dX4_awayFrom_6 rfl rfl 1 rfl ?_
  refine s_aload_n hC dX4_awayFrom_7 rfl rfl 0 rfl ?_
  refine s_getf hC cs_X4 1 tw_1039 (le_b rfl) h0 rfl dX4_awayFrom_8 rfl ?_
  refine s_isub hC dX4_awayFrom_11 rfl ?_
  refine s_max hC tw_857 ⟨le_b rfl, le_b rfl, le_b rfl, le_b rfl⟩ dX4_awayFrom_12 rfl ?_
  refine s_iconst hC (v := 0) dX4_awayFrom_15 rfl (by decide) ?_
  refine s_max hC tw_857 ⟨le_b rfl, le_b rfl, le_b rfl, le_b rfl⟩ dX4_awayFrom_16 rfl ?_
  refine s_iret hC hr dX4_awayFrom_19 (le_b rfl) (le_b rfl) ?_
  exact ⟨rfl, rfl⟩
set_option maxHeartbeats 1000000 in
set_option maxRecDepth 100000 in
theorem ct_X4_colour (l : Launch) (g : Gl) (ω : Wd) (a : Nat) (r : Hs) (h0 : ω a = some (.inr (9, hfs r))) : CT l g yX4_colour cX4_colour 1 (some .char) 0 0 0 0 [.ref a] ω (dv (some (.int (colF r))) ω) (nox) := by
  refine CT.of (own := "Boringhead$House") rfl rfl (le_b rfl) rfl ?_
  intro p e s m args below meth c sz0 hC hr htab hin
  refine s_aload_n hC dX4_colour_0 rfl rfl 0 rfl ?_
  refine s_getf hC cs_X4 5 tw_1047 (le_b rfl) h0 rfl dX4_colour_1 rfl ?_
  refine z_if_neB hC (tgt := 10) dX4_colour_4 rfl (by decide) (fun c_1 => ?_) (fun c_1 => ?_)
  · refine s_aload_n hC dX4_colour_10 rfl rfl 0 rfl ?_
    refine s_getf hC cs_X4 6 tw_1049 (le_b rfl) h0 rfl dX4_colour_11 rfl ?_
    refine s_bipush hC (v := 20) dX4_colour_14 rfl (by decide) ?_
    refine z_icmp_ge hC (tgt := 22) dX4_colour_16 rfl (by decide) (fun c_2 => ?_) (fun c_2 => ?_)
    · refine s_aload_n hC dX4_colour_22 rfl rfl 0 rfl ?_
      refine s_getf hC cs_X4 6 tw_1049 (le_b rfl) h0 rfl dX4_colour_23 rfl ?_
      refine s_bipush hC (v := 50) dX4_colour_26 rfl (by decide) ?_
      refine z_icmp_ge hC (tgt := 36) dX4_colour_28 rfl (by decide) (fun c_3 => ?_) (fun c_3 => ?_)
      · refine s_bipush hC (v := 114) dX4_colour_36 rfl (by decide) ?_
        refine s_zret hC hr dX4_colour_38 rfl (le_b rfl) (le_b rfl) ?_
        exact ⟨by simp [colF, c_1, c_2, c_3], rfl⟩
      · refine s_bipush hC (v := 121) dX4_colour_31 rfl (by decide) ?_
        refine s_goto hC (tgt := 38) dX4_colour_33 (by decide) ?_
        refine s_zret hC hr dX4_colour_38 rfl (le_b rfl) (le_b rfl) ?_
        exact ⟨by simp [colF, c_1, c_2, c_3], rfl⟩
    · refine s_bipush hC (v := 103) dX4_colour_19 rfl (by decide) ?_
      refine s_zret hC hr dX4_colour_21 rfl (le_b rfl) (le_b rfl) ?_
      exact ⟨by simp [colF, c_1, c_2], rfl⟩
  · refine s_bipush hC (v := 45) dX4_colour_7 rfl (by decide) ?_
    refine s_zret hC hr dX4_colour_9 rfl (le_b rfl) (le_b rfl) ?_
    exact ⟨by simp [colF, c_1], rfl⟩
def bdF (σ : St) (N : Nat) (f : Nat → Int32) (p9 : Int32) : Int32 := 10 * atF 200 σ.waters p9 + atF N f (atF 200 σ.kinds p9) * atF 200 σ.depths p9
def wtF (σ : St) (p9 k9 : Int32) : Nat → Int32
  | 0 => 0
  | j + 1 => if (σ.bo j).ki = k9 then (if iAbs ((σ.bo j).pl - p9) ≤ 10 then wtF σ p9 k9 j + (11 - iAbs ((σ.bo j).pl - p9)) else wtF σ p9 k9 j) else wtF σ p9 k9 j
def waF (σ : St) (p9 : Int32) : Nat → Int32
  | 0 => 0
  | j + 1 => waF σ p9 j + wtF σ p9 (nI j) σ.nb
def lkF (σ : St) (p9 : Int32) : Nat → Int32 × Int32
  | 0 => (-1, 0)
  | j + 1 => if wtF σ p9 (nI j) σ.nb ≤ (lkF σ p9 j).2 then lkF σ p9 j else (nI j, wtF σ p9 (nI j) σ.nb)
def evF (σ : St) (p9 : Int32) : Int32 := iMax (atF 4 (stF [30, 40, 90, 70]) (atF 200 σ.kinds p9) - atF 4 (stF [30, 40, 90, 70]) (atF 200 σ.refs p9)) 0
set_option maxHeartbeats 1000000 in
set_option maxRecDepth 100000 in
theorem ct_X7_bound (l : Launch) (g : Gl) (ω : Wd) (ad : Ix → Nat) (x : Ex) (σ : St) (hR : RepC g ad x σ ω) (p9 : Int32) (tb N : Nat) (f : Nat → Int32) (ht : arI g ω tb N f) (hN : N < 2 ^ 31) : CT l g yX7_bound cX7_bound 3 (some .int) 1 21 0 0 [.ref (ad .soil), .int p9, .ref tb] ω (dv (some (.int (bdF σ N f p9))) ω) (nox) := by
  refine CT.of (own := "Boringhead$Soil") rfl rfl (le_b rfl) rfl ?_
  intro p e s m args below meth c sz0 hC hr htab hin
  refine s_bipush hC (v := 10) dX7_bound_0 rfl (by decide) ?_
  refine s_aload_n hC dX7_bound_2 rfl rfl 0 rfl ?_
  refine s_getf hC cs_X7 3 tw_90 (le_b rfl) (RepC.f_soil hR) rfl dX7_bound_3 rfl ?_
  refine s_iload_n hC dX7_bound_6 rfl rfl 1 rfl ?_
  refine s_callSN hC (ct_X9_at l g _ _ _ _ _ (Or.inl (RepC.f_waters hR)) (by first | decide | assumption)) ce_X9_at tw_397 rfl rfl ⟨⟨le_b rfl, le_b rfl⟩, le_b rfl, le_b rfl⟩ (le_b rfl) dX7_bound_7 rfl (dvk1 ?_) nokx
  refine s_imul hC dX7_bound_10 rfl ?_
  refine s_aload_n hC dX7_bound_11 rfl rfl 2 rfl ?_
  refine s_aload_n hC dX7_bound_12 rfl rfl 0 rfl ?_
  refine s_getf hC cs_X7 0 tw_84 (le_b rfl) (RepC.f_soil hR) rfl dX7_bound_13 rfl ?_
  refine s_iload_n hC dX7_bound_16 rfl rfl 1 rfl ?_
  refine s_callSN hC (ct_X9_at l g _ _ _ _ _ (Or.inl (RepC.f_kinds hR)) (by first | decide | assumption)) ce_X9_at tw_397 rfl rfl ⟨⟨le_b rfl, le_b rfl⟩, le_b rfl, le_b rfl⟩ (le_b rfl) dX7_bound_17 rfl (dvk1 ?_) nokx
  refine s_callSN hC (ct_X9_at l g _ _ _ _ _ ht (by first | decide | assumption)) ce_X9_at tw_397 rfl rfl ⟨⟨le_b rfl, le_b rfl⟩, le_b rfl, le_b rfl⟩ (le_b rfl) dX7_bound_20 rfl (dvk1 ?_) nokx
  refine s_aload_n hC dX7_bound_23 rfl rfl 0 rfl ?_
  refine s_getf hC cs_X7 2 tw_88 (le_b rfl) (RepC.f_soil hR) rfl dX7_bound_24 rfl ?_
  refine s_iload_n hC dX7_bound_27 rfl rfl 1 rfl ?_
  refine s_callSN hC (ct_X9_at l g _ _ _ _ _ (Or.inl (RepC.f_depths hR)) (by first | decide | assumption)) ce_X9_at tw_397 rfl rfl ⟨⟨le_b rfl, le_b rfl⟩, le_b rfl, le_b rfl⟩ (le_b rfl) dX7_bound_28 rfl (dvk1 ?_) nokx
  refine s_imul hC dX7_bound_31 rfl ?_
  refine s_iadd hC dX7_bound_32 rfl ?_
  refine s_iret hC hr dX7_bound_33 (le_b rfl) (le_b rfl) ?_
  exact ⟨rfl, rfl⟩
set_option maxHeartbeats 1000000 in
set_option maxRecDepth 100000 in
theorem ct_X7_weight (l : Launch) (g : Gl) (ω : Wd) (ad : Ix → Nat) (x : Ex) (σ : St) (hR : RepC g ad x σ ω) (p9 k9 : Int32) : CT l g yX7_weight cX7_weight 7 (some .int) 3 64 0 0 [.ref (ad .soil), .int p9, .int k9] ω (dv (some (.int (wtF σ p9 k9 σ.nb))) ω) (nox) := by
  refine CT.of (own := "Boringhead$Soil") rfl rfl (le_b rfl) rfl ?_
  intro p e s m args below meth c sz0 hC hr htab hin
  refine s_iconst hC (v := 0) dX7_weight_0 rfl (by decide) ?_
  refine s_istore_n hC (L' := [(3, _), (0, _), (1, _), (2, _)]) dX7_weight_1 rfl rfl (le_b rfl) rfl ?_
  refine s_iconst hC (v := 0) dX7_weight_2 rfl (by decide) ?_
  refine s_istore hC (L' := [(4, _), (3, _), (0, _), (1, _), (2, _)]) dX7_weight_3 rfl (le_b rfl) rfl ?_
  refine WP.sub (L' := [(0, _), (1, _), (2, _), (3, _), (4, _)]) [2, 3, 4, 1, 0] rfl ?_
  refine wp_loop (σ := Int32 × Int32 × Nat) (I := fun (i, sm, j) => i = nI j ∧ j ≤ σ.nb ∧ sm = wtF σ p9 k9 j) (ωf := fun (i, sm, j) => ω) (Lf := fun (i, sm, j) => [(0, .ref (ad .soil)), (1, .int p9), (2, .int k9), (3, .int sm), (4, .int i)]) (μ := fun (i, sm, j) => σ.nb - j) (x0 := (_, _, 0)) ?_ ?_
  · exact ⟨rfl, Nat.zero_le _, rfl⟩
  · rintro ⟨i, sm, j⟩ hI ih
    dsimp only at hI ih ⊢
    obtain ⟨rfl, hj, rfl⟩ := hI
    have hin9 : ¬ nI (σ.nb) ≤ nI j → j < σ.nb := nI_ltc (Nat.lt_of_le_of_lt (RepC.b_bore hR) (by decide)) hj
    refine s_iload hC dX7_weight_5 rfl 4 rfl ?_
    refine s_aload_n hC dX7_weight_7 rfl rfl 0 rfl ?_
    refine s_getf hC cs_X7 6 tw_96 (le_b rfl) (RepC.f_soil hR) rfl dX7_weight_8 rfl ?_
    refine s_callV hC (ct_Jx4a65c_size_8abf5 l g _ _ _ _ _ (RepC.f_bores hR)) ce_Jx4a65c_size_8abf5 cs_Jx4a65c (RepC.f_bores hR) tw_706 rfl rfl ⟨⟨le_b rfl, le_b rfl⟩, le_b rfl, le_b rfl⟩ (le_b rfl) dX7_weight_11 rfl (dvk1 ?_) nokx
    refine z_icmp_ge hC (tgt := 73) dX7_weight_14 rfl (by decide) (fun c_1 => ?_) (fun c_1 => ?_)
    · refine s_iload_n hC dX7_weight_73 rfl rfl 3 rfl ?_
      refine s_iret hC hr dX7_weight_74 (le_b rfl) (le_b rfl) ?_
      obtain rfl := nI_lec (Nat.lt_of_le_of_lt (RepC.b_bore hR) (by decide)) hj c_1
      exact ⟨rfl, rfl⟩
    · refine s_aload_n hC dX7_weight_17 rfl rfl 0 rfl ?_
      refine s_getf hC cs_X7 6 tw_96 (le_b rfl) (RepC.f_soil hR) rfl dX7_weight_18 rfl ?_
      refine s_iload hC dX7_weight_21 rfl 4 rfl ?_
      refine s_callV hC (ct_Jx4a65c_get_915e3 l g _ _ _ _ _ (RepC.f_bores hR) _ _ (RepC.p_bore hR (hin9 c_1)).2.1 (RepC.p_bore hR (hin9 c_1)).2.2.1 _ _ (RepC.p_bore hR (hin9 c_1)).2.2.2.1 (hin9 c_1) (RepC.p_bore hR (hin9 c_1)).2.2.2.2) ce_Jx4a65c_get_915e3 cs_Jx4a65c (RepC.f_bores hR) tw_707 rfl rfl ⟨⟨le_b rfl, le_b rfl⟩, le_b rfl, le_b rfl⟩ (le_b rfl) dX7_weight_23 rfl (dvk1 ?_) nokx
      refine s_cast hC cs_X0 tw_708 (RepC.f_bore hR (hin9 c_1)) dX7_weight_26 rfl ?_
      refine s_astore hC (L' := [(5, _), (0, _), (1, _), (2, _), (3, _), (4, _)]) dX7_weight_29 rfl (le_b rfl) rfl ?_
      refine s_aload hC dX7_weight_31 rfl 0 rfl ?_
      refine s_getfN hC cs_X0 0 tw_611 (le_b rfl) (RepC.f_bore hR (hin9 c_1)) rfl dX7_weight_33 rfl ?_
      refine s_iload_n hC dX7_weight_36 rfl rfl 2 rfl ?_
      refine s_isub hC dX7_weight_37 rfl ?_
      refine s_abs hC tw_709 ⟨le_b rfl, le_b rfl, le_b rfl, le_b rfl⟩ dX7_weight_38 rfl ?_
      refine s_istore hC (L' := [(6, _), (5, _), (0, _), (1, _), (2, _), (3, _), (4, _)]) dX7_weight_41 rfl (le_b rfl) rfl ?_
      refine s_aload hC dX7_weight_43 rfl 1 rfl ?_
      refine s_getfN hC cs_X0 1 tw_613 (le_b rfl) (RepC.f_bore hR (hin9 c_1)) rfl dX7_weight_45 rfl ?_
      refine s_iload_n hC dX7_weight_48 rfl rfl 4 rfl ?_
      refine z_icmp_ne hC (tgt := 67) dX7_weight_49 rfl (by decide) (fun c_2 => ?_) (fun c_2 => ?_)
      · refine s_iinc hC (v := _ + 1) (j9 := 6) (L' := [(4, _), (6, _), (5, _), (0, _), (1, _), (2, _), (3, _)]) dX7_weight_67 rfl rfl rfl (le_b rfl) rfl ?_
        refine s_goto hC (tgt := 5) dX7_weight_70 (by decide) ?_
        refine WP.sub (L' := [(0, _), (1, _), (2, _), (3, _), (4, _)]) [3, 4, 5, 6, 0] rfl ?_
        refine ih (_, _, j + 1) ?_ ?_
        · dsimp only
          have h9 := hin9 c_1
          refine ⟨nI_1 j, h9, ?_⟩
          all_goals first | (simp [wtF, c_1, c_2]; done) | (simp [wtF, c_1, c_2]; rfl)
        · dsimp only
          have h9 := hin9 c_1; omega
      · refine s_iload hC dX7_weight_52 rfl 0 rfl ?_
        refine s_bipush hC (v := 10) dX7_weight_54 rfl (by decide) ?_
        refine z_icmp_gt hC (tgt := 67) dX7_weight_56 rfl (by decide) (fun c_3 => ?_) (fun c_3 => ?_)
        · refine s_iinc hC (v := _ + 1) (j9 := 6) (L' := [(4, _), (6, _), (5, _), (0, _), (1, _), (2, _), (3, _)]) dX7_weight_67 rfl rfl rfl (le_b rfl) rfl ?_
          refine s_goto hC (tgt := 5) dX7_weight_70 (by decide) ?_
          refine WP.sub (L' := [(0, _), (1, _), (2, _), (3, _), (4, _)]) [3, 4, 5, 6, 0] rfl ?_
          refine ih (_, _, j + 1) ?_ ?_
          · dsimp only
            have h9 := hin9 c_1
            refine ⟨nI_1 j, h9, ?_⟩
            all_goals first | (simp [wtF, c_1, c_2, c_3]; done) | (simp [wtF, c_1, c_2, c_3]; rfl)
          · dsimp only
            have h9 := hin9 c_1; omega
        · refine s_iload_n hC dX7_weight_59 rfl rfl 5 rfl ?_
          refine s_bipush hC (v := 11) dX7_weight_60 rfl (by decide) ?_
          refine s_iload hC dX7_weight_62 rfl 0 rfl ?_
          refine s_isub hC dX7_weight_64 rfl ?_
          refine s_iadd hC dX7_weight_65 rfl ?_
          refine s_istore_n hC (L' := [(3, _), (6, _), (5, _), (0, _), (1, _), (2, _), (4, _)]) dX7_weight_66 rfl rfl (le_b rfl) rfl ?_
          refine s_iinc hC (v := _ + 1) (j9 := 6) (L' := [(4, _), (3, _), (6, _), (5, _), (0, _), (1, _), (2, _)]) dX7_weight_67 rfl rfl rfl (le_b rfl) rfl ?_
          refine s_goto hC (tgt := 5) dX7_weight_70 (by decide) ?_
          refine WP.sub (L' := [(0, _), (1, _), (2, _), (3, _), (4, _)]) [4, 5, 6, 1, 0] rfl ?_
          refine ih (_, _, j + 1) ?_ ?_
          · dsimp only
            have h9 := hin9 c_1
            refine ⟨nI_1 j, h9, ?_⟩
            all_goals first | (simp [wtF, c_1, c_2, c_3]; done) | (simp [wtF, c_1, c_2, c_3]; rfl)
          · dsimp only
            have h9 := hin9 c_1; omega
set_option maxHeartbeats 1000000 in
set_option maxRecDepth 100000 in
theorem ct_X7_weightOfAll (l : Launch) (g : Gl) (ω : Wd) (ad : Ix → Nat) (x : Ex) (σ : St) (hR : RepC g ad x σ ω) (p9 : Int32) : CT l g yX7_weightOfAll cX7_weightOfAll 4 (some .int) 4 90 0 0 [.ref (ad .soil), .int p9] ω (dv (some (.int (waF σ p9 4))) ω) (nox) := by
  refine CT.of (own := "Boringhead$Soil") rfl rfl (le_b rfl) rfl ?_
  intro p e s m args below meth c sz0 hC hr htab hin
  refine s_iconst hC (v := 0) dX7_weightOfAll_0 rfl (by decide) ?_
  refine s_istore_n hC (L' := [(2, _), (0, _), (1, _)]) dX7_weightOfAll_1 rfl rfl (le_b rfl) rfl ?_
  refine s_iconst hC (v := 0) dX7_weightOfAll_2 rfl (by decide) ?_
  refine s_istore_n hC (L' := [(3, _), (2, _), (0, _), (1, _)]) dX7_weightOfAll_3 rfl rfl (le_b rfl) rfl ?_
  refine WP.sub (L' := [(0, _), (1, _), (2, _), (3, _)]) [2, 3, 1, 0] rfl ?_
  refine wp_loop (σ := Int32 × Int32 × Nat) (I := fun (i, sm, j) => i = nI j ∧ j ≤ 4 ∧ sm = waF σ p9 j) (ωf := fun (i, sm, j) => ω) (Lf := fun (i, sm, j) => [(0, .ref (ad .soil)), (1, .int p9), (2, .int sm), (3, .int i)]) (μ := fun (i, sm, j) => 4 - j) (x0 := (_, _, 0)) ?_ ?_
  · exact ⟨rfl, Nat.zero_le _, rfl⟩
  · rintro ⟨i, sm, j⟩ hI ih
    dsimp only at hI ih ⊢
    obtain ⟨rfl, hj, rfl⟩ := hI
    have hin9 : ¬ nI (4) ≤ nI j → j < 4 := nI_ltc (by decide) hj
    refine s_iload_n hC dX7_weightOfAll_4 rfl rfl 3 rfl ?_
    refine s_getsN hC 0 rfl tw_701 dX7_weightOfAll_5 rfl ?_
    refine s_alenC hC (Or.inr ⟨0, _, _, _, _, rfl, rfl, rfl, rfl⟩) dX7_weightOfAll_8 rfl ?_
    refine z_icmp_ge hC (tgt := 27) dX7_weightOfAll_9 rfl (by decide) (fun c_1 => ?_) (fun c_1 => ?_)
    · refine s_iload_n hC dX7_weightOfAll_27 rfl rfl 2 rfl ?_
      refine s_iret hC hr dX7_weightOfAll_28 (le_b rfl) (le_b rfl) ?_
      obtain rfl := nI_lec (by decide) hj c_1
      exact ⟨rfl, rfl⟩
    · refine s_iload_n hC dX7_weightOfAll_12 rfl rfl 2 rfl ?_
      refine s_aload_n hC dX7_weightOfAll_13 rfl rfl 0 rfl ?_
      refine s_iload_n hC dX7_weightOfAll_14 rfl rfl 1 rfl ?_
      refine s_iload_n hC dX7_weightOfAll_15 rfl rfl 3 rfl ?_
      refine s_callV hC (ct_X7_weight l g _ _ _ _ hR _ _) ce_X7_weight cs_X7 (RepC.f_soil hR) tw_702 rfl rfl ⟨⟨le_b rfl, le_b rfl⟩, le_b rfl, le_b rfl⟩ (le_b rfl) dX7_weightOfAll_16 rfl (dvk1 ?_) nokx
      refine s_iadd hC dX7_weightOfAll_19 rfl ?_
      refine s_istore_n hC (L' := [(2, _), (0, _), (1, _), (3, _)]) dX7_weightOfAll_20 rfl rfl (le_b rfl) rfl ?_
      refine s_iinc hC (v := _ + 1) (j9 := 3) (L' := [(3, _), (2, _), (0, _), (1, _)]) dX7_weightOfAll_21 rfl rfl rfl (le_b rfl) rfl ?_
      refine s_goto hC (tgt := 4) dX7_weightOfAll_24 (by decide) ?_
      refine WP.sub (L' := [(0, _), (1, _), (2, _), (3, _)]) [2, 3, 1, 0] rfl ?_
      refine ih (_, _, j + 1) ?_ ?_
      · dsimp only
        have h9 := hin9 c_1
        refine ⟨nI_1 j, h9, ?_⟩
        rfl
      · dsimp only
        have h9 := hin9 c_1; omega
set_option maxHeartbeats 1000000 in
set_option maxRecDepth 100000 in
theorem ct_X7_likeliest (l : Launch) (g : Gl) (ω : Wd) (ad : Ix → Nat) (x : Ex) (σ : St) (hR : RepC g ad x σ ω) (p9 : Int32) : CT l g yX7_likeliest cX7_likeliest 6 (some .int) 4 90 0 0 [.ref (ad .soil), .int p9] ω (dv (some (.int (lkF σ p9 4).1)) ω) (nox) := by
  refine CT.of (own := "Boringhead$Soil") rfl rfl (le_b rfl) rfl ?_
  intro p e s m args below meth c sz0 hC hr htab hin
  refine s_iconst hC (v := (-1)) dX7_likeliest_0 rfl (by decide) ?_
  refine s_istore_n hC (L' := [(2, _), (0, _), (1, _)]) dX7_likeliest_1 rfl rfl (le_b rfl) rfl ?_
  refine s_iconst hC (v := 0) dX7_likeliest_2 rfl (by decide) ?_
  refine s_istore_n hC (L' := [(3, _), (2, _), (0, _), (1, _)]) dX7_likeliest_3 rfl rfl (le_b rfl) rfl ?_
  refine s_iconst hC (v := 0) dX7_likeliest_4 rfl (by decide) ?_
  refine s_istore hC (L' := [(4, _), (3, _), (2, _), (0, _), (1, _)]) dX7_likeliest_5 rfl (le_b rfl) rfl ?_
  refine WP.sub (L' := [(0, _), (1, _), (2, _), (3, _), (4, _)]) [3, 4, 2, 1, 0] rfl ?_
  refine wp_loop (σ := Int32 × Int32 × Int32 × Nat) (I := fun (i, bs, mo, j) => i = nI j ∧ j ≤ 4 ∧ bs = (lkF σ p9 j).1 ∧ mo = (lkF σ p9 j).2) (ωf := fun (i, bs, mo, j) => ω) (Lf := fun (i, bs, mo, j) => [(0, .ref (ad .soil)), (1, .int p9), (2, .int bs), (3, .int mo), (4, .int i)]) (μ := fun (i, bs, mo, j) => 4 - j) (x0 := (_, _, _, 0)) ?_ ?_
  · exact ⟨rfl, Nat.zero_le _, rfl, rfl⟩
  · rintro ⟨i, bs, mo, j⟩ hI ih
    dsimp only at hI ih ⊢
    obtain ⟨rfl, hj, rfl, rfl⟩ := hI
    have hin9 : ¬ nI (4) ≤ nI j → j < 4 := nI_ltc (by decide) hj
    refine s_iload hC dX7_likeliest_7 rfl 4 rfl ?_
    refine s_getsN hC 0 rfl tw_701 dX7_likeliest_9 rfl ?_
    refine s_alenC hC (Or.inr ⟨0, _, _, _, _, rfl, rfl, rfl, rfl⟩) dX7_likeliest_12 rfl ?_
    refine z_icmp_ge hC (tgt := 43) dX7_likeliest_13 rfl (by decide) (fun c_1 => ?_) (fun c_1 => ?_)
    · refine s_iload_n hC dX7_likeliest_43 rfl rfl 2 rfl ?_
      refine s_iret hC hr dX7_likeliest_44 (le_b rfl) (le_b rfl) ?_
      obtain rfl := nI_lec (by decide) hj c_1
      exact ⟨rfl, rfl⟩
    · refine s_aload_n hC dX7_likeliest_16 rfl rfl 0 rfl ?_
      refine s_iload_n hC dX7_likeliest_17 rfl rfl 1 rfl ?_
      refine s_iload hC dX7_likeliest_18 rfl 4 rfl ?_
      refine s_callV hC (ct_X7_weight l g _ _ _ _ hR _ _) ce_X7_weight cs_X7 (RepC.f_soil hR) tw_702 rfl rfl ⟨⟨le_b rfl, le_b rfl⟩, le_b rfl, le_b rfl⟩ (le_b rfl) dX7_likeliest_20 rfl (dvk1 ?_) nokx
      refine s_istore hC (L' := [(5, _), (0, _), (1, _), (2, _), (3, _), (4, _)]) dX7_likeliest_23 rfl (le_b rfl) rfl ?_
      refine s_iload hC dX7_likeliest_25 rfl 0 rfl ?_
      refine s_iload_n hC dX7_likeliest_27 rfl rfl 4 rfl ?_
      refine z_icmp_le hC (tgt := 37) dX7_likeliest_28 rfl (by decide) (fun c_2 => ?_) (fun c_2 => ?_)
      · refine s_iinc hC (v := _ + 1) (j9 := 5) (L' := [(4, _), (5, _), (0, _), (1, _), (2, _), (3, _)]) dX7_likeliest_37 rfl rfl rfl (le_b rfl) rfl ?_
        refine s_goto hC (tgt := 7) dX7_likeliest_40 (by decide) ?_
        refine WP.sub (L' := [(0, _), (1, _), (2, _), (3, _), (4, _)]) [2, 3, 4, 5, 0] rfl ?_
        refine ih (_, _, _, j + 1) ?_ ?_
        · dsimp only
          have h9 := hin9 c_1
          refine ⟨nI_1 j, h9, ?_, ?_⟩
          all_goals first | (simp [lkF, c_1, c_2]; done) | (simp [lkF, c_1, c_2]; rfl)
        · dsimp only
          have h9 := hin9 c_1; omega
      · refine s_iload hC dX7_likeliest_31 rfl 5 rfl ?_
        refine s_istore_n hC (L' := [(2, _), (5, _), (0, _), (1, _), (3, _), (4, _)]) dX7_likeliest_33 rfl rfl (le_b rfl) rfl ?_
        refine s_iload hC dX7_likeliest_34 rfl 1 rfl ?_
        refine s_istore_n hC (L' := [(3, _), (2, _), (5, _), (0, _), (1, _), (4, _)]) dX7_likeliest_36 rfl rfl (le_b rfl) rfl ?_
        refine s_iinc hC (v := _ + 1) (j9 := 5) (L' := [(4, _), (3, _), (2, _), (5, _), (0, _), (1, _)]) dX7_likeliest_37 rfl rfl rfl (le_b rfl) rfl ?_
        refine s_goto hC (tgt := 7) dX7_likeliest_40 (by decide) ?_
        refine WP.sub (L' := [(0, _), (1, _), (2, _), (3, _), (4, _)]) [4, 5, 2, 1, 0] rfl ?_
        refine ih (_, _, _, j + 1) ?_ ?_
        · dsimp only
          have h9 := hin9 c_1
          refine ⟨nI_1 j, h9, ?_, ?_⟩
          all_goals first | (simp [lkF, c_1, c_2]; done) | (simp [lkF, c_1, c_2]; rfl)
        · dsimp only
          have h9 := hin9 c_1; omega
set_option maxHeartbeats 1000000 in
set_option maxRecDepth 100000 in
theorem ct_X7_eventMinutes (l : Launch) (g : Gl) (ω : Wd) (ad : Ix → Nat) (x : Ex) (σ : St) (hR : RepC g ad x σ ω) (p9 : Int32) : CT l g yX7_eventMinutes cX7_eventMinutes 2 (some .int) 1 21 0 0 [.ref (ad .soil), .int p9] ω (dv (some (.int (evF σ p9))) ω) (nox) := by
  refine CT.of (own := "Boringhead$Soil") rfl rfl (le_b rfl) rfl ?_
  intro p e s m args below meth c sz0 hC hr htab hin
  refine s_getsN hC 5 rfl tw_395 dX7_eventMinutes_0 rfl ?_
  refine s_aload_n hC dX7_eventMinutes_3 rfl rfl 0 rfl ?_
  refine s_getf hC cs_X7 0 tw_84 (le_b rfl) (RepC.f_soil hR) rfl dX7_eventMinutes_4 rfl ?_
  refine s_iload_n hC dX7_eventMinutes_7 rfl rfl 1 rfl ?_
  refine s_callSN hC (ct_X9_at l g _ _ _ _ _ (Or.inl (RepC.f_kinds hR)) (by first | decide | assumption)) ce_X9_at tw_397 rfl rfl ⟨⟨le_b rfl, le_b rfl⟩, le_b rfl, le_b rfl⟩ (le_b rfl) dX7_eventMinutes_8 rfl (dvk1 ?_) nokx
  refine s_callSN hC (ct_X9_at l g _ _ 4 _ _ (ar_st g _ 5 rfl) (by first | decide | assumption)) ce_X9_at tw_397 rfl rfl ⟨⟨le_b rfl, le_b rfl⟩, le_b rfl, le_b rfl⟩ (le_b rfl) dX7_eventMinutes_11 rfl (dvk1 ?_) nokx
  refine s_getsN hC 5 rfl tw_395 dX7_eventMinutes_14 rfl ?_
  refine s_aload_n hC dX7_eventMinutes_17 rfl rfl 0 rfl ?_
  refine s_getf hC cs_X7 1 tw_86 (le_b rfl) (RepC.f_soil hR) rfl dX7_eventMinutes_18 rfl ?_
  refine s_iload_n hC dX7_eventMinutes_21 rfl rfl 1 rfl ?_
  refine s_callSN hC (ct_X9_at l g _ _ _ _ _ (Or.inl (RepC.f_refs hR)) (by first | decide | assumption)) ce_X9_at tw_397 rfl rfl ⟨⟨le_b rfl, le_b rfl⟩, le_b rfl, le_b rfl⟩ (le_b rfl) dX7_eventMinutes_22 rfl (dvk1 ?_) nokx
  refine s_callSN hC (ct_X9_at l g _ _ 4 _ _ (ar_st g _ 5 rfl) (by first | decide | assumption)) ce_X9_at tw_397 rfl rfl ⟨⟨le_b rfl, le_b rfl⟩, le_b rfl, le_b rfl⟩ (le_b rfl) dX7_eventMinutes_25 rfl (dvk1 ?_) nokx
  refine s_isub hC dX7_eventMinutes_28 rfl ?_
  refine s_iconst hC (v := 0) dX7_eventMinutes_29 rfl (by decide) ?_
  refine s_max hC tw_398 ⟨le_b rfl, le_b rfl, le_b rfl, le_b rfl⟩ dX7_eventMinutes_30 rfl ?_
  refine s_iret hC hr dX7_eventMinutes_33 (le_b rfl) (le_b rfl) ?_
  exact ⟨rfl, rfl⟩
def wornF (f : Nat → Int32) : Nat → Bool
  | 0 => false
  | j + 1 => wornF f j || decide (100 ≤ f j)
theorem wornF_t (f : Nat → Int32) {j n : Nat} (h : j < n) (hj : 100 ≤ f j) : wornF f n = true := by
  induction n with
  | zero => omega
  | succ n ih =>
    rw [wornF]
    by_cases hz : j = n
    · subst hz; simp [hj]
    · simp [ih (by omega)]
def wearF (σ : St) (k9 : Int32) : Int32 := if σ.foam = true then (if k9 = 1 then atF 4 (stF [1, 4, 12, 20]) k9 / 2 else if k9 = 3 then atF 4 (stF [1, 4, 12, 20]) k9 / 2 else atF 4 (stF [1, 4, 12, 20]) k9) else atF 4 (stF [1, 4, 12, 20]) k9
def wrF (f : Nat → Int32) (w9 : Int32) : Nat → (Nat → Int32)
  | 0 => f
  | j + 1 => upd (wrF f w9 j) j (wrF f w9 j j + if (2 : Int32) ≤ nI j then w9 else 2 * w9)
set_option maxHeartbeats 1000000 in
set_option maxRecDepth 100000 in
theorem ct_X6_isWornOut (l : Launch) (g : Gl) (ω : Wd) (ad : Ix → Nat) (x : Ex) (σ : St) (hR : RepC g ad x σ ω) : CT l g yX6_isWornOut cX6_isWornOut 2 (some .boolean) 0 0 0 0 [.ref (ad .shield)] ω (dv (some (.int (bI (wornF σ.wears 8)))) ω) (nox) := by
  refine CT.of (own := "Boringhead$Shield") rfl rfl (le_b rfl) rfl ?_
  intro p e s m args below meth c sz0 hC hr htab hin
  refine s_iconst hC (v := 0) dX6_isWornOut_0 rfl (by decide) ?_
  refine s_istore_n hC (L' := [(1, _), (0, _)]) dX6_isWornOut_1 rfl rfl (le_b rfl) rfl ?_
  refine WP.sub (L' := [(0, _), (1, _)]) [1, 0] rfl ?_
  refine wp_loop (σ := Int32 × Nat) (I := fun (i, j) => i = nI j ∧ j ≤ 8 ∧ wornF σ.wears j = false) (ωf := fun (i, j) => ω) (Lf := fun (i, j) => [(0, .ref (ad .shield)), (1, .int i)]) (μ := fun (i, j) => 8 - j) (x0 := (_, 0)) ?_ ?_
  · exact ⟨rfl, Nat.zero_le _, rfl⟩
  · rintro ⟨i, j⟩ hI ih
    dsimp only at hI ih ⊢
    obtain ⟨rfl, hj, hm⟩ := hI
    have hin9 : ¬ nI (8) ≤ nI j → j < 8 := nI_ltc (by decide) hj
    refine s_iload_n hC dX6_isWornOut_2 rfl rfl 1 rfl ?_
    refine s_aload_n hC dX6_isWornOut_3 rfl rfl 0 rfl ?_
    refine s_getf hC cs_X6 0 tw_119 (le_b rfl) (RepC.f_shield hR) rfl dX6_isWornOut_4 rfl ?_
    refine s_alenI hC (Or.inl (RepC.f_wears hR)) dX6_isWornOut_7 rfl ?_
    refine z_icmp_ge hC (tgt := 30) dX6_isWornOut_8 rfl (by decide) (fun c_1 => ?_) (fun c_1 => ?_)
    · refine s_iconst hC (v := 0) dX6_isWornOut_30 rfl (by decide) ?_
      refine s_zret hC hr dX6_isWornOut_31 rfl (le_b rfl) (le_b rfl) ?_
      obtain rfl := nI_lec (by decide) hj c_1
      exact ⟨by rw [hm]; rfl, rfl⟩
    · refine s_aload_n hC dX6_isWornOut_11 rfl rfl 0 rfl ?_
      refine s_getf hC cs_X6 0 tw_119 (le_b rfl) (RepC.f_shield hR) rfl dX6_isWornOut_12 rfl ?_
      refine s_iload_n hC dX6_isWornOut_15 rfl rfl 1 rfl ?_
      refine s_ialdK hC (Or.inl (RepC.f_wears hR)) (vp_in_nI (hin9 c_1) (by decide)) dX6_isWornOut_16 rfl ?_
      refine s_bipush hC (v := 100) dX6_isWornOut_17 rfl (by decide) ?_
      refine z_icmp_lt hC (tgt := 24) dX6_isWornOut_19 rfl (by decide) (fun c_2 => ?_) (fun c_2 => ?_)
      · refine s_iinc hC (v := _ + 1) (j9 := 1) (L' := [(1, _), (0, _)]) dX6_isWornOut_24 rfl rfl rfl (le_b rfl) rfl ?_
        refine s_goto hC (tgt := 2) dX6_isWornOut_27 (by decide) ?_
        refine WP.sub (L' := [(0, _), (1, _)]) [1, 0] rfl ?_
        refine ih (_, j + 1) ?_ ?_
        · dsimp only
          have h9 := hin9 c_1
          refine ⟨nI_1 j, h9, ?_⟩
          rw [wornF, hm]
          rw [nI_clamp (by omega)] at c_2
          simp [c_2]
        · dsimp only
          have h9 := hin9 c_1; omega
      · refine s_iconst hC (v := 1) dX6_isWornOut_22 rfl (by decide) ?_
        refine s_zret hC hr dX6_isWornOut_23 rfl (le_b rfl) (le_b rfl) ?_
        have h9 := hin9 c_1
        rw [nI_clamp (by omega)] at c_2
        exact ⟨by rw [wornF_t _ h9 c_2]; rfl, rfl⟩
def lorF (m9 : Int32) : Bool := decide (360 ≤ m9 - m9 / 1440 * 1440) && decide (¬ 1320 ≤ m9 - m9 / 1440 * 1440)
set_option maxHeartbeats 1000000 in
set_option maxRecDepth 100000 in
theorem ct_X1_isLorryTime (l : Launch) (g : Gl) (ω : Wd) (ad : Ix → Nat) (x : Ex) (σ : St) (hR : RepC g ad x σ ω) : CT l g yX1_isLorryTime cX1_isLorryTime 2 (some .boolean) 0 0 0 0 [.ref (ad .clock)] ω (dv (some (.int (bI (lorF σ.mn)))) ω) (nox) := by
  refine CT.of (own := "Boringhead$Clock") rfl rfl (le_b rfl) rfl ?_
  intro p e s m args below meth c sz0 hC hr htab hin
  refine s_aload_n hC dX1_isLorryTime_0 rfl rfl 0 rfl ?_
  refine s_getf hC cs_X1 0 tw_191 (le_b rfl) (RepC.f_clock hR) rfl dX1_isLorryTime_1 rfl ?_
  refine s_sipush hC (v := 1440) dX1_isLorryTime_4 rfl (by decide) ?_
  refine s_irem hC dX1_isLorryTime_7 rfl (by decide) ?_
  refine s_istore_n hC (L' := [(1, _), (0, _)]) dX1_isLorryTime_8 rfl rfl (le_b rfl) rfl ?_
  refine s_iload_n hC dX1_isLorryTime_9 rfl rfl 0 rfl ?_
  refine s_sipush hC (v := 360) dX1_isLorryTime_10 rfl (by decide) ?_
  refine z_icmp_lt hC (tgt := 27) dX1_isLorryTime_13 rfl (by decide) (fun c_1 => ?_) (fun c_1 => ?_)
  · refine s_iconst hC (v := 0) dX1_isLorryTime_27 rfl (by decide) ?_
    refine s_zret hC hr dX1_isLorryTime_28 rfl (le_b rfl) (le_b rfl) ?_
    exact ⟨by simp [lorF, bI, c_1], rfl⟩
  · refine s_iload_n hC dX1_isLorryTime_16 rfl rfl 0 rfl ?_
    refine s_sipush hC (v := 1320) dX1_isLorryTime_17 rfl (by decide) ?_
    refine z_icmp_ge hC (tgt := 27) dX1_isLorryTime_20 rfl (by decide) (fun c_2 => ?_) (fun c_2 => ?_)
    · refine s_iconst hC (v := 0) dX1_isLorryTime_27 rfl (by decide) ?_
      refine s_zret hC hr dX1_isLorryTime_28 rfl (le_b rfl) (le_b rfl) ?_
      exact ⟨by simp [lorF, bI, c_1, c_2], rfl⟩
    · refine s_iconst hC (v := 1) dX1_isLorryTime_23 rfl (by decide) ?_
      refine s_goto hC (tgt := 28) dX1_isLorryTime_24 (by decide) ?_
      refine s_zret hC hr dX1_isLorryTime_28 rfl (le_b rfl) (le_b rfl) ?_
      exact ⟨by simp [lorF, bI, c_1, c_2], rfl⟩
set_option maxHeartbeats 1000000 in
set_option maxRecDepth 100000 in
theorem ct_X1_forAllElse (l : Launch) (g : Gl) (ω : Wd) (ad : Ix → Nat) (x : Ex) (σ : St) (hR : RepC g ad x σ ω) : CT l g yX1_forAllElse cX1_forAllElse 1 (some .int) 0 0 0 0 [.ref (ad .clock)] ω (dv (some (.int (σ.fc + σ.fl + σ.fo))) ω) (nox) := by
  refine CT.of (own := "Boringhead$Clock") rfl rfl (le_b rfl) rfl ?_
  intro p e s m args below meth c sz0 hC hr htab hin
  refine s_aload_n hC dX1_forAllElse_0 rfl rfl 0 rfl ?_
  refine s_getf hC cs_X1 1 tw_193 (le_b rfl) (RepC.f_clock hR) rfl dX1_forAllElse_1 rfl ?_
  refine s_aload_n hC dX1_forAllElse_4 rfl rfl 0 rfl ?_
  refine s_getf hC cs_X1 2 tw_195 (le_b rfl) (RepC.f_clock hR) rfl dX1_forAllElse_5 rfl ?_
  refine s_iadd hC dX1_forAllElse_8 rfl ?_
  refine s_aload_n hC dX1_forAllElse_9 rfl rfl 0 rfl ?_
  refine s_getf hC cs_X1 3 tw_197 (le_b rfl) (RepC.f_clock hR) rfl dX1_forAllElse_10 rfl ?_
  refine s_iadd hC dX1_forAllElse_13 rfl ?_
  refine s_iret hC hr dX1_forAllElse_14 (le_b rfl) (le_b rfl) ?_
  exact ⟨rfl, rfl⟩
def whF (c9 : Int32) : Int32 := if c9 = 103 then 1 else if c9 = 104 then 1 else if c9 = 119 then 2 else 0
def awF (σ : St) (c9 d9 : Int32) : Int32 := if d9 = 45 then c9 else if ixF σ.order c9 7 0 ≤ ixF σ.order d9 7 0 then c9 else d9
def alF (f : Nat → Int32) : Nat → Int32
  | 0 => 0
  | j + 1 => alF f j + f j
set_option maxHeartbeats 1000000 in
set_option maxRecDepth 100000 in
theorem ct_X2_ownerOf (l : Launch) (g : Gl) (ω : Wd) (c9 : Int32) : CT l g yX2_ownerOf cX2_ownerOf 1 (some .int) 1 22 0 0 [.int c9] ω (dv (some (.int (whF c9))) ω) (nox) := by
  refine CT.of (own := "Boringhead$Contract") rfl rfl (le_b rfl) rfl ?_
  intro p e s m args below meth c sz0 hC hr htab hin
  refine s_iload_n hC dX2_ownerOf_0 rfl rfl 0 rfl ?_
  refine s_bipush hC (v := 103) dX2_ownerOf_1 rfl (by decide) ?_
  refine z_icmp_eq hC (tgt := 12) dX2_ownerOf_3 rfl (by decide) (fun c_1 => ?_) (fun c_1 => ?_)
  · refine s_getsN hC 10 rfl tw_223 dX2_ownerOf_12 rfl ?_
    refine s_bipush hC (v := 107) dX2_ownerOf_15 rfl (by decide) ?_
    refine s_callSN hC (ct_X9_indexIn l g _ _ 3 _ _ (ar_sc g _ 10 rfl) (by decide)) ce_X9_indexIn tw_1161 rfl rfl ⟨⟨le_b rfl, le_b rfl⟩, le_b rfl, le_b rfl⟩ (le_b rfl) dX2_ownerOf_17 rfl (dvk1 ?_) nokx
    refine s_iret hC hr dX2_ownerOf_20 (le_b rfl) (le_b rfl) ?_
    exact ⟨by simp [whF, c_1]; rfl, rfl⟩
  · refine s_iload_n hC dX2_ownerOf_6 rfl rfl 0 rfl ?_
    refine s_bipush hC (v := 104) dX2_ownerOf_7 rfl (by decide) ?_
    refine z_icmp_ne hC (tgt := 21) dX2_ownerOf_9 rfl (by decide) (fun c_2 => ?_) (fun c_2 => ?_)
    · refine s_getsN hC 10 rfl tw_223 dX2_ownerOf_21 rfl ?_
      refine s_iload_n hC dX2_ownerOf_24 rfl rfl 0 rfl ?_
      refine s_bipush hC (v := 119) dX2_ownerOf_25 rfl (by decide) ?_
      refine z_icmp_ne hC (tgt := 35) dX2_ownerOf_27 rfl (by decide) (fun c_3 => ?_) (fun c_3 => ?_)
      · refine s_bipush hC (v := 98) dX2_ownerOf_35 rfl (by decide) ?_
        refine s_callSN hC (ct_X9_indexIn l g _ _ 3 _ _ (ar_sc g _ 10 rfl) (by decide)) ce_X9_indexIn tw_1161 rfl rfl ⟨⟨le_b rfl, le_b rfl⟩, le_b rfl, le_b rfl⟩ (le_b rfl) dX2_ownerOf_37 rfl (dvk1 ?_) nokx
        refine s_iret hC hr dX2_ownerOf_40 (le_b rfl) (le_b rfl) ?_
        exact ⟨by simp [whF, c_1, c_2, c_3]; rfl, rfl⟩
      · refine s_bipush hC (v := 110) dX2_ownerOf_30 rfl (by decide) ?_
        refine s_goto hC (tgt := 37) dX2_ownerOf_32 (by decide) ?_
        refine s_callSN hC (ct_X9_indexIn l g _ _ 3 _ _ (ar_sc g _ 10 rfl) (by decide)) ce_X9_indexIn tw_1161 rfl rfl ⟨⟨le_b rfl, le_b rfl⟩, le_b rfl, le_b rfl⟩ (le_b rfl) dX2_ownerOf_37 rfl (dvk1 ?_) nokx
        refine s_iret hC hr dX2_ownerOf_40 (le_b rfl) (le_b rfl) ?_
        exact ⟨by simp [whF, c_1, c_2, c_3]; rfl, rfl⟩
    · refine s_getsN hC 10 rfl tw_223 dX2_ownerOf_12 rfl ?_
      refine s_bipush hC (v := 107) dX2_ownerOf_15 rfl (by decide) ?_
      refine s_callSN hC (ct_X9_indexIn l g _ _ 3 _ _ (ar_sc g _ 10 rfl) (by decide)) ce_X9_indexIn tw_1161 rfl rfl ⟨⟨le_b rfl, le_b rfl⟩, le_b rfl, le_b rfl⟩ (le_b rfl) dX2_ownerOf_17 rfl (dvk1 ?_) nokx
      refine s_iret hC hr dX2_ownerOf_20 (le_b rfl) (le_b rfl) ?_
      exact ⟨by simp [whF, c_1, c_2]; rfl, rfl⟩
set_option maxHeartbeats 1000000 in
set_option maxRecDepth 100000 in
theorem ct_X2_allWaits (l : Launch) (g : Gl) (ω : Wd) (ad : Ix → Nat) (x : Ex) (σ : St) (hR : RepC g ad x σ ω) : CT l g yX2_allWaits cX2_allWaits 3 (some .int) 0 0 0 0 [.ref (ad .contract)] ω (dv (some (.int (alF σ.waits 3))) ω) (nox) := by
  refine CT.of (own := "Boringhead$Contract") rfl rfl (le_b rfl) rfl ?_
  intro p e s m args below meth c sz0 hC hr htab hin
  refine s_iconst hC (v := 0) dX2_allWaits_0 rfl (by decide) ?_
  refine s_istore_n hC (L' := [(1, _), (0, _)]) dX2_allWaits_1 rfl rfl (le_b rfl) rfl ?_
  refine s_iconst hC (v := 0) dX2_allWaits_2 rfl (by decide) ?_
  refine s_istore_n hC (L' := [(2, _), (1, _), (0, _)]) dX2_allWaits_3 rfl rfl (le_b rfl) rfl ?_
  refine WP.sub (L' := [(0, _), (1, _), (2, _)]) [2, 1, 0] rfl ?_
  refine wp_loop (σ := Int32 × Int32 × Nat) (I := fun (i, sm, j) => i = nI j ∧ j ≤ 3 ∧ sm = alF σ.waits j) (ωf := fun (i, sm, j) => ω) (Lf := fun (i, sm, j) => [(0, .ref (ad .contract)), (1, .int sm), (2, .int i)]) (μ := fun (i, sm, j) => 3 - j) (x0 := (_, _, 0)) ?_ ?_
  · exact ⟨rfl, Nat.zero_le _, rfl⟩
  · rintro ⟨i, sm, j⟩ hI ih
    dsimp only at hI ih ⊢
    obtain ⟨rfl, hj, rfl⟩ := hI
    have hin9 : ¬ nI (3) ≤ nI j → j < 3 := nI_ltc (by decide) hj
    refine s_iload_n hC dX2_allWaits_4 rfl rfl 2 rfl ?_
    refine s_aload_n hC dX2_allWaits_5 rfl rfl 0 rfl ?_
    refine s_getf hC cs_X2 1 tw_227 (le_b rfl) (RepC.f_contract hR) rfl dX2_allWaits_6 rfl ?_
    refine s_alenI hC (Or.inl (RepC.f_waits hR)) dX2_allWaits_9 rfl ?_
    refine z_icmp_ge hC (tgt := 28) dX2_allWaits_10 rfl (by decide) (fun c_1 => ?_) (fun c_1 => ?_)
    · refine s_iload_n hC dX2_allWaits_28 rfl rfl 1 rfl ?_
      refine s_iret hC hr dX2_allWaits_29 (le_b rfl) (le_b rfl) ?_
      obtain rfl := nI_lec (by decide) hj c_1
      exact ⟨rfl, rfl⟩
    · refine s_iload_n hC dX2_allWaits_13 rfl rfl 1 rfl ?_
      refine s_aload_n hC dX2_allWaits_14 rfl rfl 0 rfl ?_
      refine s_getf hC cs_X2 1 tw_227 (le_b rfl) (RepC.f_contract hR) rfl dX2_allWaits_15 rfl ?_
      refine s_iload_n hC dX2_allWaits_18 rfl rfl 2 rfl ?_
      refine s_ialdK hC (Or.inl (RepC.f_waits hR)) (vp_in_nI (hin9 c_1) (by decide)) dX2_allWaits_19 rfl ?_
      refine s_iadd hC dX2_allWaits_20 rfl ?_
      refine s_istore_n hC (L' := [(1, _), (0, _), (2, _)]) dX2_allWaits_21 rfl rfl (le_b rfl) rfl ?_
      refine s_iinc hC (v := _ + 1) (j9 := 2) (L' := [(2, _), (1, _), (0, _)]) dX2_allWaits_22 rfl rfl rfl (le_b rfl) rfl ?_
      refine s_goto hC (tgt := 4) dX2_allWaits_25 (by decide) ?_
      refine WP.sub (L' := [(0, _), (1, _), (2, _)]) [2, 1, 0] rfl ?_
      refine ih (_, _, j + 1) ?_ ?_
      · dsimp only
        have h9 := hin9 c_1
        refine ⟨nI_1 j, h9, ?_⟩
        rw [nI_clamp (by omega)]; rfl
      · dsimp only
        have h9 := hin9 c_1; omega
