abbrev C4 : Type := Int32 × Int32 × Int32 × Int32
abbrev crL (c : C4) : List Value := [.int c.1, .int c.2.1, .int c.2.2.1, .int c.2.2.2]
def goG (c : C4) (r u : Int32) : C4 := (c.1 + r, c.2.1 + u, c.2.2.1 + (c.1 + r), c.2.2.2 + (c.2.1 + u))
def goF (σ : St) (t pr pu pl : Int32) : Int32 × Int32 := (atF 8 (stF [0, 7, 10, 7, 0, -7, -10, -7]) t + pr - atF 200 σ.bR pl, atF 8 (stF [10, 7, 0, -7, -10, -7, 0, 7]) t + pu - atF 200 σ.bU pl)
def go9 (σ : St) (c : C4) (t pr pu pl : Int32) : C4 := goG c (goF σ t pr pu pl).1 (goF σ t pr pu pl).2
def sqF (c : C4) : Int64 := c.2.2.1.toInt64 * c.2.2.1.toInt64 + c.2.2.2.toInt64 * c.2.2.2.toInt64
theorem RepC.trial4 {g : Gl} {ad : Ix → Nat} {x : Ex} {s : St} {ω : Wd} (h : RepC g ad x s ω) (c : C4) : RepC g ad (x.w_trial c.1 c.2.1 c.2.2.1 c.2.2.2) s (wup ω (ad .trial) (.inr (8, crL c))) := h.w_trial _ _ _ _
theorem RepC.course4 {g : Gl} {ad : Ix → Nat} {x : Ex} {s : St} {ω : Wd} (h : RepC g ad x s ω) (c : C4) : RepC g ad x (s.w_course c.1 c.2.1 c.2.2.1 c.2.2.2) (wup ω (ad .course) (.inr (8, crL c))) := h.w_course _ _ _ _
def cr0 (σ : St) : C4 := (σ.hR, σ.hU, σ.oR, σ.oU)
/-- the trial course over a row of turns: the course, the last turn, the sum; none: two alike -/
def srF (σ : St) (row many : Int32) : Nat → Option (C4 × Int32 × Int64)
  | 0 => some (cr0 σ, ltF σ, 0)
  | j + 1 => match srF σ row many j with
    | none => none
    | some (c, t, z) => if turnF row (nI j) many = t then none else some (go9 σ c (turnF row (nI j) many) σ.pR σ.pU (nI σ.n + nI j), turnF row (nI j) many, z + sqF (go9 σ c (turnF row (nI j) many) σ.pR σ.pU (nI σ.n + nI j)))
def sroF (σ : St) (row : Int32) (many : Nat) : Int64 := match srF σ row (nI many) many with
  | none => -1
  | some (_, _, z) => z
theorem srF_none {σ : St} {row many : Int32} {j n : Nat} (h : j ≤ n) (hj : srF σ row many j = none) : srF σ row many n = none := by
  induction n with
  | zero => obtain rfl : j = 0 := by omega
            exact hj
  | succ n ih =>
    by_cases hz : j = n + 1
    · subst hz; exact hj
    · rw [srF, ih (by omega)]
set_option maxHeartbeats 1000000 in
set_option maxRecDepth 100000 in
theorem ct_X9_go (l : Launch) (g : Gl) (ω : Wd) (ad : Ix → Nat) (x : Ex) (σ : St) (hR : RepC g ad x σ ω) (a : Nat) (c : C4) (h0 : ω a = some (.inr (8, crL c))) (t pr pu pl : Int32) : CT l g yX9_go cX9_go 8 none 1 22 0 0 [.ref (ad .main), .ref a, .int t, .int pr, .int pu, .int pl] ω (dv none (wup ω a (.inr (8, crL (go9 σ c t pr pu pl))))) (nox) := by
  refine CT.of (own := "Boringhead") rfl rfl (le_b rfl) rfl ?_
  intro p e s m args below meth c sz0 hC hr htab hin
  refine s_gets hC 7 rfl tw_365 dX9_go_0 rfl ?_
  refine s_iload_n hC dX9_go_3 rfl rfl 2 rfl ?_
  refine s_callS hC (ct_X9_at l g _ _ 8 _ _ (ar_st g _ 7 rfl) (by first | decide | assumption)) ce_X9_at tw_367 rfl rfl ⟨⟨le_b rfl, le_b rfl⟩, le_b rfl, le_b rfl⟩ (le_b rfl) dX9_go_4 rfl (dvk1 ?_) nokx
  refine s_iload_n hC dX9_go_7 rfl rfl 3 rfl ?_
  refine s_iadd hC dX9_go_8 rfl ?_
  refine s_aload_n hC dX9_go_9 rfl rfl 0 rfl ?_
  refine s_getf hC cs_X9 0 tw_237 (le_b rfl) (RepC.f_main hR) rfl dX9_go_10 rfl ?_
  refine s_getfN hC cs_X7 4 tw_93 (le_b rfl) (RepC.f_soil hR) rfl dX9_go_13 rfl ?_
  refine s_iload hC dX9_go_16 rfl 5 rfl ?_
  refine s_callS hC (ct_X9_at l g _ _ _ _ _ (Or.inl (RepC.f_bR hR)) (by first | decide | assumption)) ce_X9_at tw_367 rfl rfl ⟨⟨le_b rfl, le_b rfl⟩, le_b rfl, le_b rfl⟩ (le_b rfl) dX9_go_18 rfl (dvk1 ?_) nokx
  refine s_isub hC dX9_go_21 rfl ?_
  refine s_istore hC (L' := [(6, _), (0, _), (1, _), (2, _), (3, _), (4, _), (5, _)]) dX9_go_22 rfl (le_b rfl) rfl ?_
  refine s_gets hC 8 rfl tw_368 dX9_go_24 rfl ?_
  refine s_iload_n hC dX9_go_27 rfl rfl 3 rfl ?_
  refine s_callS hC (ct_X9_at l g _ _ 8 _ _ (ar_st g _ 8 rfl) (by first | decide | assumption)) ce_X9_at tw_367 rfl rfl ⟨⟨le_b rfl, le_b rfl⟩, le_b rfl, le_b rfl⟩ (le_b rfl) dX9_go_28 rfl (dvk1 ?_) nokx
  refine s_iload hC dX9_go_31 rfl 5 rfl ?_
  refine s_iadd hC dX9_go_33 rfl ?_
  refine s_aload_n hC dX9_go_34 rfl rfl 1 rfl ?_
  refine s_getf hC cs_X9 0 tw_237 (le_b rfl) (RepC.f_main hR) rfl dX9_go_35 rfl ?_
  refine s_getfN hC cs_X7 5 tw_95 (le_b rfl) (RepC.f_soil hR) rfl dX9_go_38 rfl ?_
  refine s_iload hC dX9_go_41 rfl 6 rfl ?_
  refine s_callS hC (ct_X9_at l g _ _ _ _ _ (Or.inl (RepC.f_bU hR)) (by first | decide | assumption)) ce_X9_at tw_367 rfl rfl ⟨⟨le_b rfl, le_b rfl⟩, le_b rfl, le_b rfl⟩ (le_b rfl) dX9_go_43 rfl (dvk1 ?_) nokx
  refine s_isub hC dX9_go_46 rfl ?_
  refine s_istore hC (L' := [(7, _), (6, _), (0, _), (1, _), (2, _), (3, _), (4, _), (5, _)]) dX9_go_47 rfl (le_b rfl) rfl ?_
  refine s_aload_n hC dX9_go_49 rfl rfl 3 rfl ?_
  refine s_iload hC dX9_go_50 rfl 1 rfl ?_
  refine s_iload hC dX9_go_52 rfl 0 rfl ?_
  refine s_callV hC (ct_X3_go l g _ _ _ _ _ _ h0 _ _) ce_X3_go cs_X3 h0 tw_370 rfl rfl ⟨⟨le_b rfl, le_b rfl⟩, le_b rfl, le_b rfl⟩ (le_b rfl) dX9_go_54 rfl (dvk0 ?_) nokx
  refine s_vret hC hr dX9_go_57 (le_b rfl) (le_b rfl) ?_
  exact ⟨rfl, rfl⟩
set_option maxHeartbeats 1000000 in
set_option maxRecDepth 100000 in
theorem ct_X9_sumOfRow (l : Launch) (g : Gl) (ω : Wd) (ad : Ix → Nat) (x : Ex) (σ : St) (hR : RepC g ad x σ ω) (row : Int32) (many : Nat) (hm : many ≤ 3) : CT l g yX9_sumOfRow cX9_sumOfRow 8 (some .long) 4 84 0 0 [.ref (ad .main), .int row, .int (nI many)] ω (fun r w => r = some (.long (sroF σ row many)) ∧ ∃ c : C4, w = wup ω (ad .trial) (.inr (8, crL c))) (nox) := by
  refine CT.of (own := "Boringhead") rfl rfl (le_b rfl) rfl ?_
  intro p e s m args below meth c sz0 hC hr htab hin
  refine s_aload_n hC dX9_sumOfRow_0 rfl rfl 0 rfl ?_
  refine s_getf hC cs_X9 3 tw_240 (le_b rfl) (RepC.f_main hR) rfl dX9_sumOfRow_1 rfl ?_
  refine s_aload_n hC dX9_sumOfRow_4 rfl rfl 0 rfl ?_
  refine s_getf hC cs_X9 2 tw_239 (le_b rfl) (RepC.f_main hR) rfl dX9_sumOfRow_5 rfl ?_
  refine s_callV hC (ct_X3_startAt l g _ _ _ _ _ _ (RepC.f_trial hR) _ _ _ _ _ (RepC.f_course hR) (fun z9 => by cases hR.inj .course .trial trivial trivial z9)) ce_X3_startAt cs_X3 (RepC.f_trial hR) tw_984 rfl rfl ⟨⟨le_b rfl, le_b rfl⟩, le_b rfl, le_b rfl⟩ (le_b rfl) dX9_sumOfRow_8 rfl (dvk0 ?_) nokx
  have hR8 := RepC.trial4 hR (cr0 σ)
  refine s_aload_n hC dX9_sumOfRow_11 rfl rfl 0 rfl ?_
  refine s_callV hC (ct_X9_lastTurn l g _ _ _ _ hR8) ce_X9_lastTurn cs_X9 (RepC.f_main hR8) tw_840 rfl rfl ⟨⟨le_b rfl, le_b rfl⟩, le_b rfl, le_b rfl⟩ (le_b rfl) dX9_sumOfRow_12 rfl (dvk1 ?_) nokx
  refine s_istore_n hC (L' := [(3, _), (0, _), (1, _), (2, _)]) dX9_sumOfRow_15 rfl rfl (le_b rfl) rfl ?_
  refine s_lconst hC (v := 0) dX9_sumOfRow_16 rfl (by decide) ?_
  refine s_lstore hC (L' := [(4, _), (3, _), (0, _), (1, _), (2, _)]) dX9_sumOfRow_17 rfl (le_b rfl) rfl ?_
  refine s_iconst hC (v := 0) dX9_sumOfRow_19 rfl (by decide) ?_
  refine s_istore hC (L' := [(6, _), (4, _), (3, _), (0, _), (1, _), (2, _)]) dX9_sumOfRow_20 rfl (le_b rfl) rfl ?_
  refine WP.sub (L' := [(0, _), (1, _), (2, _), (3, _), (4, _), (6, _)]) [3, 4, 5, 2, 1, 0] rfl ?_
  refine wp_loop (σ := Int32 × Int32 × Int64 × Wd × C4 × Nat) (I := fun (i, t9, z9, W, cc9, j) => i = nI j ∧ j ≤ many ∧ srF σ row (nI many) j = some (cc9, t9, z9) ∧ W = wup ω (ad .trial) (.inr (8, crL cc9))) (ωf := fun (i, t9, z9, W, cc9, j) => W) (Lf := fun (i, t9, z9, W, cc9, j) => [(0, .ref (ad .main)), (1, .int row), (2, .int (nI many)), (3, .int t9), (4, .long z9), (6, .int i)]) (μ := fun (i, t9, z9, W, cc9, j) => many - j) (x0 := (_, _, _, _, cr0 σ, 0)) ?_ ?_
  · exact ⟨rfl, Nat.zero_le _, rfl, rfl⟩
  · rintro ⟨i, t9, z9, W, cc9, j⟩ hI ih
    dsimp only at hI ih ⊢
    obtain ⟨rfl, hj, hs, rfl⟩ := hI
    have hin9 : ¬ nI many ≤ nI j → j < many := nI_ltc (by omega) hj
    have hW := RepC.trial4 hR cc9
    refine s_iload hC dX9_sumOfRow_22 rfl 5 rfl ?_
    refine s_iload_n hC dX9_sumOfRow_24 rfl rfl 2 rfl ?_
    refine z_icmp_ge hC (tgt := 102) dX9_sumOfRow_25 rfl (by decide) (fun c_1 => ?_) (fun c_1 => ?_)
    · refine s_lload hC dX9_sumOfRow_102 rfl 4 rfl ?_
      refine s_lret hC hr dX9_sumOfRow_104 (le_b rfl) (le_b rfl) ?_
      obtain rfl := nI_lec (by omega) hj c_1
      refine ⟨?_, cc9, rfl⟩
      rw [sroF, hs]
    · refine s_iload_n hC dX9_sumOfRow_28 rfl rfl 1 rfl ?_
      refine s_iload hC dX9_sumOfRow_29 rfl 5 rfl ?_
      refine s_iload_n hC dX9_sumOfRow_31 rfl rfl 2 rfl ?_
      refine s_callS hC (ct_X9_turnOf l g _ _ _ _) ce_X9_turnOf tw_988 rfl rfl ⟨⟨le_b rfl, le_b rfl⟩, le_b rfl, le_b rfl⟩ (le_b rfl) dX9_sumOfRow_32 rfl (dvk1 ?_) nokx
      refine s_istore hC (L' := [(7, _), (0, _), (1, _), (2, _), (3, _), (4, _), (6, _)]) dX9_sumOfRow_35 rfl (le_b rfl) rfl ?_
      refine s_iload hC dX9_sumOfRow_37 rfl 0 rfl ?_
      refine s_iload_n hC dX9_sumOfRow_39 rfl rfl 4 rfl ?_
      refine z_icmp_ne hC (tgt := 47) dX9_sumOfRow_40 rfl (by decide) (fun c_2 => ?_) (fun c_2 => ?_)
      · refine s_aload_n hC dX9_sumOfRow_47 rfl rfl 1 rfl ?_
        refine s_aload_n hC dX9_sumOfRow_48 rfl rfl 1 rfl ?_
        refine s_getf hC cs_X9 3 tw_240 (le_b rfl) (RepC.f_main hW) rfl dX9_sumOfRow_49 rfl ?_
        refine s_iload hC dX9_sumOfRow_52 rfl 0 rfl ?_
        refine s_aload_n hC dX9_sumOfRow_54 rfl rfl 1 rfl ?_
        refine s_getf hC cs_X9 1 tw_238 (le_b rfl) (RepC.f_main hW) rfl dX9_sumOfRow_55 rfl ?_
        refine s_getfN hC cs_X6 3 tw_128 (le_b rfl) (RepC.f_shield hW) rfl dX9_sumOfRow_58 rfl ?_
        refine s_aload_n hC dX9_sumOfRow_61 rfl rfl 1 rfl ?_
        refine s_getf hC cs_X9 1 tw_238 (le_b rfl) (RepC.f_main hW) rfl dX9_sumOfRow_62 rfl ?_
        refine s_getfN hC cs_X6 4 tw_131 (le_b rfl) (RepC.f_shield hW) rfl dX9_sumOfRow_65 rfl ?_
        refine s_aload_n hC dX9_sumOfRow_68 rfl rfl 1 rfl ?_
        refine s_getf hC cs_X9 7 tw_244 (le_b rfl) (RepC.f_main hW) rfl dX9_sumOfRow_69 rfl ?_
        refine s_callV hC (ct_Jx4a65c_size_8abf5 l g _ _ _ _ _ (RepC.f_built hW)) ce_Jx4a65c_size_8abf5 cs_Jx4a65c (RepC.f_built hW) tw_273 rfl rfl ⟨⟨le_b rfl, le_b rfl⟩, le_b rfl, le_b rfl⟩ (le_b rfl) dX9_sumOfRow_72 rfl (dvk1 ?_) nokx
        refine s_iload hC dX9_sumOfRow_75 rfl 6 rfl ?_
        refine s_iadd hC dX9_sumOfRow_77 rfl ?_
        refine s_callV hC (ct_X9_go l g _ _ _ _ hW _ cc9 (RepC.f_trial hW) _ _ _ _) ce_X9_go cs_X9 (RepC.f_main hW) tw_361 rfl rfl ⟨⟨le_b rfl, le_b rfl⟩, le_b rfl, le_b rfl⟩ (le_b rfl) dX9_sumOfRow_78 rfl (dvk0 ?_) nokx
        have hW2 := RepC.trial4 hR (go9 σ cc9 (turnF row (nI j) (nI many)) σ.pR σ.pU (nI σ.n + nI j))
        rw [wup_wup]
        refine s_lload hC dX9_sumOfRow_81 rfl 5 rfl ?_
        refine s_aload_n hC dX9_sumOfRow_83 rfl rfl 1 rfl ?_
        refine s_getf hC cs_X9 3 tw_240 (le_b rfl) (RepC.f_main hW2) rfl dX9_sumOfRow_84 rfl ?_
        refine s_callV hC (ct_X3_square l g _ _ _ _ _ _ (RepC.f_trial hW2)) ce_X3_square cs_X3 (RepC.f_trial hW2) tw_992 rfl rfl ⟨⟨le_b rfl, le_b rfl⟩, le_b rfl, le_b rfl⟩ (le_b rfl) dX9_sumOfRow_87 rfl (dvk1 ?_) nokx
        refine s_ladd hC dX9_sumOfRow_90 rfl ?_
        refine s_lstore hC (L' := [(4, _), (7, _), (0, _), (1, _), (2, _), (3, _), (6, _)]) dX9_sumOfRow_91 rfl (le_b rfl) rfl ?_
        refine s_iload hC dX9_sumOfRow_93 rfl 1 rfl ?_
        refine s_istore_n hC (L' := [(3, _), (4, _), (7, _), (0, _), (1, _), (2, _), (6, _)]) dX9_sumOfRow_95 rfl rfl (le_b rfl) rfl ?_
        refine s_iinc hC (v := _ + 1) (j9 := 6) (L' := [(6, _), (3, _), (4, _), (7, _), (0, _), (1, _), (2, _)]) dX9_sumOfRow_96 rfl rfl rfl (le_b rfl) rfl ?_
        refine s_goto hC (tgt := 22) dX9_sumOfRow_99 (by decide) ?_
        refine WP.sub (L' := [(0, _), (1, _), (2, _), (3, _), (4, _), (6, _)]) [4, 5, 6, 1, 2, 0] rfl ?_
        refine ih (_, _, _, _, go9 σ cc9 (turnF row (nI j) (nI many)) σ.pR σ.pU (nI σ.n + nI j), j + 1) ?_ ?_
        · dsimp only
          have h9 := hin9 c_1
          exact ⟨nI_1 j, h9, by rw [srF, hs]; exact if_neg c_2, rfl⟩
        · dsimp only
          have h9 := hin9 c_1; omega
      · refine s_ldc2 hC tw_991 dX9_sumOfRow_43 rfl ?_
        refine s_lret hC hr dX9_sumOfRow_46 (le_b rfl) (le_b rfl) ?_
        have h9 := hin9 c_1
        refine ⟨?_, cc9, rfl⟩
        rw [sroF, srF_none (j := j + 1) h9 (by rw [srF, hs]; exact if_pos c_2)]
def bsF (σ : St) (many : Nat) : Nat → Int32 × Int64
  | 0 => (-1, 0)
  | j + 1 => if 0 ≤ sroF σ (nI j) many then (if 0 ≤ (bsF σ many j).1 then (if (bsF σ many j).2 ≤ sroF σ (nI j) many then bsF σ many j else (nI j, sroF σ (nI j) many)) else (nI j, sroF σ (nI j) many)) else bsF σ many j
theorem pw8 : ∀ many : Nat, many ≤ 3 → (1 : Int32) <<< (3 * nI many &&& 31) = nI (8 ^ many) := by
  intro many h
  rcases (show many = 0 ∨ many = 1 ∨ many = 2 ∨ many = 3 by omega) with rfl | rfl | rfl | rfl <;> decide
theorem pw8_lt : ∀ many : Nat, many ≤ 3 → 8 ^ many ≤ 512 := by
  intro many h
  rcases (show many = 0 ∨ many = 1 ∨ many = 2 ∨ many = 3 by omega) with rfl | rfl | rfl | rfl <;> decide
set_option maxHeartbeats 1000000 in
set_option maxRecDepth 100000 in
theorem ct_X9_bestRow (l : Launch) (g : Gl) (ω : Wd) (ad : Ix → Nat) (x : Ex) (σ : St) (hR : RepC g ad x σ ω) (many : Nat) (hm : many ≤ 3) : CT l g yX9_bestRow cX9_bestRow 8 (some .int) 5 111 0 0 [.ref (ad .main), .int (nI many)] ω (fun r w => r = some (.int (bsF σ many (8 ^ many)).1) ∧ ∃ c : C4, w = wup ω (ad .trial) (.inr (8, crL c))) (nox) := by
  have hp8 := pw8_lt many hm
  refine CT.of (own := "Boringhead") rfl rfl (le_b rfl) rfl ?_
  intro p e s m args below meth c sz0 hC hr htab hin
  refine s_iconst hC (v := (-1)) dX9_bestRow_0 rfl (by decide) ?_
  refine s_istore_n hC (L' := [(2, _), (0, _), (1, _)]) dX9_bestRow_1 rfl rfl (le_b rfl) rfl ?_
  refine s_lconst hC (v := 0) dX9_bestRow_2 rfl (by decide) ?_
  refine s_lstore_n hC (L' := [(3, _), (2, _), (0, _), (1, _)]) dX9_bestRow_3 rfl rfl (le_b rfl) rfl ?_
  refine s_iconst hC (v := 0) dX9_bestRow_4 rfl (by decide) ?_
  refine s_istore hC (L' := [(5, _), (3, _), (2, _), (0, _), (1, _)]) dX9_bestRow_5 rfl (le_b rfl) rfl ?_
  refine WP.sub (L' := [(0, _), (1, _), (2, _), (3, _), (5, _)]) [3, 4, 2, 1, 0] rfl ?_
  refine wp_loop (σ := Int32 × Int32 × Int64 × Wd × C4 × Nat) (I := fun (i, b9, z9, W, cc9, j) => i = nI j ∧ j ≤ 8 ^ many ∧ b9 = (bsF σ many j).1 ∧ z9 = (bsF σ many j).2 ∧ W = wup ω (ad .trial) (.inr (8, crL cc9))) (ωf := fun (i, b9, z9, W, cc9, j) => W) (Lf := fun (i, b9, z9, W, cc9, j) => [(0, .ref (ad .main)), (1, .int (nI many)), (2, .int b9), (3, .long z9), (5, .int i)]) (μ := fun (i, b9, z9, W, cc9, j) => 8 ^ many - j) (x0 := (_, _, _, _, (x.t0, x.t1, x.t2, x.t3), 0)) ?_ ?_
  · exact ⟨rfl, Nat.zero_le _, rfl, rfl, (wup_self (RepC.f_trial hR)).symm⟩
  · rintro ⟨i, b9, z9, W, cc9, j⟩ hI ih
    dsimp only at hI ih ⊢
    obtain ⟨rfl, hj, rfl, rfl, rfl⟩ := hI
    have hin9 : ¬ nI (8 ^ many) ≤ nI j → j < 8 ^ many := nI_ltc (by omega) hj
    have hW := RepC.trial4 hR cc9
    refine s_iload hC dX9_bestRow_7 rfl 4 rfl ?_
    refine s_iconst hC (v := 1) dX9_bestRow_9 rfl (by decide) ?_
    refine s_iconst hC (v := 3) dX9_bestRow_10 rfl (by decide) ?_
    refine s_iload_n hC dX9_bestRow_11 rfl rfl 1 rfl ?_
    refine s_imul hC dX9_bestRow_12 rfl ?_
    refine s_ishl hC dX9_bestRow_13 rfl ?_
    rw [pw8 many hm]
    refine z_icmp_ge hC (tgt := 56) dX9_bestRow_14 rfl (by decide) (fun c_1 => ?_) (fun c_1 => ?_)
    · refine s_iload_n hC dX9_bestRow_56 rfl rfl 2 rfl ?_
      refine s_iret hC hr dX9_bestRow_57 (le_b rfl) (le_b rfl) ?_
      obtain rfl := nI_lec (by omega) hj c_1
      exact ⟨rfl, cc9, rfl⟩
    · refine s_aload_n hC dX9_bestRow_17 rfl rfl 0 rfl ?_
      refine s_iload hC dX9_bestRow_18 rfl 4 rfl ?_
      refine s_iload_n hC dX9_bestRow_20 rfl rfl 1 rfl ?_
      refine s_callV hC (ct_X9_sumOfRow l g _ _ _ _ hW _ _ hm) ce_X9_sumOfRow cs_X9 (RepC.f_main hW) tw_980 rfl rfl ⟨⟨le_b rfl, le_b rfl⟩, le_b rfl, le_b rfl⟩ (le_b rfl) dX9_bestRow_21 rfl (fun r w h9 => ?_) nokx
      obtain ⟨rfl, cc8, rfl⟩ := h9
      rw [wup_wup]
      have hW2 := RepC.trial4 hR cc8
      refine s_lstore hC (L' := [(6, _), (0, _), (1, _), (2, _), (3, _), (5, _)]) dX9_bestRow_24 rfl (le_b rfl) rfl ?_
      refine s_lload hC dX9_bestRow_26 rfl 0 rfl ?_
      refine s_lconst hC (v := 0) dX9_bestRow_28 rfl (by decide) ?_
      refine s_lcmp hC dX9_bestRow_29 rfl ?_
      refine z_lif_lt hC (tgt := 50) dX9_bestRow_30 rfl (by decide) (fun c_2 => ?_) (fun c_2 => ?_)
      · refine s_iinc hC (v := _ + 1) (j9 := 5) (L' := [(5, _), (6, _), (0, _), (1, _), (2, _), (3, _)]) dX9_bestRow_50 rfl rfl rfl (le_b rfl) rfl ?_
        refine s_goto hC (tgt := 7) dX9_bestRow_53 (by decide) ?_
        refine WP.sub (L' := [(0, _), (1, _), (2, _), (3, _), (5, _)]) [2, 3, 4, 5, 0] rfl ?_
        refine ih (_, _, _, _, cc8, j + 1) ?_ ?_
        · dsimp only
          have h9 := hin9 c_1
          refine ⟨nI_1 j, h9, ?_, ?_, rfl⟩ <;> first | (simp [bsF, c_1, c_2]; done) | (simp [bsF, c_1, c_2]; rfl)
        · dsimp only
          have h9 := hin9 c_1; omega
      · refine s_iload_n hC dX9_bestRow_33 rfl rfl 3 rfl ?_
        refine z_if_lt hC (tgt := 44) dX9_bestRow_34 rfl (by decide) (fun c_3 => ?_) (fun c_3 => ?_)
        · refine s_iload hC dX9_bestRow_44 rfl 5 rfl ?_
          refine s_istore_n hC (L' := [(2, _), (6, _), (0, _), (1, _), (3, _), (5, _)]) dX9_bestRow_46 rfl rfl (le_b rfl) rfl ?_
          refine s_lload hC dX9_bestRow_47 rfl 1 rfl ?_
          refine s_lstore_n hC (L' := [(3, _), (2, _), (6, _), (0, _), (1, _), (5, _)]) dX9_bestRow_49 rfl rfl (le_b rfl) rfl ?_
          refine s_iinc hC (v := _ + 1) (j9 := 5) (L' := [(5, _), (3, _), (2, _), (6, _), (0, _), (1, _)]) dX9_bestRow_50 rfl rfl rfl (le_b rfl) rfl ?_
          refine s_goto hC (tgt := 7) dX9_bestRow_53 (by decide) ?_
          refine WP.sub (L' := [(0, _), (1, _), (2, _), (3, _), (5, _)]) [4, 5, 2, 1, 0] rfl ?_
          refine ih (_, _, _, _, cc8, j + 1) ?_ ?_
          · dsimp only
            have h9 := hin9 c_1
            refine ⟨nI_1 j, h9, ?_, ?_, rfl⟩ <;> first | (simp [bsF, c_1, c_2, c_3]; done) | (simp [bsF, c_1, c_2, c_3]; rfl)
          · dsimp only
            have h9 := hin9 c_1; omega
        · refine s_lload hC dX9_bestRow_37 rfl 0 rfl ?_
          refine s_lload_n hC dX9_bestRow_39 rfl rfl 4 rfl ?_
          refine s_lcmp hC dX9_bestRow_40 rfl ?_
          refine z_lif_ge hC (tgt := 50) dX9_bestRow_41 rfl (by decide) (fun c_4 => ?_) (fun c_4 => ?_)
          · refine s_iinc hC (v := _ + 1) (j9 := 5) (L' := [(5, _), (6, _), (0, _), (1, _), (2, _), (3, _)]) dX9_bestRow_50 rfl rfl rfl (le_b rfl) rfl ?_
            refine s_goto hC (tgt := 7) dX9_bestRow_53 (by decide) ?_
            refine WP.sub (L' := [(0, _), (1, _), (2, _), (3, _), (5, _)]) [2, 3, 4, 5, 0] rfl ?_
            refine ih (_, _, _, _, cc8, j + 1) ?_ ?_
            · dsimp only
              have h9 := hin9 c_1
              refine ⟨nI_1 j, h9, ?_, ?_, rfl⟩ <;> first | (simp [bsF, c_1, c_2, c_3, c_4]; done) | (simp [bsF, c_1, c_2, c_3, c_4]; rfl)
            · dsimp only
              have h9 := hin9 c_1; omega
          · refine s_iload hC dX9_bestRow_44 rfl 5 rfl ?_
            refine s_istore_n hC (L' := [(2, _), (6, _), (0, _), (1, _), (3, _), (5, _)]) dX9_bestRow_46 rfl rfl (le_b rfl) rfl ?_
            refine s_lload hC dX9_bestRow_47 rfl 1 rfl ?_
            refine s_lstore_n hC (L' := [(3, _), (2, _), (6, _), (0, _), (1, _), (5, _)]) dX9_bestRow_49 rfl rfl (le_b rfl) rfl ?_
            refine s_iinc hC (v := _ + 1) (j9 := 5) (L' := [(5, _), (3, _), (2, _), (6, _), (0, _), (1, _)]) dX9_bestRow_50 rfl rfl rfl (le_b rfl) rfl ?_
            refine s_goto hC (tgt := 7) dX9_bestRow_53 (by decide) ?_
            refine WP.sub (L' := [(0, _), (1, _), (2, _), (3, _), (5, _)]) [4, 5, 2, 1, 0] rfl ?_
            refine ih (_, _, _, _, cc8, j + 1) ?_ ?_
            · dsimp only
              have h9 := hin9 c_1
              refine ⟨nI_1 j, h9, ?_, ?_, rfl⟩ <;> first | (simp [bsF, c_1, c_2, c_3, c_4]; done) | (simp [bsF, c_1, c_2, c_3, c_4]; rfl)
            · dsimp only
              have h9 := hin9 c_1; omega
set_option maxHeartbeats 1000000 in
set_option maxRecDepth 100000 in
theorem ct_X6_wear (l : Launch) (g : Gl) (ω : Wd) (ad : Ix → Nat) (x : Ex) (σ : St) (hR : RepC g ad x σ ω) (k9 : Int32) : CT l g yX6_wear cX6_wear 5 none 1 21 0 0 [.ref (ad .shield), .int k9] ω (dv none (wup ω (ad .wears) (.inl (g.2.1 0, 8, .inl (wrF σ.wears (wearF σ k9) 8))))) (nox) := by
  refine CT.of (own := "Boringhead$Shield") rfl rfl (le_b rfl) rfl ?_
  intro p e s m args below meth c sz0 hC hr htab hin
  refine s_aload_n hC dX6_wear_0 rfl rfl 0 rfl ?_
  refine s_getf hC cs_X6 2 tw_123 (le_b rfl) (RepC.f_shield hR) rfl dX6_wear_1 rfl ?_
  refine z_if_eqB hC (tgt := 21) dX6_wear_4 rfl (by decide) (fun c_1 => ?_) (fun c_1 => ?_)
  · refine s_iconst hC (v := 0) dX6_wear_21 rfl (by decide) ?_
    refine s_istore_n hC (L' := [(2, _), (0, _), (1, _)]) dX6_wear_22 rfl rfl (le_b rfl) rfl ?_
    refine s_iload_n hC dX6_wear_23 rfl rfl 0 rfl ?_
    refine z_if_eq hC (tgt := 39) dX6_wear_24 rfl (by decide) (fun c_2 => ?_) (fun c_2 => ((absurd c_2 (by decide) : False)).elim)
    refine s_getsN hC 3 rfl tw_946 dX6_wear_39 rfl ?_
    refine s_iload_n hC dX6_wear_42 rfl rfl 2 rfl ?_
    refine s_callSN hC (ct_X9_at l g _ _ 4 _ _ (ar_st g _ 3 rfl) (by first | decide | assumption)) ce_X9_at tw_948 rfl rfl ⟨⟨le_b rfl, le_b rfl⟩, le_b rfl, le_b rfl⟩ (le_b rfl) dX6_wear_43 rfl (dvk1 ?_) nokx
    first
      | rw [show atF 4 (stF [1, 4, 12, 20]) k9 / 2 = wearF σ k9 by simp [wearF, c_1, c_2]]
      | rw [show atF 4 (stF [1, 4, 12, 20]) k9 = wearF σ k9 by simp [wearF, c_1, c_2]]
    refine s_istore_n hC (L' := [(3, _), (2, _), (0, _), (1, _)]) dX6_wear_46 rfl rfl (le_b rfl) rfl ?_
    refine s_iconst hC (v := 0) dX6_wear_47 rfl (by decide) ?_
    refine s_istore hC (L' := [(4, _), (3, _), (2, _), (0, _), (1, _)]) dX6_wear_48 rfl (le_b rfl) rfl ?_
    refine WP.sub (L' := [(0, _), (3, _), (4, _)]) [3, 1, 0] rfl ?_
    refine wp_loop (σ := Int32 × Wd × Nat) (I := fun (i, W, j) => i = nI j ∧ j ≤ 8 ∧ W = wup ω (ad .wears) (.inl (g.2.1 0, 8, .inl (wrF σ.wears (wearF σ k9) j)))) (ωf := fun (i, W, j) => W) (Lf := fun (i, W, j) => [(0, .ref (ad .shield)), (3, .int (wearF σ k9)), (4, .int i)]) (μ := fun (i, W, j) => 8 - j) (x0 := (_, _, 0)) ?_ ?_
    · exact ⟨rfl, Nat.zero_le _, (wup_self (RepC.f_wears hR)).symm⟩
    · rintro ⟨i, W, j⟩ hI ih
      dsimp only at hI ih ⊢
      obtain ⟨rfl, hj, rfl⟩ := hI
      have hin9 : ¬ nI 8 ≤ nI j → j < 8 := nI_ltc (by decide) hj
      have hW := RepC.w_wears hR (wrF σ.wears (wearF σ k9) j)
      refine s_iload hC dX6_wear_50 rfl 2 rfl ?_
      refine s_aload_n hC dX6_wear_52 rfl rfl 0 rfl ?_
      refine s_getf hC cs_X6 0 tw_119 (le_b rfl) (RepC.f_shield hW) rfl dX6_wear_53 rfl ?_
      refine s_alenI hC (Or.inl (RepC.f_wears hW)) dX6_wear_56 rfl ?_
      refine z_icmp_ge hC (tgt := 89) dX6_wear_57 rfl (by decide) (fun c_3 => ?_) (fun c_3 => ?_)
      · refine s_vret hC hr dX6_wear_89 (le_b rfl) (le_b rfl) ?_
        obtain rfl := nI_lec (by decide) hj c_3
        exact ⟨rfl, rfl⟩
      · refine s_aload_n hC dX6_wear_60 rfl rfl 0 rfl ?_
        refine s_getf hC cs_X6 0 tw_119 (le_b rfl) (RepC.f_shield hW) rfl dX6_wear_61 rfl ?_
        refine s_iload hC dX6_wear_64 rfl 2 rfl ?_
        refine s_dup2_11 hC dX6_wear_66 rfl rfl rfl ?_
        refine s_ialdK hC (Or.inl (RepC.f_wears hW)) (vp_in_nI (hin9 c_3) (by decide)) dX6_wear_67 rfl ?_
        refine s_iload hC dX6_wear_68 rfl 2 rfl ?_
        refine s_iconst hC (v := 2) dX6_wear_70 rfl (by decide) ?_
        refine z_icmp_ge hC (tgt := 80) dX6_wear_71 rfl (by decide) (fun c_4 => ?_) (fun c_4 => ?_)
        · refine s_iload_n hC dX6_wear_80 rfl rfl 1 rfl ?_
          refine s_iadd hC dX6_wear_81 rfl ?_
          refine s_iast hC (RepC.f_wears hW) (vp_in_nI (hin9 c_3) (by decide)) dX6_wear_82 rfl ?_
          refine WP.rc (RepC.w_wears hW _) (fun hR_82 => ?_)
          refine s_iinc hC (v := _ + 1) (j9 := 2) (L' := [(4, _), (0, _), (3, _)]) dX6_wear_83 rfl rfl rfl (le_b rfl) rfl ?_
          refine s_goto hC (tgt := 50) dX6_wear_86 (by decide) ?_
          refine WP.sub (L' := [(0, _), (3, _), (4, _)]) [1, 2, 0] rfl ?_
          refine ih (_, (wup _ _ _), j + 1) ?_ ?_
          · dsimp only
            have h9 := hin9 c_3
            refine ⟨nI_1 j, h9, ?_⟩
            rw [wup_wup, nI_clamp (by omega), wrF]
            first
              | (rw [if_pos c_4]; rfl)
              | (rw [if_neg c_4]; rfl)
          · dsimp only
            have h9 := hin9 c_3; omega
        · refine s_iconst hC (v := 2) dX6_wear_74 rfl (by decide) ?_
          refine s_iload_n hC dX6_wear_75 rfl rfl 1 rfl ?_
          refine s_imul hC dX6_wear_76 rfl ?_
          refine s_goto hC (tgt := 81) dX6_wear_77 (by decide) ?_
          refine s_iadd hC dX6_wear_81 rfl ?_
          refine s_iast hC (RepC.f_wears hW) (vp_in_nI (hin9 c_3) (by decide)) dX6_wear_82 rfl ?_
          refine WP.rc (RepC.w_wears hW _) (fun hR_82 => ?_)
          refine s_iinc hC (v := _ + 1) (j9 := 2) (L' := [(4, _), (0, _), (3, _)]) dX6_wear_83 rfl rfl rfl (le_b rfl) rfl ?_
          refine s_goto hC (tgt := 50) dX6_wear_86 (by decide) ?_
          refine WP.sub (L' := [(0, _), (3, _), (4, _)]) [1, 2, 0] rfl ?_
          refine ih (_, (wup _ _ _), j + 1) ?_ ?_
          · dsimp only
            have h9 := hin9 c_3
            refine ⟨nI_1 j, h9, ?_⟩
            rw [wup_wup, nI_clamp (by omega), wrF]
            first
              | (rw [if_pos c_4]; rfl)
              | (rw [if_neg c_4]; rfl)
          · dsimp only
            have h9 := hin9 c_3; omega
  · refine s_iload_n hC dX6_wear_7 rfl rfl 1 rfl ?_
    refine s_iconst hC (v := 1) dX6_wear_8 rfl (by decide) ?_
    refine z_icmp_eq hC (tgt := 17) dX6_wear_9 rfl (by decide) (fun c_5 => ?_) (fun c_5 => ?_)
    · refine s_iconst hC (v := 1) dX6_wear_17 rfl (by decide) ?_
      refine s_goto hC (tgt := 22) dX6_wear_18 (by decide) ?_
      refine s_istore_n hC (L' := [(2, _), (0, _), (1, _)]) dX6_wear_22 rfl rfl (le_b rfl) rfl ?_
      refine s_iload_n hC dX6_wear_23 rfl rfl 0 rfl ?_
      refine z_if_eq hC (tgt := 39) dX6_wear_24 rfl (by decide) (fun c_6 => ((absurd c_6 (by decide) : False)).elim) (fun c_6 => ?_)
      refine s_getsN hC 3 rfl tw_946 dX6_wear_27 rfl ?_
      refine s_iload_n hC dX6_wear_30 rfl rfl 2 rfl ?_
      refine s_callSN hC (ct_X9_at l g _ _ 4 _ _ (ar_st g _ 3 rfl) (by first | decide | assumption)) ce_X9_at tw_948 rfl rfl ⟨⟨le_b rfl, le_b rfl⟩, le_b rfl, le_b rfl⟩ (le_b rfl) dX6_wear_31 rfl (dvk1 ?_) nokx
      refine s_iconst hC (v := 2) dX6_wear_34 rfl (by decide) ?_
      refine s_idiv hC dX6_wear_35 rfl (by decide) ?_
      refine s_goto hC (tgt := 46) dX6_wear_36 (by decide) ?_
      first
        | rw [show atF 4 (stF [1, 4, 12, 20]) k9 / 2 = wearF σ k9 by simp [wearF, c_1, c_5, c_6]]
        | rw [show atF 4 (stF [1, 4, 12, 20]) k9 = wearF σ k9 by simp [wearF, c_1, c_5, c_6]]
      refine s_istore_n hC (L' := [(3, _), (2, _), (0, _), (1, _)]) dX6_wear_46 rfl rfl (le_b rfl) rfl ?_
      refine s_iconst hC (v := 0) dX6_wear_47 rfl (by decide) ?_
      refine s_istore hC (L' := [(4, _), (3, _), (2, _), (0, _), (1, _)]) dX6_wear_48 rfl (le_b rfl) rfl ?_
      refine WP.sub (L' := [(0, _), (3, _), (4, _)]) [3, 1, 0] rfl ?_
      refine wp_loop (σ := Int32 × Wd × Nat) (I := fun (i, W, j) => i = nI j ∧ j ≤ 8 ∧ W = wup ω (ad .wears) (.inl (g.2.1 0, 8, .inl (wrF σ.wears (wearF σ k9) j)))) (ωf := fun (i, W, j) => W) (Lf := fun (i, W, j) => [(0, .ref (ad .shield)), (3, .int (wearF σ k9)), (4, .int i)]) (μ := fun (i, W, j) => 8 - j) (x0 := (_, _, 0)) ?_ ?_
      · exact ⟨rfl, Nat.zero_le _, (wup_self (RepC.f_wears hR)).symm⟩
      · rintro ⟨i, W, j⟩ hI ih
        dsimp only at hI ih ⊢
        obtain ⟨rfl, hj, rfl⟩ := hI
        have hin9 : ¬ nI 8 ≤ nI j → j < 8 := nI_ltc (by decide) hj
        have hW := RepC.w_wears hR (wrF σ.wears (wearF σ k9) j)
        refine s_iload hC dX6_wear_50 rfl 2 rfl ?_
        refine s_aload_n hC dX6_wear_52 rfl rfl 0 rfl ?_
        refine s_getf hC cs_X6 0 tw_119 (le_b rfl) (RepC.f_shield hW) rfl dX6_wear_53 rfl ?_
        refine s_alenI hC (Or.inl (RepC.f_wears hW)) dX6_wear_56 rfl ?_
        refine z_icmp_ge hC (tgt := 89) dX6_wear_57 rfl (by decide) (fun c_7 => ?_) (fun c_7 => ?_)
        · refine s_vret hC hr dX6_wear_89 (le_b rfl) (le_b rfl) ?_
          obtain rfl := nI_lec (by decide) hj c_7
          exact ⟨rfl, rfl⟩
        · refine s_aload_n hC dX6_wear_60 rfl rfl 0 rfl ?_
          refine s_getf hC cs_X6 0 tw_119 (le_b rfl) (RepC.f_shield hW) rfl dX6_wear_61 rfl ?_
          refine s_iload hC dX6_wear_64 rfl 2 rfl ?_
          refine s_dup2_11 hC dX6_wear_66 rfl rfl rfl ?_
          refine s_ialdK hC (Or.inl (RepC.f_wears hW)) (vp_in_nI (hin9 c_7) (by decide)) dX6_wear_67 rfl ?_
          refine s_iload hC dX6_wear_68 rfl 2 rfl ?_
          refine s_iconst hC (v := 2) dX6_wear_70 rfl (by decide) ?_
          refine z_icmp_ge hC (tgt := 80) dX6_wear_71 rfl (by decide) (fun c_8 => ?_) (fun c_8 => ?_)
          · refine s_iload_n hC dX6_wear_80 rfl rfl 1 rfl ?_
            refine s_iadd hC dX6_wear_81 rfl ?_
            refine s_iast hC (RepC.f_wears hW) (vp_in_nI (hin9 c_7) (by decide)) dX6_wear_82 rfl ?_
            refine WP.rc (RepC.w_wears hW _) (fun hR_82 => ?_)
            refine s_iinc hC (v := _ + 1) (j9 := 2) (L' := [(4, _), (0, _), (3, _)]) dX6_wear_83 rfl rfl rfl (le_b rfl) rfl ?_
            refine s_goto hC (tgt := 50) dX6_wear_86 (by decide) ?_
            refine WP.sub (L' := [(0, _), (3, _), (4, _)]) [1, 2, 0] rfl ?_
            refine ih (_, (wup _ _ _), j + 1) ?_ ?_
            · dsimp only
              have h9 := hin9 c_7
              refine ⟨nI_1 j, h9, ?_⟩
              rw [wup_wup, nI_clamp (by omega), wrF]
              first
                | (rw [if_pos c_8]; rfl)
                | (rw [if_neg c_8]; rfl)
            · dsimp only
              have h9 := hin9 c_7; omega
          · refine s_iconst hC (v := 2) dX6_wear_74 rfl (by decide) ?_
            refine s_iload_n hC dX6_wear_75 rfl rfl 1 rfl ?_
            refine s_imul hC dX6_wear_76 rfl ?_
            refine s_goto hC (tgt := 81) dX6_wear_77 (by decide) ?_
            refine s_iadd hC dX6_wear_81 rfl ?_
            refine s_iast hC (RepC.f_wears hW) (vp_in_nI (hin9 c_7) (by decide)) dX6_wear_82 rfl ?_
            refine WP.rc (RepC.w_wears hW _) (fun hR_82 => ?_)
            refine s_iinc hC (v := _ + 1) (j9 := 2) (L' := [(4, _), (0, _), (3, _)]) dX6_wear_83 rfl rfl rfl (le_b rfl) rfl ?_
            refine s_goto hC (tgt := 50) dX6_wear_86 (by decide) ?_
            refine WP.sub (L' := [(0, _), (3, _), (4, _)]) [1, 2, 0] rfl ?_
            refine ih (_, (wup _ _ _), j + 1) ?_ ?_
            · dsimp only
              have h9 := hin9 c_7
              refine ⟨nI_1 j, h9, ?_⟩
              rw [wup_wup, nI_clamp (by omega), wrF]
              first
                | (rw [if_pos c_8]; rfl)
                | (rw [if_neg c_8]; rfl)
            · dsimp only
              have h9 := hin9 c_7; omega
    · refine s_iload_n hC dX6_wear_12 rfl rfl 1 rfl ?_
      refine s_iconst hC (v := 3) dX6_wear_13 rfl (by decide) ?_
      refine z_icmp_ne hC (tgt := 21) dX6_wear_14 rfl (by decide) (fun c_9 => ?_) (fun c_9 => ?_)
      · refine s_iconst hC (v := 0) dX6_wear_21 rfl (by decide) ?_
        refine s_istore_n hC (L' := [(2, _), (0, _), (1, _)]) dX6_wear_22 rfl rfl (le_b rfl) rfl ?_
        refine s_iload_n hC dX6_wear_23 rfl rfl 0 rfl ?_
        refine z_if_eq hC (tgt := 39) dX6_wear_24 rfl (by decide) (fun c_10 => ?_) (fun c_10 => ((absurd c_10 (by decide) : False)).elim)
        refine s_getsN hC 3 rfl tw_946 dX6_wear_39 rfl ?_
        refine s_iload_n hC dX6_wear_42 rfl rfl 2 rfl ?_
        refine s_callSN hC (ct_X9_at l g _ _ 4 _ _ (ar_st g _ 3 rfl) (by first | decide | assumption)) ce_X9_at tw_948 rfl rfl ⟨⟨le_b rfl, le_b rfl⟩, le_b rfl, le_b rfl⟩ (le_b rfl) dX6_wear_43 rfl (dvk1 ?_) nokx
        first
          | rw [show atF 4 (stF [1, 4, 12, 20]) k9 / 2 = wearF σ k9 by simp [wearF, c_1, c_5, c_9, c_10]]
          | rw [show atF 4 (stF [1, 4, 12, 20]) k9 = wearF σ k9 by simp [wearF, c_1, c_5, c_9, c_10]]
        refine s_istore_n hC (L' := [(3, _), (2, _), (0, _), (1, _)]) dX6_wear_46 rfl rfl (le_b rfl) rfl ?_
        refine s_iconst hC (v := 0) dX6_wear_47 rfl (by decide) ?_
        refine s_istore hC (L' := [(4, _), (3, _), (2, _), (0, _), (1, _)]) dX6_wear_48 rfl (le_b rfl) rfl ?_
        refine WP.sub (L' := [(0, _), (3, _), (4, _)]) [3, 1, 0] rfl ?_
        refine wp_loop (σ := Int32 × Wd × Nat) (I := fun (i, W, j) => i = nI j ∧ j ≤ 8 ∧ W = wup ω (ad .wears) (.inl (g.2.1 0, 8, .inl (wrF σ.wears (wearF σ k9) j)))) (ωf := fun (i, W, j) => W) (Lf := fun (i, W, j) => [(0, .ref (ad .shield)), (3, .int (wearF σ k9)), (4, .int i)]) (μ := fun (i, W, j) => 8 - j) (x0 := (_, _, 0)) ?_ ?_
        · exact ⟨rfl, Nat.zero_le _, (wup_self (RepC.f_wears hR)).symm⟩
        · rintro ⟨i, W, j⟩ hI ih
          dsimp only at hI ih ⊢
          obtain ⟨rfl, hj, rfl⟩ := hI
          have hin9 : ¬ nI 8 ≤ nI j → j < 8 := nI_ltc (by decide) hj
          have hW := RepC.w_wears hR (wrF σ.wears (wearF σ k9) j)
          refine s_iload hC dX6_wear_50 rfl 2 rfl ?_
          refine s_aload_n hC dX6_wear_52 rfl rfl 0 rfl ?_
          refine s_getf hC cs_X6 0 tw_119 (le_b rfl) (RepC.f_shield hW) rfl dX6_wear_53 rfl ?_
          refine s_alenI hC (Or.inl (RepC.f_wears hW)) dX6_wear_56 rfl ?_
          refine z_icmp_ge hC (tgt := 89) dX6_wear_57 rfl (by decide) (fun c_11 => ?_) (fun c_11 => ?_)
          · refine s_vret hC hr dX6_wear_89 (le_b rfl) (le_b rfl) ?_
            obtain rfl := nI_lec (by decide) hj c_11
            exact ⟨rfl, rfl⟩
          · refine s_aload_n hC dX6_wear_60 rfl rfl 0 rfl ?_
            refine s_getf hC cs_X6 0 tw_119 (le_b rfl) (RepC.f_shield hW) rfl dX6_wear_61 rfl ?_
            refine s_iload hC dX6_wear_64 rfl 2 rfl ?_
            refine s_dup2_11 hC dX6_wear_66 rfl rfl rfl ?_
            refine s_ialdK hC (Or.inl (RepC.f_wears hW)) (vp_in_nI (hin9 c_11) (by decide)) dX6_wear_67 rfl ?_
            refine s_iload hC dX6_wear_68 rfl 2 rfl ?_
            refine s_iconst hC (v := 2) dX6_wear_70 rfl (by decide) ?_
            refine z_icmp_ge hC (tgt := 80) dX6_wear_71 rfl (by decide) (fun c_12 => ?_) (fun c_12 => ?_)
            · refine s_iload_n hC dX6_wear_80 rfl rfl 1 rfl ?_
              refine s_iadd hC dX6_wear_81 rfl ?_
              refine s_iast hC (RepC.f_wears hW) (vp_in_nI (hin9 c_11) (by decide)) dX6_wear_82 rfl ?_
              refine WP.rc (RepC.w_wears hW _) (fun hR_82 => ?_)
              refine s_iinc hC (v := _ + 1) (j9 := 2) (L' := [(4, _), (0, _), (3, _)]) dX6_wear_83 rfl rfl rfl (le_b rfl) rfl ?_
              refine s_goto hC (tgt := 50) dX6_wear_86 (by decide) ?_
              refine WP.sub (L' := [(0, _), (3, _), (4, _)]) [1, 2, 0] rfl ?_
              refine ih (_, (wup _ _ _), j + 1) ?_ ?_
              · dsimp only
                have h9 := hin9 c_11
                refine ⟨nI_1 j, h9, ?_⟩
                rw [wup_wup, nI_clamp (by omega), wrF]
                first
                  | (rw [if_pos c_12]; rfl)
                  | (rw [if_neg c_12]; rfl)
              · dsimp only
                have h9 := hin9 c_11; omega
            · refine s_iconst hC (v := 2) dX6_wear_74 rfl (by decide) ?_
              refine s_iload_n hC dX6_wear_75 rfl rfl 1 rfl ?_
              refine s_imul hC dX6_wear_76 rfl ?_
              refine s_goto hC (tgt := 81) dX6_wear_77 (by decide) ?_
              refine s_iadd hC dX6_wear_81 rfl ?_
              refine s_iast hC (RepC.f_wears hW) (vp_in_nI (hin9 c_11) (by decide)) dX6_wear_82 rfl ?_
              refine WP.rc (RepC.w_wears hW _) (fun hR_82 => ?_)
              refine s_iinc hC (v := _ + 1) (j9 := 2) (L' := [(4, _), (0, _), (3, _)]) dX6_wear_83 rfl rfl rfl (le_b rfl) rfl ?_
              refine s_goto hC (tgt := 50) dX6_wear_86 (by decide) ?_
              refine WP.sub (L' := [(0, _), (3, _), (4, _)]) [1, 2, 0] rfl ?_
              refine ih (_, (wup _ _ _), j + 1) ?_ ?_
              · dsimp only
                have h9 := hin9 c_11
                refine ⟨nI_1 j, h9, ?_⟩
                rw [wup_wup, nI_clamp (by omega), wrF]
                first
                  | (rw [if_pos c_12]; rfl)
                  | (rw [if_neg c_12]; rfl)
              · dsimp only
                have h9 := hin9 c_11; omega
      · refine s_iconst hC (v := 1) dX6_wear_17 rfl (by decide) ?_
        refine s_goto hC (tgt := 22) dX6_wear_18 (by decide) ?_
        refine s_istore_n hC (L' := [(2, _), (0, _), (1, _)]) dX6_wear_22 rfl rfl (le_b rfl) rfl ?_
        refine s_iload_n hC dX6_wear_23 rfl rfl 0 rfl ?_
        refine z_if_eq hC (tgt := 39) dX6_wear_24 rfl (by decide) (fun c_13 => ((absurd c_13 (by decide) : False)).elim) (fun c_13 => ?_)
        refine s_getsN hC 3 rfl tw_946 dX6_wear_27 rfl ?_
        refine s_iload_n hC dX6_wear_30 rfl rfl 2 rfl ?_
        refine s_callSN hC (ct_X9_at l g _ _ 4 _ _ (ar_st g _ 3 rfl) (by first | decide | assumption)) ce_X9_at tw_948 rfl rfl ⟨⟨le_b rfl, le_b rfl⟩, le_b rfl, le_b rfl⟩ (le_b rfl) dX6_wear_31 rfl (dvk1 ?_) nokx
        refine s_iconst hC (v := 2) dX6_wear_34 rfl (by decide) ?_
        refine s_idiv hC dX6_wear_35 rfl (by decide) ?_
        refine s_goto hC (tgt := 46) dX6_wear_36 (by decide) ?_
        first
          | rw [show atF 4 (stF [1, 4, 12, 20]) k9 / 2 = wearF σ k9 by simp [wearF, c_1, c_5, c_9, c_13]]
          | rw [show atF 4 (stF [1, 4, 12, 20]) k9 = wearF σ k9 by simp [wearF, c_1, c_5, c_9, c_13]]
        refine s_istore_n hC (L' := [(3, _), (2, _), (0, _), (1, _)]) dX6_wear_46 rfl rfl (le_b rfl) rfl ?_
        refine s_iconst hC (v := 0) dX6_wear_47 rfl (by decide) ?_
        refine s_istore hC (L' := [(4, _), (3, _), (2, _), (0, _), (1, _)]) dX6_wear_48 rfl (le_b rfl) rfl ?_
        refine WP.sub (L' := [(0, _), (3, _), (4, _)]) [3, 1, 0] rfl ?_
        refine wp_loop (σ := Int32 × Wd × Nat) (I := fun (i, W, j) => i = nI j ∧ j ≤ 8 ∧ W = wup ω (ad .wears) (.inl (g.2.1 0, 8, .inl (wrF σ.wears (wearF σ k9) j)))) (ωf := fun (i, W, j) => W) (Lf := fun (i, W, j) => [(0, .ref (ad .shield)), (3, .int (wearF σ k9)), (4, .int i)]) (μ := fun (i, W, j) => 8 - j) (x0 := (_, _, 0)) ?_ ?_
        · exact ⟨rfl, Nat.zero_le _, (wup_self (RepC.f_wears hR)).symm⟩
        · rintro ⟨i, W, j⟩ hI ih
          dsimp only at hI ih ⊢
          obtain ⟨rfl, hj, rfl⟩ := hI
          have hin9 : ¬ nI 8 ≤ nI j → j < 8 := nI_ltc (by decide) hj
          have hW := RepC.w_wears hR (wrF σ.wears (wearF σ k9) j)
          refine s_iload hC dX6_wear_50 rfl 2 rfl ?_
          refine s_aload_n hC dX6_wear_52 rfl rfl 0 rfl ?_
          refine s_getf hC cs_X6 0 tw_119 (le_b rfl) (RepC.f_shield hW) rfl dX6_wear_53 rfl ?_
          refine s_alenI hC (Or.inl (RepC.f_wears hW)) dX6_wear_56 rfl ?_
          refine z_icmp_ge hC (tgt := 89) dX6_wear_57 rfl (by decide) (fun c_14 => ?_) (fun c_14 => ?_)
          · refine s_vret hC hr dX6_wear_89 (le_b rfl) (le_b rfl) ?_
            obtain rfl := nI_lec (by decide) hj c_14
            exact ⟨rfl, rfl⟩
          · refine s_aload_n hC dX6_wear_60 rfl rfl 0 rfl ?_
            refine s_getf hC cs_X6 0 tw_119 (le_b rfl) (RepC.f_shield hW) rfl dX6_wear_61 rfl ?_
            refine s_iload hC dX6_wear_64 rfl 2 rfl ?_
            refine s_dup2_11 hC dX6_wear_66 rfl rfl rfl ?_
            refine s_ialdK hC (Or.inl (RepC.f_wears hW)) (vp_in_nI (hin9 c_14) (by decide)) dX6_wear_67 rfl ?_
            refine s_iload hC dX6_wear_68 rfl 2 rfl ?_
            refine s_iconst hC (v := 2) dX6_wear_70 rfl (by decide) ?_
            refine z_icmp_ge hC (tgt := 80) dX6_wear_71 rfl (by decide) (fun c_15 => ?_) (fun c_15 => ?_)
            · refine s_iload_n hC dX6_wear_80 rfl rfl 1 rfl ?_
              refine s_iadd hC dX6_wear_81 rfl ?_
              refine s_iast hC (RepC.f_wears hW) (vp_in_nI (hin9 c_14) (by decide)) dX6_wear_82 rfl ?_
              refine WP.rc (RepC.w_wears hW _) (fun hR_82 => ?_)
              refine s_iinc hC (v := _ + 1) (j9 := 2) (L' := [(4, _), (0, _), (3, _)]) dX6_wear_83 rfl rfl rfl (le_b rfl) rfl ?_
              refine s_goto hC (tgt := 50) dX6_wear_86 (by decide) ?_
              refine WP.sub (L' := [(0, _), (3, _), (4, _)]) [1, 2, 0] rfl ?_
              refine ih (_, (wup _ _ _), j + 1) ?_ ?_
              · dsimp only
                have h9 := hin9 c_14
                refine ⟨nI_1 j, h9, ?_⟩
                rw [wup_wup, nI_clamp (by omega), wrF]
                first
                  | (rw [if_pos c_15]; rfl)
                  | (rw [if_neg c_15]; rfl)
              · dsimp only
                have h9 := hin9 c_14; omega
            · refine s_iconst hC (v := 2) dX6_wear_74 rfl (by decide) ?_
              refine s_iload_n hC dX6_wear_75 rfl rfl 1 rfl ?_
              refine s_imul hC dX6_wear_76 rfl ?_
              refine s_goto hC (tgt := 81) dX6_wear_77 (by decide) ?_
              refine s_iadd hC dX6_wear_81 rfl ?_
              refine s_iast hC (RepC.f_wears hW) (vp_in_nI (hin9 c_14) (by decide)) dX6_wear_82 rfl ?_
              refine WP.rc (RepC.w_wears hW _) (fun hR_82 => ?_)
              refine s_iinc hC (v := _ + 1) (j9 := 2) (L' := [(4, _), (0, _), (3, _)]) dX6_wear_83 rfl rfl rfl (le_b rfl) rfl ?_
              refine s_goto hC (tgt := 50) dX6_wear_86 (by decide) ?_
              refine WP.sub (L' := [(0, _), (3, _), (4, _)]) [1, 2, 0] rfl ?_
              refine ih (_, (wup _ _ _), j + 1) ?_ ?_
              · dsimp only
                have h9 := hin9 c_14
                refine ⟨nI_1 j, h9, ?_⟩
                rw [wup_wup, nI_clamp (by omega), wrF]
                first
                  | (rw [if_pos c_15]; rfl)
                  | (rw [if_neg c_15]; rfl)
              · dsimp only
                have h9 := hin9 c_14; omega
theorem putW_wh (g : Gl) (ω : Wd) (a : Nat) (f : Nat → Int32) (e v : Int32) : putW g ω a 3 f (whF e) v = wup ω a (.inl (g.2.1 0, 3, .inl (upd f (whF e).toNatClampNeg v))) := by
  have h : 0 ≤ whF e ∧ ¬ nI 3 ≤ whF e := by
    unfold whF
    split
    · decide
    · split
      · decide
      · split <;> decide
  rw [putW, if_pos h.1, if_neg h.2]
def adwF (σ : St) (m9 c9 d9 : Int32) : Nat → Int32 := upd σ.waits (whF (awF σ c9 d9)).toNatClampNeg (atF 3 σ.waits (whF (awF σ c9 d9)) + m9)
set_option maxHeartbeats 1000000 in
set_option maxRecDepth 100000 in
theorem ct_X2_addWait (l : Launch) (g : Gl) (ω : Wd) (ad : Ix → Nat) (x : Ex) (σ : St) (hR : RepC g ad x σ ω) (m9 c9 d9 : Int32) : CT l g yX2_addWait cX2_addWait 6 none 2 42 0 0 [.ref (ad .contract), .int m9, .int c9, .int d9] ω (dv none (wup ω (ad .waits) (.inl (g.2.1 0, 3, .inl (adwF σ m9 c9 d9))))) (nox) := by
  refine CT.of (own := "Boringhead$Contract") rfl rfl (le_b rfl) rfl ?_
  intro p e s m args below meth c sz0 hC hr htab hin
  refine s_iload_n hC dX2_addWait_0 rfl rfl 3 rfl ?_
  refine s_bipush hC (v := 45) dX2_addWait_1 rfl (by decide) ?_
  refine z_icmp_eq hC (tgt := 29) dX2_addWait_3 rfl (by decide) (fun c_1 => ?_) (fun c_1 => ?_)
  · refine s_iconst hC (v := 0) dX2_addWait_29 rfl (by decide) ?_
    refine s_istore hC (L' := [(4, _), (0, _), (1, _), (2, _), (3, _)]) dX2_addWait_30 rfl (le_b rfl) rfl ?_
    refine s_iload hC dX2_addWait_32 rfl 0 rfl ?_
    refine z_if_eq hC (tgt := 41) dX2_addWait_34 rfl (by decide) (fun c_2 => ?_) (fun c_2 => ((absurd c_2 (by decide) : False)).elim)
    refine s_iload_n hC dX2_addWait_41 rfl rfl 3 rfl ?_
    refine s_callS hC (ct_X2_ownerOf l g _ _) ce_X2_ownerOf tw_1162 rfl rfl ⟨⟨le_b rfl, le_b rfl⟩, le_b rfl, le_b rfl⟩ (le_b rfl) dX2_addWait_42 rfl (dvk1 ?_) nokx
    refine s_istore hC (L' := [(5, _), (4, _), (0, _), (1, _), (2, _), (3, _)]) dX2_addWait_45 rfl (le_b rfl) rfl ?_
    refine s_aload_n hC dX2_addWait_47 rfl rfl 2 rfl ?_
    refine s_getf hC cs_X2 1 tw_227 (le_b rfl) (RepC.f_contract hR) rfl dX2_addWait_48 rfl ?_
    refine s_iload hC dX2_addWait_51 rfl 0 rfl ?_
    refine s_aload_n hC dX2_addWait_53 rfl rfl 2 rfl ?_
    refine s_getf hC cs_X2 1 tw_227 (le_b rfl) (RepC.f_contract hR) rfl dX2_addWait_54 rfl ?_
    refine s_iload hC dX2_addWait_57 rfl 0 rfl ?_
    refine s_callSN hC (ct_X9_at l g _ _ _ _ _ (Or.inl (RepC.f_waits hR)) (by first | decide | assumption)) ce_X9_at tw_1165 rfl rfl ⟨⟨le_b rfl, le_b rfl⟩, le_b rfl, le_b rfl⟩ (le_b rfl) dX2_addWait_59 rfl (dvk1 ?_) nokx
    refine s_iload_n hC dX2_addWait_62 rfl rfl 3 rfl ?_
    refine s_iadd hC dX2_addWait_63 rfl ?_
    refine s_callSN hC (ct_X9_put l g _ _ _ _ _ _ (RepC.f_waits hR) (by decide)) ce_X9_put tw_1166 rfl rfl ⟨⟨le_b rfl, le_b rfl⟩, le_b rfl, le_b rfl⟩ (le_b rfl) dX2_addWait_64 rfl (dvk0 ?_) nokx
    refine s_vret hC hr dX2_addWait_67 (le_b rfl) (le_b rfl) ?_
    refine ⟨rfl, ?_⟩
    rw [putW_wh, adwF, show awF σ c9 d9 = c9 by simp [awF, c_1, c_2]]
  · refine s_aload_n hC dX2_addWait_6 rfl rfl 0 rfl ?_
    refine s_getf hC cs_X2 0 tw_225 (le_b rfl) (RepC.f_contract hR) rfl dX2_addWait_7 rfl ?_
    refine s_iload_n hC dX2_addWait_10 rfl rfl 3 rfl ?_
    refine s_callSN hC (ct_X9_indexIn l g _ _ _ _ _ (Or.inl (RepC.f_order hR)) (by decide)) ce_X9_indexIn tw_1161 rfl rfl ⟨⟨le_b rfl, le_b rfl⟩, le_b rfl, le_b rfl⟩ (le_b rfl) dX2_addWait_11 rfl (dvk1 ?_) nokx
    refine s_aload_n hC dX2_addWait_14 rfl rfl 0 rfl ?_
    refine s_getf hC cs_X2 0 tw_225 (le_b rfl) (RepC.f_contract hR) rfl dX2_addWait_15 rfl ?_
    refine s_iload_n hC dX2_addWait_18 rfl rfl 2 rfl ?_
    refine s_callSN hC (ct_X9_indexIn l g _ _ _ _ _ (Or.inl (RepC.f_order hR)) (by decide)) ce_X9_indexIn tw_1161 rfl rfl ⟨⟨le_b rfl, le_b rfl⟩, le_b rfl, le_b rfl⟩ (le_b rfl) dX2_addWait_19 rfl (dvk1 ?_) nokx
    refine z_icmp_ge hC (tgt := 29) dX2_addWait_22 rfl (by decide) (fun c_3 => ?_) (fun c_3 => ?_)
    · refine s_iconst hC (v := 0) dX2_addWait_29 rfl (by decide) ?_
      refine s_istore hC (L' := [(4, _), (0, _), (1, _), (2, _), (3, _)]) dX2_addWait_30 rfl (le_b rfl) rfl ?_
      refine s_iload hC dX2_addWait_32 rfl 0 rfl ?_
      refine z_if_eq hC (tgt := 41) dX2_addWait_34 rfl (by decide) (fun c_4 => ?_) (fun c_4 => ((absurd c_4 (by decide) : False)).elim)
      refine s_iload_n hC dX2_addWait_41 rfl rfl 3 rfl ?_
      refine s_callS hC (ct_X2_ownerOf l g _ _) ce_X2_ownerOf tw_1162 rfl rfl ⟨⟨le_b rfl, le_b rfl⟩, le_b rfl, le_b rfl⟩ (le_b rfl) dX2_addWait_42 rfl (dvk1 ?_) nokx
      refine s_istore hC (L' := [(5, _), (4, _), (0, _), (1, _), (2, _), (3, _)]) dX2_addWait_45 rfl (le_b rfl) rfl ?_
      refine s_aload_n hC dX2_addWait_47 rfl rfl 2 rfl ?_
      refine s_getf hC cs_X2 1 tw_227 (le_b rfl) (RepC.f_contract hR) rfl dX2_addWait_48 rfl ?_
      refine s_iload hC dX2_addWait_51 rfl 0 rfl ?_
      refine s_aload_n hC dX2_addWait_53 rfl rfl 2 rfl ?_
      refine s_getf hC cs_X2 1 tw_227 (le_b rfl) (RepC.f_contract hR) rfl dX2_addWait_54 rfl ?_
      refine s_iload hC dX2_addWait_57 rfl 0 rfl ?_
      refine s_callSN hC (ct_X9_at l g _ _ _ _ _ (Or.inl (RepC.f_waits hR)) (by first | decide | assumption)) ce_X9_at tw_1165 rfl rfl ⟨⟨le_b rfl, le_b rfl⟩, le_b rfl, le_b rfl⟩ (le_b rfl) dX2_addWait_59 rfl (dvk1 ?_) nokx
      refine s_iload_n hC dX2_addWait_62 rfl rfl 3 rfl ?_
      refine s_iadd hC dX2_addWait_63 rfl ?_
      refine s_callSN hC (ct_X9_put l g _ _ _ _ _ _ (RepC.f_waits hR) (by decide)) ce_X9_put tw_1166 rfl rfl ⟨⟨le_b rfl, le_b rfl⟩, le_b rfl, le_b rfl⟩ (le_b rfl) dX2_addWait_64 rfl (dvk0 ?_) nokx
      refine s_vret hC hr dX2_addWait_67 (le_b rfl) (le_b rfl) ?_
      refine ⟨rfl, ?_⟩
      rw [putW_wh, adwF, show awF σ c9 d9 = c9 by simp [awF, c_1, c_3, c_4]]
    · refine s_iconst hC (v := 1) dX2_addWait_25 rfl (by decide) ?_
      refine s_goto hC (tgt := 30) dX2_addWait_26 (by decide) ?_
      refine s_istore hC (L' := [(4, _), (0, _), (1, _), (2, _), (3, _)]) dX2_addWait_30 rfl (le_b rfl) rfl ?_
      refine s_iload hC dX2_addWait_32 rfl 0 rfl ?_
      refine z_if_eq hC (tgt := 41) dX2_addWait_34 rfl (by decide) (fun c_5 => ((absurd c_5 (by decide) : False)).elim) (fun c_5 => ?_)
      refine s_iload_n hC dX2_addWait_37 rfl rfl 4 rfl ?_
      refine s_goto hC (tgt := 42) dX2_addWait_38 (by decide) ?_
      refine s_callS hC (ct_X2_ownerOf l g _ _) ce_X2_ownerOf tw_1162 rfl rfl ⟨⟨le_b rfl, le_b rfl⟩, le_b rfl, le_b rfl⟩ (le_b rfl) dX2_addWait_42 rfl (dvk1 ?_) nokx
      refine s_istore hC (L' := [(5, _), (4, _), (0, _), (1, _), (2, _), (3, _)]) dX2_addWait_45 rfl (le_b rfl) rfl ?_
      refine s_aload_n hC dX2_addWait_47 rfl rfl 2 rfl ?_
      refine s_getf hC cs_X2 1 tw_227 (le_b rfl) (RepC.f_contract hR) rfl dX2_addWait_48 rfl ?_
      refine s_iload hC dX2_addWait_51 rfl 0 rfl ?_
      refine s_aload_n hC dX2_addWait_53 rfl rfl 2 rfl ?_
      refine s_getf hC cs_X2 1 tw_227 (le_b rfl) (RepC.f_contract hR) rfl dX2_addWait_54 rfl ?_
      refine s_iload hC dX2_addWait_57 rfl 0 rfl ?_
      refine s_callSN hC (ct_X9_at l g _ _ _ _ _ (Or.inl (RepC.f_waits hR)) (by first | decide | assumption)) ce_X9_at tw_1165 rfl rfl ⟨⟨le_b rfl, le_b rfl⟩, le_b rfl, le_b rfl⟩ (le_b rfl) dX2_addWait_59 rfl (dvk1 ?_) nokx
      refine s_iload_n hC dX2_addWait_62 rfl rfl 3 rfl ?_
      refine s_iadd hC dX2_addWait_63 rfl ?_
      refine s_callSN hC (ct_X9_put l g _ _ _ _ _ _ (RepC.f_waits hR) (by decide)) ce_X9_put tw_1166 rfl rfl ⟨⟨le_b rfl, le_b rfl⟩, le_b rfl, le_b rfl⟩ (le_b rfl) dX2_addWait_64 rfl (dvk0 ?_) nokx
      refine s_vret hC hr dX2_addWait_67 (le_b rfl) (le_b rfl) ?_
      refine ⟨rfl, ?_⟩
      rw [putW_wh, adwF, show awF σ c9 d9 = d9 by simp [awF, c_1, c_3, c_5]]
def pfF (f : Nat → Int32) (q : Nat) : Nat → Int32 := fun k => if k = 0 then f q else if k ≤ q then f (k - 1) else f k
def pgF (f : Nat → Int32) (q j : Nat) : Nat → Int32 := fun k => if j < k ∧ k ≤ q then f (k - 1) else f k
theorem pgF_0 (f : Nat → Int32) (q : Nat) : pgF f q q = f := by
  funext k
  unfold pgF
  rw [if_neg (by omega)]
theorem pgF_up (f : Nat → Int32) {q j : Nat} (h0 : ¬ j = 0) (h : j ≤ q) : upd (pgF f q j) j (pgF f q j (j - 1)) = pgF f q (j - 1) := by
  funext k
  unfold upd pgF
  by_cases hk : k = j
  · subst hk
    rw [if_pos rfl, if_neg (by omega), if_pos (by omega)]
  · rw [if_neg hk]
    by_cases h2 : j < k ∧ k ≤ q
    · rw [if_pos h2, if_pos (by omega)]
    · rw [if_neg h2, if_neg (by omega)]
theorem pgF_end (f : Nat → Int32) (q : Nat) : upd (pgF f q 0) 0 (f q) = pfF f q := by
  funext k
  unfold upd pgF pfF
  by_cases hk : k = 0
  · rw [if_pos hk, if_pos hk]
  · rw [if_neg hk, if_neg hk]
    by_cases h2 : k ≤ q
    · rw [if_pos ⟨by omega, h2⟩, if_pos h2]
    · rw [if_neg (by omega), if_neg h2]
theorem pfF_0 (f : Nat → Int32) : pfF f 0 = f := by
  funext k
  unfold pfF
  by_cases hk : k = 0
  · rw [if_pos hk, hk]
  · rw [if_neg hk, if_neg (by omega)]
theorem pgF_ch {f : Nat → Int32} (h : ∀ k, vp_nar .char (f k) = f k) (q j k : Nat) : vp_nar .char (pgF f q j k) = pgF f q j k := by
  unfold pgF
  split <;> exact h _
theorem nI_dec {j : Nat} (h : ¬ j = 0) : nI j + (-1) = nI (j - 1) := by
  rw [← nI_pr h, Int32.sub_eq_add_neg]
theorem nI_gt0 {n : Nat} (hn : n < 2 ^ 31) (h : ¬ nI n ≤ 0) : ¬ n = 0 := fun z => h (by rw [z]; decide)
theorem nI_z {n : Nat} (hn : n < 2 ^ 31) (h : nI n ≤ 0) : n = 0 := by
  have := (nI_leI hn (by decide : 0 < 2 ^ 31)).mp h
  omega
set_option maxHeartbeats 1000000 in
set_option maxRecDepth 100000 in
theorem ct_X2_putFirst (l : Launch) (g : Gl) (ω : Wd) (ad : Ix → Nat) (x : Ex) (σ : St) (hR : RepC g ad x σ ω) (q9 : Nat) (hq : q9 < 7) (hch : ∀ k, vp_nar .char (σ.order k) = σ.order k) : CT l g yX2_putFirst cX2_putFirst 4 none 0 0 0 0 [.ref (ad .contract), .int (nI q9)] ω (dv none (wup ω (ad .order) (.inl (g.2.1 1, 7, .inl (pfF σ.order q9))))) (nox) := by
  refine CT.of (own := "Boringhead$Contract") rfl rfl (le_b rfl) rfl ?_
  intro p e s m args below meth c sz0 hC hr htab hin
  refine s_iload_n hC dX2_putFirst_0 rfl rfl 1 rfl ?_
  refine z_if_le hC (tgt := 13) dX2_putFirst_1 rfl (by decide) (fun c_1 => ?_) (fun c_1 => ?_)
  · refine s_vret hC hr dX2_putFirst_13 (le_b rfl) (le_b rfl) ?_
    obtain rfl := nI_z (by omega) c_1
    exact ⟨rfl, by rw [pfF_0]; exact (wup_self (RepC.f_order hR)).symm⟩
  · refine s_iload_n hC dX2_putFirst_4 rfl rfl 1 rfl ?_
    refine s_aload_n hC dX2_putFirst_5 rfl rfl 0 rfl ?_
    refine s_getf hC cs_X2 0 tw_225 (le_b rfl) (RepC.f_contract hR) rfl dX2_putFirst_6 rfl ?_
    refine s_alenC hC (Or.inl (RepC.f_order hR)) dX2_putFirst_9 rfl ?_
    refine z_icmp_lt hC (tgt := 14) dX2_putFirst_10 rfl (by decide) (fun c_2 => ?_) (fun c_2 => (nI_nle2 hq (by decide) c_2).elim)
    refine s_aload_n hC dX2_putFirst_14 rfl rfl 0 rfl ?_
    refine s_getf hC cs_X2 0 tw_225 (le_b rfl) (RepC.f_contract hR) rfl dX2_putFirst_15 rfl ?_
    refine s_iload_n hC dX2_putFirst_18 rfl rfl 1 rfl ?_
    refine s_caldK hC (Or.inl (RepC.f_order hR)) (vp_in_nI hq (by decide)) dX2_putFirst_19 rfl ?_
    rw [nI_clamp (by omega)]
    refine s_istore_n hC (L' := [(2, _), (0, _), (1, _)]) dX2_putFirst_20 rfl rfl (le_b rfl) rfl ?_
    refine s_iload_n hC dX2_putFirst_21 rfl rfl 2 rfl ?_
    refine s_istore_n hC (L' := [(3, _), (2, _), (0, _), (1, _)]) dX2_putFirst_22 rfl rfl (le_b rfl) rfl ?_
    refine WP.sub (L' := [(0, _), (2, _), (3, _)]) [2, 1, 0] rfl ?_
    refine wp_loop (σ := Int32 × Wd × Nat) (I := fun (i, W, j) => i = nI j ∧ j ≤ q9 ∧ W = wup ω (ad .order) (.inl (g.2.1 1, 7, .inl (pgF σ.order q9 j)))) (ωf := fun (i, W, j) => W) (Lf := fun (i, W, j) => [(0, .ref (ad .contract)), (2, .int (σ.order q9)), (3, .int i)]) (μ := fun (i, W, j) => j) (x0 := (_, _, q9)) ?_ ?_
    · exact ⟨rfl, Nat.le_refl _, by rw [pgF_0]; exact (wup_self (RepC.f_order hR)).symm⟩
    · rintro ⟨i, W, j⟩ hI ih
      dsimp only at hI ih ⊢
      obtain ⟨rfl, hj, rfl⟩ := hI
      have hW := RepC.w_order hR (pgF σ.order q9 j)
      refine s_iload_n hC dX2_putFirst_23 rfl rfl 2 rfl ?_
      refine z_if_le hC (tgt := 47) dX2_putFirst_24 rfl (by decide) (fun c_3 => ?_) (fun c_3 => ?_)
      · refine s_aload_n hC dX2_putFirst_47 rfl rfl 0 rfl ?_
        refine s_getf hC cs_X2 0 tw_225 (le_b rfl) (RepC.f_contract hW) rfl dX2_putFirst_48 rfl ?_
        refine s_iconst hC (v := 0) dX2_putFirst_51 rfl (by decide) ?_
        refine s_iload_n hC dX2_putFirst_52 rfl rfl 1 rfl ?_
        refine s_cast_c hC (RepC.f_order hW) (vp_in_nI (by decide : 0 < 7) (by decide)) (hch _) dX2_putFirst_53 rfl ?_
        refine WP.rc (RepC.w_order hW _) (fun hR_53 => ?_)
        refine s_vret hC hr dX2_putFirst_54 (le_b rfl) (le_b rfl) ?_
        obtain rfl := nI_z (by omega) c_3
        exact ⟨rfl, by rw [wup_wup]; exact congrArg (fun f9 => wup ω (ad .order) (.inl (g.2.1 1, 7, .inl f9))) (pgF_end σ.order q9)⟩
      · refine s_aload_n hC dX2_putFirst_27 rfl rfl 0 rfl ?_
        refine s_getf hC cs_X2 0 tw_225 (le_b rfl) (RepC.f_contract hW) rfl dX2_putFirst_28 rfl ?_
        refine s_iload_n hC dX2_putFirst_31 rfl rfl 2 rfl ?_
        refine s_aload_n hC dX2_putFirst_32 rfl rfl 0 rfl ?_
        refine s_getf hC cs_X2 0 tw_225 (le_b rfl) (RepC.f_contract hW) rfl dX2_putFirst_33 rfl ?_
        refine s_iload_n hC dX2_putFirst_36 rfl rfl 2 rfl ?_
        refine s_iconst hC (v := 1) dX2_putFirst_37 rfl (by decide) ?_
        refine s_isub hC dX2_putFirst_38 rfl ?_
        refine s_caldK hC (Or.inl (RepC.f_order hW)) (by rw [nI_pr (nI_gt0 (by omega) c_3)]; exact vp_in_nI (by omega) (by decide)) dX2_putFirst_39 rfl ?_
        refine s_cast_c hC (RepC.f_order hW) (vp_in_nI (by omega) (by decide)) (pgF_ch hch q9 j _) dX2_putFirst_40 rfl ?_
        refine WP.rc (RepC.w_order hW _) (fun hR_40 => ?_)
        refine s_iinc hC (v := _ + (-1)) (j9 := 2) (L' := [(3, _), (0, _), (2, _)]) dX2_putFirst_41 rfl rfl rfl (le_b rfl) rfl ?_
        refine s_goto hC (tgt := 23) dX2_putFirst_44 (by decide) ?_
        refine WP.sub (L' := [(0, _), (2, _), (3, _)]) [1, 2, 0] rfl ?_
        refine ih (_, (wup _ _ _), j - 1) ?_ ?_
        · dsimp only
          have hz := nI_gt0 (by omega) c_3
          refine ⟨?_, by omega, ?_⟩
          · exact nI_dec hz
          · refine (wup_wup _ _ _ _).trans ?_
            show wup ω (ad .order) (.inl (g.2.1 1, 7, .inl (upd (pgF σ.order q9 j) (nI j).toNatClampNeg (pgF σ.order q9 j (nI j - 1).toNatClampNeg)))) = _
            rw [nI_pr hz, nI_clamp (by omega), nI_clamp (by omega), pgF_up σ.order hz hj]
        · dsimp only
          have hz := nI_gt0 (by omega) c_3; omega
set_option maxHeartbeats 1000000 in
set_option maxRecDepth 100000 in
theorem ct_X0_init (l : Launch) (g : Gl) (ω : Wd) (a : Nat) (p9 k9 : Int32) (h0 : ω a = some (.inr (5, [.int 0, .int 0]))) : CT l g yX0_init cX0_init 3 none 1 20 0 0 [.ref a, .int p9, .int k9] ω (dv none (wup ω a (.inr (5, bfs ⟨p9, k9⟩)))) (nox) := by
  refine CT.of (own := "Boringhead$Borehole") rfl rfl (le_b rfl) rfl ?_
  intro p e s m args below meth c sz0 hC hr htab hin
  refine s_aload_n hC dX0_init_0 rfl rfl 0 rfl ?_
  refine s_objInit hC tw_609 ⟨le_b rfl, le_b rfl⟩ dX0_init_1 rfl ?_
  refine s_aload_n hC dX0_init_4 rfl rfl 0 rfl ?_
  refine s_iload_n hC dX0_init_5 rfl rfl 1 rfl ?_
  refine s_putF hC hin cs_X0 0 tw_610 (le_b rfl) rfl rfl rfl rfl h0 (le_b rfl) dX0_init_6 rfl ?_
  refine s_aload_n hC dX0_init_9 rfl rfl 0 rfl ?_
  refine s_iload_n hC dX0_init_10 rfl rfl 2 rfl ?_
  refine s_putF hC hin cs_X0 1 tw_612 (le_b rfl) rfl rfl rfl rfl (wup_s _ _ _) (le_b rfl) dX0_init_11 rfl ?_
  refine s_vret hC hr dX0_init_14 (le_b rfl) (le_b rfl) ?_
  exact ⟨rfl, by simp only [wup_wup]; rfl⟩
set_option maxHeartbeats 1000000 in
set_option maxRecDepth 100000 in
theorem ct_X4_init (l : Launch) (g : Gl) (ω : Wd) (a : Nat) (f9 t9 o9 : Int32) (h0 : ω a = some (.inr (9, [.int 0, .int 0, .int 0, .int 0, .int 0, .int 0, .int 0]))) : CT l g yX4_init cX4_init 4 none 1 20 0 0 [.ref a, .int f9, .int t9, .int o9] ω (dv none (wup ω a (.inr (9, hfs ⟨f9, t9, o9, 0, 0, false, 0⟩)))) (nox) := by
  refine CT.of (own := "Boringhead$House") rfl rfl (le_b rfl) rfl ?_
  intro p e s m args below meth c sz0 hC hr htab hin
  refine s_aload_n hC dX4_init_0 rfl rfl 0 rfl ?_
  refine s_objInit hC tw_1036 ⟨le_b rfl, le_b rfl⟩ dX4_init_1 rfl ?_
  refine s_aload_n hC dX4_init_4 rfl rfl 0 rfl ?_
  refine s_iconst hC (v := 0) dX4_init_5 rfl (by decide) ?_
  refine s_putf hC cs_X4 3 tw_1043 (le_b rfl) rfl rfl rfl h0 (le_b rfl) dX4_init_6 rfl ?_
  refine s_aload_n hC dX4_init_9 rfl rfl 0 rfl ?_
  refine s_iconst hC (v := 0) dX4_init_10 rfl (by decide) ?_
  refine s_putf hC cs_X4 4 tw_1045 (le_b rfl) rfl rfl rfl (wup_s _ _ _) (le_b rfl) dX4_init_11 rfl ?_
  refine s_aload_n hC dX4_init_14 rfl rfl 0 rfl ?_
  refine s_iconst hC (v := 0) dX4_init_15 rfl (by decide) ?_
  refine s_putf hC cs_X4 5 tw_1047 (le_b rfl) rfl (by first | rfl | exact bI_nz _) (by first | rfl | exact bI_ft _) (wup_s _ _ _) (le_b rfl) dX4_init_16 rfl ?_
  refine s_aload_n hC dX4_init_19 rfl rfl 0 rfl ?_
  refine s_iconst hC (v := 0) dX4_init_20 rfl (by decide) ?_
  refine s_putf hC cs_X4 6 tw_1049 (le_b rfl) rfl rfl rfl (wup_s _ _ _) (le_b rfl) dX4_init_21 rfl ?_
  refine s_aload_n hC dX4_init_24 rfl rfl 0 rfl ?_
  refine s_iload_n hC dX4_init_25 rfl rfl 1 rfl ?_
  refine s_putF hC hin cs_X4 0 tw_1037 (le_b rfl) rfl rfl rfl rfl (wup_s _ _ _) (le_b rfl) dX4_init_26 rfl ?_
  refine s_aload_n hC dX4_init_29 rfl rfl 0 rfl ?_
  refine s_iload_n hC dX4_init_30 rfl rfl 2 rfl ?_
  refine s_putF hC hin cs_X4 1 tw_1039 (le_b rfl) rfl rfl rfl rfl (wup_s _ _ _) (le_b rfl) dX4_init_31 rfl ?_
  refine s_aload_n hC dX4_init_34 rfl rfl 0 rfl ?_
  refine s_iload_n hC dX4_init_35 rfl rfl 3 rfl ?_
  refine s_putF hC hin cs_X4 2 tw_1041 (le_b rfl) rfl rfl rfl rfl (wup_s _ _ _) (le_b rfl) dX4_init_36 rfl ?_
  refine s_vret hC hr dX4_init_39 (le_b rfl) (le_b rfl) ?_
  exact ⟨rfl, by simp only [wup_wup]; rfl⟩
def rg0 (σ : St) (t9 k9 : Int32) : Rg := ⟨t9, k9, σ.pR, σ.pU, σ.foam, 0, 0, 0, 0, 0, false, false, 0, 0⟩
set_option maxHeartbeats 1000000 in
set_option maxRecDepth 100000 in
theorem ct_X5_init (l : Launch) (g : Gl) (ω : Wd) (ad : Ix → Nat) (x : Ex) (σ : St) (hR : RepC g ad x σ ω) (a : Nat) (hn_a : ∀ k, VC x σ k → ad k ≠ a) (t9 k9 : Int32) (h0 : ω a = some (.inr (10, [.int 0, .int 0, .int 0, .int 0, .int 0, .int 0, .int 0, .int 0, .int 0, .int 0, .int 0, .int 0, .int 0, .int 0]))) : CT l g yX5_init cX5_init 4 none 1 20 0 0 [.ref a, .int t9, .int k9, .ref (ad .shield)] ω (dv none (wup ω a (.inr (10, rfs (rg0 σ t9 k9))))) (nox) := by
  refine CT.of (own := "Boringhead$Ring") rfl rfl (le_b rfl) rfl ?_
  intro p e s m args below meth c sz0 hC hr htab hin
  refine s_aload_n hC dX5_init_0 rfl rfl 0 rfl ?_
  refine s_objInit hC tw_884 ⟨le_b rfl, le_b rfl⟩ dX5_init_1 rfl ?_
  refine s_aload_n hC dX5_init_4 rfl rfl 0 rfl ?_
  refine s_iconst hC (v := 0) dX5_init_5 rfl (by decide) ?_
  refine s_putf hC cs_X5 5 tw_895 (le_b rfl) rfl rfl rfl h0 (le_b rfl) dX5_init_6 rfl ?_
  refine WP.rc (RepC.by hR hn_a _) (fun hR_6 => ?_)
  refine s_aload_n hC dX5_init_9 rfl rfl 0 rfl ?_
  refine s_iconst hC (v := 0) dX5_init_10 rfl (by decide) ?_
  refine s_putf hC cs_X5 6 tw_897 (le_b rfl) rfl rfl rfl (wup_s _ _ _) (le_b rfl) dX5_init_11 rfl ?_
  refine WP.rc (RepC.by hR_6 hn_a _) (fun hR_11 => ?_)
  refine s_aload_n hC dX5_init_14 rfl rfl 0 rfl ?_
  refine s_iconst hC (v := 0) dX5_init_15 rfl (by decide) ?_
  refine s_putf hC cs_X5 7 tw_899 (le_b rfl) rfl rfl rfl (wup_s _ _ _) (le_b rfl) dX5_init_16 rfl ?_
  refine WP.rc (RepC.by hR_11 hn_a _) (fun hR_16 => ?_)
  refine s_aload_n hC dX5_init_19 rfl rfl 0 rfl ?_
  refine s_iconst hC (v := 0) dX5_init_20 rfl (by decide) ?_
  refine s_putf hC cs_X5 8 tw_901 (le_b rfl) rfl rfl rfl (wup_s _ _ _) (le_b rfl) dX5_init_21 rfl ?_
  refine WP.rc (RepC.by hR_16 hn_a _) (fun hR_21 => ?_)
  refine s_aload_n hC dX5_init_24 rfl rfl 0 rfl ?_
  refine s_iconst hC (v := 0) dX5_init_25 rfl (by decide) ?_
  refine s_putf hC cs_X5 9 tw_903 (le_b rfl) rfl rfl rfl (wup_s _ _ _) (le_b rfl) dX5_init_26 rfl ?_
  refine WP.rc (RepC.by hR_21 hn_a _) (fun hR_26 => ?_)
  refine s_aload_n hC dX5_init_29 rfl rfl 0 rfl ?_
  refine s_iconst hC (v := 0) dX5_init_30 rfl (by decide) ?_
  refine s_putf hC cs_X5 10 tw_905 (le_b rfl) rfl (by first | rfl | exact bI_nz _) (by first | rfl | exact bI_ft _) (wup_s _ _ _) (le_b rfl) dX5_init_31 rfl ?_
  refine WP.rc (RepC.by hR_26 hn_a _) (fun hR_31 => ?_)
  refine s_aload_n hC dX5_init_34 rfl rfl 0 rfl ?_
  refine s_iconst hC (v := 0) dX5_init_35 rfl (by decide) ?_
  refine s_putf hC cs_X5 11 tw_907 (le_b rfl) rfl (by first | rfl | exact bI_nz _) (by first | rfl | exact bI_ft _) (wup_s _ _ _) (le_b rfl) dX5_init_36 rfl ?_
  refine WP.rc (RepC.by hR_31 hn_a _) (fun hR_36 => ?_)
  refine s_aload_n hC dX5_init_39 rfl rfl 0 rfl ?_
  refine s_iconst hC (v := 0) dX5_init_40 rfl (by decide) ?_
  refine s_putf hC cs_X5 12 tw_909 (le_b rfl) rfl rfl rfl (wup_s _ _ _) (le_b rfl) dX5_init_41 rfl ?_
  refine WP.rc (RepC.by hR_36 hn_a _) (fun hR_41 => ?_)
  refine s_aload_n hC dX5_init_44 rfl rfl 0 rfl ?_
  refine s_iconst hC (v := 0) dX5_init_45 rfl (by decide) ?_
  refine s_putf hC cs_X5 13 tw_911 (le_b rfl) rfl rfl rfl (wup_s _ _ _) (le_b rfl) dX5_init_46 rfl ?_
  refine WP.rc (RepC.by hR_41 hn_a _) (fun hR_46 => ?_)
  refine s_aload_n hC dX5_init_49 rfl rfl 0 rfl ?_
  refine s_iload_n hC dX5_init_50 rfl rfl 1 rfl ?_
  refine s_putF hC hin cs_X5 0 tw_885 (le_b rfl) rfl rfl rfl rfl (wup_s _ _ _) (le_b rfl) dX5_init_51 rfl ?_
  refine WP.rc (RepC.by hR_46 hn_a _) (fun hR_51 => ?_)
  refine s_aload_n hC dX5_init_54 rfl rfl 0 rfl ?_
  refine s_iload_n hC dX5_init_55 rfl rfl 2 rfl ?_
  refine s_putF hC hin cs_X5 1 tw_887 (le_b rfl) rfl rfl rfl rfl (wup_s _ _ _) (le_b rfl) dX5_init_56 rfl ?_
  refine WP.rc (RepC.by hR_51 hn_a _) (fun hR_56 => ?_)
  refine s_aload_n hC dX5_init_59 rfl rfl 0 rfl ?_
  refine s_aload_n hC dX5_init_60 rfl rfl 3 rfl ?_
  refine s_getfN hC cs_X6 3 tw_127 (le_b rfl) (RepC.f_shield hR_56) rfl dX5_init_61 rfl ?_
  refine s_putF hC hin cs_X5 2 tw_889 (le_b rfl) rfl rfl rfl rfl (wup_s _ _ _) (le_b rfl) dX5_init_64 rfl ?_
  refine WP.rc (RepC.by hR_56 hn_a _) (fun hR_64 => ?_)
  refine s_aload_n hC dX5_init_67 rfl rfl 0 rfl ?_
  refine s_aload_n hC dX5_init_68 rfl rfl 3 rfl ?_
  refine s_getfN hC cs_X6 4 tw_130 (le_b rfl) (RepC.f_shield hR_64) rfl dX5_init_69 rfl ?_
  refine s_putF hC hin cs_X5 3 tw_891 (le_b rfl) rfl rfl rfl rfl (wup_s _ _ _) (le_b rfl) dX5_init_72 rfl ?_
  refine WP.rc (RepC.by hR_64 hn_a _) (fun hR_72 => ?_)
  refine s_aload_n hC dX5_init_75 rfl rfl 0 rfl ?_
  refine s_aload_n hC dX5_init_76 rfl rfl 3 rfl ?_
  refine s_getfN hC cs_X6 2 tw_124 (le_b rfl) (RepC.f_shield hR_72) rfl dX5_init_77 rfl ?_
  refine s_putF hC hin cs_X5 4 tw_893 (le_b rfl) rfl rfl (bI_nz _) (by first | rfl | exact bI_ft _) (wup_s _ _ _) (le_b rfl) dX5_init_80 rfl ?_
  refine WP.rc (RepC.by hR_72 hn_a _) (fun hR_80 => ?_)
  refine s_vret hC hr dX5_init_83 (le_b rfl) (le_b rfl) ?_
  exact ⟨rfl, by simp only [wup_wup]; rfl⟩
