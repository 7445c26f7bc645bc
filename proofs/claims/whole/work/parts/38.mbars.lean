section WPT
variable {p : Program} {l : Launch} {e : Env} {R : Room} {s : State} {m : MethodId} {args : Array Value} {below : List Frame} {meth : Method} {c : Code} {nL : Nat} {g : Gl} {ω0 : Wd} {sz0 : Nat} {Q : State → Prop} {ω : Wd} {k n pc : Nat} {L : List (Nat × Value)} {rest : List Value} {v : Value}
theorem WP.top (v' : Value) (h : v = v') (kk : WP p l e R s m args below meth c g ω0 sz0 Q nL ω k n pc L (v' :: rest)) : WP p l e R s m args below meth c g ω0 sz0 Q nL ω k n pc L (v :: rest) := by
  rw [h]
  exact kk
end WPT
theorem iMax_int (a b : Int32) : (iMax a b).toInt = max a.toInt b.toInt := by
  unfold iMax
  split
  · rename_i h
    rw [Int32.lt_iff_toInt_lt] at h
    omega
  · rename_i h
    rw [Int32.lt_iff_toInt_lt] at h
    omega
theorem nI_subI {a b : Nat} (ha : a ≤ 1000) (hb : b ≤ 1000) : (nI a - nI b).toInt = (a : Int) - b := by
  rw [Int32.toInt_sub, nI_toInt (by omega), nI_toInt (by omega)]
  exact Int.bmod_eq_of_le (by omega) (by omega)
def awM (f : Nat → Int32) (p : Int32) : Int32 := if f (Int32.toNatClampNeg 0) ≤ p then (if p ≤ f (Int32.toNatClampNeg 1) then 0 else p - f (Int32.toNatClampNeg 1)) else f (Int32.toNatClampNeg 0) - p
def hLe (s : St) : Prop := ∀ i, i < s.nh → (s.hs i).fr ≤ (s.hs i).to
theorem awM_eq {s : St} (hh : hIn s) (hl : hLe s) {j p : Nat} (hj : j < s.nh) (hp : p < 200) : awayF (s.hs j) (nI p) = awM (hsA (s.hs j)) (nI p) := by
  obtain ⟨b, c, e, g1, g2, g3, g4, g5, g6⟩ := hh j hj
  have hbc := hl j hj
  rw [g4, g5] at hbc
  have hbc := (nI_leI (by omega) (by omega)).mp hbc
  have h0 : hsA (s.hs j) (Int32.toNatClampNeg 0) = nI b := g4
  have h1 : hsA (s.hs j) (Int32.toNatClampNeg 1) = nI c := g5
  apply Int32.toInt_inj.mp
  rw [awayF, iMax_int, iMax_int, g4, g5, nI_subI (by omega) (by omega), nI_subI (by omega) (by omega), awM, h0, h1]
  have hz : (0 : Int32).toInt = 0 := rfl
  by_cases k1 : b ≤ p
  · rw [if_pos (nI_le k1 (by omega))]
    by_cases k2 : p ≤ c
    · rw [if_pos (nI_le k2 (by omega)), hz]
      omega
    · rw [if_neg (nI_nle2 (by omega) (by omega)), nI_subI (by omega) (by omega), hz]
      omega
  · rw [if_neg (nI_nle2 (by omega) (by omega)), nI_subI (by omega) (by omega), hz]
    omega
theorem col_r (h : Hs) : decide (colF h = 114) = (decide (bI h.wr = 1) && decide (50 ≤ h.re)) := by
  have h25 : (50 : Int32) ≤ h.re → 20 ≤ h.re := fun h1 => Int32.le_trans (by decide) h1
  unfold colF
  cases h.wr
  · rfl
  · by_cases h1 : (50 : Int32) ≤ h.re
    · simp [h1, h25 h1, bI]
    · by_cases h2 : (20 : Int32) ≤ h.re
      · simp [h1, h2, bI]
      · simp [h1, h2, bI]
theorem redF_m {s : St} (hh : hIn s) (hl : hLe s) {j p : Nat} (hj : j < s.nh) (hp : p < 200) : redF s (nI p) (j + 1) = (redF s (nI p) j || (decide (awM (hsA (s.hs j)) (nI p) ≤ 10) && (decide (bI (s.hs j).wr = 1) && decide (50 ≤ (s.hs j).re)))) := by
  rw [redF, awM_eq hh hl hj hp, col_r]
set_option maxHeartbeats 1000000 in
set_option maxRecDepth 100000 in
theorem ct_X11_away (l : Launch) (g : Gl) (ω : Wd) (a : Nat) (f : Nat → Int32) (p9 : Int32) (ha : ω a = some (.inl (g.2.1 0, 7, .inl f))) : CT l g yX11_away cX11_away 2 (some .int) 0 0 0 0 [.ref a, .int p9] ω (dv (some (.int (awM f p9))) ω) (nox) := by
  refine CT.of (own := "BoringheadModel") rfl rfl (le_b rfl) rfl ?_
  intro p e s m args below meth c sz0 hC hr htab hin
  refine s_iload_n hC dX11_away_0 rfl rfl 1 rfl ?_
  refine s_aload_n hC dX11_away_1 rfl rfl 0 rfl ?_
  refine s_iconst hC (v := 0) dX11_away_2 rfl (by decide) ?_
  refine s_ialdK hC (Or.inl ha) (vp_in_nI (by decide : 0 < 7) (by decide)) dX11_away_3 rfl ?_
  refine z_icmp_ge hC (tgt := 15) dX11_away_4 rfl (by decide) (fun c_1 => ?_) (fun c_1 => ?_)
  · refine s_iload_n hC dX11_away_15 rfl rfl 1 rfl ?_
    refine s_aload_n hC dX11_away_16 rfl rfl 0 rfl ?_
    refine s_iconst hC (v := 1) dX11_away_17 rfl (by decide) ?_
    refine s_ialdK hC (Or.inl ha) (vp_in_nI (by decide : 1 < 7) (by decide)) dX11_away_18 rfl ?_
    refine z_icmp_le hC (tgt := 30) dX11_away_19 rfl (by decide) (fun c_2 => ?_) (fun c_2 => ?_)
    · refine s_iconst hC (v := 0) dX11_away_30 rfl (by decide) ?_
      refine s_iret hC hr dX11_away_31 (le_b rfl) (le_b rfl) ?_
      exact ⟨by simp only [awM, c_1, c_2, if_true, if_false], rfl⟩
    · refine s_iload_n hC dX11_away_22 rfl rfl 1 rfl ?_
      refine s_aload_n hC dX11_away_23 rfl rfl 0 rfl ?_
      refine s_iconst hC (v := 1) dX11_away_24 rfl (by decide) ?_
      refine s_ialdK hC (Or.inl ha) (vp_in_nI (by decide : 1 < 7) (by decide)) dX11_away_25 rfl ?_
      refine s_isub hC dX11_away_26 rfl ?_
      refine s_goto hC (tgt := 31) dX11_away_27 (by decide) ?_
      refine s_iret hC hr dX11_away_31 (le_b rfl) (le_b rfl) ?_
      exact ⟨by simp only [awM, c_1, c_2, if_true, if_false], rfl⟩
  · refine s_aload_n hC dX11_away_7 rfl rfl 0 rfl ?_
    refine s_iconst hC (v := 0) dX11_away_8 rfl (by decide) ?_
    refine s_ialdK hC (Or.inl ha) (vp_in_nI (by decide : 0 < 7) (by decide)) dX11_away_9 rfl ?_
    refine s_iload_n hC dX11_away_10 rfl rfl 1 rfl ?_
    refine s_isub hC dX11_away_11 rfl ?_
    refine s_goto hC (tgt := 31) dX11_away_12 (by decide) ?_
    refine s_iret hC hr dX11_away_31 (le_b rfl) (le_b rfl) ?_
    exact ⟨by simp only [awM, c_1, if_true, if_false], rfl⟩
theorem n120 {n : Nat} (h : n ≤ 120) : ((120 : Int32) ≤ nI n) = (nI n = 120) := by
  apply propext
  constructor
  · intro h1
    have h2 : 120 ≤ n := (nI_leI (by decide : 120 < 2 ^ 31) (by omega)).mp h1
    obtain rfl : n = 120 := by omega
    rfl
  · intro h1
    rw [h1]
    decide
theorem t_nm1 {t : Int32} (h : inR t 0 7 = true) : ¬ t = -1 := by
  intro h1
  subst h1
  exact absurd h (by decide)
theorem ltF_0 {s : St} {t : Int32} (h : inR t 0 7 = true) (hn : s.n = 0) : ¬ t = ltF s := by
  rw [ltF, if_pos hn]
  exact t_nm1 h
theorem ltF_s {s : St} (hn : ¬ s.n = 0) : ltF s = (s.ring (s.n - 1)).turn := by
  rw [ltF, if_neg hn]
set_option maxHeartbeats 1000000 in
set_option maxRecDepth 100000 in
theorem ct_X11_barsNow (l : Launch) (g : Gl) (ω : Wd) (ad : Iy → Nat) (y : Ey) (σ : St) (hR : RepM g ad y σ ω) (t9 : Int32) (ht : inR t9 0 7 = true) (hk : kIn σ) (hn : nOK σ) (hh : hIn σ) (hl : hLe σ) (hsg : 0 ≤ σ.seg) : CT l g yX11_barsNow cX11_barsNow 8 (some .char) 3 64 1 4 [.ref (ad .main), .int t9] ω (fun r w => r = some (.int (barF σ t9)) ∧ RepM g ad y σ w) (nox) := by
  have hn120 : σ.n ≤ 120 := hn
  have h120 := n120 hn120
  have hsq := le00 hsg
  have hkn : atF 200 σ.kinds (nI σ.n) = σ.kinds σ.n := by rw [atF_in (by decide) (by omega)]
  refine CT.of (own := "BoringheadModel") rfl rfl (le_b rfl) rfl ?_
  intro p e s m args below meth c sz0 hC hr htab hin
  refine s_aload_n hC dX11_barsNow_0 rfl rfl 0 rfl ?_
  refine s_getf hC cs_X11 8 tw_1257 (le_b rfl) (RepM.f_main hR) rfl dX11_barsNow_1 rfl ?_
  refine s_callF hC (nA := 0) 0 (ct_Jx4a65c_size_8abf5 l g _ _ _ _ _ (RepM.f_rings hR)) rfl tw_276 tw_5 tw_274 tw_1431 (by decide +kernel) cs_Jx4a65c (RepM.f_rings hR) tw_1427 rfl rfl ⟨⟨le_b rfl, le_b rfl⟩, le_b rfl, le_b rfl⟩ (le_b rfl) dX11_barsNow_4 rfl (dvk1 ?_) nokx
  refine s_istore_n hC (L' := [(2, _), (0, _), (1, _)]) dX11_barsNow_9 rfl rfl (le_b rfl) rfl ?_
  refine s_iconst hC (v := 0) dX11_barsNow_10 rfl (by decide) ?_
  refine s_istore_n hC (L' := [(3, _), (2, _), (0, _), (1, _)]) dX11_barsNow_11 rfl rfl (le_b rfl) rfl ?_
  refine s_aload_n hC dX11_barsNow_12 rfl rfl 2 rfl ?_
  refine s_getf hC cs_X11 9 tw_1258 (le_b rfl) (RepM.f_main hR) rfl dX11_barsNow_13 rfl ?_
  refine s_astore hC (L' := [(4, _), (3, _), (2, _), (0, _), (1, _)]) dX11_barsNow_16 rfl (le_b rfl) rfl ?_
  refine s_aload hC dX11_barsNow_18 rfl 0 rfl ?_
  refine s_alenI hC (Or.inl (RepM.f_wears hR)) dX11_barsNow_20 rfl ?_
  refine s_istore hC (L' := [(5, _), (4, _), (3, _), (2, _), (0, _), (1, _)]) dX11_barsNow_21 rfl (le_b rfl) rfl ?_
  refine s_iconst hC (v := 0) dX11_barsNow_23 rfl (by decide) ?_
  refine s_istore hC (L' := [(6, _), (5, _), (4, _), (3, _), (2, _), (0, _), (1, _)]) dX11_barsNow_24 rfl (le_b rfl) rfl ?_
  refine WP.sub (L' := [(0, _), (1, _), (2, _), (3, _), (4, _), (5, _), (6, _)]) [5, 6, 4, 3, 2, 1, 0] rfl ?_
  refine wp_loop (σ := Bool × Int32 × Nat) (I := fun (o9, i, j) => i = nI j ∧ j ≤ 8 ∧ o9 = wornF σ.wears j) (ωf := fun (o9, i, j) => ω) (Lf := fun (o9, i, j) => [(0, .ref (ad .main)), (1, .int t9), (2, .int (nI σ.n)), (3, .int (bI o9)), (4, .ref (ad .wears)), (5, .int (nI 8)), (6, .int i)]) (μ := fun (o9, i, j) => 8 - j) (x0 := (false, _, 0)) ?_ ?_
  · exact ⟨rfl, Nat.zero_le _, rfl⟩
  · rintro ⟨o9, i, j⟩ hI ih
    dsimp only at hI ih ⊢
    obtain ⟨rfl, hj, rfl⟩ := hI
    have hin9 : ¬ nI 8 ≤ nI j → j < 8 := nI_ltc (by decide) hj
    refine s_iload hC dX11_barsNow_26 rfl 6 rfl ?_
    refine s_iload hC dX11_barsNow_28 rfl 5 rfl ?_
    refine z_icmp_ge hC (tgt := 63) dX11_barsNow_30 rfl (by decide) (fun c_1 => ?_) (fun c_1 => ?_)
    · obtain rfl := nI_lec (by decide : 8 < 2 ^ 31) hj c_1
      refine s_iconst hC (v := 0) dX11_barsNow_63 rfl (by decide) ?_
      refine s_istore hC (L' := [(4, _), (0, _), (1, _), (2, _), (3, _), (5, _), (6, _)]) dX11_barsNow_64 rfl (le_b rfl) rfl ?_
      refine s_aload_n hC dX11_barsNow_66 rfl rfl 1 rfl ?_
      refine s_getf hC cs_X11 10 tw_1259 (le_b rfl) (RepM.f_main hR) rfl dX11_barsNow_67 rfl ?_
      refine s_callF hC (nA := 0) 2 (ct_Jx4a65c_iterator_32c93 l g _ _ _ _ _ (RepM.f_houses hR)) rfl tw_1501 tw_5 tw_1499 tw_1497 (by decide +kernel) cs_Jx4a65c (RepM.f_houses hR) tw_1494 rfl rfl ⟨⟨le_b rfl, le_b rfl⟩, le_b rfl, le_b rfl⟩ (le_b rfl) dX11_barsNow_70 rfl (fun r w h9 => ?_) nokx
      obtain ⟨q, rfl, hq9, rfl⟩ := h9
      have hnq := RepM.ne hR hq9
      refine s_astore hC (L' := [(5, _), (4, _), (0, _), (1, _), (2, _), (3, _), (6, _)]) dX11_barsNow_75 rfl (le_b rfl) rfl ?_
      refine WP.sub (L' := [(0, _), (1, _), (2, _), (3, _), (4, _), (5, _)]) [2, 3, 4, 5, 1, 0] rfl ?_
      refine wp_loop (σ := Bool × Int32 × Wd × Nat) (I := fun (rd, lr, W, j) => j ≤ σ.nh ∧ rd = redF σ (nI σ.n) j ∧ W = wup (ω) q (itE (nI j) lr (y).mH (ad .houses))) (ωf := fun (rd, lr, W, j) => W) (Lf := fun (rd, lr, W, j) => [(0, .ref (ad .main)), (1, .int t9), (2, .int (nI σ.n)), (3, .int (bI (wornF σ.wears 8))), (4, .int (bI rd)), (5, .ref q)]) (μ := fun (rd, lr, W, j) => σ.nh - j) (x0 := (false, (-1), _, 0)) ?_ ?_
      · exact ⟨Nat.zero_le _, rfl, by rw [nI_0]⟩
      · rintro ⟨rd, lr, W, j⟩ hI ih
        dsimp only at hI ih ⊢
        obtain ⟨hj, rfl, rfl⟩ := hI
        have hW := RepM.by hR hnq (itE (nI j) lr (y).mH (ad .houses))
        refine s_aload hC dX11_barsNow_77 rfl 5 rfl ?_
        refine s_callF hC (nA := 0) 5 (ct_Jx35411_hasNext_aae02 l g _ _ _ _ _ _ _ _ (wup_s _ _ _) (RepM.f_houses hW) (RepM.b_house hR) hj) rfl tw_1530 tw_29 tw_1528 tw_1526 (by decide +kernel) cs_Jx35411 (wup_s _ _ _) tw_1522 rfl rfl ⟨⟨le_b rfl, le_b rfl⟩, le_b rfl, le_b rfl⟩ (le_b rfl) dX11_barsNow_79 rfl (dvk1 ?_) nokx
        refine z_if_eqB hC (tgt := 143) dX11_barsNow_84 rfl (by decide) (fun c_2 => ?_) (fun c_2 => ?_)
        · obtain rfl : j = σ.nh := by
            have h9 := of_decide_eq_false c_2
            omega
          refine s_iload_n hC dX11_barsNow_143 rfl rfl 2 rfl ?_
          refine s_bipush hC (v := 120) dX11_barsNow_144 rfl (by decide) ?_
          refine z_icmp_ne hC (tgt := 152) dX11_barsNow_146 rfl (by decide) (fun c_3 => ?_) (fun c_3 => ?_)
          · refine s_aload_n hC dX11_barsNow_152 rfl rfl 0 rfl ?_
            refine s_getf hC cs_X11 11 tw_1260 (le_b rfl) (RepM.f_main hW) rfl dX11_barsNow_153 rfl ?_
            refine s_i2l hC dX11_barsNow_156 rfl rfl ?_
            refine s_aload_n hC dX11_barsNow_157 rfl rfl 0 rfl ?_
            refine s_iload_n hC dX11_barsNow_158 rfl rfl 2 rfl ?_
            refine s_gets hC 11 rfl tw_1563 dX11_barsNow_159 rfl ?_
            refine s_callV hC (ct_X11_bound l g _ _ _ _ hW hk _ (show σ.n < 200 by omega) _ _ (ar_st g _ 11 rfl)) ce_X11_bound cs_X11 (RepM.f_main hW) tw_1565 rfl rfl ⟨⟨le_b rfl, le_b rfl⟩, le_b rfl, le_b rfl⟩ (le_b rfl) dX11_barsNow_162 rfl (dvk1 ?_) nokx
            refine s_i2l hC dX11_barsNow_165 rfl rfl ?_
            refine s_aload_n hC dX11_barsNow_166 rfl rfl 0 rfl ?_
            refine s_iload_n hC dX11_barsNow_167 rfl rfl 2 rfl ?_
            refine s_gets hC 12 rfl tw_1573 dX11_barsNow_168 rfl ?_
            refine s_callV hC (ct_X11_bound l g _ _ _ _ hW hk _ (show σ.n < 200 by omega) _ _ (ar_st g _ 12 rfl)) ce_X11_bound cs_X11 (RepM.f_main hW) tw_1565 rfl rfl ⟨⟨le_b rfl, le_b rfl⟩, le_b rfl, le_b rfl⟩ (le_b rfl) dX11_barsNow_171 rfl (dvk1 ?_) nokx
            refine s_i2l hC dX11_barsNow_174 rfl rfl ?_
            refine s_callS hC (ct_X11_in l g _ _ _ _) ce_X11_in tw_1419 rfl rfl ⟨⟨le_b rfl, le_b rfl⟩, le_b rfl, le_b rfl⟩ (le_b rfl) dX11_barsNow_175 rfl (dvk1 ?_) nokx
            rw [inJ_inR σ.press (bdF σ 4 (stF [2, 4, 0, 3]) (nI σ.n)) (bdF σ 4 (stF [8, 5, 20, 7]) (nI σ.n)) (by first | rfl | decide) (by first | rfl | decide)]
            refine z_if_neB hC (tgt := 184) dX11_barsNow_178 rfl (by decide) (fun c_4 => ?_) (fun c_4 => ?_)
            · refine s_iload_n hC dX11_barsNow_184 rfl rfl 2 rfl ?_
              refine z_if_le hC (tgt := 214) dX11_barsNow_185 rfl (by decide) (fun c_5 => ?_) (fun c_5 => ?_)
              · have hlt2 : (t9 = ltF σ) = False := eq_false (ltF_0 ht ((nI_eq (by omega) (by decide : 0 < 2 ^ 31)).mp (Int32.le_antisymm c_5 (nI_pos' (by omega)))))
                refine s_iconst hC (v := 0) dX11_barsNow_214 rfl (by decide) ?_
                refine s_istore hC (L' := [(5, _), (0, _), (1, _), (2, _), (3, _), (4, _)]) dX11_barsNow_215 rfl (le_b rfl) rfl ?_
                refine s_iload_n hC dX11_barsNow_217 rfl rfl 4 rfl ?_
                refine z_if_eqB hC (tgt := 226) dX11_barsNow_218 rfl (by decide) (fun c_6 => ?_) (fun c_6 => ?_)
                · refine s_aload_n hC dX11_barsNow_226 rfl rfl 1 rfl ?_
                  refine s_getf hC cs_X11 17 tw_1266 (le_b rfl) (RepM.f_main hW) rfl dX11_barsNow_227 rfl ?_
                  refine z_if_ne hC (tgt := 238) dX11_barsNow_230 rfl (by decide) (fun c_7 => ?_) (fun c_7 => ?_)
                  · have hs9 : (σ.seg ≤ 0) = False := eq_false (fun h9 => c_7 (hsq.mp h9))
                    refine s_sipush hC (v := 2000) dX11_barsNow_238 rfl (by decide) ?_
                    refine s_aload_n hC dX11_barsNow_241 rfl rfl 1 rfl ?_
                    refine s_getf hC cs_X11 18 tw_1267 (le_b rfl) (RepM.f_main hW) rfl dX11_barsNow_242 rfl ?_
                    refine s_isub hC dX11_barsNow_245 rfl ?_
                    refine s_aload_n hC dX11_barsNow_246 rfl rfl 1 rfl ?_
                    refine s_iload_n hC dX11_barsNow_247 rfl rfl 3 rfl ?_
                    refine s_callV hC (ct_X11_muckOf l g _ _ _ _ hW hk _ (by omega)) ce_X11_muckOf cs_X11 (RepM.f_main hW) tw_1614 rfl rfl ⟨⟨le_b rfl, le_b rfl⟩, le_b rfl, le_b rfl⟩ (le_b rfl) dX11_barsNow_248 rfl (dvk1 ?_) nokx
                    refine z_icmp_ge hC (tgt := 259) dX11_barsNow_251 rfl (by decide) (fun c_8 => ?_) (fun c_8 => ?_)
                    · refine s_iload hC dX11_barsNow_259 rfl 0 rfl ?_
                      refine z_if_eq hC (tgt := 269) dX11_barsNow_261 rfl (by decide) (fun c_9 => ?_) (fun c_9 => ((absurd c_9 (by decide) : False)).elim)
                      refine s_iload hC dX11_barsNow_269 rfl 5 rfl ?_
                      refine z_if_eqB hC (tgt := 279) dX11_barsNow_271 rfl (by decide) (fun c_10 => ?_) (fun c_10 => ?_)
                      · refine s_bipush hC (v := 45) dX11_barsNow_279 rfl (by decide) ?_
                        refine s_zret hC hr dX11_barsNow_281 rfl (le_b rfl) (le_b rfl) ?_
                        exact ⟨by simp only [barF, h120, hkn, hlt2, hs9, c_1, c_2, c_3, c_4, c_6, c_8, c_9, c_10, if_true, if_false, Bool.false_eq_true, Bool.true_eq_false, reduceCtorEq], hW⟩
                      · refine s_bipush hC (v := 97) dX11_barsNow_274 rfl (by decide) ?_
                        refine s_goto hC (tgt := 281) dX11_barsNow_276 (by decide) ?_
                        refine s_zret hC hr dX11_barsNow_281 rfl (le_b rfl) (le_b rfl) ?_
                        exact ⟨by simp only [barF, h120, hkn, hlt2, hs9, c_1, c_2, c_3, c_4, c_6, c_8, c_9, c_10, if_true, if_false, Bool.false_eq_true, Bool.true_eq_false, reduceCtorEq], hW⟩
                    · refine s_bipush hC (v := 109) dX11_barsNow_254 rfl (by decide) ?_
                      refine s_goto hC (tgt := 281) dX11_barsNow_256 (by decide) ?_
                      refine s_zret hC hr dX11_barsNow_281 rfl (le_b rfl) (le_b rfl) ?_
                      exact ⟨by simp only [barF, h120, hkn, hlt2, hs9, c_1, c_2, c_3, c_4, c_6, c_8, if_true, if_false, Bool.false_eq_true, Bool.true_eq_false, reduceCtorEq], hW⟩
                  · have hs9 : (σ.seg ≤ 0) = True := eq_true (hsq.mpr c_7)
                    refine s_bipush hC (v := 115) dX11_barsNow_233 rfl (by decide) ?_
                    refine s_goto hC (tgt := 281) dX11_barsNow_235 (by decide) ?_
                    refine s_zret hC hr dX11_barsNow_281 rfl (le_b rfl) (le_b rfl) ?_
                    exact ⟨by simp only [barF, h120, hkn, hlt2, hs9, c_1, c_2, c_3, c_4, c_6, if_true, if_false, Bool.false_eq_true, Bool.true_eq_false, reduceCtorEq], hW⟩
                · refine s_bipush hC (v := 99) dX11_barsNow_221 rfl (by decide) ?_
                  refine s_goto hC (tgt := 281) dX11_barsNow_223 (by decide) ?_
                  refine s_zret hC hr dX11_barsNow_281 rfl (le_b rfl) (le_b rfl) ?_
                  exact ⟨by simp only [barF, h120, hkn, hlt2, c_1, c_2, c_3, c_4, c_6, if_true, if_false, Bool.false_eq_true, Bool.true_eq_false, reduceCtorEq], hW⟩
              · have hlt0 : ¬ σ.n = 0 := fun h9 => c_5 (by rw [h9]; decide)
                have hpr : nI σ.n - 1 = nI (σ.n - 1) := by obtain ⟨n9, hn9⟩ := Nat.exists_eq_succ_of_ne_zero hlt0; rw [hn9]; exact nI_pred n9
                have hlt := ltF_s hlt0
                have hpl : σ.n - 1 < σ.n := pred_lt hlt0
                refine s_aload_n hC dX11_barsNow_188 rfl rfl 0 rfl ?_
                refine s_getf hC cs_X11 8 tw_1257 (le_b rfl) (RepM.f_main hW) rfl dX11_barsNow_189 rfl ?_
                refine s_iload_n hC dX11_barsNow_192 rfl rfl 2 rfl ?_
                refine s_iconst hC (v := 1) dX11_barsNow_193 rfl (by decide) ?_
                refine s_isub hC dX11_barsNow_194 rfl ?_
                rw [hpr]
                refine s_callF hC (nA := 1) 3 (ct_Jx4a65c_get_915e3 l g _ _ _ _ _ (RepM.f_rings hW) _ _ (RepM.p_ring hW hpl).2.1 (RepM.p_ring hW hpl).2.2.1 _ _ (RepM.p_ring hW hpl).2.2.2.1 hpl (RepM.p_ring hW hpl).2.2.2.2) rfl tw_288 tw_5 tw_286 tw_1610 (by decide +kernel) cs_Jx4a65c (RepM.f_rings hW) tw_1607 rfl rfl ⟨⟨le_b rfl, le_b rfl⟩, le_b rfl, le_b rfl⟩ (le_b rfl) dX11_barsNow_195 rfl (dvk1 ?_) nokx
                refine s_cast hC cs_X10 tw_1613 (RepM.f_ring hW hpl) dX11_barsNow_200 rfl ?_
                refine s_getfN hC cs_X10 0 tw_1638 (le_b rfl) (RepM.f_ring hW hpl) rfl dX11_barsNow_203 rfl ?_
                refine s_iload_n hC dX11_barsNow_206 rfl rfl 1 rfl ?_
                refine z_icmp_ne hC (tgt := 214) dX11_barsNow_207 rfl (by decide) (fun c_11 => ?_) (fun c_11 => ?_)
                · have hlt2 : (t9 = ltF σ) = False := eq_false (fun h9 => c_11 (by rw [← hlt]; exact h9.symm))
                  refine s_iconst hC (v := 0) dX11_barsNow_214 rfl (by decide) ?_
                  refine s_istore hC (L' := [(5, _), (0, _), (1, _), (2, _), (3, _), (4, _)]) dX11_barsNow_215 rfl (le_b rfl) rfl ?_
                  refine s_iload_n hC dX11_barsNow_217 rfl rfl 4 rfl ?_
                  refine z_if_eqB hC (tgt := 226) dX11_barsNow_218 rfl (by decide) (fun c_12 => ?_) (fun c_12 => ?_)
                  · refine s_aload_n hC dX11_barsNow_226 rfl rfl 1 rfl ?_
                    refine s_getf hC cs_X11 17 tw_1266 (le_b rfl) (RepM.f_main hW) rfl dX11_barsNow_227 rfl ?_
                    refine z_if_ne hC (tgt := 238) dX11_barsNow_230 rfl (by decide) (fun c_13 => ?_) (fun c_13 => ?_)
                    · have hs9 : (σ.seg ≤ 0) = False := eq_false (fun h9 => c_13 (hsq.mp h9))
                      refine s_sipush hC (v := 2000) dX11_barsNow_238 rfl (by decide) ?_
                      refine s_aload_n hC dX11_barsNow_241 rfl rfl 1 rfl ?_
                      refine s_getf hC cs_X11 18 tw_1267 (le_b rfl) (RepM.f_main hW) rfl dX11_barsNow_242 rfl ?_
                      refine s_isub hC dX11_barsNow_245 rfl ?_
                      refine s_aload_n hC dX11_barsNow_246 rfl rfl 1 rfl ?_
                      refine s_iload_n hC dX11_barsNow_247 rfl rfl 3 rfl ?_
                      refine s_callV hC (ct_X11_muckOf l g _ _ _ _ hW hk _ (by omega)) ce_X11_muckOf cs_X11 (RepM.f_main hW) tw_1614 rfl rfl ⟨⟨le_b rfl, le_b rfl⟩, le_b rfl, le_b rfl⟩ (le_b rfl) dX11_barsNow_248 rfl (dvk1 ?_) nokx
                      refine z_icmp_ge hC (tgt := 259) dX11_barsNow_251 rfl (by decide) (fun c_14 => ?_) (fun c_14 => ?_)
                      · refine s_iload hC dX11_barsNow_259 rfl 0 rfl ?_
                        refine z_if_eq hC (tgt := 269) dX11_barsNow_261 rfl (by decide) (fun c_15 => ?_) (fun c_15 => ((absurd c_15 (by decide) : False)).elim)
                        refine s_iload hC dX11_barsNow_269 rfl 5 rfl ?_
                        refine z_if_eqB hC (tgt := 279) dX11_barsNow_271 rfl (by decide) (fun c_16 => ?_) (fun c_16 => ?_)
                        · refine s_bipush hC (v := 45) dX11_barsNow_279 rfl (by decide) ?_
                          refine s_zret hC hr dX11_barsNow_281 rfl (le_b rfl) (le_b rfl) ?_
                          exact ⟨by simp only [barF, h120, hkn, hlt2, hs9, c_1, c_2, c_3, c_4, c_12, c_14, c_15, c_16, if_true, if_false, Bool.false_eq_true, Bool.true_eq_false, reduceCtorEq], hW⟩
                        · refine s_bipush hC (v := 97) dX11_barsNow_274 rfl (by decide) ?_
                          refine s_goto hC (tgt := 281) dX11_barsNow_276 (by decide) ?_
                          refine s_zret hC hr dX11_barsNow_281 rfl (le_b rfl) (le_b rfl) ?_
                          exact ⟨by simp only [barF, h120, hkn, hlt2, hs9, c_1, c_2, c_3, c_4, c_12, c_14, c_15, c_16, if_true, if_false, Bool.false_eq_true, Bool.true_eq_false, reduceCtorEq], hW⟩
                      · refine s_bipush hC (v := 109) dX11_barsNow_254 rfl (by decide) ?_
                        refine s_goto hC (tgt := 281) dX11_barsNow_256 (by decide) ?_
                        refine s_zret hC hr dX11_barsNow_281 rfl (le_b rfl) (le_b rfl) ?_
                        exact ⟨by simp only [barF, h120, hkn, hlt2, hs9, c_1, c_2, c_3, c_4, c_12, c_14, if_true, if_false, Bool.false_eq_true, Bool.true_eq_false, reduceCtorEq], hW⟩
                    · have hs9 : (σ.seg ≤ 0) = True := eq_true (hsq.mpr c_13)
                      refine s_bipush hC (v := 115) dX11_barsNow_233 rfl (by decide) ?_
                      refine s_goto hC (tgt := 281) dX11_barsNow_235 (by decide) ?_
                      refine s_zret hC hr dX11_barsNow_281 rfl (le_b rfl) (le_b rfl) ?_
                      exact ⟨by simp only [barF, h120, hkn, hlt2, hs9, c_1, c_2, c_3, c_4, c_12, if_true, if_false, Bool.false_eq_true, Bool.true_eq_false, reduceCtorEq], hW⟩
                  · refine s_bipush hC (v := 99) dX11_barsNow_221 rfl (by decide) ?_
                    refine s_goto hC (tgt := 281) dX11_barsNow_223 (by decide) ?_
                    refine s_zret hC hr dX11_barsNow_281 rfl (le_b rfl) (le_b rfl) ?_
                    exact ⟨by simp only [barF, h120, hkn, hlt2, c_1, c_2, c_3, c_4, c_12, if_true, if_false, Bool.false_eq_true, Bool.true_eq_false, reduceCtorEq], hW⟩
                · have hlt2 : (t9 = ltF σ) = True := eq_true (by rw [hlt]; exact (c_11).symm)
                  refine s_iconst hC (v := 1) dX11_barsNow_210 rfl (by decide) ?_
                  refine s_goto hC (tgt := 215) dX11_barsNow_211 (by decide) ?_
                  refine s_istore hC (L' := [(5, _), (0, _), (1, _), (2, _), (3, _), (4, _)]) dX11_barsNow_215 rfl (le_b rfl) rfl ?_
                  refine s_iload_n hC dX11_barsNow_217 rfl rfl 4 rfl ?_
                  refine z_if_eqB hC (tgt := 226) dX11_barsNow_218 rfl (by decide) (fun c_17 => ?_) (fun c_17 => ?_)
                  · refine s_aload_n hC dX11_barsNow_226 rfl rfl 1 rfl ?_
                    refine s_getf hC cs_X11 17 tw_1266 (le_b rfl) (RepM.f_main hW) rfl dX11_barsNow_227 rfl ?_
                    refine z_if_ne hC (tgt := 238) dX11_barsNow_230 rfl (by decide) (fun c_18 => ?_) (fun c_18 => ?_)
                    · have hs9 : (σ.seg ≤ 0) = False := eq_false (fun h9 => c_18 (hsq.mp h9))
                      refine s_sipush hC (v := 2000) dX11_barsNow_238 rfl (by decide) ?_
                      refine s_aload_n hC dX11_barsNow_241 rfl rfl 1 rfl ?_
                      refine s_getf hC cs_X11 18 tw_1267 (le_b rfl) (RepM.f_main hW) rfl dX11_barsNow_242 rfl ?_
                      refine s_isub hC dX11_barsNow_245 rfl ?_
                      refine s_aload_n hC dX11_barsNow_246 rfl rfl 1 rfl ?_
                      refine s_iload_n hC dX11_barsNow_247 rfl rfl 3 rfl ?_
                      refine s_callV hC (ct_X11_muckOf l g _ _ _ _ hW hk _ (by omega)) ce_X11_muckOf cs_X11 (RepM.f_main hW) tw_1614 rfl rfl ⟨⟨le_b rfl, le_b rfl⟩, le_b rfl, le_b rfl⟩ (le_b rfl) dX11_barsNow_248 rfl (dvk1 ?_) nokx
                      refine z_icmp_ge hC (tgt := 259) dX11_barsNow_251 rfl (by decide) (fun c_19 => ?_) (fun c_19 => ?_)
                      · refine s_iload hC dX11_barsNow_259 rfl 0 rfl ?_
                        refine z_if_eq hC (tgt := 269) dX11_barsNow_261 rfl (by decide) (fun c_20 => ((absurd c_20 (by decide) : False)).elim) (fun c_20 => ?_)
                        refine s_bipush hC (v := 106) dX11_barsNow_264 rfl (by decide) ?_
                        refine s_goto hC (tgt := 281) dX11_barsNow_266 (by decide) ?_
                        refine s_zret hC hr dX11_barsNow_281 rfl (le_b rfl) (le_b rfl) ?_
                        exact ⟨by simp only [barF, h120, hkn, hlt2, hs9, c_1, c_2, c_3, c_4, c_17, c_19, c_20, if_true, if_false, Bool.false_eq_true, Bool.true_eq_false, reduceCtorEq], hW⟩
                      · refine s_bipush hC (v := 109) dX11_barsNow_254 rfl (by decide) ?_
                        refine s_goto hC (tgt := 281) dX11_barsNow_256 (by decide) ?_
                        refine s_zret hC hr dX11_barsNow_281 rfl (le_b rfl) (le_b rfl) ?_
                        exact ⟨by simp only [barF, h120, hkn, hlt2, hs9, c_1, c_2, c_3, c_4, c_17, c_19, if_true, if_false, Bool.false_eq_true, Bool.true_eq_false, reduceCtorEq], hW⟩
                    · have hs9 : (σ.seg ≤ 0) = True := eq_true (hsq.mpr c_18)
                      refine s_bipush hC (v := 115) dX11_barsNow_233 rfl (by decide) ?_
                      refine s_goto hC (tgt := 281) dX11_barsNow_235 (by decide) ?_
                      refine s_zret hC hr dX11_barsNow_281 rfl (le_b rfl) (le_b rfl) ?_
                      exact ⟨by simp only [barF, h120, hkn, hlt2, hs9, c_1, c_2, c_3, c_4, c_17, if_true, if_false, Bool.false_eq_true, Bool.true_eq_false, reduceCtorEq], hW⟩
                  · refine s_bipush hC (v := 99) dX11_barsNow_221 rfl (by decide) ?_
                    refine s_goto hC (tgt := 281) dX11_barsNow_223 (by decide) ?_
                    refine s_zret hC hr dX11_barsNow_281 rfl (le_b rfl) (le_b rfl) ?_
                    exact ⟨by simp only [barF, h120, hkn, hlt2, c_1, c_2, c_3, c_4, c_17, if_true, if_false, Bool.false_eq_true, Bool.true_eq_false, reduceCtorEq], hW⟩
            · refine s_bipush hC (v := 112) dX11_barsNow_181 rfl (by decide) ?_
              refine s_zret hC hr dX11_barsNow_183 rfl (le_b rfl) (le_b rfl) ?_
              exact ⟨by simp only [barF, h120, hkn, c_1, c_2, c_3, c_4, if_true, if_false, Bool.false_eq_true, Bool.true_eq_false, reduceCtorEq], hW⟩
          · refine s_bipush hC (v := 101) dX11_barsNow_149 rfl (by decide) ?_
            refine s_zret hC hr dX11_barsNow_151 rfl (le_b rfl) (le_b rfl) ?_
            exact ⟨by rw [barF, if_pos (h120.mpr c_3)], hW⟩
        · refine s_aload hC dX11_barsNow_87 rfl 5 rfl ?_
          refine s_callF hC (nA := 0) 6 (ct_Jx35411_next_0502b l g _ _ _ _ _ _ _ _ (wup_s _ _ _) (RepM.f_houses hW) (RepM.b_house hR) (of_decide_eq_true c_2) _ _ _ (RepM.p_house hW (of_decide_eq_true c_2)).2.1 (RepM.p_house hW (of_decide_eq_true c_2)).2.2.1 (RepM.p_house hW (of_decide_eq_true c_2)).2.2.2.1 (RepM.p_house hW (of_decide_eq_true c_2)).2.2.2.2) rfl tw_1539 tw_29 tw_1537 tw_1535 (by decide +kernel) cs_Jx35411 (wup_s _ _ _) tw_1532 rfl rfl ⟨⟨le_b rfl, le_b rfl⟩, le_b rfl, le_b rfl⟩ (le_b rfl) dX11_barsNow_89 rfl (dvk1 ?_) nokx
          rw [wup_wup]
          have hjn := of_decide_eq_true c_2
          have hW2 := RepM.by hR hnq (itE (nI (j + 1)) (nI j) (y).mH (ad .houses))
          refine s_castI hC tw_1544 (RepM.f_house hW2 hjn) dX11_barsNow_94 rfl ?_
          refine s_astore hC (L' := [(6, _), (0, _), (1, _), (2, _), (3, _), (4, _), (5, _)]) dX11_barsNow_97 rfl (le_b rfl) rfl ?_
          refine s_iload hC dX11_barsNow_99 rfl 5 rfl ?_
          refine z_if_neB hC (tgt := 133) dX11_barsNow_101 rfl (by decide) (fun c_21 => ?_) (fun c_21 => ?_)
          · refine s_iconst hC (v := 1) dX11_barsNow_133 rfl (by decide) ?_
            refine s_goto hC (tgt := 138) dX11_barsNow_134 (by decide) ?_
            refine WP.top (.int (bI (redF σ (nI σ.n) (j + 1)))) (by rw [redF_m hh hl hjn (by omega)]; simp only [c_1, c_2, c_21, decide_true, decide_false, Bool.true_and, Bool.and_true, Bool.false_and, Bool.and_false, Bool.true_or, Bool.false_or, Bool.or_true, Bool.or_false]; rfl) ?_
            refine s_istore hC (L' := [(4, _), (6, _), (0, _), (1, _), (2, _), (3, _), (5, _)]) dX11_barsNow_138 rfl (le_b rfl) rfl ?_
            refine s_goto hC (tgt := 77) dX11_barsNow_140 (by decide) ?_
            refine WP.sub (L' := [(0, _), (1, _), (2, _), (3, _), (4, _), (5, _)]) [2, 3, 4, 5, 0, 6] rfl ?_
            refine ih (_, (nI j), _, j + 1) ?_ ?_
            · dsimp only
              have h9 := of_decide_eq_true c_2
              refine ⟨h9, ?_, rfl⟩
              rfl
            · dsimp only
              have h9 := of_decide_eq_true c_2; omega
          · refine s_aload hC dX11_barsNow_104 rfl 0 rfl ?_
            refine s_iload_n hC dX11_barsNow_106 rfl rfl 3 rfl ?_
            refine s_callS hC (ct_X11_away l g _ _ _ _ (RepM.f_house hW2 hjn)) ce_X11_away tw_1603 rfl rfl ⟨⟨le_b rfl, le_b rfl⟩, le_b rfl, le_b rfl⟩ (le_b rfl) dX11_barsNow_107 rfl (dvk1 ?_) nokx
            refine s_bipush hC (v := 10) dX11_barsNow_110 rfl (by decide) ?_
            refine z_icmp_gt hC (tgt := 137) dX11_barsNow_112 rfl (by decide) (fun c_22 => ?_) (fun c_22 => ?_)
            · refine s_iconst hC (v := 0) dX11_barsNow_137 rfl (by decide) ?_
              refine WP.top (.int (bI (redF σ (nI σ.n) (j + 1)))) (by rw [redF_m hh hl hjn (by omega)]; simp only [c_1, c_2, c_21, c_22, decide_true, decide_false, Bool.true_and, Bool.and_true, Bool.false_and, Bool.and_false, Bool.true_or, Bool.false_or, Bool.or_true, Bool.or_false]; rfl) ?_
              refine s_istore hC (L' := [(4, _), (6, _), (0, _), (1, _), (2, _), (3, _), (5, _)]) dX11_barsNow_138 rfl (le_b rfl) rfl ?_
              refine s_goto hC (tgt := 77) dX11_barsNow_140 (by decide) ?_
              refine WP.sub (L' := [(0, _), (1, _), (2, _), (3, _), (4, _), (5, _)]) [2, 3, 4, 5, 0, 6] rfl ?_
              refine ih (_, (nI j), _, j + 1) ?_ ?_
              · dsimp only
                have h9 := of_decide_eq_true c_2
                refine ⟨h9, ?_, rfl⟩
                rfl
              · dsimp only
                have h9 := of_decide_eq_true c_2; omega
            · refine s_aload hC dX11_barsNow_115 rfl 0 rfl ?_
              refine s_iconst hC (v := 5) dX11_barsNow_117 rfl (by decide) ?_
              refine s_ialdK hC (Or.inl (RepM.f_house hW2 hjn)) (vp_in_nI (by decide : 5 < 7) (by decide)) dX11_barsNow_118 rfl ?_
              rw [show hsA (σ.hs j) (Int32.toNatClampNeg 5) = bI (σ.hs j).wr from rfl]
              refine s_iconst hC (v := 1) dX11_barsNow_119 rfl (by decide) ?_
              refine z_icmp_ne hC (tgt := 137) dX11_barsNow_120 rfl (by decide) (fun c_23 => ?_) (fun c_23 => ?_)
              · refine s_iconst hC (v := 0) dX11_barsNow_137 rfl (by decide) ?_
                refine WP.top (.int (bI (redF σ (nI σ.n) (j + 1)))) (by rw [redF_m hh hl hjn (by omega)]; simp only [c_1, c_2, c_21, c_22, c_23, decide_true, decide_false, Bool.true_and, Bool.and_true, Bool.false_and, Bool.and_false, Bool.true_or, Bool.false_or, Bool.or_true, Bool.or_false]; rfl) ?_
                refine s_istore hC (L' := [(4, _), (6, _), (0, _), (1, _), (2, _), (3, _), (5, _)]) dX11_barsNow_138 rfl (le_b rfl) rfl ?_
                refine s_goto hC (tgt := 77) dX11_barsNow_140 (by decide) ?_
                refine WP.sub (L' := [(0, _), (1, _), (2, _), (3, _), (4, _), (5, _)]) [2, 3, 4, 5, 0, 6] rfl ?_
                refine ih (_, (nI j), _, j + 1) ?_ ?_
                · dsimp only
                  have h9 := of_decide_eq_true c_2
                  refine ⟨h9, ?_, rfl⟩
                  rfl
                · dsimp only
                  have h9 := of_decide_eq_true c_2; omega
              · refine s_aload hC dX11_barsNow_123 rfl 0 rfl ?_
                refine s_bipush hC (v := 6) dX11_barsNow_125 rfl (by decide) ?_
                refine s_ialdK hC (Or.inl (RepM.f_house hW2 hjn)) (vp_in_nI (by decide : 6 < 7) (by decide)) dX11_barsNow_127 rfl ?_
                rw [show hsA (σ.hs j) (Int32.toNatClampNeg 6) = (σ.hs j).re from rfl]
                refine s_bipush hC (v := 50) dX11_barsNow_128 rfl (by decide) ?_
                refine z_icmp_lt hC (tgt := 137) dX11_barsNow_130 rfl (by decide) (fun c_24 => ?_) (fun c_24 => ?_)
                · refine s_iconst hC (v := 0) dX11_barsNow_137 rfl (by decide) ?_
                  refine WP.top (.int (bI (redF σ (nI σ.n) (j + 1)))) (by rw [redF_m hh hl hjn (by omega)]; simp only [c_1, c_2, c_21, c_22, c_23, c_24, decide_true, decide_false, Bool.true_and, Bool.and_true, Bool.false_and, Bool.and_false, Bool.true_or, Bool.false_or, Bool.or_true, Bool.or_false]; rfl) ?_
                  refine s_istore hC (L' := [(4, _), (6, _), (0, _), (1, _), (2, _), (3, _), (5, _)]) dX11_barsNow_138 rfl (le_b rfl) rfl ?_
                  refine s_goto hC (tgt := 77) dX11_barsNow_140 (by decide) ?_
                  refine WP.sub (L' := [(0, _), (1, _), (2, _), (3, _), (4, _), (5, _)]) [2, 3, 4, 5, 0, 6] rfl ?_
                  refine ih (_, (nI j), _, j + 1) ?_ ?_
                  · dsimp only
                    have h9 := of_decide_eq_true c_2
                    refine ⟨h9, ?_, rfl⟩
                    rfl
                  · dsimp only
                    have h9 := of_decide_eq_true c_2; omega
                · refine s_iconst hC (v := 1) dX11_barsNow_133 rfl (by decide) ?_
                  refine s_goto hC (tgt := 138) dX11_barsNow_134 (by decide) ?_
                  refine WP.top (.int (bI (redF σ (nI σ.n) (j + 1)))) (by rw [redF_m hh hl hjn (by omega)]; simp only [c_1, c_2, c_21, c_22, c_23, c_24, decide_true, decide_false, Bool.true_and, Bool.and_true, Bool.false_and, Bool.and_false, Bool.true_or, Bool.false_or, Bool.or_true, Bool.or_false]; rfl) ?_
                  refine s_istore hC (L' := [(4, _), (6, _), (0, _), (1, _), (2, _), (3, _), (5, _)]) dX11_barsNow_138 rfl (le_b rfl) rfl ?_
                  refine s_goto hC (tgt := 77) dX11_barsNow_140 (by decide) ?_
                  refine WP.sub (L' := [(0, _), (1, _), (2, _), (3, _), (4, _), (5, _)]) [2, 3, 4, 5, 0, 6] rfl ?_
                  refine ih (_, (nI j), _, j + 1) ?_ ?_
                  · dsimp only
                    have h9 := of_decide_eq_true c_2
                    refine ⟨h9, ?_, rfl⟩
                    rfl
                  · dsimp only
                    have h9 := of_decide_eq_true c_2; omega
    · refine s_aload hC dX11_barsNow_33 rfl 4 rfl ?_
      refine s_iload hC dX11_barsNow_35 rfl 6 rfl ?_
      refine s_ialdK hC (Or.inl (RepM.f_wears hR)) (vp_in_nI (hin9 c_1) (by decide)) dX11_barsNow_37 rfl ?_
      rw [nI_clamp (show j < 2 ^ 31 by have := hin9 c_1; omega)]
      refine s_istore hC (L' := [(7, _), (0, _), (1, _), (2, _), (3, _), (4, _), (5, _), (6, _)]) dX11_barsNow_38 rfl (le_b rfl) rfl ?_
      refine s_iload_n hC dX11_barsNow_40 rfl rfl 4 rfl ?_
      refine z_if_neB hC (tgt := 51) dX11_barsNow_41 rfl (by decide) (fun c_25 => ?_) (fun c_25 => ?_)
      · refine s_iconst hC (v := 1) dX11_barsNow_51 rfl (by decide) ?_
        refine s_goto hC (tgt := 56) dX11_barsNow_52 (by decide) ?_
        refine WP.top (.int (bI (wornF σ.wears (j + 1)))) (by simp [wornF, bI, c_1, c_25]) ?_
        refine s_istore_n hC (L' := [(3, _), (7, _), (0, _), (1, _), (2, _), (4, _), (5, _), (6, _)]) dX11_barsNow_56 rfl rfl (le_b rfl) rfl ?_
        refine s_iinc hC (v := _ + 1) (j9 := 7) (L' := [(6, _), (3, _), (7, _), (0, _), (1, _), (2, _), (4, _), (5, _)]) dX11_barsNow_57 rfl rfl rfl (le_b rfl) rfl ?_
        refine s_goto hC (tgt := 26) dX11_barsNow_60 (by decide) ?_
        refine WP.sub (L' := [(0, _), (1, _), (2, _), (3, _), (4, _), (5, _), (6, _)]) [3, 4, 5, 1, 6, 7, 0] rfl ?_
        refine ih (_, _, j + 1) ?_ ?_
        · dsimp only
          exact ⟨nI_1 j, hin9 c_1, rfl⟩
        · dsimp only
          have h9 := hin9 c_1; omega
      · refine s_iload hC dX11_barsNow_44 rfl 0 rfl ?_
        refine s_bipush hC (v := 100) dX11_barsNow_46 rfl (by decide) ?_
        refine z_icmp_lt hC (tgt := 55) dX11_barsNow_48 rfl (by decide) (fun c_26 => ?_) (fun c_26 => ?_)
        · refine s_iconst hC (v := 0) dX11_barsNow_55 rfl (by decide) ?_
          refine WP.top (.int (bI (wornF σ.wears (j + 1)))) (by simp [wornF, bI, c_1, c_25, c_26]) ?_
          refine s_istore_n hC (L' := [(3, _), (7, _), (0, _), (1, _), (2, _), (4, _), (5, _), (6, _)]) dX11_barsNow_56 rfl rfl (le_b rfl) rfl ?_
          refine s_iinc hC (v := _ + 1) (j9 := 7) (L' := [(6, _), (3, _), (7, _), (0, _), (1, _), (2, _), (4, _), (5, _)]) dX11_barsNow_57 rfl rfl rfl (le_b rfl) rfl ?_
          refine s_goto hC (tgt := 26) dX11_barsNow_60 (by decide) ?_
          refine WP.sub (L' := [(0, _), (1, _), (2, _), (3, _), (4, _), (5, _), (6, _)]) [3, 4, 5, 1, 6, 7, 0] rfl ?_
          refine ih (_, _, j + 1) ?_ ?_
          · dsimp only
            exact ⟨nI_1 j, hin9 c_1, rfl⟩
          · dsimp only
            have h9 := hin9 c_1; omega
        · refine s_iconst hC (v := 1) dX11_barsNow_51 rfl (by decide) ?_
          refine s_goto hC (tgt := 56) dX11_barsNow_52 (by decide) ?_
          refine WP.top (.int (bI (wornF σ.wears (j + 1)))) (by simp [wornF, bI, c_1, c_25, c_26]) ?_
          refine s_istore_n hC (L' := [(3, _), (7, _), (0, _), (1, _), (2, _), (4, _), (5, _), (6, _)]) dX11_barsNow_56 rfl rfl (le_b rfl) rfl ?_
          refine s_iinc hC (v := _ + 1) (j9 := 7) (L' := [(6, _), (3, _), (7, _), (0, _), (1, _), (2, _), (4, _), (5, _)]) dX11_barsNow_57 rfl rfl rfl (le_b rfl) rfl ?_
          refine s_goto hC (tgt := 26) dX11_barsNow_60 (by decide) ?_
          refine WP.sub (L' := [(0, _), (1, _), (2, _), (3, _), (4, _), (5, _), (6, _)]) [3, 4, 5, 1, 6, 7, 0] rfl ?_
          refine ih (_, _, j + 1) ?_ ?_
          · dsimp only
            exact ⟨nI_1 j, hin9 c_1, rfl⟩
          · dsimp only
            have h9 := hin9 c_1; omega
set_option maxHeartbeats 1000000 in
set_option maxRecDepth 100000 in
theorem ct_X11_bars (l : Launch) (g : Gl) (ω : Wd) (ad : Iy → Nat) (y : Ey) (σ : St) (hR : RepM g ad y σ ω) (t9 : Int32) (hgr : grOK σ y) (hk : kIn σ) (hn : nOK σ) (hh : hIn σ) (hl : hLe σ) (hsg : 0 ≤ σ.seg) : CT l g yX11_bars cX11_bars 2 (some .char) 4 91 1 4 [.ref (ad .main), .int t9] ω (okM g ad (cd_bars σ t9) Value.int (vl_bars σ t9) σ σ) (nox) := by
  refine CT.of (own := "BoringheadModel") rfl rfl (le_b rfl) rfl ?_
  intro p e s m args below meth c sz0 hC hr htab hin
  refine s_aload_n hC dX11_bars_0 rfl rfl 0 rfl ?_
  refine s_callV hC (ct_X11_begins l g _ _ _ _ hR) ce_X11_begins cs_X11 (RepM.f_main hR) tw_1324 rfl rfl ⟨⟨le_b rfl, le_b rfl⟩, le_b rfl, le_b rfl⟩ (le_b rfl) dX11_bars_1 rfl (dvk0 ?_) nokx
  refine WP.rm (RepM.s_main_0 hR 0) (fun hR_1 => ?_)
  refine s_aload_n hC dX11_bars_4 rfl rfl 0 rfl ?_
  refine s_iload_n hC dX11_bars_5 rfl rfl 1 rfl ?_
  refine s_i2l hC dX11_bars_6 rfl rfl ?_
  refine s_lconst hC (v := 0) dX11_bars_7 rfl (by decide) ?_
  refine s_ldc2 hC tw_1583 dX11_bars_8 rfl ?_
  refine s_callS hC (ct_X11_in l g _ _ _ _) ce_X11_in tw_1419 rfl rfl ⟨⟨le_b rfl, le_b rfl⟩, le_b rfl, le_b rfl⟩ (le_b rfl) dX11_bars_11 rfl (dvk1 ?_) nokx
  rw [inJ_inR t9 0 7 (by first | rfl | decide) (by first | rfl | decide)]
  refine z_if_neB hC (tgt := 21) dX11_bars_14 rfl (by decide) (fun c_1 => ?_) (fun c_1 => ?_)
  · refine s_iconst hC (v := 0) dX11_bars_21 rfl (by decide) ?_
    refine s_iconst hC (v := 1) dX11_bars_22 rfl (by decide) ?_
    refine s_callV hC (ct_X11_fails_f l g _ _ _ _ hR_1 (by first | rfl | exact hth) _) ce_X11_fails cs_X11 (RepM.f_main hR_1) tw_1422 rfl rfl ⟨⟨le_b rfl, le_b rfl⟩, le_b rfl, le_b rfl⟩ (le_b rfl) dX11_bars_23 rfl (dvk1 ?_) nokx
    refine z_if_eq hC (tgt := 34) dX11_bars_26 rfl (by decide) (fun c_2 => ?_) (fun c_2 => ((absurd c_2 (by decide) : False)).elim)
    refine s_aload_n hC dX11_bars_34 rfl rfl 0 rfl ?_
    refine s_iload_n hC dX11_bars_35 rfl rfl 1 rfl ?_
    refine s_callV hC (ct_X11_barsNow l g _ _ _ _ hR_1 _ c_1 hk hn hh hl hsg) ce_X11_barsNow cs_X11 (RepM.f_main hR_1) tw_1599 rfl rfl ⟨⟨le_b rfl, le_b rfl⟩, le_b rfl, le_b rfl⟩ (le_b rfl) dX11_bars_36 rfl (fun r w h9 => ?_) nokx
    obtain ⟨rfl, hRb⟩ := h9
    refine s_zret hC hr dX11_bars_39 (by first | rfl | exact bar_ch _ _) (le_b rfl) (le_b rfl) ?_
    first
      | exact okM_ok (by simp [cd_bars, c_1, c_2]) rfl (by first | (simp [vl_bars, c_1, c_2]; done) | rfl) hRb rfl rfl rfl hgr
      | exact okM_no 1 (by simp [cd_bars, c_1, c_2]) (by decide) (by rfl) hRb rfl rfl hgr
  · refine s_iconst hC (v := 1) dX11_bars_17 rfl (by decide) ?_
    refine s_goto hC (tgt := 22) dX11_bars_18 (by decide) ?_
    refine s_iconst hC (v := 1) dX11_bars_22 rfl (by decide) ?_
    refine s_callV hC (ct_X11_fails_t l g _ _ _ _ hR_1 (by first | rfl | exact hth) _ (by decide)) ce_X11_fails cs_X11 (RepM.f_main hR_1) tw_1422 rfl rfl ⟨⟨le_b rfl, le_b rfl⟩, le_b rfl, le_b rfl⟩ (le_b rfl) dX11_bars_23 rfl (dvk1 ?_) nokx
    refine WP.rm (RepM.s_main_0 hR_1 _) (fun hR_23 => ?_)
    refine z_if_eq hC (tgt := 34) dX11_bars_26 rfl (by decide) (fun c_3 => ((absurd c_3 (by decide) : False)).elim) (fun c_3 => ?_)
    refine s_bipush hC (v := 32) dX11_bars_29 rfl (by decide) ?_
    refine s_goto hC (tgt := 39) dX11_bars_31 (by decide) ?_
    refine s_zret hC hr dX11_bars_39 rfl (le_b rfl) (le_b rfl) ?_
    first
      | exact okM_ok (by simp [cd_bars, c_1, c_3]) rfl (by first | (simp [vl_bars, c_1, c_3]; done) | rfl) hR_23 rfl rfl rfl hgr
      | exact okM_no 1 (by simp [cd_bars, c_1, c_3]) (by decide) (by rfl) hR_23 rfl rfl hgr
