section RMSTR
variable {g : Gl} {ad : Iy → Nat} {y : Ey} {s : St} {ω : Wd}
theorem RepM.xt (h : RepM g ad y s ω) {ω' : Wd} (e : xtW ω ω') : RepM g ad y s ω' := ⟨fun k hk => e _ _ (h.c k hk), h.inj, h.lB, h.lH, h.lO, h.hg, h.st⟩
/-- the contract's text is another now -/
def am_str (ad : Iy → Nat) (a v : Nat) : Iy → Nat
  | .inl 12 => a
  | .inl 13 => v
  | .inl q => ad (.inl q)
  | .inr i => ad (.inr i)
theorem am_str_l (ad : Iy → Nat) (a v : Nat) {q : Nat} (h : q ≠ 12) (h2 : q ≠ 13) : am_str ad a v (.inl q) = ad (.inl q) := by
  rcases q with _ | _ | _ | _ | _ | _ | _ | _ | _ | _ | _ | _ | _ | _ | q9 <;> first | rfl | exact absurd rfl h | exact absurd rfl h2
def yStr (y : Ey) : Ey := ((y.w_sd true).w_sh 0).w_sz false
theorem RepM.str (h : RepM g ad y s ω) {a v : Nat} {f : Nat → Int32} {ω' : Wd} (ha : ω a = none) (hv : ω v = none) (hva : v ≠ a) (h1 : ω' a = some (.inr (0, [.ref v, .int 0, .int 0, .int 0]))) (h2 : ω' v = some (.inl (g.2.1 2, 7, .inl f))) (hx : xtW ω ω') :
    RepM g (am_str ad a v) (yStr y) (s.w_order f) (wup ω' (ad .main) (.inr (16, List.set [.int y.th, .ref (ad .kinds), .ref (ad .refs), .ref (ad .depths), .ref (ad .waters), .ref (ad .bR), .ref (ad .bU), .ref (ad .bores), .ref (ad .rings), .ref (ad .wears), .ref (ad .houses), .int s.press, .int (bI s.foam), .int s.pR, .int s.pU, .int s.hR, .int s.hU, .int s.seg, .int s.pit, .int s.mn, .ref (ad .str), .ref (ad .waits)] 20 (.ref a)))) := by
  have hna : ∀ k, VM y s k → ad k ≠ a := fun k hk => w_ne (h.c k hk) ha
  have hnv : ∀ k, VM y s k → ad k ≠ v := fun k hk => w_ne (h.c k hk) hv
  have hsk : ∀ q : Nat, q ≠ 12 → q ≠ 13 → skW (yStr y) q → skW y q := by
    intro q z1 z2 h3
    rcases q with _ | _ | _ | _ | _ | _ | _ | _ | _ | _ | _ | _ | _ | _ | _ | _ | _ | q9 <;> first | exact h3 | exact absurd rfl z1 | exact absurd rfl z2
  have hold : ∀ k, VM y s k → k ≠ .main → wup ω' (ad .main) (.inr (16, List.set [.int y.th, .ref (ad .kinds), .ref (ad .refs), .ref (ad .depths), .ref (ad .waters), .ref (ad .bR), .ref (ad .bU), .ref (ad .bores), .ref (ad .rings), .ref (ad .wears), .ref (ad .houses), .int s.press, .int (bI s.foam), .int s.pR, .int s.pU, .int s.hR, .int s.hU, .int s.seg, .int s.pit, .int s.mn, .ref (ad .str), .ref (ad .waits)] 20 (.ref a))) (ad k) = some (cellM g ad y s k) := fun k hk hm => (wup_n (fun z9 => hm (h.inj k .main hk trivial z9))).trans (hx _ _ (h.c k hk))
  refine ⟨?_, ?_, h.lB, h.lH, h.lO, h.hg, fun z9 => by cases z9⟩
  · intro k hk
    rcases k with q | i | i | i
    · by_cases q0 : q = 0
      · subst q0; exact wup_s _ _ _
      · by_cases q1 : q = 12
        · subst q1; exact (wup_n (Ne.symm (hna .main trivial))).trans h1
        · by_cases q2 : q = 13
          · subst q2; exact (wup_n (Ne.symm (hnv .main trivial))).trans h2
          · rw [am_str_l ad _ _ q1 q2, hold (.inl q) (hsk q q1 q2 hk) (fun z9 => q0 (Sum.inl.inj z9))]
            refine congrArg some ?_
            rcases q with _ | _ | _ | _ | _ | _ | _ | _ | _ | _ | _ | _ | _ | _ | _ | _ | _ | q9 <;> first | rfl | exact absurd rfl q0 | exact absurd rfl q1 | exact absurd rfl q2
    · exact hold (.ring i) hk (fun z9 => by cases z9)
    · exact hold (.house i) hk (fun z9 => by cases z9)
    · exact hold (.bore i) hk (fun z9 => by cases z9)
  · have key : ∀ k, VM (yStr y) (s.w_order f) k → (k = .str ∧ am_str ad a v k = a) ∨ (k = .sval ∧ am_str ad a v k = v) ∨ (VM y s k ∧ am_str ad a v k = ad k) := by
      intro k hk
      rcases k with q | i | i | i
      · by_cases q1 : q = 12
        · subst q1; exact Or.inl ⟨rfl, rfl⟩
        · by_cases q2 : q = 13
          · subst q2; exact Or.inr (Or.inl ⟨rfl, rfl⟩)
          · exact Or.inr (Or.inr ⟨hsk q q1 q2 hk, am_str_l ad _ _ q1 q2⟩)
      · exact Or.inr (Or.inr ⟨hk, rfl⟩)
      · exact Or.inr (Or.inr ⟨hk, rfl⟩)
      · exact Or.inr (Or.inr ⟨hk, rfl⟩)
    intro k k' hk hk' he
    rcases key k hk with ⟨g1, g2⟩ | ⟨g1, g2⟩ | ⟨g1, g2⟩ <;> rcases key k' hk' with ⟨g4, g5⟩ | ⟨g4, g5⟩ | ⟨g4, g5⟩ <;> rw [g2, g5] at he
    · rw [g1, g4]
    · exact absurd he.symm hva
    · exact absurd he.symm (hna k' g4)
    · exact absurd he hva
    · rw [g1, g4]
    · exact absurd he.symm (hnv k' g4)
    · exact absurd he (hna k g1)
    · exact absurd he (hnv k g1)
    · exact h.inj k k' g1 g4 he
end RMSTR
section ROWB
variable {p : Program} {l : Launch} {e : Env} {R : Room} {s : State} {m : MethodId} {args : Array Value} {below : List Frame} {meth : Method} {c : Code} {nL : Nat} {g : Gl} {ω0 : Wd} {sz0 : Nat} {Q : State → Prop} {ω : Wd} {k n pc : Nat} {L : List (Nat × Value)} {rest : List Value}
/-- a row of bytes by other numbers that read alike -/
theorem WP.rowB {a N : Nat} {f f' : Nat → Int32} (hω : ω a = some (.inl (g.2.1 2, N, .inl f))) (h : ∀ k, k < N → f k = f' k) (kk : WP p l e R s m args below meth c g ω0 sz0 Q nL (wup ω a (.inl (g.2.1 2, N, .inl f'))) k n pc L rest) : WP p l e R s m args below meth c g ω0 sz0 Q nL ω k n pc L rest := fun H locs ls hw hk hS hl => by
  obtain ⟨ws, hP, hD, g1, g2, -⟩ := wh_all hw
  obtain ⟨q1, hq1⟩ := g1 a _ hω
  have hc1 : H[a]? = some (vp_cell (g.2.1 2) (N, .inl f)) := hP q1 _ hq1
  have he : vp_cell (g.2.1 2) (N, .inl f) = vp_cell (g.2.1 2) (N, .inl f') := by
    show arrV (g.2.1 2) N (fun j => .int (f j)) = arrV (g.2.1 2) N (fun j => .int (f' j))
    unfold arrV
    congr 1
    exact congrArg Array.ofFn (funext fun j => by show Value.int (f j.1) = Value.int (f' j.1); rw [h j.1 j.2])
  exact kk H locs ls (g2 q1 a _ (.inl (g.2.1 2, N, .inl f')) _ hq1 (hP.set hD hq1 (show H[a]? = some (vp_cell (g.2.1 2) (N, .inl f')) by rw [hc1, he]) (fun q _ => rfl)) (hD.set hq1)) (kp_up hk _ _) hS hl
end ROWB
theorem pf_cat {o g2 g4 : Nat → Int32} {c : Int32} {q : Nat} (hq : q < 7) (hc : o q = c) (h2 : ∀ k, k < q - 0 → g2 k = o (0 + k)) (h4 : ∀ k, k < 7 - (q + 1) → g4 k = o (q + 1 + k)) : ∀ k, k < 7 → va_cpy g4 (va_cpy g2 (upd (fun _ => 0) 0 c) 0 (0 + 1) (q - 0)) 0 (0 + 1 + (q - 0)) (7 - (q + 1)) k = pfF o q k := by
  intro k hk
  unfold va_cpy pfF upd
  by_cases k0 : k = 0
  · subst k0
    rw [if_neg (by omega), if_neg (by omega), if_pos rfl, if_pos rfl, hc]
  · by_cases kq : k ≤ q
    · rw [if_neg (by omega), if_pos (by omega), if_neg k0, if_pos kq, h2 _ (by omega)]
      exact congrArg o (by omega)
    · rw [if_pos (by omega), if_neg k0, if_neg kq, h4 _ (by omega)]
      exact congrArg o (by omega)
set_option maxHeartbeats 1000000 in
set_option maxRecDepth 100000 in
theorem ct_X11_first (l : Launch) (g : Gl) (ω : Wd) (ad : Iy → Nat) (y : Ey) (σ : St) (hR : RepM g ad y σ ω) (c9 : Int32) (hgr : grOK σ y) (ho : oOK σ) : CT l g yX11_first cX11_first 3 (some .int) 6 134 8 521 [.ref (ad .main), .int c9] ω (okM g ad (cd_first σ c9) Value.int (vl_first σ c9) (nx_first σ c9) σ) (nox) := by
  refine CT.of (own := "BoringheadModel") rfl rfl (le_b rfl) rfl ?_
  intro p e s m args below meth c sz0 hC hr htab hin
  refine s_aload_n hC dX11_first_0 rfl rfl 0 rfl ?_
  refine s_callV hC (ct_X11_begins l g _ _ _ _ hR) ce_X11_begins cs_X11 (RepM.f_main hR) tw_1324 rfl rfl ⟨⟨le_b rfl, le_b rfl⟩, le_b rfl, le_b rfl⟩ (le_b rfl) dX11_first_1 rfl (dvk0 ?_) nokx
  refine WP.rm (RepM.s_main_0 hR 0) (fun hR_1 => ?_)
  obtain ⟨v9, f9, hsv, hf9⟩ := RepM.sv hR_1
  have hlf : latF f9 7 := lat_7 hf9 ho.2
  refine s_aload_n hC dX11_first_4 rfl rfl 0 rfl ?_
  refine s_getf hC cs_X11 20 tw_1269 (le_b rfl) (RepM.f_main hR_1) rfl dX11_first_5 rfl ?_
  refine s_iload_n hC dX11_first_8 rfl rfl 1 rfl ?_
  refine s_callVs hC (ct_J0_indexOf_0f7a4 l g _ _ _ 7 f9 hsv (by decide) (by decide) _ hlf) ce_J0_indexOf_0f7a4 rfl hsv tw_1329 rfl rfl ⟨⟨le_b rfl, le_b rfl⟩, le_b rfl, le_b rfl⟩ (le_b rfl) dX11_first_9 rfl (dvk1 ?_) nokx
  rw [ixF_c7 hf9]
  refine s_istore_n hC (L' := [(2, _), (0, _), (1, _)]) dX11_first_12 rfl rfl (le_b rfl) rfl ?_
  refine s_aload_n hC dX11_first_13 rfl rfl 1 rfl ?_
  refine s_iload_n hC dX11_first_14 rfl rfl 0 rfl ?_
  refine z_if_ge hC (tgt := 22) dX11_first_15 rfl (by decide) (fun c_1 => ?_) (fun c_1 => ?_)
  · refine s_iconst hC (v := 0) dX11_first_22 rfl (by decide) ?_
    refine s_iconst hC (v := 1) dX11_first_23 rfl (by decide) ?_
    refine s_callV hC (ct_X11_fails_f l g _ _ _ _ hR_1 (by first | rfl | exact hth) _) ce_X11_fails cs_X11 (RepM.f_main hR_1) tw_1422 rfl rfl ⟨⟨le_b rfl, le_b rfl⟩, le_b rfl, le_b rfl⟩ (le_b rfl) dX11_first_24 rfl (dvk1 ?_) nokx
    refine z_if_eq hC (tgt := 32) dX11_first_27 rfl (by decide) (fun c_2 => ?_) (fun c_2 => ((absurd c_2 (by decide) : False)).elim)
    obtain ⟨q9, hq9, hx, hcq⟩ := ixF_in (by decide : 7 < 2 ^ 31) c_1
    obtain ⟨b9, hb9, hbe⟩ := ho.2 q9 hq9
    obtain rfl : c9 = nI b9 := hcq.symm.trans hbe
    rw [hx]
    refine s_aload_n hC dX11_first_32 rfl rfl 1 rfl ?_
    refine s_new hC cs_J4 (fs := [.null, .int 0, .int 0, .int 0]) tw_1806 tw_1807 tw_36 (fun j hj => by rcases (show j = 0 ∨ j = 1 ∨ j = 2 ∨ j = 3 by omega) with rfl | rfl | rfl | rfl <;> rfl) (le_b rfl) (le_b rfl) dX11_first_33 rfl (fun q_33 hq_33 => ?_)
    have hn_q_33 := RepM.ne hR_1 hq_33
    refine WP.rm (RepM.new hR_1 hq_33 _) (fun hR_q_33 => ?_)
    refine s_dup hC dX11_first_36 rfl rfl ?_
    refine s_callI hC (ct_J4_init_da8c8 l g _ q_33 (wup_s _ _ _)) ce_J4_init_da8c8 tw_1808 rfl rfl ⟨⟨le_b rfl, le_b rfl⟩, le_b rfl, le_b rfl⟩ (le_b rfl) dX11_first_37 rfl (fun r w h9 => ?_) nokx
    obtain ⟨sv9, hs9, rfl, rfl⟩ := h9
    have hnv := RepM.ne hR_q_33 hs9
    have hbv : q_33 ≠ sv9 := w_ne (wup_s _ _ _) hs9
    refine WP.rm (RepM.by (RepM.new hR_q_33 hs9 _) hn_q_33 _) (fun hR_37 => ?_)
    refine s_iload_n hC dX11_first_40 rfl rfl 2 rfl ?_
    refine s_callV hC (ct_J4_append_cf468 l g _ q_33 sv9 0 (wup_s _ _ _) _ ((wup_n (Ne.symm hbv)).trans (wup_s _ _ _)) hbv b9 hb9 (by decide)) ce_J4_append_cf468 cs_J4 (wup_s _ _ _) tw_1836 rfl rfl ⟨⟨le_b rfl, le_b rfl⟩, le_b rfl, le_b rfl⟩ (le_b rfl) dX11_first_41 rfl (dvk1 ?_) nokx
    refine WP.rm (RepM.by (RepM.by hR_37 hn_q_33 _) hnv _) (fun hR_41 => ?_)
    obtain ⟨v2, f2, hsv2, hf2⟩ := RepM.sv hR_41
    refine s_aload_n hC dX11_first_44 rfl rfl 1 rfl ?_
    refine s_getf hC cs_X11 20 tw_1269 (le_b rfl) (RepM.f_main hR_41) rfl dX11_first_45 rfl ?_
    refine s_iconst hC (v := 0) dX11_first_48 rfl (by decide) ?_
    refine s_iload_n hC dX11_first_49 rfl rfl 0 rfl ?_
    refine s_callVs hC (ct_J0_substring_37a41 l g _ _ _ 7 f2 hsv2 0 q9 (Nat.zero_le _) (by omega) (by decide) (by omega) (lat_le (lat_7 hf2 ho.2) (Nat.le_refl 7))) ce_J0_substring_37a41 rfl hsv2 tw_1894 rfl rfl ⟨⟨le_b rfl, le_b rfl⟩, le_b rfl, le_b rfl⟩ (le_b rfl) dX11_first_50 rfl (fun r w h9 => ?_) nokx
    obtain ⟨a2, w2, g2, rfl, hs2, he2, hx2⟩ := h9
    have hl2 : latF g2 (q9 - 0) := fun k hk => by
      rw [he2 k hk]
      exact lat_7 hf2 ho.2 _ (by omega)
    refine WP.rm (RepM.xt hR_41 hx2) (fun hR_50 => ?_)
    refine s_callV hC (ct_J4_append_15ec4 l g _ q_33 sv9 (0 + 1) (hx2 _ _ ((wup_n hbv).trans (wup_s _ _ _))) _ (hx2 _ _ (wup_s _ _ _)) hbv a2 w2 (q9 - 0) g2 hs2 (by omega) hl2) ce_J4_append_15ec4 cs_J4 (hx2 _ _ ((wup_n hbv).trans (wup_s _ _ _))) tw_2029 rfl rfl ⟨⟨le_b rfl, le_b rfl⟩, le_b rfl, le_b rfl⟩ (le_b rfl) dX11_first_53 rfl (dvk1 ?_) nokx
    refine WP.rm (RepM.by (RepM.by hR_50 hnv _) hn_q_33 _) (fun hR_53 => ?_)
    obtain ⟨v3, f3, hsv3, hf3⟩ := RepM.sv hR_53
    refine s_aload_n hC dX11_first_56 rfl rfl 1 rfl ?_
    refine s_getf hC cs_X11 20 tw_1269 (le_b rfl) (RepM.f_main hR_53) rfl dX11_first_57 rfl ?_
    refine s_iload_n hC dX11_first_60 rfl rfl 0 rfl ?_
    refine s_iconst hC (v := 1) dX11_first_61 rfl (by decide) ?_
    refine s_iadd hC dX11_first_62 rfl ?_
    rw [nI_1]
    refine s_callVs hC (ct_J0_substring_b52d3 l g _ _ _ 7 f3 hsv3 (q9 + 1) (by omega) (by decide) (by omega) (lat_7 hf3 ho.2)) ce_J0_substring_b52d3 rfl hsv3 tw_2030 rfl rfl ⟨⟨le_b rfl, le_b rfl⟩, le_b rfl, le_b rfl⟩ (le_b rfl) dX11_first_63 rfl (fun r w h9 => ?_) nokx
    obtain ⟨a4, w4, g4, rfl, hs4, he4, hx4⟩ := h9
    have hl4 : latF g4 (7 - (q9 + 1)) := fun k hk => by
      rw [he4 k hk]
      exact lat_7 hf3 ho.2 _ (by omega)
    refine WP.rm (RepM.xt hR_53 hx4) (fun hR_63 => ?_)
    refine s_callV hC (ct_J4_append_15ec4 l g _ q_33 sv9 (0 + 1 + (q9 - 0)) (hx4 _ _ (wup_s _ _ _)) _ (hx4 _ _ ((wup_n (Ne.symm hbv)).trans (wup_s _ _ _))) hbv a4 w4 (7 - (q9 + 1)) g4 hs4 (by omega) hl4) ce_J4_append_15ec4 cs_J4 (hx4 _ _ (wup_s _ _ _)) tw_2029 rfl rfl ⟨⟨le_b rfl, le_b rfl⟩, le_b rfl, le_b rfl⟩ (le_b rfl) dX11_first_66 rfl (dvk1 ?_) nokx
    refine WP.rm (RepM.by (RepM.by hR_63 hnv _) hn_q_33 _) (fun hR_66 => ?_)
    have hn7 : 0 + 1 + (q9 - 0) + (7 - (q9 + 1)) = 7 := by omega
    have hF : ∀ k, k < 7 → (va_cpy g4 (va_cpy g2 (upd (fun _ => 0) 0 (nI b9)) 0 (0 + 1) (q9 - 0)) 0 (0 + 1 + (q9 - 0)) (7 - (q9 + 1))) k = pfF σ.order q9 k := pf_cat hq9 hcq (fun k hk => (he2 k hk).trans (hf2 _ (by omega))) (fun k hk => (he4 k hk).trans (hf3 _ (by omega)))
    have hlF : latF (va_cpy g4 (va_cpy g2 (upd (fun _ => 0) 0 (nI b9)) 0 (0 + 1) (q9 - 0)) 0 (0 + 1 + (q9 - 0)) (7 - (q9 + 1))) 7 := fun k hk => by
      rw [hF k hk]
      unfold pfF
      split
      · exact ho.2 _ hq9
      · split
        · exact ho.2 _ (by omega)
        · exact ho.2 _ hk
    refine s_callV hC (ct_J4_toString_0e30d l g _ q_33 sv9 7 ((wup_s _ _ _).trans (by rw [hn7]; rfl)) _ ((wup_n (Ne.symm hbv)).trans (wup_s _ _ _)) (by decide) hlF) ce_J4_toString_0e30d cs_J4 (wup_s _ _ _) tw_2035 rfl rfl ⟨⟨le_b rfl, le_b rfl⟩, le_b rfl, le_b rfl⟩ (le_b rfl) dX11_first_69 rfl (fun r w h9 => ?_) nokx
    obtain ⟨a9, z9, ha9, hz9, hza, rfl, hsa, hsz, hx9⟩ := h9
    refine WP.rowB (f' := pfF σ.order q9) hsz (fun k hk => (cpy_at k hk).trans ((congrArg _ (Nat.zero_add k)).trans (hF k hk))) ?_
    refine WP.rm (RepM.by (RepM.xt hR_66 hx9) (RepM.ne hR_66 hz9) _) (fun hR_69 => ?_)
    refine s_putf hC cs_X11 20 tw_1269 (le_b rfl) rfl rfl rfl (RepM.f_main hR_69) (le_b rfl) dX11_first_72 rfl ?_
    refine WP.rm (RepM.str hR_66 ha9 hz9 hza ((wup_n (Ne.symm hza)).trans hsa) (wup_s _ _ _) (xt_up hx9 hz9 _)) (fun hR_72 => ?_)
    refine s_iload_n hC dX11_first_75 rfl rfl 0 rfl ?_
    refine s_iret hC hr dX11_first_76 (le_b rfl) (le_b rfl) ?_
    have hcd : cd_first σ (nI b9) = 0 := by simp [cd_first, c_1, c_2]
    have hnx : σ.w_order (pfF σ.order q9) = nx_first σ (nI b9) := by rw [nx_first, hx, nI_clamp (by omega)]
    exact okM_ok hcd rfl (by rw [vl_first, hx]) hR_72 hnx rfl rfl (grOK_cg hgr rfl rfl rfl)
  · refine s_iconst hC (v := 1) dX11_first_18 rfl (by decide) ?_
    refine s_goto hC (tgt := 23) dX11_first_19 (by decide) ?_
    refine s_iconst hC (v := 1) dX11_first_23 rfl (by decide) ?_
    refine s_callV hC (ct_X11_fails_t l g _ _ _ _ hR_1 (by first | rfl | exact hth) _ (by decide)) ce_X11_fails cs_X11 (RepM.f_main hR_1) tw_1422 rfl rfl ⟨⟨le_b rfl, le_b rfl⟩, le_b rfl, le_b rfl⟩ (le_b rfl) dX11_first_24 rfl (dvk1 ?_) nokx
    refine WP.rm (RepM.s_main_0 hR_1 _) (fun hR_24 => ?_)
    refine z_if_eq hC (tgt := 32) dX11_first_27 rfl (by decide) (fun c_3 => ((absurd c_3 (by decide) : False)).elim) (fun c_3 => ?_)
    refine s_iconst hC (v := (-1)) dX11_first_30 rfl (by decide) ?_
    refine s_iret hC hr dX11_first_31 (le_b rfl) (le_b rfl) ?_
    exact okM_no 1 (by simp [cd_first, c_1, c_3]) (by decide) (by rfl) hR_24 rfl rfl hgr
