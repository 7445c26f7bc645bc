def bIn (s : St) : Prop := ∀ i, i < s.nb → ∃ a b, a < 200 ∧ b < 4 ∧ (s.bo i).pl = nI a ∧ (s.bo i).ki = nI b
theorem ab_n {a p : Nat} (ha : a < 200) (hp : p < 200) : ∃ d, d < 200 ∧ iAbs (nI a - nI p) = nI d := by
  have h1 := nI_subI (a := a) (b := p) (by omega) (by omega)
  have hz : (0 : Int32).toInt = 0 := rfl
  by_cases h : p ≤ a
  · refine ⟨a - p, by omega, ?_⟩
    apply Int32.toInt_inj.mp
    rw [iAbs, if_pos (by rw [Int32.le_iff_toInt_le, h1, hz]; omega), h1, nI_toInt (by omega)]
    omega
  · refine ⟨p - a, by omega, ?_⟩
    apply Int32.toInt_inj.mp
    rw [iAbs, if_neg (by rw [Int32.le_iff_toInt_le, h1, hz]; omega), Int32.toInt_sub, h1, hz, nI_toInt (by omega)]
    rw [Int.bmod_eq_of_le (by omega) (by omega)]
    omega
theorem mx_d : ∀ d, d < 200 → iMax 0 (11 - nI d) = (if nI d ≤ 10 then 11 - nI d else 0) ∧ (nI d ≤ 10 → ∃ v, v ≤ 11 ∧ 11 - nI d = nI v) := by
  have h1 : ∀ d, d < 200 → iMax 0 (11 - nI d) = (if nI d ≤ 10 then 11 - nI d else 0) := by decide +kernel
  intro d hd
  refine ⟨h1 d hd, fun h => ⟨11 - d, by omega, ?_⟩⟩
  have h2 := (nI_leI (by omega) (by decide : 10 < 2 ^ 31)).mp h
  have h3 : ∀ d, d ≤ 10 → 11 - nI d = nI (11 - d) := by decide +kernel
  exact h3 d h2
theorem wt_b {s : St} {p : Nat} (hb : bIn s) (hp : p < 200) (k : Int32) (j : Nat) (hj : j ≤ s.nb) : ∃ v, v ≤ 11 * j ∧ wtF s (nI p) k j = nI v := by
  induction j with
  | zero => exact ⟨0, by omega, rfl⟩
  | succ j ih =>
    obtain ⟨v, hv, he⟩ := ih (by omega)
    obtain ⟨a, b, ha, hb2, h1, h2⟩ := hb j (by omega)
    obtain ⟨d, hd, h3⟩ := ab_n ha hp
    rw [wtF, h1, h3]
    by_cases c1 : (s.bo j).ki = k
    · rw [if_pos c1]
      by_cases c2 : nI d ≤ 10
      · rw [if_pos c2, he]
        obtain ⟨u, hu, h4⟩ := (mx_d d hd).2 c2
        rw [h4, nI_add]
        exact ⟨v + u, by omega, rfl⟩
      · rw [if_neg c2, he]
        exact ⟨v, by omega, rfl⟩
    · rw [if_neg c1, he]
      exact ⟨v, by omega, rfl⟩
theorem wt_step {s : St} {p j a b : Nat} {F : Nat → Int32} (hF : ∀ k, k < 4 → F k = wtF s (nI p) (nI k) j) (h1 : (s.bo j).pl = nI a) (h2 : (s.bo j).ki = nI b) (ha : a < 200) (hb : b < 4) (hp : p < 200) : ∀ k, k < 4 → upd F b (F b + iMax 0 (11 - iAbs (nI a - nI p))) k = wtF s (nI p) (nI k) (j + 1) := by
  intro k hk
  obtain ⟨d, hd, h3⟩ := ab_n ha hp
  rw [wtF, h1, h2, h3, (mx_d d hd).1]
  unfold upd
  by_cases hkb : k = b
  · subst hkb
    rw [if_pos rfl, if_pos rfl, hF k hk]
    by_cases c2 : nI d ≤ 10
    · rw [if_pos c2, if_pos c2]
    · rw [if_neg c2, if_neg c2, Int32.add_zero]
  · rw [if_neg hkb, if_neg (fun h => hkb ((nI_eq (by omega) (by omega)).mp h).symm), hF k hk]
theorem wup3 {ω : Wd} {p q : Nat} (h : p ≠ q) (a b a' : va_E) : wup (wup (wup ω p a) q b) p a' = wup (wup ω p a') q b := by
  funext z
  by_cases h1 : z = p
  · rw [h1, wup_s, wup_n h, wup_s]
  · rw [wup_n h1]
    by_cases h2 : z = q
    · rw [h2, wup_s, wup_s]
    · rw [wup_n h2, wup_n h2, wup_n h1, wup_n h1]
def bsK (f : Nat → Int32) : Nat → Nat
  | 0 => 0
  | j + 1 => if f (j + 1) ≤ f (bsK f j) then bsK f j else j + 1
theorem bsK_le (f : Nat → Int32) (j : Nat) : bsK f j ≤ j := by
  induction j with
  | zero => exact Nat.le_refl _
  | succ j ih =>
    rw [bsK]
    split <;> omega
theorem bsK_max (f : Nat → Int32) (j : Nat) : ∀ k, k ≤ j → f k ≤ f (bsK f j) := by
  induction j with
  | zero =>
    intro k hk
    obtain rfl : k = 0 := by omega
    exact Int32.le_refl _
  | succ j ih =>
    intro k hk
    rw [bsK]
    by_cases h : f (j + 1) ≤ f (bsK f j)
    · rw [if_pos h]
      by_cases h2 : k = j + 1
      · rw [h2]; exact h
      · exact ih k (by omega)
    · rw [if_neg h]
      by_cases h2 : k = j + 1
      · rw [h2]; exact Int32.le_refl _
      · exact Int32.le_trans (ih k (by omega)) (Int32.le_of_lt (Int32.not_le.mp h))
theorem lk_gen {s : St} {p : Nat} {F : Nat → Int32} (hF : ∀ k, k < 4 → F k = wtF s (nI p) (nI k) s.nb) (hn : ∀ k, k < 4 → 0 ≤ F k) (j : Nat) (hj : j < 4) : lkF s (nI p) (j + 1) = if F (bsK F j) = 0 then (-1, 0) else (nI (bsK F j), F (bsK F j)) := by
  induction j with
  | zero =>
    rw [lkF, ← hF 0 (by omega)]
    show (if F 0 ≤ 0 then ((-1 : Int32), (0 : Int32)) else (nI 0, F 0)) = if F 0 = 0 then (-1, 0) else (nI 0, F 0)
    simp only [le00 (hn 0 (by omega))]
  | succ j ih =>
    rw [lkF, ih (by omega), ← hF (j + 1) hj, bsK]
    by_cases h0 : F (bsK F j) = 0
    · rw [if_pos h0]
      show (if F (j + 1) ≤ 0 then ((-1 : Int32), (0 : Int32)) else (nI (j + 1), F (j + 1))) = _
      by_cases h1 : F (j + 1) ≤ F (bsK F j)
      · rw [if_pos h1, if_pos h0, if_pos (by rw [h0] at h1; exact h1)]
      · rw [if_neg h1]
        have h2 : ¬ F (j + 1) ≤ 0 := by rw [h0] at h1; exact h1
        rw [if_neg h2, if_neg (fun h3 => h2 (by rw [h3]; decide))]
    · rw [if_neg h0]
      show (if F (j + 1) ≤ F (bsK F j) then (nI (bsK F j), F (bsK F j)) else (nI (j + 1), F (j + 1))) = _
      by_cases h1 : F (j + 1) ≤ F (bsK F j)
      · rw [if_pos h1, if_pos h1, if_neg h0]
      · rw [if_neg h1, if_neg h1]
        have h2 : ¬ F (j + 1) = 0 := fun h3 => h1 (by rw [h3]; exact hn _ (by have := bsK_le F j; omega))
        rw [if_neg h2]
theorem wt_F {s : St} {p : Nat} {F : Nat → Int32} (hb : bIn s) (hp : p < 200) (hnb : s.nb ≤ 20) (hF : ∀ k, k < 4 → F k = wtF s (nI p) (nI k) s.nb) : ∀ k, k < 4 → ∃ v, v ≤ 220 ∧ F k = nI v := by
  intro k hk
  obtain ⟨v, hv, he⟩ := wt_b hb hp (nI k) s.nb (Nat.le_refl _)
  exact ⟨v, by omega, (hF k hk).trans he⟩
theorem wt_nn {F : Nat → Int32} (h : ∀ k, k < 4 → ∃ v, v ≤ 220 ∧ F k = nI v) : ∀ k, k < 4 → 0 ≤ F k := by
  intro k hk
  obtain ⟨v, hv, he⟩ := h k hk
  rw [he]
  exact nI_pos' (by omega)
theorem wa_eq {s : St} {p : Nat} {F : Nat → Int32} (hF : ∀ k, k < 4 → F k = wtF s (nI p) (nI k) s.nb) : F 0 + F 1 + F 2 + F 3 = waF s (nI p) 4 := by
  rw [hF 0 (by decide), hF 1 (by decide), hF 2 (by decide), hF 3 (by decide)]
  show _ = 0 + wtF s (nI p) (nI 0) s.nb + wtF s (nI p) (nI 1) s.nb + wtF s (nI p) (nI 2) s.nb + wtF s (nI p) (nI 3) s.nb
  rw [Int32.zero_add]
theorem wa_0 {F : Nat → Int32} (h : ∀ k, k < 4 → ∃ v, v ≤ 220 ∧ F k = nI v) : 0 ≤ F 0 + F 1 + F 2 + F 3 ∧ (F (bsK F 3) = 0 → F 0 + F 1 + F 2 + F 3 = 0) := by
  obtain ⟨v0, b0, e0⟩ := h 0 (by decide)
  obtain ⟨v1, b1, e1⟩ := h 1 (by decide)
  obtain ⟨v2, b2, e2⟩ := h 2 (by decide)
  obtain ⟨v3, b3, e3⟩ := h 3 (by decide)
  refine ⟨?_, fun hz => ?_⟩
  · rw [e0, e1, e2, e3, nI_add, nI_add, nI_add]
    exact nI_pos' (by omega)
  · have hm := bsK_max F 3
    rw [hz] at hm
    have m : ∀ k, k < 4 → F k = 0 := fun k hk => Int32.le_antisymm (hm k (by omega)) (wt_nn h k hk)
    rw [m 0 (by decide), m 1 (by decide), m 2 (by decide), m 3 (by decide)]
    rfl
theorem atC_4 {f : Nat → Int32} {q : Nat} (h : q < 4) : atC 4 f (nI q) = f q := by
  rw [atC, if_pos (nI_pos' (by omega)), if_neg (nI_nle2 h (by decide)), nI_clamp (by omega)]
set_option maxHeartbeats 1000000 in
set_option maxRecDepth 100000 in
theorem ct_X11_weights (l : Launch) (g : Gl) (ω : Wd) (ad : Iy → Nat) (y : Ey) (σ : St) (hR : RepM g ad y σ ω) (hb : bIn σ) (p9 : Nat) (hp : p9 < 200) : CT l g yX11_weights cX11_weights 5 (some (.array .int)) 3 61 2 8 [.ref (ad .main), .int (nI p9)] ω (fun r w => ∃ q F, r = some (.ref q) ∧ w q = some (.inl (g.2.1 0, 4, .inl F)) ∧ (∀ k, k < 4 → F k = wtF σ (nI p9) (nI k) σ.nb) ∧ RepM g ad y σ w) (nox) := by
  refine CT.of (own := "BoringheadModel") rfl rfl (le_b rfl) rfl ?_
  intro p e s m args below meth c sz0 hC hr htab hin
  refine s_iconst hC (v := 4) dX11_weights_0 rfl (by decide) ?_
  refine s_newa hC 0 (at0 := .int) (ty := .int) (N' := 4) (a0 := (4, .inl (fun _ => 0))) rfl rfl tw_83 (fun _ => rfl) (by decide) (by decide) (by decide) (le_b rfl) (le_b rfl) dX11_weights_1 rfl (fun q_1 hq_1 => ?_)
  have hn_q_1 := RepM.ne hR hq_1
  refine WP.rm (RepM.new hR hq_1 _) (fun hR_q_1 => ?_)
  refine s_astore_n hC (L' := [(2, _), (0, _), (1, _)]) dX11_weights_3 rfl rfl (le_b rfl) rfl ?_
  refine s_aload_n hC dX11_weights_4 rfl rfl 1 rfl ?_
  refine s_getf hC cs_X11 7 tw_1256 (le_b rfl) (RepM.f_main hR_q_1) rfl dX11_weights_5 rfl ?_
  refine s_callF hC (nA := 0) 2 (ct_Jx4a65c_iterator_32c93 l g _ _ _ _ _ (RepM.f_bores hR_q_1)) rfl tw_1501 tw_5 tw_1499 tw_1497 (by decide +kernel) cs_Jx4a65c (RepM.f_bores hR_q_1) tw_1494 rfl rfl ⟨⟨le_b rfl, le_b rfl⟩, le_b rfl, le_b rfl⟩ (le_b rfl) dX11_weights_8 rfl (fun r w h9 => ?_) nokx
  obtain ⟨q, rfl, hq9, rfl⟩ := h9
  have hnq := RepM.ne hR_q_1 hq9
  have hq1 : q_1 ≠ q := w_ne (wup_s _ _ _) hq9
  refine s_astore_n hC (L' := [(3, _), (2, _), (0, _), (1, _)]) dX11_weights_13 rfl rfl (le_b rfl) rfl ?_
  refine WP.sub (L' := [(0, _), (1, _), (2, _), (3, _)]) [2, 3, 1, 0] rfl ?_
  refine wp_loop (σ := (Nat → Int32) × Int32 × Wd × Nat) (I := fun (F, lr, W, j) => j ≤ σ.nb ∧ (∀ k, k < 4 → F k = wtF σ (nI p9) (nI k) j) ∧ W = wup (wup ω q_1 (.inl (g.2.1 0, 4, .inl F))) q (itE (nI j) lr y.mO (ad .bores))) (ωf := fun (F, lr, W, j) => W) (Lf := fun (F, lr, W, j) => [(0, .ref (ad .main)), (1, .int (nI p9)), (2, .ref q_1), (3, .ref q)]) (μ := fun (F, lr, W, j) => σ.nb - j) (x0 := ((fun _ => 0), (-1), _, 0)) ?_ ?_
  · exact ⟨Nat.zero_le _, fun k hk => rfl, by rw [nI_0]⟩
  · rintro ⟨F, lr, W, j⟩ hI ih
    dsimp only at hI ih ⊢
    obtain ⟨hj, hF, rfl⟩ := hI
    have hW0 := RepM.by hR hn_q_1 (.inl (g.2.1 0, 4, .inl F))
    have hW := RepM.by hW0 hnq (itE (nI j) lr y.mO (ad .bores))
    refine s_aload_n hC dX11_weights_14 rfl rfl 3 rfl ?_
    refine s_callF hC (nA := 0) 5 (ct_Jx35411_hasNext_aae02 l g _ _ _ _ _ _ _ _ (wup_s _ _ _) (RepM.f_bores hW) (RepM.b_bore hR) hj) rfl tw_1530 tw_29 tw_1528 tw_1526 (by decide +kernel) cs_Jx35411 (wup_s _ _ _) tw_1522 rfl rfl ⟨⟨le_b rfl, le_b rfl⟩, le_b rfl, le_b rfl⟩ (le_b rfl) dX11_weights_15 rfl (dvk1 ?_) nokx
    refine z_if_eqB hC (tgt := 62) dX11_weights_20 rfl (by decide) (fun c_1 => ?_) (fun c_1 => ?_)
    · obtain rfl : j = σ.nb := by
        have h9 := of_decide_eq_false c_1
        omega
      refine s_aload_n hC dX11_weights_62 rfl rfl 2 rfl ?_
      refine s_aret hC hr (by first | exact Or.inl ⟨_, rfl⟩ | exact Or.inr ⟨_, rfl⟩) dX11_weights_63 (le_b rfl) (le_b rfl) ?_
      exact ⟨q_1, F, rfl, (wup_n hq1).trans (wup_s _ _ _), hF, hW⟩
    · refine s_aload_n hC dX11_weights_23 rfl rfl 3 rfl ?_
      refine s_callF hC (nA := 0) 6 (ct_Jx35411_next_0502b l g _ _ _ _ _ _ _ _ (wup_s _ _ _) (RepM.f_bores hW) (RepM.b_bore hR) (of_decide_eq_true c_1) _ _ _ (RepM.p_bore hW (of_decide_eq_true c_1)).2.1 (RepM.p_bore hW (of_decide_eq_true c_1)).2.2.1 (RepM.p_bore hW (of_decide_eq_true c_1)).2.2.2.1 (RepM.p_bore hW (of_decide_eq_true c_1)).2.2.2.2) rfl tw_1539 tw_29 tw_1537 tw_1535 (by decide +kernel) cs_Jx35411 (wup_s _ _ _) tw_1532 rfl rfl ⟨⟨le_b rfl, le_b rfl⟩, le_b rfl, le_b rfl⟩ (le_b rfl) dX11_weights_24 rfl (dvk1 ?_) nokx
      rw [wup_wup]
      have hjn := of_decide_eq_true c_1
      have hW2 := RepM.by hW0 hnq (itE (nI (j + 1)) (nI j) y.mO (ad .bores))
      obtain ⟨a8, b8, ha8, hb8, hpl, hki⟩ := hb j hjn
      refine s_castI hC tw_1544 (RepM.f_bore hW2 hjn) dX11_weights_29 rfl ?_
      refine s_astore hC (L' := [(4, _), (0, _), (1, _), (2, _), (3, _)]) dX11_weights_32 rfl (le_b rfl) rfl ?_
      refine s_aload_n hC dX11_weights_34 rfl rfl 3 rfl ?_
      refine s_aload hC dX11_weights_35 rfl 0 rfl ?_
      refine s_iconst hC (v := 1) dX11_weights_37 rfl (by decide) ?_
      refine s_ialdK hC (Or.inl (RepM.f_bore hW2 hjn)) (vp_in_nI (by decide : 1 < 2) (by decide)) dX11_weights_38 rfl ?_
      rw [show boA (σ.bo j) (Int32.toNatClampNeg 1) = nI b8 from hki]
      refine s_dup2_11 hC dX11_weights_39 rfl rfl rfl ?_
      refine s_ialdK hC (Or.inl ((wup_n hq1).trans (wup_s _ _ _))) (vp_in_nI hb8 (by decide)) dX11_weights_40 rfl ?_
      rw [nI_clamp (show b8 < 2 ^ 31 by omega)]
      refine s_iconst hC (v := 0) dX11_weights_41 rfl (by decide) ?_
      refine s_bipush hC (v := 11) dX11_weights_42 rfl (by decide) ?_
      refine s_aload hC dX11_weights_44 rfl 0 rfl ?_
      refine s_iconst hC (v := 0) dX11_weights_46 rfl (by decide) ?_
      refine s_ialdK hC (Or.inl (RepM.f_bore hW2 hjn)) (vp_in_nI (by decide : 0 < 2) (by decide)) dX11_weights_47 rfl ?_
      rw [show boA (σ.bo j) (Int32.toNatClampNeg 0) = nI a8 from hpl]
      refine s_iload_n hC dX11_weights_48 rfl rfl 2 rfl ?_
      refine s_isub hC dX11_weights_49 rfl ?_
      refine s_abs hC tw_1545 ⟨le_b rfl, le_b rfl, le_b rfl, le_b rfl⟩ dX11_weights_50 rfl ?_
      refine s_isub hC dX11_weights_53 rfl ?_
      refine s_max hC tw_1546 ⟨le_b rfl, le_b rfl, le_b rfl, le_b rfl⟩ dX11_weights_54 rfl ?_
      refine s_iadd hC dX11_weights_57 rfl ?_
      refine s_iast hC ((wup_n hq1).trans (wup_s _ _ _)) (vp_in_nI hb8 (by decide)) dX11_weights_58 rfl ?_
      refine WP.rm (RepM.by hW2 hn_q_1 _) (fun hR_58 => ?_)
      refine s_goto hC (tgt := 14) dX11_weights_59 (by decide) ?_
      refine WP.sub (L' := [(0, _), (1, _), (2, _), (3, _)]) [1, 2, 3, 4] rfl ?_
      refine ih ((upd F b8 (F b8 + iMax 0 (11 - iAbs (nI a8 - nI p9)))), (nI j), _, j + 1) ?_ ?_
      · dsimp only
        have h9 := of_decide_eq_true c_1
        refine ⟨h9, wt_step hF hpl hki ha8 hb8 hp, ?_⟩
        rw [nI_clamp (show b8 < 2 ^ 31 by omega)]
        exact wup3 hq1 _ _ _
      · dsimp only
        have h9 := of_decide_eq_true c_1; omega
set_option maxHeartbeats 1000000 in
set_option maxRecDepth 100000 in
theorem ct_X11_best (l : Launch) (g : Gl) (ω : Wd) (a : Nat) (f : Nat → Int32) (ha : ω a = some (.inl (g.2.1 0, 4, .inl f))) : CT l g yX11_best cX11_best 3 (some .int) 0 0 0 0 [.ref a] ω (dv (some (.int (nI (bsK f 3)))) ω) (nox) := by
  refine CT.of (own := "BoringheadModel") rfl rfl (le_b rfl) rfl ?_
  intro p e s m args below meth c sz0 hC hr htab hin
  refine s_iconst hC (v := 0) dX11_best_0 rfl (by decide) ?_
  refine s_istore_n hC (L' := [(1, _), (0, _)]) dX11_best_1 rfl rfl (le_b rfl) rfl ?_
  refine s_iconst hC (v := 1) dX11_best_2 rfl (by decide) ?_
  refine s_istore_n hC (L' := [(2, _), (1, _), (0, _)]) dX11_best_3 rfl rfl (le_b rfl) rfl ?_
  refine WP.sub (L' := [(0, _), (1, _), (2, _)]) [2, 1, 0] rfl ?_
  refine wp_loop (σ := Int32 × Int32 × Nat) (I := fun (b9, i, j) => j ≤ 3 ∧ i = nI (j + 1) ∧ b9 = nI (bsK f j)) (ωf := fun (b9, i, j) => ω) (Lf := fun (b9, i, j) => [(0, .ref a), (1, .int b9), (2, .int i)]) (μ := fun (b9, i, j) => 3 - j) (x0 := (_, _, 0)) ?_ ?_
  · exact ⟨Nat.zero_le _, rfl, rfl⟩
  · rintro ⟨b9, i, j⟩ hI ih
    dsimp only at hI ih ⊢
    obtain ⟨hj, rfl, rfl⟩ := hI
    have hbl := bsK_le f j
    have hin9 : ¬ (4 : Int32) ≤ nI (j + 1) → j < 3 := fun h => by
      have h2 := mt (nI_leI (by decide : 4 < 2 ^ 31) (by omega)).mpr h
      omega
    refine s_iload_n hC dX11_best_4 rfl rfl 2 rfl ?_
    refine s_iconst hC (v := 4) dX11_best_5 rfl (by decide) ?_
    refine z_icmp_ge hC (tgt := 30) dX11_best_6 rfl (by decide) (fun c_1 => ?_) (fun c_1 => ?_)
    · refine s_iload_n hC dX11_best_30 rfl rfl 1 rfl ?_
      refine s_iret hC hr dX11_best_31 (le_b rfl) (le_b rfl) ?_
      have h2 := (nI_leI (by decide : 4 < 2 ^ 31) (by omega)).mp c_1
      obtain rfl : j = 3 := by omega
      exact ⟨rfl, rfl⟩
    · refine s_aload_n hC dX11_best_9 rfl rfl 0 rfl ?_
      refine s_iload_n hC dX11_best_10 rfl rfl 2 rfl ?_
      refine s_ialdK hC (Or.inl ha) (vp_in_nI (by have := hin9 c_1; omega : j + 1 < 4) (by decide)) dX11_best_11 rfl ?_
      refine s_aload_n hC dX11_best_12 rfl rfl 0 rfl ?_
      refine s_iload_n hC dX11_best_13 rfl rfl 1 rfl ?_
      refine s_ialdK hC (Or.inl ha) (vp_in_nI (by have := hin9 c_1; omega : bsK f j < 4) (by decide)) dX11_best_14 rfl ?_
      rw [nI_clamp (show j + 1 < 2 ^ 31 by omega), nI_clamp (show bsK f j < 2 ^ 31 by omega)]
      refine z_icmp_le hC (tgt := 22) dX11_best_15 rfl (by decide) (fun c_2 => ?_) (fun c_2 => ?_)
      · refine s_iload_n hC dX11_best_22 rfl rfl 1 rfl ?_
        refine s_istore_n hC (L' := [(1, _), (0, _), (2, _)]) dX11_best_23 rfl rfl (le_b rfl) rfl ?_
        refine s_iinc hC (v := _ + 1) (j9 := 2) (L' := [(2, _), (1, _), (0, _)]) dX11_best_24 rfl rfl rfl (le_b rfl) rfl ?_
        refine s_goto hC (tgt := 4) dX11_best_27 (by decide) ?_
        refine WP.sub (L' := [(0, _), (1, _), (2, _)]) [2, 1, 0] rfl ?_
        refine ih (_, _, j + 1) ?_ ?_
        · dsimp only
          have h9 := hin9 c_1
          refine ⟨by omega, nI_1 (j + 1), ?_⟩
          first
            | exact congrArg nI (if_pos c_2).symm
            | exact congrArg nI (if_neg c_2).symm
        · dsimp only
          have h9 := hin9 c_1; omega
      · refine s_iload_n hC dX11_best_18 rfl rfl 2 rfl ?_
        refine s_goto hC (tgt := 23) dX11_best_19 (by decide) ?_
        refine s_istore_n hC (L' := [(1, _), (0, _), (2, _)]) dX11_best_23 rfl rfl (le_b rfl) rfl ?_
        refine s_iinc hC (v := _ + 1) (j9 := 2) (L' := [(2, _), (1, _), (0, _)]) dX11_best_24 rfl rfl rfl (le_b rfl) rfl ?_
        refine s_goto hC (tgt := 4) dX11_best_27 (by decide) ?_
        refine WP.sub (L' := [(0, _), (1, _), (2, _)]) [2, 1, 0] rfl ?_
        refine ih (_, _, j + 1) ?_ ?_
        · dsimp only
          have h9 := hin9 c_1
          refine ⟨by omega, nI_1 (j + 1), ?_⟩
          first
            | exact congrArg nI (if_pos c_2).symm
            | exact congrArg nI (if_neg c_2).symm
        · dsimp only
          have h9 := hin9 c_1; omega
set_option maxHeartbeats 1000000 in
set_option maxRecDepth 100000 in
theorem ct_X11_guess (l : Launch) (g : Gl) (ω : Wd) (ad : Iy → Nat) (y : Ey) (σ : St) (hR : RepM g ad y σ ω) (p9 : Int32) (hgr : grOK σ y) (hk : kIn σ) (hbI : bIn σ) (hnb : bOK σ) : CT l g yX11_guess cX11_guess 3 (some .char) 4 85 2 8 [.ref (ad .main), .int p9] ω (okM g ad (cd_guess σ p9) Value.int (vl_guess σ p9) σ σ) (nox) := by
  refine CT.of (own := "BoringheadModel") rfl rfl (le_b rfl) rfl ?_
  intro p e s m args below meth c sz0 hC hr htab hin
  refine s_aload_n hC dX11_guess_0 rfl rfl 0 rfl ?_
  refine s_callV hC (ct_X11_begins l g _ _ _ _ hR) ce_X11_begins cs_X11 (RepM.f_main hR) tw_1324 rfl rfl ⟨⟨le_b rfl, le_b rfl⟩, le_b rfl, le_b rfl⟩ (le_b rfl) dX11_guess_1 rfl (dvk0 ?_) nokx
  refine WP.rm (RepM.s_main_0 hR 0) (fun hR_1 => ?_)
  refine s_aload_n hC dX11_guess_4 rfl rfl 0 rfl ?_
  refine s_iload_n hC dX11_guess_5 rfl rfl 1 rfl ?_
  refine s_callS hC (ct_X11_isPlace l g _ _) ce_X11_isPlace tw_1415 rfl rfl ⟨⟨le_b rfl, le_b rfl⟩, le_b rfl, le_b rfl⟩ (le_b rfl) dX11_guess_6 rfl (dvk1 ?_) nokx
  rw [isP_inR]
  refine z_if_neB hC (tgt := 16) dX11_guess_9 rfl (by decide) (fun c_1 => ?_) (fun c_1 => ?_)
  · refine s_iconst hC (v := 0) dX11_guess_16 rfl (by decide) ?_
    refine s_iconst hC (v := 1) dX11_guess_17 rfl (by decide) ?_
    refine s_callV hC (ct_X11_fails_f l g _ _ _ _ hR_1 (by first | rfl | exact hth) _) ce_X11_fails cs_X11 (RepM.f_main hR_1) tw_1422 rfl rfl ⟨⟨le_b rfl, le_b rfl⟩, le_b rfl, le_b rfl⟩ (le_b rfl) dX11_guess_18 rfl (dvk1 ?_) nokx
    refine z_if_eq hC (tgt := 27) dX11_guess_21 rfl (by decide) (fun c_2 => ?_) (fun c_2 => ((absurd c_2 (by decide) : False)).elim)
    obtain ⟨p8, hp8, rfl⟩ := inR_pl c_1
    obtain ⟨k8, hk8l, hk8⟩ := hk p8 hp8
    refine s_iload_n hC dX11_guess_27 rfl rfl 1 rfl ?_
    refine s_aload_n hC dX11_guess_28 rfl rfl 0 rfl ?_
    refine s_getf hC cs_X11 8 tw_1257 (le_b rfl) (RepM.f_main hR_1) rfl dX11_guess_29 rfl ?_
    refine s_callF hC (nA := 0) 0 (ct_Jx4a65c_size_8abf5 l g _ _ _ _ _ (RepM.f_rings hR_1)) rfl tw_276 tw_5 tw_274 tw_1431 (by decide +kernel) cs_Jx4a65c (RepM.f_rings hR_1) tw_1427 rfl rfl ⟨⟨le_b rfl, le_b rfl⟩, le_b rfl, le_b rfl⟩ (le_b rfl) dX11_guess_32 rfl (dvk1 ?_) nokx
    refine z_icmp_ge hC (tgt := 52) dX11_guess_37 rfl (by decide) (fun c_3 => ?_) (fun c_3 => ?_)
    · refine s_aload_n hC dX11_guess_52 rfl rfl 0 rfl ?_
      refine s_iload_n hC dX11_guess_53 rfl rfl 1 rfl ?_
      refine s_callV hC (ct_X11_weights l g _ _ _ _ hR_1 hbI p8 hp8) ce_X11_weights cs_X11 (RepM.f_main hR_1) tw_1489 rfl rfl ⟨⟨le_b rfl, le_b rfl⟩, le_b rfl, le_b rfl⟩ (le_b rfl) dX11_guess_54 rfl (fun r w h9 => ?_) nokx
      obtain ⟨q, F, rfl, hwq, hF, hRw⟩ := h9
      have hbs : bsK F 3 < 4 := Nat.lt_of_le_of_lt (bsK_le F 3) (by decide)
      have hwv := wt_F hbI hp8 hnb hF
      have hlk := lk_gen hF (wt_nn hwv) 3 (by decide)
      refine s_astore_n hC (L' := [(2, _), (0, _), (1, _)]) dX11_guess_57 rfl rfl (le_b rfl) rfl ?_
      refine s_aload_n hC dX11_guess_58 rfl rfl 0 rfl ?_
      refine s_aload_n hC dX11_guess_59 rfl rfl 0 rfl ?_
      refine s_callS hC (ct_X11_best l g _ _ _ hwq) ce_X11_best tw_1547 rfl rfl ⟨⟨le_b rfl, le_b rfl⟩, le_b rfl, le_b rfl⟩ (le_b rfl) dX11_guess_60 rfl (dvk1 ?_) nokx
      refine s_ialdK hC (Or.inl hwq) (vp_in_nI hbs (by decide)) dX11_guess_63 rfl ?_
      rw [nI_clamp (show bsK F 3 < 2 ^ 31 by omega)]
      refine z_if_ne hC (tgt := 72) dX11_guess_64 rfl (by decide) (fun c_4 => ?_) (fun c_4 => ?_)
      · refine s_ldcS hC 32 rfl dX11_guess_72 rfl ?_
        refine s_aload_n hC dX11_guess_74 rfl rfl 0 rfl ?_
        refine s_callS hC (ct_X11_best l g _ _ _ hwq) ce_X11_best tw_1547 rfl rfl ⟨⟨le_b rfl, le_b rfl⟩, le_b rfl, le_b rfl⟩ (le_b rfl) dX11_guess_75 rfl (dvk1 ?_) nokx
        refine s_callVs hC (ct_J0_charAt_5068e l g _ _ _ 4 (stF [99, 115, 114, 98]) (strK g _ (i := 1) rfl) _ (by decide) hbs lat_K) ce_J0_charAt_5068e rfl (strK g _ (i := 1) rfl) tw_1471 rfl rfl ⟨⟨le_b rfl, le_b rfl⟩, le_b rfl, le_b rfl⟩ (le_b rfl) dX11_guess_78 rfl (dvk1 ?_) nokx
        refine s_zret hC hr dX11_guess_81 (by first | rfl | exact kd_ch _) (le_b rfl) (le_b rfl) ?_
        exact okM_ok (by simp [cd_guess, c_1]) rfl (by rw [vl_guess, if_pos c_3, hlk, if_neg c_4]; show _ = (if 0 ≤ nI (bsK F 3) then atC 4 _ (nI (bsK F 3)) else 63); rw [if_pos (nI_pos' (by omega)), atC_4 hbs]) hRw rfl rfl rfl hgr
      · refine s_bipush hC (v := 63) dX11_guess_67 rfl (by decide) ?_
        refine s_goto hC (tgt := 81) dX11_guess_69 (by decide) ?_
        refine s_zret hC hr dX11_guess_81 rfl (le_b rfl) (le_b rfl) ?_
        exact okM_ok (by simp [cd_guess, c_1]) rfl (by rw [vl_guess, if_pos c_3, hlk, if_pos c_4]; rfl) hRw rfl rfl rfl hgr
    · refine s_ldcS hC 32 rfl dX11_guess_40 rfl ?_
      refine s_aload_n hC dX11_guess_42 rfl rfl 0 rfl ?_
      refine s_getf hC cs_X11 1 tw_1250 (le_b rfl) (RepM.f_main hR_1) rfl dX11_guess_43 rfl ?_
      refine s_iload_n hC dX11_guess_46 rfl rfl 1 rfl ?_
      refine s_ialdK hC (Or.inl (RepM.f_kinds hR_1)) (vp_in_nI hp8 (by decide)) dX11_guess_47 rfl ?_
      rw [nI_clamp (show p8 < 2 ^ 31 by omega), hk8]
      refine s_callVs hC (ct_J0_charAt_5068e l g _ _ _ 4 (stF [99, 115, 114, 98]) (strK g _ (i := 1) rfl) _ (by decide) hk8l lat_K) ce_J0_charAt_5068e rfl (strK g _ (i := 1) rfl) tw_1471 rfl rfl ⟨⟨le_b rfl, le_b rfl⟩, le_b rfl, le_b rfl⟩ (le_b rfl) dX11_guess_48 rfl (dvk1 ?_) nokx
      refine s_zret hC hr dX11_guess_51 (kd_ch _) (le_b rfl) (le_b rfl) ?_
      exact okM_ok (by simp [cd_guess, c_1]) rfl (by rw [vl_guess, if_neg c_3, atF_in (by decide) hp8, hk8, atC_4 hk8l]) hR_1 rfl rfl rfl hgr
  · refine s_iconst hC (v := 1) dX11_guess_12 rfl (by decide) ?_
    refine s_goto hC (tgt := 17) dX11_guess_13 (by decide) ?_
    refine s_iconst hC (v := 1) dX11_guess_17 rfl (by decide) ?_
    refine s_callV hC (ct_X11_fails_t l g _ _ _ _ hR_1 (by first | rfl | exact hth) _ (by decide)) ce_X11_fails cs_X11 (RepM.f_main hR_1) tw_1422 rfl rfl ⟨⟨le_b rfl, le_b rfl⟩, le_b rfl, le_b rfl⟩ (le_b rfl) dX11_guess_18 rfl (dvk1 ?_) nokx
    refine WP.rm (RepM.s_main_0 hR_1 _) (fun hR_18 => ?_)
    refine z_if_eq hC (tgt := 27) dX11_guess_21 rfl (by decide) (fun c_5 => ((absurd c_5 (by decide) : False)).elim) (fun c_5 => ?_)
    refine s_bipush hC (v := 32) dX11_guess_24 rfl (by decide) ?_
    refine s_zret hC hr dX11_guess_26 rfl (le_b rfl) (le_b rfl) ?_
    exact okM_no 1 (by simp [cd_guess, c_1]) (by decide) (by rfl) hR_18 rfl rfl hgr
set_option maxHeartbeats 1000000 in
set_option maxRecDepth 100000 in
theorem ct_X11_doubt (l : Launch) (g : Gl) (ω : Wd) (ad : Iy → Nat) (y : Ey) (σ : St) (hR : RepM g ad y σ ω) (p9 : Int32) (hgr : grOK σ y) (hk : kIn σ) (hbI : bIn σ) (hnb : bOK σ) : CT l g yX11_doubt cX11_doubt 4 (some .int) 4 85 2 8 [.ref (ad .main), .int p9] ω (okM g ad (cd_doubt σ p9) Value.int (vl_doubt σ p9) σ σ) (nox) := by
  refine CT.of (own := "BoringheadModel") rfl rfl (le_b rfl) rfl ?_
  intro p e s m args below meth c sz0 hC hr htab hin
  refine s_aload_n hC dX11_doubt_0 rfl rfl 0 rfl ?_
  refine s_callV hC (ct_X11_begins l g _ _ _ _ hR) ce_X11_begins cs_X11 (RepM.f_main hR) tw_1324 rfl rfl ⟨⟨le_b rfl, le_b rfl⟩, le_b rfl, le_b rfl⟩ (le_b rfl) dX11_doubt_1 rfl (dvk0 ?_) nokx
  refine WP.rm (RepM.s_main_0 hR 0) (fun hR_1 => ?_)
  refine s_aload_n hC dX11_doubt_4 rfl rfl 0 rfl ?_
  refine s_iload_n hC dX11_doubt_5 rfl rfl 1 rfl ?_
  refine s_callS hC (ct_X11_isPlace l g _ _) ce_X11_isPlace tw_1415 rfl rfl ⟨⟨le_b rfl, le_b rfl⟩, le_b rfl, le_b rfl⟩ (le_b rfl) dX11_doubt_6 rfl (dvk1 ?_) nokx
  rw [isP_inR]
  refine z_if_neB hC (tgt := 16) dX11_doubt_9 rfl (by decide) (fun c_1 => ?_) (fun c_1 => ?_)
  · refine s_iconst hC (v := 0) dX11_doubt_16 rfl (by decide) ?_
    refine s_iconst hC (v := 1) dX11_doubt_17 rfl (by decide) ?_
    refine s_callV hC (ct_X11_fails_f l g _ _ _ _ hR_1 (by first | rfl | exact hth) _) ce_X11_fails cs_X11 (RepM.f_main hR_1) tw_1422 rfl rfl ⟨⟨le_b rfl, le_b rfl⟩, le_b rfl, le_b rfl⟩ (le_b rfl) dX11_doubt_18 rfl (dvk1 ?_) nokx
    refine z_if_eq hC (tgt := 26) dX11_doubt_21 rfl (by decide) (fun c_2 => ?_) (fun c_2 => ((absurd c_2 (by decide) : False)).elim)
    obtain ⟨p8, hp8, rfl⟩ := inR_pl c_1
    refine s_aload_n hC dX11_doubt_26 rfl rfl 0 rfl ?_
    refine s_iload_n hC dX11_doubt_27 rfl rfl 1 rfl ?_
    refine s_callV hC (ct_X11_weights l g _ _ _ _ hR_1 hbI p8 hp8) ce_X11_weights cs_X11 (RepM.f_main hR_1) tw_1489 rfl rfl ⟨⟨le_b rfl, le_b rfl⟩, le_b rfl, le_b rfl⟩ (le_b rfl) dX11_doubt_28 rfl (fun r w h9 => ?_) nokx
    obtain ⟨q, F, rfl, hwq, hF, hRw⟩ := h9
    have hbs : bsK F 3 < 4 := Nat.lt_of_le_of_lt (bsK_le F 3) (by decide)
    have hwv := wt_F hbI hp8 hnb hF
    have hlk := lk_gen hF (wt_nn hwv) 3 (by decide)
    refine s_astore_n hC (L' := [(2, _), (0, _), (1, _)]) dX11_doubt_31 rfl rfl (le_b rfl) rfl ?_
    refine s_aload_n hC dX11_doubt_32 rfl rfl 0 rfl ?_
    refine s_iconst hC (v := 0) dX11_doubt_33 rfl (by decide) ?_
    refine s_ialdK hC (Or.inl hwq) (vp_in_nI (by decide : 0 < 4) (by decide)) dX11_doubt_34 rfl ?_
    refine s_aload_n hC dX11_doubt_35 rfl rfl 0 rfl ?_
    refine s_iconst hC (v := 1) dX11_doubt_36 rfl (by decide) ?_
    refine s_ialdK hC (Or.inl hwq) (vp_in_nI (by decide : 1 < 4) (by decide)) dX11_doubt_37 rfl ?_
    refine s_iadd hC dX11_doubt_38 rfl ?_
    refine s_aload_n hC dX11_doubt_39 rfl rfl 0 rfl ?_
    refine s_iconst hC (v := 2) dX11_doubt_40 rfl (by decide) ?_
    refine s_ialdK hC (Or.inl hwq) (vp_in_nI (by decide : 2 < 4) (by decide)) dX11_doubt_41 rfl ?_
    refine s_iadd hC dX11_doubt_42 rfl ?_
    refine s_aload_n hC dX11_doubt_43 rfl rfl 0 rfl ?_
    refine s_iconst hC (v := 3) dX11_doubt_44 rfl (by decide) ?_
    refine s_ialdK hC (Or.inl hwq) (vp_in_nI (by decide : 3 < 4) (by decide)) dX11_doubt_45 rfl ?_
    refine s_iadd hC dX11_doubt_46 rfl ?_
    refine WP.top (.int (waF σ (nI p8) 4)) (congrArg Value.int (wa_eq hF)) ?_
    refine s_istore_n hC (L' := [(3, _), (2, _), (0, _), (1, _)]) dX11_doubt_47 rfl rfl (le_b rfl) rfl ?_
    have hw0 : 0 ≤ waF σ (nI p8) 4 := (wa_eq hF) ▸ (wa_0 hwv).1
    refine s_iload_n hC dX11_doubt_48 rfl rfl 3 rfl ?_
    refine s_aload_n hC dX11_doubt_49 rfl rfl 2 rfl ?_
    refine s_getf hC cs_X11 8 tw_1257 (le_b rfl) (RepM.f_main hRw) rfl dX11_doubt_50 rfl ?_
    refine s_callF hC (nA := 0) 0 (ct_Jx4a65c_size_8abf5 l g _ _ _ _ _ (RepM.f_rings hRw)) rfl tw_276 tw_5 tw_274 tw_1431 (by decide +kernel) cs_Jx4a65c (RepM.f_rings hRw) tw_1427 rfl rfl ⟨⟨le_b rfl, le_b rfl⟩, le_b rfl, le_b rfl⟩ (le_b rfl) dX11_doubt_53 rfl (dvk1 ?_) nokx
    refine z_icmp_ge hC (tgt := 65) dX11_doubt_58 rfl (by decide) (fun c_3 => ?_) (fun c_3 => ?_)
    · refine s_iload_n hC dX11_doubt_65 rfl rfl 0 rfl ?_
      refine z_if_ne hC (tgt := 75) dX11_doubt_66 rfl (by decide) (fun c_4 => ?_) (fun c_4 => ?_)
      · refine s_sipush hC (v := 1000) dX11_doubt_75 rfl (by decide) ?_
        refine s_sipush hC (v := 1000) dX11_doubt_78 rfl (by decide) ?_
        refine s_aload_n hC dX11_doubt_81 rfl rfl 1 rfl ?_
        refine s_aload_n hC dX11_doubt_82 rfl rfl 1 rfl ?_
        refine s_callS hC (ct_X11_best l g _ _ _ hwq) ce_X11_best tw_1547 rfl rfl ⟨⟨le_b rfl, le_b rfl⟩, le_b rfl, le_b rfl⟩ (le_b rfl) dX11_doubt_83 rfl (dvk1 ?_) nokx
        refine s_ialdK hC (Or.inl hwq) (vp_in_nI hbs (by decide)) dX11_doubt_86 rfl ?_
        rw [nI_clamp (show bsK F 3 < 2 ^ 31 by omega)]
        refine s_imul hC dX11_doubt_87 rfl ?_
        refine s_iload_n hC dX11_doubt_88 rfl rfl 0 rfl ?_
        refine s_idiv hC dX11_doubt_89 rfl c_4 ?_
        refine s_isub hC dX11_doubt_90 rfl ?_
        refine s_iret hC hr dX11_doubt_91 (le_b rfl) (le_b rfl) ?_
        have hb0 : ¬ F (bsK F 3) = 0 := fun h => c_4 ((wa_eq hF).symm.trans ((wa_0 hwv).2 h))
        exact okM_ok (by simp [cd_doubt, c_1]) rfl (by rw [vl_doubt, if_pos c_3, if_neg (fun h => c_4 ((le00 hw0).mp h)), hlk, if_neg hb0, hF _ hbs]) hRw rfl rfl rfl hgr
      · refine s_sipush hC (v := 1000) dX11_doubt_69 rfl (by decide) ?_
        refine s_goto hC (tgt := 91) dX11_doubt_72 (by decide) ?_
        refine s_iret hC hr dX11_doubt_91 (le_b rfl) (le_b rfl) ?_
        exact okM_ok (by simp [cd_doubt, c_1]) rfl (by rw [vl_doubt, if_pos c_3, if_pos ((le00 hw0).mpr c_4)]) hRw rfl rfl rfl hgr
    · refine s_iconst hC (v := 0) dX11_doubt_61 rfl (by decide) ?_
      refine s_goto hC (tgt := 91) dX11_doubt_62 (by decide) ?_
      refine s_iret hC hr dX11_doubt_91 (le_b rfl) (le_b rfl) ?_
      exact okM_ok (by simp [cd_doubt, c_1]) rfl (by rw [vl_doubt, if_neg c_3]) hRw rfl rfl rfl hgr
  · refine s_iconst hC (v := 1) dX11_doubt_12 rfl (by decide) ?_
    refine s_goto hC (tgt := 17) dX11_doubt_13 (by decide) ?_
    refine s_iconst hC (v := 1) dX11_doubt_17 rfl (by decide) ?_
    refine s_callV hC (ct_X11_fails_t l g _ _ _ _ hR_1 (by first | rfl | exact hth) _ (by decide)) ce_X11_fails cs_X11 (RepM.f_main hR_1) tw_1422 rfl rfl ⟨⟨le_b rfl, le_b rfl⟩, le_b rfl, le_b rfl⟩ (le_b rfl) dX11_doubt_18 rfl (dvk1 ?_) nokx
    refine WP.rm (RepM.s_main_0 hR_1 _) (fun hR_18 => ?_)
    refine z_if_eq hC (tgt := 26) dX11_doubt_21 rfl (by decide) (fun c_5 => ((absurd c_5 (by decide) : False)).elim) (fun c_5 => ?_)
    refine s_iconst hC (v := (-1)) dX11_doubt_24 rfl (by decide) ?_
    refine s_iret hC hr dX11_doubt_25 (le_b rfl) (le_b rfl) ?_
    exact okM_no 1 (by simp [cd_doubt, c_1]) (by decide) (by rfl) hR_18 rfl rfl hgr
