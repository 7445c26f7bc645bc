theorem inJ_inR (x lo hi : Int32) {a b : Int64} (ha : lo.toInt64 = a) (hb : hi.toInt64 = b) : inJ x.toInt64 a b = inR x lo hi := by
  subst ha hb
  simp [inJ, inR, Int64.le_iff_toInt_le, Int32.le_iff_toInt_le]
theorem inR_inL {n : Nat} (hn : n < 2 ^ 31) (r : Int32) : inR r 0 (nI n - 1) = inL n r := by
  rcases n with _ | n
  · have h1 : nI 0 - 1 = -1 := by decide
    rw [h1]
    by_cases h : (0 : Int32) ≤ r
    · have h2 : ¬ r ≤ -1 := fun h3 => absurd (Int32.le_trans h h3) (by decide)
      have h4 : nI 0 ≤ r := h
      simp [inR, inL, h, h2, h4]
    · simp [inR, inL, h]
  · rw [nI_pred]
    by_cases h : (0 : Int32) ≤ r
    · obtain ⟨j, hj, rfl⟩ := nI_of (Int32.not_lt.mpr h)
      by_cases h2 : j ≤ n
      · have h3 : nI j ≤ nI n := nI_le h2 (by omega)
        have h4 : ¬ nI (n + 1) ≤ nI j := nI_nle2 (by omega) hn
        simp [inR, inL, h, h3, h4]
      · have h3 : ¬ nI j ≤ nI n := nI_nle2 (by omega) hj
        have h4 : nI (n + 1) ≤ nI j := nI_le (by omega) hj
        simp [inR, inL, h, h3, h4]
    · simp [inR, inL, h]
def grOK (σ : St) (y : Ey) : Prop := ∀ i, i < σ.n → y.gr i = if (σ.ring i).fi = 0 then -1 else (σ.ring i).ff
/-- the model's end: the exception's number, else the answer and the next state -/
def okM {α : Type} (g : Gl) (ad : Iy → Nat) (cd : Nat) (K : α → Value) (vl : α) (nx σ : St) : Option Value → Wd → Prop := fun r w => ∃ b ad' y', r = some (K b) ∧ (cd = 0 → b = vl) ∧ RepM g ad' y' (if cd = 0 then nx else σ) w ∧ ad' .main = ad .main ∧ y'.th = nI cd ∧ grOK (if cd = 0 then nx else σ) y'
theorem okM_no {α : Type} {g : Gl} {ad ad' : Iy → Nat} {cd : Nat} {K : α → Value} {vl b : α} {nx σ : St} {r : Option Value} {w : Wd} {y' : Ey} (k : Nat) (hc : cd = k) (hk : ¬ k = 0) (hr : r = some (K b)) (hR : RepM g ad' y' σ w) (hm : ad' .main = ad .main) (ht : y'.th = nI k) (hg : grOK σ y') : okM g ad cd K vl nx σ r w := by
  subst hc
  exact ⟨b, ad', y', hr, fun z => absurd z hk, by rw [if_neg hk]; exact hR, hm, ht, by rw [if_neg hk]; exact hg⟩
theorem okM_ok {α : Type} {g : Gl} {ad ad' : Iy → Nat} {cd : Nat} {K : α → Value} {vl b : α} {nx nx' σ : St} {r : Option Value} {w : Wd} {y' : Ey} (hc : cd = 0) (hr : r = some (K b)) (hb : b = vl) (hR : RepM g ad' y' nx' w) (hs : nx' = nx) (hm : ad' .main = ad .main) (ht : y'.th = 0) (hg : grOK nx' y') : okM g ad cd K vl nx σ r w := by
  subst hc hs
  exact ⟨b, ad', y', hr, fun _ => hb, by rw [if_pos rfl]; exact hR, hm, ht, by rw [if_pos rfl]; exact hg⟩
theorem isP_inR (p9 : Int32) : inJ p9.toInt64 0 199 = inR p9 0 199 := inJ_inR p9 0 199 (by decide) (by decide)
def kIn (σ : St) : Prop := ∀ i, i < 200 → ∃ q, q < 4 ∧ σ.kinds i = nI q
theorem inR_pl {p9 : Int32} (h : inR p9 0 199 = true) : ∃ q, q < 200 ∧ p9 = nI q := by
  simp only [inR, Bool.and_eq_true, decide_eq_true_eq] at h
  obtain ⟨q, hq, rfl⟩ := nI_of (Int32.not_lt.mpr h.1)
  have := (nI_leI hq (by decide : 199 < 2 ^ 31)).mp h.2
  exact ⟨q, by omega, rfl⟩
set_option maxHeartbeats 1000000 in
set_option maxRecDepth 100000 in
theorem ct_X11_noRing (l : Launch) (g : Gl) (ω : Wd) (ad : Iy → Nat) (y : Ey) (σ : St) (hR : RepM g ad y σ ω) (hth : y.th = 0) (r9 : Int32) : CT l g yX11_noRing cX11_noRing 2 (some .boolean) 2 46 0 0 [.ref (ad .main), .int r9] ω (fun r w => (inL σ.n r9 = true ∧ r = some (.int 0) ∧ w = ω) ∨ (inL σ.n r9 = false ∧ r = some (.int 1) ∧ w = wup ω (ad .main) (.inr (16, (mnL ad y σ).set 0 (.int 1))))) (nox) := by
  refine CT.of (own := "BoringheadModel") rfl rfl (le_b rfl) rfl ?_
  intro p e s m args below meth c sz0 hC hr htab hin
  refine s_aload_n hC dX11_noRing_0 rfl rfl 0 rfl ?_
  refine s_aload_n hC dX11_noRing_1 rfl rfl 0 rfl ?_
  refine s_getf hC cs_X11 8 tw_1257 (le_b rfl) (RepM.f_main hR) rfl dX11_noRing_2 rfl ?_
  refine s_iload_n hC dX11_noRing_5 rfl rfl 1 rfl ?_
  refine s_callS hC (ct_X11_isOf_rings l g _ _ _ _ hR _) ce_X11_isOf tw_1679 rfl rfl ⟨⟨le_b rfl, le_b rfl⟩, le_b rfl, le_b rfl⟩ (le_b rfl) dX11_noRing_6 rfl (dvk1 ?_) nokx
  rw [inJ_inR r9 0 (nI σ.n - 1) (by decide) rfl, inR_inL (Nat.lt_of_le_of_lt (RepM.b_ring hR) (by decide))]
  refine z_if_neB hC (tgt := 16) dX11_noRing_9 rfl (by decide) (fun c_1 => ?_) (fun c_1 => ?_)
  · refine s_iconst hC (v := 0) dX11_noRing_16 rfl (by decide) ?_
    refine s_iconst hC (v := 1) dX11_noRing_17 rfl (by decide) ?_
    refine s_callV hC (ct_X11_fails_f l g _ _ _ _ hR (by first | rfl | exact hth) _) ce_X11_fails cs_X11 (RepM.f_main hR) tw_1422 rfl rfl ⟨⟨le_b rfl, le_b rfl⟩, le_b rfl, le_b rfl⟩ (le_b rfl) dX11_noRing_18 rfl (dvk1 ?_) nokx
    refine s_zret hC hr dX11_noRing_21 rfl (le_b rfl) (le_b rfl) ?_
    first
      | exact Or.inl ⟨c_1, rfl, rfl⟩
      | exact Or.inr ⟨c_1, rfl, rfl⟩
  · refine s_iconst hC (v := 1) dX11_noRing_12 rfl (by decide) ?_
    refine s_goto hC (tgt := 17) dX11_noRing_13 (by decide) ?_
    refine s_iconst hC (v := 1) dX11_noRing_17 rfl (by decide) ?_
    refine s_callV hC (ct_X11_fails_t l g _ _ _ _ hR (by first | rfl | exact hth) _ (by decide)) ce_X11_fails cs_X11 (RepM.f_main hR) tw_1422 rfl rfl ⟨⟨le_b rfl, le_b rfl⟩, le_b rfl, le_b rfl⟩ (le_b rfl) dX11_noRing_18 rfl (dvk1 ?_) nokx
    refine WP.rm (RepM.s_main_0 hR _) (fun hR_18 => ?_)
    refine s_zret hC hr dX11_noRing_21 rfl (le_b rfl) (le_b rfl) ?_
    first
      | exact Or.inl ⟨c_1, rfl, rfl⟩
      | exact Or.inr ⟨c_1, rfl, rfl⟩
set_option maxHeartbeats 1000000 in
set_option maxRecDepth 100000 in
theorem ct_X11_noHouse (l : Launch) (g : Gl) (ω : Wd) (ad : Iy → Nat) (y : Ey) (σ : St) (hR : RepM g ad y σ ω) (hth : y.th = 0) (r9 : Int32) : CT l g yX11_noHouse cX11_noHouse 2 (some .boolean) 2 46 0 0 [.ref (ad .main), .int r9] ω (fun r w => (inL σ.nh r9 = true ∧ r = some (.int 0) ∧ w = ω) ∨ (inL σ.nh r9 = false ∧ r = some (.int 1) ∧ w = wup ω (ad .main) (.inr (16, (mnL ad y σ).set 0 (.int 1))))) (nox) := by
  refine CT.of (own := "BoringheadModel") rfl rfl (le_b rfl) rfl ?_
  intro p e s m args below meth c sz0 hC hr htab hin
  refine s_aload_n hC dX11_noHouse_0 rfl rfl 0 rfl ?_
  refine s_aload_n hC dX11_noHouse_1 rfl rfl 0 rfl ?_
  refine s_getf hC cs_X11 10 tw_1259 (le_b rfl) (RepM.f_main hR) rfl dX11_noHouse_2 rfl ?_
  refine s_iload_n hC dX11_noHouse_5 rfl rfl 1 rfl ?_
  refine s_callS hC (ct_X11_isOf_houses l g _ _ _ _ hR _) ce_X11_isOf tw_1679 rfl rfl ⟨⟨le_b rfl, le_b rfl⟩, le_b rfl, le_b rfl⟩ (le_b rfl) dX11_noHouse_6 rfl (dvk1 ?_) nokx
  rw [inJ_inR r9 0 (nI σ.nh - 1) (by decide) rfl, inR_inL (Nat.lt_of_le_of_lt (RepM.b_house hR) (by decide))]
  refine z_if_neB hC (tgt := 16) dX11_noHouse_9 rfl (by decide) (fun c_1 => ?_) (fun c_1 => ?_)
  · refine s_iconst hC (v := 0) dX11_noHouse_16 rfl (by decide) ?_
    refine s_iconst hC (v := 1) dX11_noHouse_17 rfl (by decide) ?_
    refine s_callV hC (ct_X11_fails_f l g _ _ _ _ hR (by first | rfl | exact hth) _) ce_X11_fails cs_X11 (RepM.f_main hR) tw_1422 rfl rfl ⟨⟨le_b rfl, le_b rfl⟩, le_b rfl, le_b rfl⟩ (le_b rfl) dX11_noHouse_18 rfl (dvk1 ?_) nokx
    refine s_zret hC hr dX11_noHouse_21 rfl (le_b rfl) (le_b rfl) ?_
    first
      | exact Or.inl ⟨c_1, rfl, rfl⟩
      | exact Or.inr ⟨c_1, rfl, rfl⟩
  · refine s_iconst hC (v := 1) dX11_noHouse_12 rfl (by decide) ?_
    refine s_goto hC (tgt := 17) dX11_noHouse_13 (by decide) ?_
    refine s_iconst hC (v := 1) dX11_noHouse_17 rfl (by decide) ?_
    refine s_callV hC (ct_X11_fails_t l g _ _ _ _ hR (by first | rfl | exact hth) _ (by decide)) ce_X11_fails cs_X11 (RepM.f_main hR) tw_1422 rfl rfl ⟨⟨le_b rfl, le_b rfl⟩, le_b rfl, le_b rfl⟩ (le_b rfl) dX11_noHouse_18 rfl (dvk1 ?_) nokx
    refine WP.rm (RepM.s_main_0 hR _) (fun hR_18 => ?_)
    refine s_zret hC hr dX11_noHouse_21 rfl (le_b rfl) (le_b rfl) ?_
    first
      | exact Or.inl ⟨c_1, rfl, rfl⟩
      | exact Or.inr ⟨c_1, rfl, rfl⟩
set_option maxHeartbeats 1000000 in
set_option maxRecDepth 100000 in
theorem ct_X11_pressure (l : Launch) (g : Gl) (ω : Wd) (ad : Iy → Nat) (y : Ey) (σ : St) (hR : RepM g ad y σ ω) (p9 : Int32) (hgr : grOK σ y) : CT l g yX11_pressure cX11_pressure 3 (some .int) 1 25 0 0 [.ref (ad .main), .int p9] ω (okM g ad (cd_pressure σ p9) Value.int (vl_pressure σ p9) (nx_pressure σ p9) σ) (nox) := by
  refine CT.of (own := "BoringheadModel") rfl rfl (le_b rfl) rfl ?_
  intro p e s m args below meth c sz0 hC hr htab hin
  refine s_aload_n hC dX11_pressure_0 rfl rfl 0 rfl ?_
  refine s_callV hC (ct_X11_begins l g _ _ _ _ hR) ce_X11_begins cs_X11 (RepM.f_main hR) tw_1324 rfl rfl ⟨⟨le_b rfl, le_b rfl⟩, le_b rfl, le_b rfl⟩ (le_b rfl) dX11_pressure_1 rfl (dvk0 ?_) nokx
  refine WP.rm (RepM.s_main_0 hR 0) (fun hR_1 => ?_)
  refine s_aload_n hC dX11_pressure_4 rfl rfl 0 rfl ?_
  refine s_iload_n hC dX11_pressure_5 rfl rfl 1 rfl ?_
  refine s_i2l hC dX11_pressure_6 rfl rfl ?_
  refine s_lconst hC (v := 0) dX11_pressure_7 rfl (by decide) ?_
  refine s_ldc2 hC tw_1558 dX11_pressure_8 rfl ?_
  refine s_callS hC (ct_X11_in l g _ _ _ _) ce_X11_in tw_1419 rfl rfl ⟨⟨le_b rfl, le_b rfl⟩, le_b rfl, le_b rfl⟩ (le_b rfl) dX11_pressure_11 rfl (dvk1 ?_) nokx
  rw [inJ_inR p9 0 2000 (by decide) (by decide)]
  refine z_if_neB hC (tgt := 21) dX11_pressure_14 rfl (by decide) (fun c_1 => ?_) (fun c_1 => ?_)
  · refine s_iconst hC (v := 0) dX11_pressure_21 rfl (by decide) ?_
    refine s_iconst hC (v := 1) dX11_pressure_22 rfl (by decide) ?_
    refine s_callV hC (ct_X11_fails_f l g _ _ _ _ hR_1 (by first | rfl | exact hth) _) ce_X11_fails cs_X11 (RepM.f_main hR_1) tw_1422 rfl rfl ⟨⟨le_b rfl, le_b rfl⟩, le_b rfl, le_b rfl⟩ (le_b rfl) dX11_pressure_23 rfl (dvk1 ?_) nokx
    refine z_if_eq hC (tgt := 31) dX11_pressure_26 rfl (by decide) (fun c_2 => ?_) (fun c_2 => ((absurd c_2 (by decide) : False)).elim)
    refine s_aload_n hC dX11_pressure_31 rfl rfl 0 rfl ?_
    refine s_getf hC cs_X11 11 tw_1260 (le_b rfl) (RepM.f_main hR_1) rfl dX11_pressure_32 rfl ?_
    refine s_istore_n hC (L' := [(2, _), (0, _), (1, _)]) dX11_pressure_35 rfl rfl (le_b rfl) rfl ?_
    refine s_aload_n hC dX11_pressure_36 rfl rfl 1 rfl ?_
    refine s_iload_n hC dX11_pressure_37 rfl rfl 2 rfl ?_
    refine s_putf hC cs_X11 11 tw_1260 (le_b rfl) rfl rfl rfl (RepM.f_main hR_1) (le_b rfl) dX11_pressure_38 rfl ?_
    refine WP.rm (RepM.s_main_11 hR_1 _) (fun hR_38 => ?_)
    refine s_iload_n hC dX11_pressure_41 rfl rfl 0 rfl ?_
    refine s_iret hC hr dX11_pressure_42 (le_b rfl) (le_b rfl) ?_
    first
      | exact okM_ok (by simp [cd_pressure, c_1, c_2]) rfl (by first | (simp [vl_pressure, c_1, c_2]; done) | rfl) hR_38 rfl rfl rfl hgr
      | exact okM_no 1 (by simp [cd_pressure, c_1, c_2]) (by decide) (by rfl) hR_38 rfl rfl hgr
  · refine s_iconst hC (v := 1) dX11_pressure_17 rfl (by decide) ?_
    refine s_goto hC (tgt := 22) dX11_pressure_18 (by decide) ?_
    refine s_iconst hC (v := 1) dX11_pressure_22 rfl (by decide) ?_
    refine s_callV hC (ct_X11_fails_t l g _ _ _ _ hR_1 (by first | rfl | exact hth) _ (by decide)) ce_X11_fails cs_X11 (RepM.f_main hR_1) tw_1422 rfl rfl ⟨⟨le_b rfl, le_b rfl⟩, le_b rfl, le_b rfl⟩ (le_b rfl) dX11_pressure_23 rfl (dvk1 ?_) nokx
    refine WP.rm (RepM.s_main_0 hR_1 _) (fun hR_23 => ?_)
    refine z_if_eq hC (tgt := 31) dX11_pressure_26 rfl (by decide) (fun c_3 => ((absurd c_3 (by decide) : False)).elim) (fun c_3 => ?_)
    refine s_iconst hC (v := (-1)) dX11_pressure_29 rfl (by decide) ?_
    refine s_iret hC hr dX11_pressure_30 (le_b rfl) (le_b rfl) ?_
    first
      | exact okM_ok (by simp [cd_pressure, c_1, c_3]) rfl (by first | (simp [vl_pressure, c_1, c_3]; done) | rfl) hR_23 rfl rfl rfl hgr
      | exact okM_no 1 (by simp [cd_pressure, c_1, c_3]) (by decide) (by rfl) hR_23 rfl rfl hgr
set_option maxHeartbeats 1000000 in
set_option maxRecDepth 100000 in
theorem ct_X11_heading (l : Launch) (g : Gl) (ω : Wd) (ad : Iy → Nat) (y : Ey) (σ : St) (hR : RepM g ad y σ ω) (b9 : Bool) (hgr : grOK σ y) : CT l g yX11_heading cX11_heading 2 (some .int) 1 20 0 0 [.ref (ad .main), .int (bI b9)] ω (okM g ad 0 Value.int (vl_heading σ b9) σ σ) (nox) := by
  refine CT.of (own := "BoringheadModel") rfl rfl (le_b rfl) rfl ?_
  intro p e s m args below meth c sz0 hC hr htab hin
  refine s_aload_n hC dX11_heading_0 rfl rfl 0 rfl ?_
  refine s_callV hC (ct_X11_begins l g _ _ _ _ hR) ce_X11_begins cs_X11 (RepM.f_main hR) tw_1324 rfl rfl ⟨⟨le_b rfl, le_b rfl⟩, le_b rfl, le_b rfl⟩ (le_b rfl) dX11_heading_1 rfl (dvk0 ?_) nokx
  refine WP.rm (RepM.s_main_0 hR 0) (fun hR_1 => ?_)
  refine s_iload_n hC dX11_heading_4 rfl rfl 1 rfl ?_
  refine z_if_eqB hC (tgt := 15) dX11_heading_5 rfl (by decide) (fun c_1 => ?_) (fun c_1 => ?_)
  · refine s_aload_n hC dX11_heading_15 rfl rfl 0 rfl ?_
    refine s_getf hC cs_X11 15 tw_1264 (le_b rfl) (RepM.f_main hR_1) rfl dX11_heading_16 rfl ?_
    refine s_iret hC hr dX11_heading_19 (le_b rfl) (le_b rfl) ?_
    exact okM_ok (rfl) rfl (by first | (simp [vl_heading, c_1]; done) | rfl) hR_1 rfl rfl rfl hgr
  · refine s_aload_n hC dX11_heading_8 rfl rfl 0 rfl ?_
    refine s_getf hC cs_X11 16 tw_1265 (le_b rfl) (RepM.f_main hR_1) rfl dX11_heading_9 rfl ?_
    refine s_goto hC (tgt := 19) dX11_heading_12 (by decide) ?_
    refine s_iret hC hr dX11_heading_19 (le_b rfl) (le_b rfl) ?_
    exact okM_ok (rfl) rfl (by first | (simp [vl_heading, c_1]; done) | rfl) hR_1 rfl rfl rfl hgr
set_option maxHeartbeats 1000000 in
set_option maxRecDepth 100000 in
theorem ct_X11_rings (l : Launch) (g : Gl) (ω : Wd) (ad : Iy → Nat) (y : Ey) (σ : St) (hR : RepM g ad y σ ω) (hgr : grOK σ y) : CT l g yX11_rings cX11_rings 1 (some .int) 1 20 0 0 [.ref (ad .main)] ω (okM g ad 0 Value.int (vl_rings σ) σ σ) (nox) := by
  refine CT.of (own := "BoringheadModel") rfl rfl (le_b rfl) rfl ?_
  intro p e s m args below meth c sz0 hC hr htab hin
  refine s_aload_n hC dX11_rings_0 rfl rfl 0 rfl ?_
  refine s_callV hC (ct_X11_begins l g _ _ _ _ hR) ce_X11_begins cs_X11 (RepM.f_main hR) tw_1324 rfl rfl ⟨⟨le_b rfl, le_b rfl⟩, le_b rfl, le_b rfl⟩ (le_b rfl) dX11_rings_1 rfl (dvk0 ?_) nokx
  refine WP.rm (RepM.s_main_0 hR 0) (fun hR_1 => ?_)
  refine s_aload_n hC dX11_rings_4 rfl rfl 0 rfl ?_
  refine s_getf hC cs_X11 8 tw_1257 (le_b rfl) (RepM.f_main hR_1) rfl dX11_rings_5 rfl ?_
  refine s_callF hC (nA := 0) 0 (ct_Jx4a65c_size_8abf5 l g _ _ _ _ _ (RepM.f_rings hR_1)) rfl tw_276 tw_5 tw_274 tw_1431 (by decide +kernel) cs_Jx4a65c (RepM.f_rings hR_1) tw_1427 rfl rfl ⟨⟨le_b rfl, le_b rfl⟩, le_b rfl, le_b rfl⟩ (le_b rfl) dX11_rings_8 rfl (dvk1 ?_) nokx
  refine s_iret hC hr dX11_rings_13 (le_b rfl) (le_b rfl) ?_
  exact okM_ok (rfl) rfl (by first | (simp [vl_rings, if_true]; done) | rfl) hR_1 rfl rfl rfl hgr
set_option maxHeartbeats 1000000 in
set_option maxRecDepth 100000 in
theorem ct_X11_muck (l : Launch) (g : Gl) (ω : Wd) (ad : Iy → Nat) (y : Ey) (σ : St) (hR : RepM g ad y σ ω) (hgr : grOK σ y) : CT l g yX11_muck cX11_muck 1 (some .int) 1 20 0 0 [.ref (ad .main)] ω (okM g ad 0 Value.int (vl_muck σ) σ σ) (nox) := by
  refine CT.of (own := "BoringheadModel") rfl rfl (le_b rfl) rfl ?_
  intro p e s m args below meth c sz0 hC hr htab hin
  refine s_aload_n hC dX11_muck_0 rfl rfl 0 rfl ?_
  refine s_callV hC (ct_X11_begins l g _ _ _ _ hR) ce_X11_begins cs_X11 (RepM.f_main hR) tw_1324 rfl rfl ⟨⟨le_b rfl, le_b rfl⟩, le_b rfl, le_b rfl⟩ (le_b rfl) dX11_muck_1 rfl (dvk0 ?_) nokx
  refine WP.rm (RepM.s_main_0 hR 0) (fun hR_1 => ?_)
  refine s_aload_n hC dX11_muck_4 rfl rfl 0 rfl ?_
  refine s_getf hC cs_X11 18 tw_1267 (le_b rfl) (RepM.f_main hR_1) rfl dX11_muck_5 rfl ?_
  refine s_iret hC hr dX11_muck_8 (le_b rfl) (le_b rfl) ?_
  exact okM_ok (rfl) rfl (by first | (simp [vl_muck, if_true]; done) | rfl) hR_1 rfl rfl rfl hgr
set_option maxHeartbeats 1000000 in
set_option maxRecDepth 100000 in
theorem ct_X11_now (l : Launch) (g : Gl) (ω : Wd) (ad : Iy → Nat) (y : Ey) (σ : St) (hR : RepM g ad y σ ω) (hgr : grOK σ y) : CT l g yX11_now cX11_now 1 (some .int) 1 20 0 0 [.ref (ad .main)] ω (okM g ad 0 Value.int (vl_now σ) σ σ) (nox) := by
  refine CT.of (own := "BoringheadModel") rfl rfl (le_b rfl) rfl ?_
  intro p e s m args below meth c sz0 hC hr htab hin
  refine s_aload_n hC dX11_now_0 rfl rfl 0 rfl ?_
  refine s_callV hC (ct_X11_begins l g _ _ _ _ hR) ce_X11_begins cs_X11 (RepM.f_main hR) tw_1324 rfl rfl ⟨⟨le_b rfl, le_b rfl⟩, le_b rfl, le_b rfl⟩ (le_b rfl) dX11_now_1 rfl (dvk0 ?_) nokx
  refine WP.rm (RepM.s_main_0 hR 0) (fun hR_1 => ?_)
  refine s_aload_n hC dX11_now_4 rfl rfl 0 rfl ?_
  refine s_getf hC cs_X11 19 tw_1268 (le_b rfl) (RepM.f_main hR_1) rfl dX11_now_5 rfl ?_
  refine s_iret hC hr dX11_now_8 (le_b rfl) (le_b rfl) ?_
  exact okM_ok (rfl) rfl (by first | (simp [vl_now, if_true]; done) | rfl) hR_1 rfl rfl rfl hgr
set_option maxHeartbeats 1000000 in
set_option maxRecDepth 100000 in
theorem ct_X11_foam (l : Launch) (g : Gl) (ω : Wd) (ad : Iy → Nat) (y : Ey) (σ : St) (hR : RepM g ad y σ ω) (b9 : Bool) (hgr : grOK σ y) : CT l g yX11_foam cX11_foam 3 (some .boolean) 1 20 0 0 [.ref (ad .main), .int (bI b9)] ω (okM g ad 0 (fun b : Bool => Value.int (bI b)) (vl_foam σ b9) (nx_foam σ b9) σ) (nox) := by
  refine CT.of (own := "BoringheadModel") rfl rfl (le_b rfl) rfl ?_
  intro p e s m args below meth c sz0 hC hr htab hin
  refine s_aload_n hC dX11_foam_0 rfl rfl 0 rfl ?_
  refine s_callV hC (ct_X11_begins l g _ _ _ _ hR) ce_X11_begins cs_X11 (RepM.f_main hR) tw_1324 rfl rfl ⟨⟨le_b rfl, le_b rfl⟩, le_b rfl, le_b rfl⟩ (le_b rfl) dX11_foam_1 rfl (dvk0 ?_) nokx
  refine WP.rm (RepM.s_main_0 hR 0) (fun hR_1 => ?_)
  refine s_aload_n hC dX11_foam_4 rfl rfl 0 rfl ?_
  refine s_getf hC cs_X11 12 tw_1261 (le_b rfl) (RepM.f_main hR_1) rfl dX11_foam_5 rfl ?_
  refine s_istore_n hC (L' := [(2, _), (0, _), (1, _)]) dX11_foam_8 rfl rfl (le_b rfl) rfl ?_
  refine s_aload_n hC dX11_foam_9 rfl rfl 1 rfl ?_
  refine s_iload_n hC dX11_foam_10 rfl rfl 2 rfl ?_
  refine s_putf hC cs_X11 12 tw_1261 (le_b rfl) rfl (by first | rfl | exact bI_nz _) (by first | rfl | exact bI_ft _) (RepM.f_main hR_1) (le_b rfl) dX11_foam_11 rfl ?_
  refine WP.rm (RepM.s_main_12 hR_1 _) (fun hR_11 => ?_)
  refine s_iload_n hC dX11_foam_14 rfl rfl 0 rfl ?_
  refine s_zret hC hr dX11_foam_15 (by first | rfl | exact bI_nz _) (le_b rfl) (le_b rfl) ?_
  exact okM_ok (rfl) rfl (by first | (simp [vl_foam, if_true]; done) | rfl) hR_11 rfl rfl rfl hgr
set_option maxHeartbeats 1000000 in
set_option maxRecDepth 100000 in
theorem ct_X11_rotation (l : Launch) (g : Gl) (ω : Wd) (ad : Iy → Nat) (y : Ey) (σ : St) (hR : RepM g ad y σ ω) (r9 : Int32) (hgr : grOK σ y) : CT l g yX11_rotation cX11_rotation 2 (some .int) 3 67 0 0 [.ref (ad .main), .int r9] ω (okM g ad (cd_rotation σ r9) Value.int (vl_rotation σ r9) σ σ) (nox) := by
  refine CT.of (own := "BoringheadModel") rfl rfl (le_b rfl) rfl ?_
  intro p e s m args below meth c sz0 hC hr htab hin
  refine s_aload_n hC dX11_rotation_0 rfl rfl 0 rfl ?_
  refine s_callV hC (ct_X11_begins l g _ _ _ _ hR) ce_X11_begins cs_X11 (RepM.f_main hR) tw_1324 rfl rfl ⟨⟨le_b rfl, le_b rfl⟩, le_b rfl, le_b rfl⟩ (le_b rfl) dX11_rotation_1 rfl (dvk0 ?_) nokx
  refine WP.rm (RepM.s_main_0 hR 0) (fun hR_1 => ?_)
  refine s_aload_n hC dX11_rotation_4 rfl rfl 0 rfl ?_
  refine s_iload_n hC dX11_rotation_5 rfl rfl 1 rfl ?_
  refine s_callV hC (ct_X11_noRing l g _ _ _ _ hR_1 rfl _) ce_X11_noRing cs_X11 (RepM.f_main hR_1) tw_1675 rfl rfl ⟨⟨le_b rfl, le_b rfl⟩, le_b rfl, le_b rfl⟩ (le_b rfl) dX11_rotation_6 rfl (fun r w h9 => ?_) nokx
  rcases h9 with ⟨c9, rfl, rfl⟩ | ⟨c9, rfl, rfl⟩
  · obtain ⟨j, rfl, hj⟩ := inL_of (Nat.lt_of_le_of_lt (RepM.b_ring hR) (by decide)) c9
    have hcl : (nI j).toNatClampNeg = j := nI_clamp (by have := RepM.b_ring hR; omega)
    refine z_if_eq hC (tgt := 16) dX11_rotation_9 rfl (by decide) (fun c_1 => ?_) (fun c_1 => ((absurd c_1 (by decide) : False)).elim)
    refine s_aload_n hC dX11_rotation_16 rfl rfl 0 rfl ?_
    refine s_getf hC cs_X11 8 tw_1257 (le_b rfl) (RepM.f_main hR_1) rfl dX11_rotation_17 rfl ?_
    refine s_iload_n hC dX11_rotation_20 rfl rfl 1 rfl ?_
    refine s_callF hC (nA := 1) 3 (ct_Jx4a65c_get_915e3 l g _ _ _ _ _ (RepM.f_rings hR_1) _ _ (RepM.p_ring hR_1 hj).2.1 (RepM.p_ring hR_1 hj).2.2.1 _ _ (RepM.p_ring hR_1 hj).2.2.2.1 hj (RepM.p_ring hR_1 hj).2.2.2.2) rfl tw_288 tw_5 tw_286 tw_1610 (by decide +kernel) cs_Jx4a65c (RepM.f_rings hR_1) tw_1607 rfl rfl ⟨⟨le_b rfl, le_b rfl⟩, le_b rfl, le_b rfl⟩ (le_b rfl) dX11_rotation_21 rfl (dvk1 ?_) nokx
    refine s_cast hC cs_X10 tw_1613 (RepM.f_ring hR_1 hj) dX11_rotation_26 rfl ?_
    refine s_getfN hC cs_X10 0 tw_1638 (le_b rfl) (RepM.f_ring hR_1 hj) rfl dX11_rotation_29 rfl ?_
    refine s_iret hC hr dX11_rotation_32 (le_b rfl) (le_b rfl) ?_
    first
      | exact okM_ok (by simp [cd_rotation, c9, hcl, c_1]) rfl (by first | (simp [vl_rotation, c9, hcl, c_1]; done) | rfl) hR_1 rfl rfl rfl hgr
      | exact okM_no 1 (by simp [cd_rotation, c9, hcl, c_1]) (by decide) (by rfl) hR_1 rfl rfl hgr
  · refine WP.rm (RepM.s_main_0 hR_1 _) (fun hR_9 => ?_)
    refine z_if_eq hC (tgt := 16) dX11_rotation_9 rfl (by decide) (fun c_2 => ((absurd c_2 (by decide) : False)).elim) (fun c_2 => ?_)
    refine s_iconst hC (v := (-1)) dX11_rotation_12 rfl (by decide) ?_
    refine s_goto hC (tgt := 32) dX11_rotation_13 (by decide) ?_
    refine s_iret hC hr dX11_rotation_32 (le_b rfl) (le_b rfl) ?_
    first
      | exact okM_ok (by simp [cd_rotation, c9, c_2]) rfl (by first | (simp [vl_rotation, c9, c_2]; done) | rfl) hR_9 rfl rfl rfl hgr
      | exact okM_no 1 (by simp [cd_rotation, c9, c_2]) (by decide) (by rfl) hR_9 rfl rfl hgr
set_option maxHeartbeats 1000000 in
set_option maxRecDepth 100000 in
theorem ct_X11_off (l : Launch) (g : Gl) (ω : Wd) (ad : Iy → Nat) (y : Ey) (σ : St) (hR : RepM g ad y σ ω) (r9 : Int32) (b9 : Bool) (hgr : grOK σ y) : CT l g yX11_off cX11_off 3 (some .int) 3 67 0 0 [.ref (ad .main), .int r9, .int (bI b9)] ω (okM g ad (cd_off σ r9 b9) Value.int (vl_off σ r9 b9) σ σ) (nox) := by
  refine CT.of (own := "BoringheadModel") rfl rfl (le_b rfl) rfl ?_
  intro p e s m args below meth c sz0 hC hr htab hin
  refine s_aload_n hC dX11_off_0 rfl rfl 0 rfl ?_
  refine s_callV hC (ct_X11_begins l g _ _ _ _ hR) ce_X11_begins cs_X11 (RepM.f_main hR) tw_1324 rfl rfl ⟨⟨le_b rfl, le_b rfl⟩, le_b rfl, le_b rfl⟩ (le_b rfl) dX11_off_1 rfl (dvk0 ?_) nokx
  refine WP.rm (RepM.s_main_0 hR 0) (fun hR_1 => ?_)
  refine s_aload_n hC dX11_off_4 rfl rfl 0 rfl ?_
  refine s_iload_n hC dX11_off_5 rfl rfl 1 rfl ?_
  refine s_callV hC (ct_X11_noRing l g _ _ _ _ hR_1 rfl _) ce_X11_noRing cs_X11 (RepM.f_main hR_1) tw_1675 rfl rfl ⟨⟨le_b rfl, le_b rfl⟩, le_b rfl, le_b rfl⟩ (le_b rfl) dX11_off_6 rfl (fun r w h9 => ?_) nokx
  rcases h9 with ⟨c9, rfl, rfl⟩ | ⟨c9, rfl, rfl⟩
  · obtain ⟨j, rfl, hj⟩ := inL_of (Nat.lt_of_le_of_lt (RepM.b_ring hR) (by decide)) c9
    have hcl : (nI j).toNatClampNeg = j := nI_clamp (by have := RepM.b_ring hR; omega)
    refine z_if_eq hC (tgt := 16) dX11_off_9 rfl (by decide) (fun c_1 => ?_) (fun c_1 => ((absurd c_1 (by decide) : False)).elim)
    refine s_iload_n hC dX11_off_16 rfl rfl 2 rfl ?_
    refine z_if_eqB hC (tgt := 39) dX11_off_17 rfl (by decide) (fun c_2 => ?_) (fun c_2 => ?_)
    · refine s_aload_n hC dX11_off_39 rfl rfl 0 rfl ?_
      refine s_getf hC cs_X11 8 tw_1257 (le_b rfl) (RepM.f_main hR_1) rfl dX11_off_40 rfl ?_
      refine s_iload_n hC dX11_off_43 rfl rfl 1 rfl ?_
      refine s_callF hC (nA := 1) 3 (ct_Jx4a65c_get_915e3 l g _ _ _ _ _ (RepM.f_rings hR_1) _ _ (RepM.p_ring hR_1 hj).2.1 (RepM.p_ring hR_1 hj).2.2.1 _ _ (RepM.p_ring hR_1 hj).2.2.2.1 hj (RepM.p_ring hR_1 hj).2.2.2.2) rfl tw_288 tw_5 tw_286 tw_1610 (by decide +kernel) cs_Jx4a65c (RepM.f_rings hR_1) tw_1607 rfl rfl ⟨⟨le_b rfl, le_b rfl⟩, le_b rfl, le_b rfl⟩ (le_b rfl) dX11_off_44 rfl (dvk1 ?_) nokx
      refine s_cast hC cs_X10 tw_1613 (RepM.f_ring hR_1 hj) dX11_off_49 rfl ?_
      refine s_getfN hC cs_X10 1 tw_1639 (le_b rfl) (RepM.f_ring hR_1 hj) rfl dX11_off_52 rfl ?_
      refine s_iret hC hr dX11_off_55 (le_b rfl) (le_b rfl) ?_
      first
        | exact okM_ok (by simp [cd_off, c9, hcl, c_1, c_2]) rfl (by first | (simp [vl_off, c9, hcl, c_1, c_2]; done) | rfl) hR_1 rfl rfl rfl hgr
        | exact okM_no 1 (by simp [cd_off, c9, hcl, c_1, c_2]) (by decide) (by rfl) hR_1 rfl rfl hgr
    · refine s_aload_n hC dX11_off_20 rfl rfl 0 rfl ?_
      refine s_getf hC cs_X11 8 tw_1257 (le_b rfl) (RepM.f_main hR_1) rfl dX11_off_21 rfl ?_
      refine s_iload_n hC dX11_off_24 rfl rfl 1 rfl ?_
      refine s_callF hC (nA := 1) 3 (ct_Jx4a65c_get_915e3 l g _ _ _ _ _ (RepM.f_rings hR_1) _ _ (RepM.p_ring hR_1 hj).2.1 (RepM.p_ring hR_1 hj).2.2.1 _ _ (RepM.p_ring hR_1 hj).2.2.2.1 hj (RepM.p_ring hR_1 hj).2.2.2.2) rfl tw_288 tw_5 tw_286 tw_1610 (by decide +kernel) cs_Jx4a65c (RepM.f_rings hR_1) tw_1607 rfl rfl ⟨⟨le_b rfl, le_b rfl⟩, le_b rfl, le_b rfl⟩ (le_b rfl) dX11_off_25 rfl (dvk1 ?_) nokx
      refine s_cast hC cs_X10 tw_1613 (RepM.f_ring hR_1 hj) dX11_off_30 rfl ?_
      refine s_getfN hC cs_X10 2 tw_1640 (le_b rfl) (RepM.f_ring hR_1 hj) rfl dX11_off_33 rfl ?_
      refine s_goto hC (tgt := 55) dX11_off_36 (by decide) ?_
      refine s_iret hC hr dX11_off_55 (le_b rfl) (le_b rfl) ?_
      first
        | exact okM_ok (by simp [cd_off, c9, hcl, c_1, c_2]) rfl (by first | (simp [vl_off, c9, hcl, c_1, c_2]; done) | rfl) hR_1 rfl rfl rfl hgr
        | exact okM_no 1 (by simp [cd_off, c9, hcl, c_1, c_2]) (by decide) (by rfl) hR_1 rfl rfl hgr
  · refine WP.rm (RepM.s_main_0 hR_1 _) (fun hR_9 => ?_)
    refine z_if_eq hC (tgt := 16) dX11_off_9 rfl (by decide) (fun c_3 => ((absurd c_3 (by decide) : False)).elim) (fun c_3 => ?_)
    refine s_iconst hC (v := (-1)) dX11_off_12 rfl (by decide) ?_
    refine s_goto hC (tgt := 55) dX11_off_13 (by decide) ?_
    refine s_iret hC hr dX11_off_55 (le_b rfl) (le_b rfl) ?_
    first
      | exact okM_ok (by simp [cd_off, c9, c_3]) rfl (by first | (simp [vl_off, c9, c_3]; done) | rfl) hR_9 rfl rfl rfl hgr
      | exact okM_no 1 (by simp [cd_off, c9, c_3]) (by decide) (by rfl) hR_9 rfl rfl hgr
set_option maxHeartbeats 1000000 in
set_option maxRecDepth 100000 in
theorem ct_X11_deliver (l : Launch) (g : Gl) (ω : Wd) (ad : Iy → Nat) (y : Ey) (σ : St) (hR : RepM g ad y σ ω) (m9 : Int32) (hgr : grOK σ y) : CT l g yX11_deliver cX11_deliver 2 (some .int) 1 25 0 0 [.ref (ad .main), .int m9] ω (okM g ad (cd_deliver σ m9) Value.int (vl_deliver σ m9) (nx_deliver σ m9) σ) (nox) := by
  refine CT.of (own := "BoringheadModel") rfl rfl (le_b rfl) rfl ?_
  intro p e s m args below meth c sz0 hC hr htab hin
  refine s_aload_n hC dX11_deliver_0 rfl rfl 0 rfl ?_
  refine s_callV hC (ct_X11_begins l g _ _ _ _ hR) ce_X11_begins cs_X11 (RepM.f_main hR) tw_1324 rfl rfl ⟨⟨le_b rfl, le_b rfl⟩, le_b rfl, le_b rfl⟩ (le_b rfl) dX11_deliver_1 rfl (dvk0 ?_) nokx
  refine WP.rm (RepM.s_main_0 hR 0) (fun hR_1 => ?_)
  refine s_aload_n hC dX11_deliver_4 rfl rfl 0 rfl ?_
  refine s_iload_n hC dX11_deliver_5 rfl rfl 1 rfl ?_
  refine s_i2l hC dX11_deliver_6 rfl rfl ?_
  refine s_lconst hC (v := 1) dX11_deliver_7 rfl (by decide) ?_
  refine s_ldc2 hC tw_1778 dX11_deliver_8 rfl ?_
  refine s_callS hC (ct_X11_in l g _ _ _ _) ce_X11_in tw_1419 rfl rfl ⟨⟨le_b rfl, le_b rfl⟩, le_b rfl, le_b rfl⟩ (le_b rfl) dX11_deliver_11 rfl (dvk1 ?_) nokx
  rw [inJ_inR m9 1 40 (by decide) (by decide)]
  refine z_if_neB hC (tgt := 21) dX11_deliver_14 rfl (by decide) (fun c_1 => ?_) (fun c_1 => ?_)
  · refine s_iconst hC (v := 0) dX11_deliver_21 rfl (by decide) ?_
    refine s_iconst hC (v := 1) dX11_deliver_22 rfl (by decide) ?_
    refine s_callV hC (ct_X11_fails_f l g _ _ _ _ hR_1 (by first | rfl | exact hth) _) ce_X11_fails cs_X11 (RepM.f_main hR_1) tw_1422 rfl rfl ⟨⟨le_b rfl, le_b rfl⟩, le_b rfl, le_b rfl⟩ (le_b rfl) dX11_deliver_23 rfl (dvk1 ?_) nokx
    refine z_if_ne hC (tgt := 53) dX11_deliver_26 rfl (by decide) (fun c_2 => ((absurd c_2 (by decide) : False)).elim) (fun c_2 => ?_)
    refine s_aload_n hC dX11_deliver_29 rfl rfl 0 rfl ?_
    refine s_aload_n hC dX11_deliver_30 rfl rfl 0 rfl ?_
    refine s_getf hC cs_X11 17 tw_1266 (le_b rfl) (RepM.f_main hR_1) rfl dX11_deliver_31 rfl ?_
    refine s_iload_n hC dX11_deliver_34 rfl rfl 1 rfl ?_
    refine s_iadd hC dX11_deliver_35 rfl ?_
    refine s_bipush hC (v := 40) dX11_deliver_36 rfl (by decide) ?_
    refine z_icmp_le hC (tgt := 45) dX11_deliver_38 rfl (by decide) (fun c_3 => ?_) (fun c_3 => ?_)
    · refine s_iconst hC (v := 0) dX11_deliver_45 rfl (by decide) ?_
      refine s_iconst hC (v := 2) dX11_deliver_46 rfl (by decide) ?_
      refine s_callV hC (ct_X11_fails_f l g _ _ _ _ hR_1 (by first | rfl | exact hth) _) ce_X11_fails cs_X11 (RepM.f_main hR_1) tw_1422 rfl rfl ⟨⟨le_b rfl, le_b rfl⟩, le_b rfl, le_b rfl⟩ (le_b rfl) dX11_deliver_47 rfl (dvk1 ?_) nokx
      refine z_if_eq hC (tgt := 55) dX11_deliver_50 rfl (by decide) (fun c_4 => ?_) (fun c_4 => ((absurd c_4 (by decide) : False)).elim)
      refine s_aload_n hC dX11_deliver_55 rfl rfl 0 rfl ?_
      refine s_dup hC dX11_deliver_56 rfl rfl ?_
      refine s_getf hC cs_X11 17 tw_1266 (le_b rfl) (RepM.f_main hR_1) rfl dX11_deliver_57 rfl ?_
      refine s_iload_n hC dX11_deliver_60 rfl rfl 1 rfl ?_
      refine s_iadd hC dX11_deliver_61 rfl ?_
      refine s_putf hC cs_X11 17 tw_1266 (le_b rfl) rfl rfl rfl (RepM.f_main hR_1) (le_b rfl) dX11_deliver_62 rfl ?_
      refine WP.rm (RepM.s_main_17 hR_1 _) (fun hR_62 => ?_)
      refine s_aload_n hC dX11_deliver_65 rfl rfl 0 rfl ?_
      refine s_getf hC cs_X11 17 tw_1266 (le_b rfl) (RepM.f_main hR_62) rfl dX11_deliver_66 rfl ?_
      refine s_iret hC hr dX11_deliver_69 (le_b rfl) (le_b rfl) ?_
      first
        | exact okM_ok (by simp [cd_deliver, c_1, c_2, c_3, c_4]) rfl (by first | (simp [vl_deliver, c_1, c_2, c_3, c_4]; done) | rfl) hR_62 rfl rfl rfl hgr
        | exact okM_no 1 (by simp [cd_deliver, c_1, c_2, c_3, c_4]) (by decide) (by rfl) hR_62 rfl rfl hgr
        | exact okM_no 2 (by simp [cd_deliver, c_1, c_2, c_3, c_4]) (by decide) (by rfl) hR_62 rfl rfl hgr
    · refine s_iconst hC (v := 1) dX11_deliver_41 rfl (by decide) ?_
      refine s_goto hC (tgt := 46) dX11_deliver_42 (by decide) ?_
      refine s_iconst hC (v := 2) dX11_deliver_46 rfl (by decide) ?_
      refine s_callV hC (ct_X11_fails_t l g _ _ _ _ hR_1 (by first | rfl | exact hth) _ (by decide)) ce_X11_fails cs_X11 (RepM.f_main hR_1) tw_1422 rfl rfl ⟨⟨le_b rfl, le_b rfl⟩, le_b rfl, le_b rfl⟩ (le_b rfl) dX11_deliver_47 rfl (dvk1 ?_) nokx
      refine WP.rm (RepM.s_main_0 hR_1 _) (fun hR_47 => ?_)
      refine z_if_eq hC (tgt := 55) dX11_deliver_50 rfl (by decide) (fun c_5 => ((absurd c_5 (by decide) : False)).elim) (fun c_5 => ?_)
      refine s_iconst hC (v := (-1)) dX11_deliver_53 rfl (by decide) ?_
      refine s_iret hC hr dX11_deliver_54 (le_b rfl) (le_b rfl) ?_
      first
        | exact okM_ok (by simp [cd_deliver, c_1, c_2, c_3, c_5]) rfl (by first | (simp [vl_deliver, c_1, c_2, c_3, c_5]; done) | rfl) hR_47 rfl rfl rfl hgr
        | exact okM_no 1 (by simp [cd_deliver, c_1, c_2, c_3, c_5]) (by decide) (by rfl) hR_47 rfl rfl hgr
        | exact okM_no 2 (by simp [cd_deliver, c_1, c_2, c_3, c_5]) (by decide) (by rfl) hR_47 rfl rfl hgr
  · refine s_iconst hC (v := 1) dX11_deliver_17 rfl (by decide) ?_
    refine s_goto hC (tgt := 22) dX11_deliver_18 (by decide) ?_
    refine s_iconst hC (v := 1) dX11_deliver_22 rfl (by decide) ?_
    refine s_callV hC (ct_X11_fails_t l g _ _ _ _ hR_1 (by first | rfl | exact hth) _ (by decide)) ce_X11_fails cs_X11 (RepM.f_main hR_1) tw_1422 rfl rfl ⟨⟨le_b rfl, le_b rfl⟩, le_b rfl, le_b rfl⟩ (le_b rfl) dX11_deliver_23 rfl (dvk1 ?_) nokx
    refine WP.rm (RepM.s_main_0 hR_1 _) (fun hR_23 => ?_)
    refine z_if_ne hC (tgt := 53) dX11_deliver_26 rfl (by decide) (fun c_6 => ?_) (fun c_6 => ((absurd c_6 (by decide) : False)).elim)
    refine s_iconst hC (v := (-1)) dX11_deliver_53 rfl (by decide) ?_
    refine s_iret hC hr dX11_deliver_54 (le_b rfl) (le_b rfl) ?_
    first
      | exact okM_ok (by simp [cd_deliver, c_1, c_6]) rfl (by first | (simp [vl_deliver, c_1, c_6]; done) | rfl) hR_23 rfl rfl rfl hgr
      | exact okM_no 1 (by simp [cd_deliver, c_1, c_6]) (by decide) (by rfl) hR_23 rfl rfl hgr
      | exact okM_no 2 (by simp [cd_deliver, c_1, c_6]) (by decide) (by rfl) hR_23 rfl rfl hgr
