/-- one exception, its ground, the world as it was -/
def x1 (E0 : String) (P : Prop) (ω : Wd) : String → Wd → Prop := fun E w => E = E0 ∧ P ∧ w = ω
/-- an answer that says what held -/
def dvp (P : Prop) (v : Option Value) (ω : Wd) : Option Value → Wd → Prop := fun r w => P ∧ r = v ∧ w = ω
def inL (n : Nat) (r : Int32) : Bool := decide (0 ≤ r) && decide (¬ nI n ≤ r)
theorem inL_of {n : Nat} {r : Int32} (hn : n < 2 ^ 31) (h : inL n r = true) : ∃ j, r = nI j ∧ j < n := by
  simp only [inL, Bool.and_eq_true, decide_eq_true_eq] at h
  obtain ⟨j, hj, rfl⟩ := nI_of (Int32.not_lt.mpr h.1)
  refine ⟨j, rfl, ?_⟩
  rcases Nat.lt_or_ge j n with h2 | h2
  · exact h2
  · exact absurd (nI_le h2 hj) h.2
set_option maxHeartbeats 1000000 in
set_option maxRecDepth 100000 in
theorem ct_X9_refuseBuilt (l : Launch) (g : Gl) (hst : l.stackTraces = false) (ω : Wd) (ad : Ix → Nat) (x : Ex) (σ : St) (hR : RepC g ad x σ ω) (f9 : Int32) : CT l g yX9_refuseBuilt cX9_refuseBuilt 2 none 6 90 1 6 [.ref (ad .main), .int f9] ω (dvp (nI σ.n ≤ f9) none ω) (x1 "java/lang/UnsupportedOperationException" (¬ nI σ.n ≤ f9) ω) := by
  refine CT.of (own := "Boringhead") rfl rfl (le_b rfl) rfl ?_
  intro p e s m args below meth c sz0 hC hr htab hin
  refine s_iload_n hC dX9_refuseBuilt_0 rfl rfl 1 rfl ?_
  refine s_aload_n hC dX9_refuseBuilt_1 rfl rfl 0 rfl ?_
  refine s_getf hC cs_X9 7 tw_244 (le_b rfl) (RepC.f_main hR) rfl dX9_refuseBuilt_2 rfl ?_
  refine s_callV hC (ct_Jx4a65c_size_8abf5 l g _ _ _ _ _ (RepC.f_built hR)) ce_Jx4a65c_size_8abf5 cs_Jx4a65c (RepC.f_built hR) tw_273 rfl rfl ⟨⟨le_b rfl, le_b rfl⟩, le_b rfl, le_b rfl⟩ (le_b rfl) dX9_refuseBuilt_5 rfl (dvk1 ?_) nokx
  refine z_icmp_ge hC (tgt := 22) dX9_refuseBuilt_8 rfl (by decide) (fun c_1 => ?_) (fun c_1 => ?_)
  · refine s_vret hC hr dX9_refuseBuilt_22 (le_b rfl) (le_b rfl) ?_
    exact ⟨c_1, rfl, rfl⟩
  · refine s_throwSW hC htab hst (cls := "java/lang/UnsupportedOperationException") (names := ["java/lang/RuntimeException", "java/lang/Exception"]) (i := 1) fit_UnsupportedOperationException tw_525 tw_16 rfl at_X9_202 at_X9_202_ot dX9_refuseBuilt_11 dX9_refuseBuilt_14 dX9_refuseBuilt_15 dX9_refuseBuilt_18 dX9_refuseBuilt_21 ⟨le_b rfl, le_b rfl, le_b rfl, le_b rfl⟩ ⟨le_b rfl, le_b rfl⟩ ?_
    exact ⟨rfl, c_1, rfl⟩
set_option maxHeartbeats 1000000 in
set_option maxRecDepth 100000 in
theorem ct_X9_refuseLate (l : Launch) (g : Gl) (hst : l.stackTraces = false) (ω : Wd) (ad : Ix → Nat) (x : Ex) (σ : St) (hR : RepC g ad x σ ω) (m9 : Int32) : CT l g yX9_refuseLate cX9_refuseLate 2 none 6 90 1 6 [.ref (ad .main), .int m9] ω (dvp (σ.mn + m9 ≤ 99999) none ω) (x1 "java/lang/IllegalStateException" (¬ σ.mn + m9 ≤ 99999) ω) := by
  refine CT.of (own := "Boringhead") rfl rfl (le_b rfl) rfl ?_
  intro p e s m args below meth c sz0 hC hr htab hin
  refine s_aload_n hC dX9_refuseLate_0 rfl rfl 0 rfl ?_
  refine s_getf hC cs_X9 5 tw_242 (le_b rfl) (RepC.f_main hR) rfl dX9_refuseLate_1 rfl ?_
  refine s_getfN hC cs_X1 0 tw_192 (le_b rfl) (RepC.f_clock hR) rfl dX9_refuseLate_4 rfl ?_
  refine s_iload_n hC dX9_refuseLate_7 rfl rfl 1 rfl ?_
  refine s_iadd hC dX9_refuseLate_8 rfl ?_
  refine s_ldcW hC tw_811 dX9_refuseLate_9 rfl ?_
  refine z_icmp_le hC (tgt := 26) dX9_refuseLate_12 rfl (by decide) (fun c_1 => ?_) (fun c_1 => ?_)
  · refine s_vret hC hr dX9_refuseLate_26 (le_b rfl) (le_b rfl) ?_
    exact ⟨c_1, rfl, rfl⟩
  · refine s_throwSW hC htab hst (cls := "java/lang/IllegalStateException") (names := ["java/lang/RuntimeException", "java/lang/Exception"]) (i := 10) fit_IllegalStateException tw_588 tw_23 rfl at_X9_139 at_X9_139_ot dX9_refuseLate_15 dX9_refuseLate_18 dX9_refuseLate_19 dX9_refuseLate_22 dX9_refuseLate_25 ⟨le_b rfl, le_b rfl, le_b rfl, le_b rfl⟩ ⟨le_b rfl, le_b rfl⟩ ?_
    exact ⟨rfl, c_1, rfl⟩
set_option maxHeartbeats 1000000 in
set_option maxRecDepth 100000 in
theorem ct_X9_ringAt (l : Launch) (g : Gl) (hst : l.stackTraces = false) (ω : Wd) (ad : Ix → Nat) (x : Ex) (σ : St) (hR : RepC g ad x σ ω) (r9 : Int32) : CT l g yX9_ringAt cX9_ringAt 2 (some (.object "Boringhead$Ring")) 6 90 1 6 [.ref (ad .main), .int r9] ω (fun r w => ∃ j, r9 = nI j ∧ j < σ.n ∧ r = some (.ref (ad (.ring j))) ∧ w = ω) (x1 "java/lang/IndexOutOfBoundsException" (inL σ.n r9 = false) ω) := by
  refine CT.of (own := "Boringhead") rfl rfl (le_b rfl) rfl ?_
  intro p e s m args below meth c sz0 hC hr htab hin
  refine s_iload_n hC dX9_ringAt_0 rfl rfl 1 rfl ?_
  refine z_if_lt hC (tgt := 15) dX9_ringAt_1 rfl (by decide) (fun c_1 => ?_) (fun c_1 => ?_)
  · refine s_throwSW hC htab hst (cls := "java/lang/IndexOutOfBoundsException") (names := ["java/lang/RuntimeException", "java/lang/Exception"]) (i := 14) fit_IndexOutOfBoundsException tw_783 tw_30 rfl at_X9_194 at_X9_194_ot dX9_ringAt_15 dX9_ringAt_18 dX9_ringAt_19 dX9_ringAt_22 dX9_ringAt_25 ⟨le_b rfl, le_b rfl, le_b rfl, le_b rfl⟩ ⟨le_b rfl, le_b rfl⟩ ?_
    exact ⟨rfl, by simp [inL, c_1], rfl⟩
  · refine s_iload_n hC dX9_ringAt_4 rfl rfl 1 rfl ?_
    refine s_aload_n hC dX9_ringAt_5 rfl rfl 0 rfl ?_
    refine s_getf hC cs_X9 7 tw_244 (le_b rfl) (RepC.f_main hR) rfl dX9_ringAt_6 rfl ?_
    refine s_callV hC (ct_Jx4a65c_size_8abf5 l g _ _ _ _ _ (RepC.f_built hR)) ce_Jx4a65c_size_8abf5 cs_Jx4a65c (RepC.f_built hR) tw_273 rfl rfl ⟨⟨le_b rfl, le_b rfl⟩, le_b rfl, le_b rfl⟩ (le_b rfl) dX9_ringAt_9 rfl (dvk1 ?_) nokx
    refine z_icmp_lt hC (tgt := 26) dX9_ringAt_12 rfl (by decide) (fun c_2 => ?_) (fun c_2 => ?_)
    · obtain ⟨j, rfl, hj⟩ := inL_of (n := σ.n) (r := r9) (Nat.lt_of_le_of_lt (RepC.b_ring hR) (by decide)) (by simp [inL, c_1, c_2])
      refine s_aload_n hC dX9_ringAt_26 rfl rfl 0 rfl ?_
      refine s_getf hC cs_X9 7 tw_244 (le_b rfl) (RepC.f_main hR) rfl dX9_ringAt_27 rfl ?_
      refine s_iload_n hC dX9_ringAt_30 rfl rfl 1 rfl ?_
      refine s_callV hC (ct_Jx4a65c_get_915e3 l g _ _ _ _ _ (RepC.f_built hR) _ _ (RepC.p_ring hR hj).2.1 (RepC.p_ring hR hj).2.2.1 _ _ (RepC.p_ring hR hj).2.2.2.1 hj (RepC.p_ring hR hj).2.2.2.2) ce_Jx4a65c_get_915e3 cs_Jx4a65c (RepC.f_built hR) tw_285 rfl rfl ⟨⟨le_b rfl, le_b rfl⟩, le_b rfl, le_b rfl⟩ (le_b rfl) dX9_ringAt_31 rfl (dvk1 ?_) nokx
      refine s_cast hC cs_X5 tw_299 (RepC.f_ring hR hj) dX9_ringAt_34 rfl ?_
      refine s_aret hC hr (by first | exact Or.inl ⟨_, rfl⟩ | exact Or.inr ⟨_, rfl⟩) dX9_ringAt_37 (le_b rfl) (le_b rfl) ?_
      exact ⟨j, rfl, hj, rfl, rfl⟩
    · refine s_throwSW hC htab hst (cls := "java/lang/IndexOutOfBoundsException") (names := ["java/lang/RuntimeException", "java/lang/Exception"]) (i := 14) fit_IndexOutOfBoundsException tw_783 tw_30 rfl at_X9_194 at_X9_194_ot dX9_ringAt_15 dX9_ringAt_18 dX9_ringAt_19 dX9_ringAt_22 dX9_ringAt_25 ⟨le_b rfl, le_b rfl, le_b rfl, le_b rfl⟩ ⟨le_b rfl, le_b rfl⟩ ?_
      exact ⟨rfl, by simp [inL, c_1, c_2], rfl⟩
set_option maxHeartbeats 1000000 in
set_option maxRecDepth 100000 in
theorem ct_X9_houseAt (l : Launch) (g : Gl) (hst : l.stackTraces = false) (ω : Wd) (ad : Ix → Nat) (x : Ex) (σ : St) (hR : RepC g ad x σ ω) (r9 : Int32) : CT l g yX9_houseAt cX9_houseAt 2 (some (.object "Boringhead$House")) 6 90 1 6 [.ref (ad .main), .int r9] ω (fun r w => ∃ j, r9 = nI j ∧ j < σ.nh ∧ r = some (.ref (ad (.house j))) ∧ w = ω) (x1 "java/lang/IndexOutOfBoundsException" (inL σ.nh r9 = false) ω) := by
  refine CT.of (own := "Boringhead") rfl rfl (le_b rfl) rfl ?_
  intro p e s m args below meth c sz0 hC hr htab hin
  refine s_iload_n hC dX9_houseAt_0 rfl rfl 1 rfl ?_
  refine z_if_lt hC (tgt := 15) dX9_houseAt_1 rfl (by decide) (fun c_1 => ?_) (fun c_1 => ?_)
  · refine s_throwSW hC htab hst (cls := "java/lang/IndexOutOfBoundsException") (names := ["java/lang/RuntimeException", "java/lang/Exception"]) (i := 20) fit_IndexOutOfBoundsException tw_783 tw_30 rfl at_X9_194 at_X9_194_ot dX9_houseAt_15 dX9_houseAt_18 dX9_houseAt_19 dX9_houseAt_22 dX9_houseAt_25 ⟨le_b rfl, le_b rfl, le_b rfl, le_b rfl⟩ ⟨le_b rfl, le_b rfl⟩ ?_
    exact ⟨rfl, by simp [inL, c_1], rfl⟩
  · refine s_iload_n hC dX9_houseAt_4 rfl rfl 1 rfl ?_
    refine s_aload_n hC dX9_houseAt_5 rfl rfl 0 rfl ?_
    refine s_getf hC cs_X9 8 tw_245 (le_b rfl) (RepC.f_main hR) rfl dX9_houseAt_6 rfl ?_
    refine s_callV hC (ct_Jx4a65c_size_8abf5 l g _ _ _ _ _ (RepC.f_houses hR)) ce_Jx4a65c_size_8abf5 cs_Jx4a65c (RepC.f_houses hR) tw_273 rfl rfl ⟨⟨le_b rfl, le_b rfl⟩, le_b rfl, le_b rfl⟩ (le_b rfl) dX9_houseAt_9 rfl (dvk1 ?_) nokx
    refine z_icmp_lt hC (tgt := 26) dX9_houseAt_12 rfl (by decide) (fun c_2 => ?_) (fun c_2 => ?_)
    · obtain ⟨j, rfl, hj⟩ := inL_of (n := σ.nh) (r := r9) (Nat.lt_of_le_of_lt (RepC.b_house hR) (by decide)) (by simp [inL, c_1, c_2])
      refine s_aload_n hC dX9_houseAt_26 rfl rfl 0 rfl ?_
      refine s_getf hC cs_X9 8 tw_245 (le_b rfl) (RepC.f_main hR) rfl dX9_houseAt_27 rfl ?_
      refine s_iload_n hC dX9_houseAt_30 rfl rfl 1 rfl ?_
      refine s_callV hC (ct_Jx4a65c_get_915e3 l g _ _ _ _ _ (RepC.f_houses hR) _ _ (RepC.p_house hR hj).2.1 (RepC.p_house hR hj).2.2.1 _ _ (RepC.p_house hR hj).2.2.2.1 hj (RepC.p_house hR hj).2.2.2.2) ce_Jx4a65c_get_915e3 cs_Jx4a65c (RepC.f_houses hR) tw_285 rfl rfl ⟨⟨le_b rfl, le_b rfl⟩, le_b rfl, le_b rfl⟩ (le_b rfl) dX9_houseAt_31 rfl (dvk1 ?_) nokx
      refine s_cast hC cs_X4 tw_852 (RepC.f_house hR hj) dX9_houseAt_34 rfl ?_
      refine s_aret hC hr (by first | exact Or.inl ⟨_, rfl⟩ | exact Or.inr ⟨_, rfl⟩) dX9_houseAt_37 (le_b rfl) (le_b rfl) ?_
      exact ⟨j, rfl, hj, rfl, rfl⟩
    · refine s_throwSW hC htab hst (cls := "java/lang/IndexOutOfBoundsException") (names := ["java/lang/RuntimeException", "java/lang/Exception"]) (i := 20) fit_IndexOutOfBoundsException tw_783 tw_30 rfl at_X9_194 at_X9_194_ot dX9_houseAt_15 dX9_houseAt_18 dX9_houseAt_19 dX9_houseAt_22 dX9_houseAt_25 ⟨le_b rfl, le_b rfl, le_b rfl, le_b rfl⟩ ⟨le_b rfl, le_b rfl⟩ ?_
      exact ⟨rfl, by simp [inL, c_1, c_2], rfl⟩
def ltF (σ : St) : Int32 := if σ.n = 0 then -1 else (σ.ring (σ.n - 1)).turn
def redF (σ : St) (p9 : Int32) : Nat → Bool
  | 0 => false
  | j + 1 => redF σ p9 j || (decide (awayF (σ.hs j) p9 ≤ 10) && decide (colF (σ.hs j) = 114))
theorem redF_t (σ : St) (p9 : Int32) {j n : Nat} (h : j < n) (h1 : awayF (σ.hs j) p9 ≤ 10) (h2 : colF (σ.hs j) = 114) : redF σ p9 n = true := by
  induction n with
  | zero => omega
  | succ n ih =>
    rw [redF]
    by_cases hz : j = n
    · subst hz; simp [h1, h2]
    · simp [ih (by omega)]
def nmF (σ : St) : Int32 := atF 4 (stF [30, 40, 90, 70]) (atF 200 σ.kinds (nI σ.n)) - iMin (nI σ.n / 10) 10
def skF (σ : St) (r9 m9 p9 o9 : Int32) : Int32 :=
  if 10 * (atF 200 σ.depths r9 * atF 200 σ.depths r9 + (p9 - r9) * (p9 - r9) + o9 * o9) ≤ 0 then 0 else m9 * atF 200 σ.depths r9 * atF 200 σ.depths r9 / (10 * (atF 200 σ.depths r9 * atF 200 σ.depths r9 + (p9 - r9) * (p9 - r9) + o9 * o9))
def stlF (σ : St) (p9 o9 : Int32) : Nat → Int32
  | 0 => 0
  | j + 1 => stlF σ p9 o9 j + skF σ (nI j) (missF (σ.ring j)) p9 o9
def smF (σ : St) (h : Hs) (b : Bool) : Int32 := stlF σ (if b = true then h.to else h.fr) h.ofs σ.n - (if b = true then h.ll else h.lf)
def mrF (σ : St) : Nat → Int32
  | 0 => 0
  | j + 1 => mrF σ j + (σ.ring j).mi
def mkF (σ : St) : Nat → Int32
  | 0 => 0
  | j + 1 => mkF σ j + muckF (σ.ring j).kind (bI (σ.ring j).fo)
theorem pred_lt {n : Nat} (h : ¬ n = 0) : n - 1 < n := by omega
theorem nI_pr {n : Nat} (h : ¬ n = 0) : nI n - 1 = nI (n - 1) := by
  obtain ⟨m, rfl⟩ : ∃ m, n = m + 1 := ⟨n - 1, by omega⟩
  exact nI_pred m
set_option maxHeartbeats 1000000 in
set_option maxRecDepth 100000 in
theorem ct_X9_lastTurn (l : Launch) (g : Gl) (ω : Wd) (ad : Ix → Nat) (x : Ex) (σ : St) (hR : RepC g ad x σ ω) : CT l g yX9_lastTurn cX9_lastTurn 1 (some .int) 3 64 0 0 [.ref (ad .main)] ω (dv (some (.int (ltF σ))) ω) (nox) := by
  refine CT.of (own := "Boringhead") rfl rfl (le_b rfl) rfl ?_
  intro p e s m args below meth c sz0 hC hr htab hin
  refine s_aload_n hC dX9_lastTurn_0 rfl rfl 0 rfl ?_
  refine s_getf hC cs_X9 7 tw_244 (le_b rfl) (RepC.f_main hR) rfl dX9_lastTurn_1 rfl ?_
  refine s_callV hC (ct_Jx4a65c_isEmpty_aae02 l g _ _ _ _ _ (RepC.f_built hR) (Nat.lt_of_le_of_lt (RepC.b_ring hR) (by decide))) ce_Jx4a65c_isEmpty_aae02 cs_Jx4a65c (RepC.f_built hR) tw_844 rfl rfl ⟨⟨le_b rfl, le_b rfl⟩, le_b rfl, le_b rfl⟩ (le_b rfl) dX9_lastTurn_4 rfl (dvk1 ?_) nokx
  refine z_if_eqB hC (tgt := 14) dX9_lastTurn_7 rfl (by decide) (fun c_1 => ?_) (fun c_1 => ?_)
  · refine s_aload_n hC dX9_lastTurn_14 rfl rfl 0 rfl ?_
    refine s_getf hC cs_X9 7 tw_244 (le_b rfl) (RepC.f_main hR) rfl dX9_lastTurn_15 rfl ?_
    refine s_aload_n hC dX9_lastTurn_18 rfl rfl 0 rfl ?_
    refine s_getf hC cs_X9 7 tw_244 (le_b rfl) (RepC.f_main hR) rfl dX9_lastTurn_19 rfl ?_
    refine s_callV hC (ct_Jx4a65c_size_8abf5 l g _ _ _ _ _ (RepC.f_built hR)) ce_Jx4a65c_size_8abf5 cs_Jx4a65c (RepC.f_built hR) tw_273 rfl rfl ⟨⟨le_b rfl, le_b rfl⟩, le_b rfl, le_b rfl⟩ (le_b rfl) dX9_lastTurn_22 rfl (dvk1 ?_) nokx
    refine s_iconst hC (v := 1) dX9_lastTurn_25 rfl (by decide) ?_
    refine s_isub hC dX9_lastTurn_26 rfl ?_
    have hz : ¬ σ.n = 0 := of_decide_eq_false c_1
    rw [nI_pr hz]
    refine s_callV hC (ct_Jx4a65c_get_915e3 l g _ _ _ _ _ (RepC.f_built hR) _ _ (RepC.p_ring hR (pred_lt hz)).2.1 (RepC.p_ring hR (pred_lt hz)).2.2.1 _ _ (RepC.p_ring hR (pred_lt hz)).2.2.2.1 (pred_lt hz) (RepC.p_ring hR (pred_lt hz)).2.2.2.2) ce_Jx4a65c_get_915e3 cs_Jx4a65c (RepC.f_built hR) tw_285 rfl rfl ⟨⟨le_b rfl, le_b rfl⟩, le_b rfl, le_b rfl⟩ (le_b rfl) dX9_lastTurn_27 rfl (dvk1 ?_) nokx
    refine s_cast hC cs_X5 tw_299 (RepC.f_ring hR (pred_lt hz)) dX9_lastTurn_30 rfl ?_
    refine s_getfN hC cs_X5 0 tw_886 (le_b rfl) (RepC.f_ring hR (pred_lt hz)) rfl dX9_lastTurn_33 rfl ?_
    refine s_iret hC hr dX9_lastTurn_36 (le_b rfl) (le_b rfl) ?_
    first
      | exact ⟨by rw [ltF, if_pos (of_decide_eq_true c_1)], rfl⟩
      | exact ⟨by rw [ltF, if_neg (of_decide_eq_false c_1)], rfl⟩
  · refine s_iconst hC (v := (-1)) dX9_lastTurn_10 rfl (by decide) ?_
    refine s_goto hC (tgt := 36) dX9_lastTurn_11 (by decide) ?_
    refine s_iret hC hr dX9_lastTurn_36 (le_b rfl) (le_b rfl) ?_
    first
      | exact ⟨by rw [ltF, if_pos (of_decide_eq_true c_1)], rfl⟩
      | exact ⟨by rw [ltF, if_neg (of_decide_eq_false c_1)], rfl⟩
set_option maxHeartbeats 1000000 in
set_option maxRecDepth 100000 in
theorem ct_X9_isRedNear (l : Launch) (g : Gl) (ω : Wd) (ad : Ix → Nat) (x : Ex) (σ : St) (hR : RepC g ad x σ ω) (p9 : Int32) : CT l g yX9_isRedNear cX9_isRedNear 4 (some .boolean) 3 64 0 0 [.ref (ad .main), .int p9] ω (dv (some (.int (bI (redF σ p9 σ.nh)))) ω) (nox) := by
  refine CT.of (own := "Boringhead") rfl rfl (le_b rfl) rfl ?_
  intro p e s m args below meth c sz0 hC hr htab hin
  refine s_iconst hC (v := 0) dX9_isRedNear_0 rfl (by decide) ?_
  refine s_istore_n hC (L' := [(2, _), (0, _), (1, _)]) dX9_isRedNear_1 rfl rfl (le_b rfl) rfl ?_
  refine WP.sub (L' := [(0, _), (1, _), (2, _)]) [1, 2, 0] rfl ?_
  refine wp_loop (σ := Int32 × Nat) (I := fun (i, j) => i = nI j ∧ j ≤ σ.nh ∧ redF σ p9 j = false) (ωf := fun (i, j) => ω) (Lf := fun (i, j) => [(0, .ref (ad .main)), (1, .int p9), (2, .int i)]) (μ := fun (i, j) => σ.nh - j) (x0 := (_, 0)) ?_ ?_
  · exact ⟨rfl, Nat.zero_le _, rfl⟩
  · rintro ⟨i, j⟩ hI ih
    dsimp only at hI ih ⊢
    obtain ⟨rfl, hj, hm⟩ := hI
    have hin9 : ¬ nI (σ.nh) ≤ nI j → j < σ.nh := nI_ltc (Nat.lt_of_le_of_lt (RepC.b_house hR) (by decide)) hj
    refine s_iload_n hC dX9_isRedNear_2 rfl rfl 2 rfl ?_
    refine s_aload_n hC dX9_isRedNear_3 rfl rfl 0 rfl ?_
    refine s_getf hC cs_X9 8 tw_245 (le_b rfl) (RepC.f_main hR) rfl dX9_isRedNear_4 rfl ?_
    refine s_callV hC (ct_Jx4a65c_size_8abf5 l g _ _ _ _ _ (RepC.f_houses hR)) ce_Jx4a65c_size_8abf5 cs_Jx4a65c (RepC.f_houses hR) tw_273 rfl rfl ⟨⟨le_b rfl, le_b rfl⟩, le_b rfl, le_b rfl⟩ (le_b rfl) dX9_isRedNear_7 rfl (dvk1 ?_) nokx
    refine z_icmp_ge hC (tgt := 52) dX9_isRedNear_10 rfl (by decide) (fun c_1 => ?_) (fun c_1 => ?_)
    · refine s_iconst hC (v := 0) dX9_isRedNear_52 rfl (by decide) ?_
      refine s_zret hC hr dX9_isRedNear_53 rfl (le_b rfl) (le_b rfl) ?_
      obtain rfl := nI_lec (Nat.lt_of_le_of_lt (RepC.b_house hR) (by decide)) hj c_1
      exact ⟨by rw [hm]; rfl, rfl⟩
    · refine s_aload_n hC dX9_isRedNear_13 rfl rfl 0 rfl ?_
      refine s_getf hC cs_X9 8 tw_245 (le_b rfl) (RepC.f_main hR) rfl dX9_isRedNear_14 rfl ?_
      refine s_iload_n hC dX9_isRedNear_17 rfl rfl 2 rfl ?_
      refine s_callV hC (ct_Jx4a65c_get_915e3 l g _ _ _ _ _ (RepC.f_houses hR) _ _ (RepC.p_house hR (hin9 c_1)).2.1 (RepC.p_house hR (hin9 c_1)).2.2.1 _ _ (RepC.p_house hR (hin9 c_1)).2.2.2.1 (hin9 c_1) (RepC.p_house hR (hin9 c_1)).2.2.2.2) ce_Jx4a65c_get_915e3 cs_Jx4a65c (RepC.f_houses hR) tw_285 rfl rfl ⟨⟨le_b rfl, le_b rfl⟩, le_b rfl, le_b rfl⟩ (le_b rfl) dX9_isRedNear_18 rfl (dvk1 ?_) nokx
      refine s_cast hC cs_X4 tw_852 (RepC.f_house hR (hin9 c_1)) dX9_isRedNear_21 rfl ?_
      refine s_astore_n hC (L' := [(3, _), (0, _), (1, _), (2, _)]) dX9_isRedNear_24 rfl rfl (le_b rfl) rfl ?_
      refine s_aload_n hC dX9_isRedNear_25 rfl rfl 0 rfl ?_
      refine s_iload_n hC dX9_isRedNear_26 rfl rfl 2 rfl ?_
      refine s_callV hC (ct_X4_awayFrom l g _ _ _ (RepC.f_house hR (hin9 c_1)) _) ce_X4_awayFrom cs_X4 (RepC.f_house hR (hin9 c_1)) tw_853 rfl rfl ⟨⟨le_b rfl, le_b rfl⟩, le_b rfl, le_b rfl⟩ (le_b rfl) dX9_isRedNear_27 rfl (dvk1 ?_) nokx
      refine s_bipush hC (v := 10) dX9_isRedNear_30 rfl (by decide) ?_
      refine z_icmp_gt hC (tgt := 46) dX9_isRedNear_32 rfl (by decide) (fun c_2 => ?_) (fun c_2 => ?_)
      · refine s_iinc hC (v := _ + 1) (j9 := 3) (L' := [(2, _), (3, _), (0, _), (1, _)]) dX9_isRedNear_46 rfl rfl rfl (le_b rfl) rfl ?_
        refine s_goto hC (tgt := 2) dX9_isRedNear_49 (by decide) ?_
        refine WP.sub (L' := [(0, _), (1, _), (2, _)]) [2, 3, 0] rfl ?_
        refine ih (_, j + 1) ?_ ?_
        · dsimp only
          have h9 := hin9 c_1
          refine ⟨nI_1 j, h9, ?_⟩
          rw [redF, hm]
          simp [c_1, c_2]
        · dsimp only
          have h9 := hin9 c_1; omega
      · refine s_aload_n hC dX9_isRedNear_35 rfl rfl 0 rfl ?_
        refine s_callV hC (ct_X4_colour l g _ _ _ (RepC.f_house hR (hin9 c_1))) ce_X4_colour cs_X4 (RepC.f_house hR (hin9 c_1)) tw_858 rfl rfl ⟨⟨le_b rfl, le_b rfl⟩, le_b rfl, le_b rfl⟩ (le_b rfl) dX9_isRedNear_36 rfl (dvk1 ?_) nokx
        refine s_bipush hC (v := 114) dX9_isRedNear_39 rfl (by decide) ?_
        refine z_icmp_ne hC (tgt := 46) dX9_isRedNear_41 rfl (by decide) (fun c_3 => ?_) (fun c_3 => ?_)
        · refine s_iinc hC (v := _ + 1) (j9 := 3) (L' := [(2, _), (3, _), (0, _), (1, _)]) dX9_isRedNear_46 rfl rfl rfl (le_b rfl) rfl ?_
          refine s_goto hC (tgt := 2) dX9_isRedNear_49 (by decide) ?_
          refine WP.sub (L' := [(0, _), (1, _), (2, _)]) [2, 3, 0] rfl ?_
          refine ih (_, j + 1) ?_ ?_
          · dsimp only
            have h9 := hin9 c_1
            refine ⟨nI_1 j, h9, ?_⟩
            rw [redF, hm]
            simp [c_1, c_2, c_3]
          · dsimp only
            have h9 := hin9 c_1; omega
        · refine s_iconst hC (v := 1) dX9_isRedNear_44 rfl (by decide) ?_
          refine s_zret hC hr dX9_isRedNear_45 rfl (le_b rfl) (le_b rfl) ?_
          exact ⟨by rw [redF_t σ p9 (hin9 c_1) c_2 c_3]; rfl, rfl⟩
set_option maxHeartbeats 1000000 in
set_option maxRecDepth 100000 in
theorem ct_X9_nextMinutes (l : Launch) (g : Gl) (ω : Wd) (ad : Ix → Nat) (x : Ex) (σ : St) (hR : RepC g ad x σ ω) : CT l g yX9_nextMinutes cX9_nextMinutes 2 (some .int) 1 21 0 0 [.ref (ad .main)] ω (dv (some (.int (nmF σ))) ω) (nox) := by
  refine CT.of (own := "Boringhead") rfl rfl (le_b rfl) rfl ?_
  intro p e s m args below meth c sz0 hC hr htab hin
  refine s_aload_n hC dX9_nextMinutes_0 rfl rfl 0 rfl ?_
  refine s_getf hC cs_X9 7 tw_244 (le_b rfl) (RepC.f_main hR) rfl dX9_nextMinutes_1 rfl ?_
  refine s_callV hC (ct_Jx4a65c_size_8abf5 l g _ _ _ _ _ (RepC.f_built hR)) ce_Jx4a65c_size_8abf5 cs_Jx4a65c (RepC.f_built hR) tw_273 rfl rfl ⟨⟨le_b rfl, le_b rfl⟩, le_b rfl, le_b rfl⟩ (le_b rfl) dX9_nextMinutes_4 rfl (dvk1 ?_) nokx
  refine s_istore_n hC (L' := [(1, _), (0, _)]) dX9_nextMinutes_7 rfl rfl (le_b rfl) rfl ?_
  refine s_gets hC 5 rfl tw_874 dX9_nextMinutes_8 rfl ?_
  refine s_aload_n hC dX9_nextMinutes_11 rfl rfl 1 rfl ?_
  refine s_getf hC cs_X9 0 tw_237 (le_b rfl) (RepC.f_main hR) rfl dX9_nextMinutes_12 rfl ?_
  refine s_getfN hC cs_X7 0 tw_85 (le_b rfl) (RepC.f_soil hR) rfl dX9_nextMinutes_15 rfl ?_
  refine s_iload_n hC dX9_nextMinutes_18 rfl rfl 0 rfl ?_
  refine s_callS hC (ct_X9_at l g _ _ _ _ _ (Or.inl (RepC.f_kinds hR)) (by first | decide | assumption)) ce_X9_at tw_367 rfl rfl ⟨⟨le_b rfl, le_b rfl⟩, le_b rfl, le_b rfl⟩ (le_b rfl) dX9_nextMinutes_19 rfl (dvk1 ?_) nokx
  refine s_callS hC (ct_X9_at l g _ _ 4 _ _ (ar_st g _ 5 rfl) (by first | decide | assumption)) ce_X9_at tw_367 rfl rfl ⟨⟨le_b rfl, le_b rfl⟩, le_b rfl, le_b rfl⟩ (le_b rfl) dX9_nextMinutes_22 rfl (dvk1 ?_) nokx
  refine s_iload_n hC dX9_nextMinutes_25 rfl rfl 0 rfl ?_
  refine s_bipush hC (v := 10) dX9_nextMinutes_26 rfl (by decide) ?_
  refine s_idiv hC dX9_nextMinutes_28 rfl (by decide) ?_
  refine s_bipush hC (v := 10) dX9_nextMinutes_29 rfl (by decide) ?_
  refine s_min hC tw_875 ⟨le_b rfl, le_b rfl, le_b rfl, le_b rfl⟩ dX9_nextMinutes_31 rfl ?_
  refine s_isub hC dX9_nextMinutes_34 rfl ?_
  refine s_iret hC hr dX9_nextMinutes_35 (le_b rfl) (le_b rfl) ?_
  exact ⟨rfl, rfl⟩
set_option maxHeartbeats 1000000 in
set_option maxRecDepth 100000 in
theorem ct_X9_sunkBy (l : Launch) (g : Gl) (ω : Wd) (ad : Ix → Nat) (x : Ex) (σ : St) (hR : RepC g ad x σ ω) (r9 m9 p9 o9 : Int32) : CT l g yX9_sunkBy cX9_sunkBy 8 (some .int) 1 21 0 0 [.ref (ad .main), .int r9, .int m9, .int p9, .int o9] ω (dv (some (.int (skF σ r9 m9 p9 o9))) ω) (nox) := by
  refine CT.of (own := "Boringhead") rfl rfl (le_b rfl) rfl ?_
  intro p e s m args below meth c sz0 hC hr htab hin
  refine s_aload_n hC dX9_sunkBy_0 rfl rfl 0 rfl ?_
  refine s_getf hC cs_X9 0 tw_237 (le_b rfl) (RepC.f_main hR) rfl dX9_sunkBy_1 rfl ?_
  refine s_getfN hC cs_X7 2 tw_89 (le_b rfl) (RepC.f_soil hR) rfl dX9_sunkBy_4 rfl ?_
  refine s_iload_n hC dX9_sunkBy_7 rfl rfl 1 rfl ?_
  refine s_callS hC (ct_X9_at l g _ _ _ _ _ (Or.inl (RepC.f_depths hR)) (by first | decide | assumption)) ce_X9_at tw_367 rfl rfl ⟨⟨le_b rfl, le_b rfl⟩, le_b rfl, le_b rfl⟩ (le_b rfl) dX9_sunkBy_8 rfl (dvk1 ?_) nokx
  refine s_istore hC (L' := [(5, _), (0, _), (1, _), (2, _), (3, _), (4, _)]) dX9_sunkBy_11 rfl (le_b rfl) rfl ?_
  refine s_iload_n hC dX9_sunkBy_13 rfl rfl 4 rfl ?_
  refine s_iload_n hC dX9_sunkBy_14 rfl rfl 2 rfl ?_
  refine s_isub hC dX9_sunkBy_15 rfl ?_
  refine s_istore hC (L' := [(6, _), (5, _), (0, _), (1, _), (2, _), (3, _), (4, _)]) dX9_sunkBy_16 rfl (le_b rfl) rfl ?_
  refine s_bipush hC (v := 10) dX9_sunkBy_18 rfl (by decide) ?_
  refine s_iload hC dX9_sunkBy_20 rfl 1 rfl ?_
  refine s_iload hC dX9_sunkBy_22 rfl 1 rfl ?_
  refine s_imul hC dX9_sunkBy_24 rfl ?_
  refine s_iload hC dX9_sunkBy_25 rfl 0 rfl ?_
  refine s_iload hC dX9_sunkBy_27 rfl 0 rfl ?_
  refine s_imul hC dX9_sunkBy_29 rfl ?_
  refine s_iadd hC dX9_sunkBy_30 rfl ?_
  refine s_iload hC dX9_sunkBy_31 rfl 6 rfl ?_
  refine s_iload hC dX9_sunkBy_33 rfl 6 rfl ?_
  refine s_imul hC dX9_sunkBy_35 rfl ?_
  refine s_iadd hC dX9_sunkBy_36 rfl ?_
  refine s_imul hC dX9_sunkBy_37 rfl ?_
  refine s_istore hC (L' := [(7, _), (6, _), (5, _), (0, _), (1, _), (2, _), (3, _), (4, _)]) dX9_sunkBy_38 rfl (le_b rfl) rfl ?_
  refine s_iload hC dX9_sunkBy_40 rfl 0 rfl ?_
  refine z_if_le hC (tgt := 58) dX9_sunkBy_42 rfl (by decide) (fun c_1 => ?_) (fun c_1 => ?_)
  · refine s_iconst hC (v := 0) dX9_sunkBy_58 rfl (by decide) ?_
    refine s_iret hC hr dX9_sunkBy_59 (le_b rfl) (le_b rfl) ?_
    exact ⟨by simp only [skF, c_1, if_true, if_false], rfl⟩
  · refine s_iload_n hC dX9_sunkBy_45 rfl rfl 5 rfl ?_
    refine s_iload hC dX9_sunkBy_46 rfl 2 rfl ?_
    refine s_imul hC dX9_sunkBy_48 rfl ?_
    refine s_iload hC dX9_sunkBy_49 rfl 2 rfl ?_
    refine s_imul hC dX9_sunkBy_51 rfl ?_
    refine s_iload hC dX9_sunkBy_52 rfl 0 rfl ?_
    refine s_idiv hC dX9_sunkBy_54 rfl (fun z9 => c_1 (by rw [z9]; decide)) ?_
    refine s_goto hC (tgt := 59) dX9_sunkBy_55 (by decide) ?_
    refine s_iret hC hr dX9_sunkBy_59 (le_b rfl) (le_b rfl) ?_
    exact ⟨by simp only [skF, c_1, if_true, if_false], rfl⟩
set_option maxHeartbeats 1000000 in
set_option maxRecDepth 100000 in
theorem ct_X9_settlement (l : Launch) (g : Gl) (ω : Wd) (ad : Ix → Nat) (x : Ex) (σ : St) (hR : RepC g ad x σ ω) (i9 : Nat) (hi : i9 < σ.nh) (b : Bool) : CT l g yX9_settlement cX9_settlement 6 (some .int) 3 64 0 0 [.ref (ad .main), .ref (ad (.house i9)), .int (bI b)] ω (dv (some (.int (smF σ (σ.hs i9) b))) ω) (nox) := by
  refine CT.of (own := "Boringhead") rfl rfl (le_b rfl) rfl ?_
  intro p e s m args below meth c sz0 hC hr htab hin
  refine s_iload_n hC dX9_settlement_0 rfl rfl 2 rfl ?_
  refine z_if_eqB hC (tgt := 11) dX9_settlement_1 rfl (by decide) (fun c_1 => ?_) (fun c_1 => ?_)
  · refine s_aload_n hC dX9_settlement_11 rfl rfl 1 rfl ?_
    refine s_getfN hC cs_X4 0 tw_1038 (le_b rfl) (RepC.f_house hR hi) rfl dX9_settlement_12 rfl ?_
    first
      | rw [show (σ.hs i9).to = (if b = true then (σ.hs i9).to else (σ.hs i9).fr) by rw [if_pos c_1]]
      | rw [show (σ.hs i9).fr = (if b = true then (σ.hs i9).to else (σ.hs i9).fr) by rw [c_1]; rfl]
    refine s_istore_n hC (L' := [(3, _), (0, _), (1, _), (2, _)]) dX9_settlement_15 rfl rfl (le_b rfl) rfl ?_
    refine s_iconst hC (v := 0) dX9_settlement_16 rfl (by decide) ?_
    refine s_istore hC (L' := [(4, _), (3, _), (0, _), (1, _), (2, _)]) dX9_settlement_17 rfl (le_b rfl) rfl ?_
    refine s_iconst hC (v := 0) dX9_settlement_19 rfl (by decide) ?_
    refine s_istore hC (L' := [(5, _), (4, _), (3, _), (0, _), (1, _), (2, _)]) dX9_settlement_20 rfl (le_b rfl) rfl ?_
    refine WP.sub (L' := [(0, _), (1, _), (2, _), (3, _), (4, _), (5, _)]) [3, 4, 5, 2, 1, 0] rfl ?_
    refine wp_loop (σ := Int32 × Int32 × Nat) (I := fun (i, sm, j) => i = nI j ∧ j ≤ σ.n ∧ sm = stlF σ (if b = true then (σ.hs i9).to else (σ.hs i9).fr) (σ.hs i9).ofs j) (ωf := fun (i, sm, j) => ω) (Lf := fun (i, sm, j) => [(0, .ref (ad .main)), (1, .ref (ad (.house i9))), (2, .int (bI b)), (3, .int (if b = true then (σ.hs i9).to else (σ.hs i9).fr)), (4, .int sm), (5, .int i)]) (μ := fun (i, sm, j) => σ.n - j) (x0 := (_, _, 0)) ?_ ?_
    · exact ⟨rfl, Nat.zero_le _, rfl⟩
    · rintro ⟨i, sm, j⟩ hI ih
      dsimp only at hI ih ⊢
      obtain ⟨rfl, hj, rfl⟩ := hI
      have hin9 : ¬ nI (σ.n) ≤ nI j → j < σ.n := nI_ltc (Nat.lt_of_le_of_lt (RepC.b_ring hR) (by decide)) hj
      refine s_iload hC dX9_settlement_22 rfl 5 rfl ?_
      refine s_aload_n hC dX9_settlement_24 rfl rfl 0 rfl ?_
      refine s_getf hC cs_X9 7 tw_244 (le_b rfl) (RepC.f_main hR) rfl dX9_settlement_25 rfl ?_
      refine s_callV hC (ct_Jx4a65c_size_8abf5 l g _ _ _ _ _ (RepC.f_built hR)) ce_Jx4a65c_size_8abf5 cs_Jx4a65c (RepC.f_built hR) tw_273 rfl rfl ⟨⟨le_b rfl, le_b rfl⟩, le_b rfl, le_b rfl⟩ (le_b rfl) dX9_settlement_28 rfl (dvk1 ?_) nokx
      refine z_icmp_ge hC (tgt := 71) dX9_settlement_31 rfl (by decide) (fun c_2 => ?_) (fun c_2 => ?_)
      · refine s_iload hC dX9_settlement_71 rfl 4 rfl ?_
        refine s_iload_n hC dX9_settlement_73 rfl rfl 2 rfl ?_
        refine z_if_eqB hC (tgt := 84) dX9_settlement_74 rfl (by decide) (fun c_3 => ?_) (fun c_3 => ?_)
        · refine s_aload_n hC dX9_settlement_84 rfl rfl 1 rfl ?_
          refine s_getfN hC cs_X4 3 tw_1044 (le_b rfl) (RepC.f_house hR hi) rfl dX9_settlement_85 rfl ?_
          refine s_isub hC dX9_settlement_88 rfl ?_
          refine s_iret hC hr dX9_settlement_89 (le_b rfl) (le_b rfl) ?_
          obtain rfl := nI_lec (Nat.lt_of_le_of_lt (RepC.b_ring hR) (by decide)) hj c_2
          first
            | exact absurd c_3 (by rw [c_1]; decide)
            | exact ⟨by simp [smF, c_1, c_2, c_3], rfl⟩
        · refine s_aload_n hC dX9_settlement_77 rfl rfl 1 rfl ?_
          refine s_getfN hC cs_X4 4 tw_1046 (le_b rfl) (RepC.f_house hR hi) rfl dX9_settlement_78 rfl ?_
          refine s_goto hC (tgt := 88) dX9_settlement_81 (by decide) ?_
          refine s_isub hC dX9_settlement_88 rfl ?_
          refine s_iret hC hr dX9_settlement_89 (le_b rfl) (le_b rfl) ?_
          obtain rfl := nI_lec (Nat.lt_of_le_of_lt (RepC.b_ring hR) (by decide)) hj c_2
          first
            | exact absurd c_3 (by rw [c_1]; decide)
            | exact ⟨by simp [smF, c_1, c_2, c_3], rfl⟩
      · refine s_iload hC dX9_settlement_34 rfl 4 rfl ?_
        refine s_aload_n hC dX9_settlement_36 rfl rfl 0 rfl ?_
        refine s_iload hC dX9_settlement_37 rfl 5 rfl ?_
        refine s_aload_n hC dX9_settlement_39 rfl rfl 0 rfl ?_
        refine s_getf hC cs_X9 7 tw_244 (le_b rfl) (RepC.f_main hR) rfl dX9_settlement_40 rfl ?_
        refine s_iload hC dX9_settlement_43 rfl 5 rfl ?_
        refine s_callV hC (ct_Jx4a65c_get_915e3 l g _ _ _ _ _ (RepC.f_built hR) _ _ (RepC.p_ring hR (hin9 c_2)).2.1 (RepC.p_ring hR (hin9 c_2)).2.2.1 _ _ (RepC.p_ring hR (hin9 c_2)).2.2.2.1 (hin9 c_2) (RepC.p_ring hR (hin9 c_2)).2.2.2.2) ce_Jx4a65c_get_915e3 cs_Jx4a65c (RepC.f_built hR) tw_285 rfl rfl ⟨⟨le_b rfl, le_b rfl⟩, le_b rfl, le_b rfl⟩ (le_b rfl) dX9_settlement_45 rfl (dvk1 ?_) nokx
        refine s_cast hC cs_X5 tw_299 (RepC.f_ring hR (hin9 c_2)) dX9_settlement_48 rfl ?_
        refine s_callV hC (ct_X5_missing l g _ _ _ (RepC.f_ring hR (hin9 c_2))) ce_X5_missing cs_X5 (RepC.f_ring hR (hin9 c_2)) tw_333 rfl rfl ⟨⟨le_b rfl, le_b rfl⟩, le_b rfl, le_b rfl⟩ (le_b rfl) dX9_settlement_51 rfl (dvk1 ?_) nokx
        refine s_iload_n hC dX9_settlement_54 rfl rfl 3 rfl ?_
        refine s_aload_n hC dX9_settlement_55 rfl rfl 1 rfl ?_
        refine s_getfN hC cs_X4 2 tw_1042 (le_b rfl) (RepC.f_house hR hi) rfl dX9_settlement_56 rfl ?_
        refine s_callV hC (ct_X9_sunkBy l g _ _ _ _ hR _ _ _ _) ce_X9_sunkBy cs_X9 (RepC.f_main hR) tw_1082 rfl rfl ⟨⟨le_b rfl, le_b rfl⟩, le_b rfl, le_b rfl⟩ (le_b rfl) dX9_settlement_59 rfl (dvk1 ?_) nokx
        refine s_iadd hC dX9_settlement_62 rfl ?_
        refine s_istore hC (L' := [(4, _), (0, _), (1, _), (2, _), (3, _), (5, _)]) dX9_settlement_63 rfl (le_b rfl) rfl ?_
        refine s_iinc hC (v := _ + 1) (j9 := 5) (L' := [(5, _), (4, _), (0, _), (1, _), (2, _), (3, _)]) dX9_settlement_65 rfl rfl rfl (le_b rfl) rfl ?_
        refine s_goto hC (tgt := 22) dX9_settlement_68 (by decide) ?_
        refine WP.sub (L' := [(0, _), (1, _), (2, _), (3, _), (4, _), (5, _)]) [2, 3, 4, 5, 1, 0] rfl ?_
        refine ih (_, _, j + 1) ?_ ?_
        · dsimp only
          have h9 := hin9 c_2
          refine ⟨nI_1 j, h9, ?_⟩
          rfl
        · dsimp only
          have h9 := hin9 c_2; omega
  · refine s_aload_n hC dX9_settlement_4 rfl rfl 1 rfl ?_
    refine s_getfN hC cs_X4 1 tw_1040 (le_b rfl) (RepC.f_house hR hi) rfl dX9_settlement_5 rfl ?_
    refine s_goto hC (tgt := 15) dX9_settlement_8 (by decide) ?_
    first
      | rw [show (σ.hs i9).to = (if b = true then (σ.hs i9).to else (σ.hs i9).fr) by rw [if_pos c_1]]
      | rw [show (σ.hs i9).fr = (if b = true then (σ.hs i9).to else (σ.hs i9).fr) by rw [c_1]; rfl]
    refine s_istore_n hC (L' := [(3, _), (0, _), (1, _), (2, _)]) dX9_settlement_15 rfl rfl (le_b rfl) rfl ?_
    refine s_iconst hC (v := 0) dX9_settlement_16 rfl (by decide) ?_
    refine s_istore hC (L' := [(4, _), (3, _), (0, _), (1, _), (2, _)]) dX9_settlement_17 rfl (le_b rfl) rfl ?_
    refine s_iconst hC (v := 0) dX9_settlement_19 rfl (by decide) ?_
    refine s_istore hC (L' := [(5, _), (4, _), (3, _), (0, _), (1, _), (2, _)]) dX9_settlement_20 rfl (le_b rfl) rfl ?_
    refine WP.sub (L' := [(0, _), (1, _), (2, _), (3, _), (4, _), (5, _)]) [3, 4, 5, 2, 1, 0] rfl ?_
    refine wp_loop (σ := Int32 × Int32 × Nat) (I := fun (i, sm, j) => i = nI j ∧ j ≤ σ.n ∧ sm = stlF σ (if b = true then (σ.hs i9).to else (σ.hs i9).fr) (σ.hs i9).ofs j) (ωf := fun (i, sm, j) => ω) (Lf := fun (i, sm, j) => [(0, .ref (ad .main)), (1, .ref (ad (.house i9))), (2, .int (bI b)), (3, .int (if b = true then (σ.hs i9).to else (σ.hs i9).fr)), (4, .int sm), (5, .int i)]) (μ := fun (i, sm, j) => σ.n - j) (x0 := (_, _, 0)) ?_ ?_
    · exact ⟨rfl, Nat.zero_le _, rfl⟩
    · rintro ⟨i, sm, j⟩ hI ih
      dsimp only at hI ih ⊢
      obtain ⟨rfl, hj, rfl⟩ := hI
      have hin9 : ¬ nI (σ.n) ≤ nI j → j < σ.n := nI_ltc (Nat.lt_of_le_of_lt (RepC.b_ring hR) (by decide)) hj
      refine s_iload hC dX9_settlement_22 rfl 5 rfl ?_
      refine s_aload_n hC dX9_settlement_24 rfl rfl 0 rfl ?_
      refine s_getf hC cs_X9 7 tw_244 (le_b rfl) (RepC.f_main hR) rfl dX9_settlement_25 rfl ?_
      refine s_callV hC (ct_Jx4a65c_size_8abf5 l g _ _ _ _ _ (RepC.f_built hR)) ce_Jx4a65c_size_8abf5 cs_Jx4a65c (RepC.f_built hR) tw_273 rfl rfl ⟨⟨le_b rfl, le_b rfl⟩, le_b rfl, le_b rfl⟩ (le_b rfl) dX9_settlement_28 rfl (dvk1 ?_) nokx
      refine z_icmp_ge hC (tgt := 71) dX9_settlement_31 rfl (by decide) (fun c_4 => ?_) (fun c_4 => ?_)
      · refine s_iload hC dX9_settlement_71 rfl 4 rfl ?_
        refine s_iload_n hC dX9_settlement_73 rfl rfl 2 rfl ?_
        refine z_if_eqB hC (tgt := 84) dX9_settlement_74 rfl (by decide) (fun c_5 => ?_) (fun c_5 => ?_)
        · refine s_aload_n hC dX9_settlement_84 rfl rfl 1 rfl ?_
          refine s_getfN hC cs_X4 3 tw_1044 (le_b rfl) (RepC.f_house hR hi) rfl dX9_settlement_85 rfl ?_
          refine s_isub hC dX9_settlement_88 rfl ?_
          refine s_iret hC hr dX9_settlement_89 (le_b rfl) (le_b rfl) ?_
          obtain rfl := nI_lec (Nat.lt_of_le_of_lt (RepC.b_ring hR) (by decide)) hj c_4
          first
            | exact absurd c_5 (by rw [c_1]; decide)
            | exact ⟨by simp [smF, c_1, c_4, c_5], rfl⟩
        · refine s_aload_n hC dX9_settlement_77 rfl rfl 1 rfl ?_
          refine s_getfN hC cs_X4 4 tw_1046 (le_b rfl) (RepC.f_house hR hi) rfl dX9_settlement_78 rfl ?_
          refine s_goto hC (tgt := 88) dX9_settlement_81 (by decide) ?_
          refine s_isub hC dX9_settlement_88 rfl ?_
          refine s_iret hC hr dX9_settlement_89 (le_b rfl) (le_b rfl) ?_
          obtain rfl := nI_lec (Nat.lt_of_le_of_lt (RepC.b_ring hR) (by decide)) hj c_4
          first
            | exact absurd c_5 (by rw [c_1]; decide)
            | exact ⟨by simp [smF, c_1, c_4, c_5], rfl⟩
      · refine s_iload hC dX9_settlement_34 rfl 4 rfl ?_
        refine s_aload_n hC dX9_settlement_36 rfl rfl 0 rfl ?_
        refine s_iload hC dX9_settlement_37 rfl 5 rfl ?_
        refine s_aload_n hC dX9_settlement_39 rfl rfl 0 rfl ?_
        refine s_getf hC cs_X9 7 tw_244 (le_b rfl) (RepC.f_main hR) rfl dX9_settlement_40 rfl ?_
        refine s_iload hC dX9_settlement_43 rfl 5 rfl ?_
        refine s_callV hC (ct_Jx4a65c_get_915e3 l g _ _ _ _ _ (RepC.f_built hR) _ _ (RepC.p_ring hR (hin9 c_4)).2.1 (RepC.p_ring hR (hin9 c_4)).2.2.1 _ _ (RepC.p_ring hR (hin9 c_4)).2.2.2.1 (hin9 c_4) (RepC.p_ring hR (hin9 c_4)).2.2.2.2) ce_Jx4a65c_get_915e3 cs_Jx4a65c (RepC.f_built hR) tw_285 rfl rfl ⟨⟨le_b rfl, le_b rfl⟩, le_b rfl, le_b rfl⟩ (le_b rfl) dX9_settlement_45 rfl (dvk1 ?_) nokx
        refine s_cast hC cs_X5 tw_299 (RepC.f_ring hR (hin9 c_4)) dX9_settlement_48 rfl ?_
        refine s_callV hC (ct_X5_missing l g _ _ _ (RepC.f_ring hR (hin9 c_4))) ce_X5_missing cs_X5 (RepC.f_ring hR (hin9 c_4)) tw_333 rfl rfl ⟨⟨le_b rfl, le_b rfl⟩, le_b rfl, le_b rfl⟩ (le_b rfl) dX9_settlement_51 rfl (dvk1 ?_) nokx
        refine s_iload_n hC dX9_settlement_54 rfl rfl 3 rfl ?_
        refine s_aload_n hC dX9_settlement_55 rfl rfl 1 rfl ?_
        refine s_getfN hC cs_X4 2 tw_1042 (le_b rfl) (RepC.f_house hR hi) rfl dX9_settlement_56 rfl ?_
        refine s_callV hC (ct_X9_sunkBy l g _ _ _ _ hR _ _ _ _) ce_X9_sunkBy cs_X9 (RepC.f_main hR) tw_1082 rfl rfl ⟨⟨le_b rfl, le_b rfl⟩, le_b rfl, le_b rfl⟩ (le_b rfl) dX9_settlement_59 rfl (dvk1 ?_) nokx
        refine s_iadd hC dX9_settlement_62 rfl ?_
        refine s_istore hC (L' := [(4, _), (0, _), (1, _), (2, _), (3, _), (5, _)]) dX9_settlement_63 rfl (le_b rfl) rfl ?_
        refine s_iinc hC (v := _ + 1) (j9 := 5) (L' := [(5, _), (4, _), (0, _), (1, _), (2, _), (3, _)]) dX9_settlement_65 rfl rfl rfl (le_b rfl) rfl ?_
        refine s_goto hC (tgt := 22) dX9_settlement_68 (by decide) ?_
        refine WP.sub (L' := [(0, _), (1, _), (2, _), (3, _), (4, _), (5, _)]) [2, 3, 4, 5, 1, 0] rfl ?_
        refine ih (_, _, j + 1) ?_ ?_
        · dsimp only
          have h9 := hin9 c_4
          refine ⟨nI_1 j, h9, ?_⟩
          rfl
        · dsimp only
          have h9 := hin9 c_4; omega
set_option maxHeartbeats 1000000 in
set_option maxRecDepth 100000 in
theorem ct_X9_tiltOf (l : Launch) (g : Gl) (ω : Wd) (ad : Ix → Nat) (x : Ex) (σ : St) (hR : RepC g ad x σ ω) (i9 : Nat) (hi : i9 < σ.nh) : CT l g yX9_tiltOf cX9_tiltOf 2 (some .int) 4 89 0 0 [.ref (ad .main), .ref (ad (.house i9))] ω (dv (some (.int (iAbs (smF σ (σ.hs i9) false - smF σ (σ.hs i9) true)))) ω) (nox) := by
  refine CT.of (own := "Boringhead") rfl rfl (le_b rfl) rfl ?_
  intro p e s m args below meth c sz0 hC hr htab hin
  refine s_aload_n hC dX9_tiltOf_0 rfl rfl 0 rfl ?_
  refine s_aload_n hC dX9_tiltOf_1 rfl rfl 1 rfl ?_
  refine s_iconst hC (v := 0) dX9_tiltOf_2 rfl (by decide) ?_
  refine s_callV hC (ct_X9_settlement l g _ _ _ _ hR _ hi false) ce_X9_settlement cs_X9 (RepC.f_main hR) tw_1078 rfl rfl ⟨⟨le_b rfl, le_b rfl⟩, le_b rfl, le_b rfl⟩ (le_b rfl) dX9_tiltOf_3 rfl (dvk1 ?_) nokx
  refine s_aload_n hC dX9_tiltOf_6 rfl rfl 0 rfl ?_
  refine s_aload_n hC dX9_tiltOf_7 rfl rfl 1 rfl ?_
  refine s_iconst hC (v := 1) dX9_tiltOf_8 rfl (by decide) ?_
  refine s_callV hC (ct_X9_settlement l g _ _ _ _ hR _ hi true) ce_X9_settlement cs_X9 (RepC.f_main hR) tw_1078 rfl rfl ⟨⟨le_b rfl, le_b rfl⟩, le_b rfl, le_b rfl⟩ (le_b rfl) dX9_tiltOf_9 rfl (dvk1 ?_) nokx
  refine s_isub hC dX9_tiltOf_12 rfl ?_
  refine s_abs hC tw_1097 ⟨le_b rfl, le_b rfl, le_b rfl, le_b rfl⟩ dX9_tiltOf_13 rfl ?_
  refine s_iret hC hr dX9_tiltOf_16 (le_b rfl) (le_b rfl) ?_
  exact ⟨rfl, rfl⟩
set_option maxHeartbeats 1000000 in
set_option maxRecDepth 100000 in
theorem ct_X9_minutesOfRings (l : Launch) (g : Gl) (ω : Wd) (ad : Ix → Nat) (x : Ex) (σ : St) (hR : RepC g ad x σ ω) : CT l g yX9_minutesOfRings cX9_minutesOfRings 3 (some .int) 3 64 0 0 [.ref (ad .main)] ω (dv (some (.int (mrF σ σ.n))) ω) (nox) := by
  refine CT.of (own := "Boringhead") rfl rfl (le_b rfl) rfl ?_
  intro p e s m args below meth c sz0 hC hr htab hin
  refine s_iconst hC (v := 0) dX9_minutesOfRings_0 rfl (by decide) ?_
  refine s_istore_n hC (L' := [(1, _), (0, _)]) dX9_minutesOfRings_1 rfl rfl (le_b rfl) rfl ?_
  refine s_iconst hC (v := 0) dX9_minutesOfRings_2 rfl (by decide) ?_
  refine s_istore_n hC (L' := [(2, _), (1, _), (0, _)]) dX9_minutesOfRings_3 rfl rfl (le_b rfl) rfl ?_
  refine WP.sub (L' := [(0, _), (1, _), (2, _)]) [2, 1, 0] rfl ?_
  refine wp_loop (σ := Int32 × Int32 × Nat) (I := fun (i, sm, j) => i = nI j ∧ j ≤ σ.n ∧ sm = mrF σ j) (ωf := fun (i, sm, j) => ω) (Lf := fun (i, sm, j) => [(0, .ref (ad .main)), (1, .int sm), (2, .int i)]) (μ := fun (i, sm, j) => σ.n - j) (x0 := (_, _, 0)) ?_ ?_
  · exact ⟨rfl, Nat.zero_le _, rfl⟩
  · rintro ⟨i, sm, j⟩ hI ih
    dsimp only at hI ih ⊢
    obtain ⟨rfl, hj, rfl⟩ := hI
    have hin9 : ¬ nI (σ.n) ≤ nI j → j < σ.n := nI_ltc (Nat.lt_of_le_of_lt (RepC.b_ring hR) (by decide)) hj
    refine s_iload_n hC dX9_minutesOfRings_4 rfl rfl 2 rfl ?_
    refine s_aload_n hC dX9_minutesOfRings_5 rfl rfl 0 rfl ?_
    refine s_getf hC cs_X9 7 tw_244 (le_b rfl) (RepC.f_main hR) rfl dX9_minutesOfRings_6 rfl ?_
    refine s_callV hC (ct_Jx4a65c_size_8abf5 l g _ _ _ _ _ (RepC.f_built hR)) ce_Jx4a65c_size_8abf5 cs_Jx4a65c (RepC.f_built hR) tw_273 rfl rfl ⟨⟨le_b rfl, le_b rfl⟩, le_b rfl, le_b rfl⟩ (le_b rfl) dX9_minutesOfRings_9 rfl (dvk1 ?_) nokx
    refine z_icmp_ge hC (tgt := 38) dX9_minutesOfRings_12 rfl (by decide) (fun c_1 => ?_) (fun c_1 => ?_)
    · refine s_iload_n hC dX9_minutesOfRings_38 rfl rfl 1 rfl ?_
      refine s_iret hC hr dX9_minutesOfRings_39 (le_b rfl) (le_b rfl) ?_
      obtain rfl := nI_lec (Nat.lt_of_le_of_lt (RepC.b_ring hR) (by decide)) hj c_1
      exact ⟨rfl, rfl⟩
    · refine s_iload_n hC dX9_minutesOfRings_15 rfl rfl 1 rfl ?_
      refine s_aload_n hC dX9_minutesOfRings_16 rfl rfl 0 rfl ?_
      refine s_getf hC cs_X9 7 tw_244 (le_b rfl) (RepC.f_main hR) rfl dX9_minutesOfRings_17 rfl ?_
      refine s_iload_n hC dX9_minutesOfRings_20 rfl rfl 2 rfl ?_
      refine s_callV hC (ct_Jx4a65c_get_915e3 l g _ _ _ _ _ (RepC.f_built hR) _ _ (RepC.p_ring hR (hin9 c_1)).2.1 (RepC.p_ring hR (hin9 c_1)).2.2.1 _ _ (RepC.p_ring hR (hin9 c_1)).2.2.2.1 (hin9 c_1) (RepC.p_ring hR (hin9 c_1)).2.2.2.2) ce_Jx4a65c_get_915e3 cs_Jx4a65c (RepC.f_built hR) tw_285 rfl rfl ⟨⟨le_b rfl, le_b rfl⟩, le_b rfl, le_b rfl⟩ (le_b rfl) dX9_minutesOfRings_21 rfl (dvk1 ?_) nokx
      refine s_cast hC cs_X5 tw_299 (RepC.f_ring hR (hin9 c_1)) dX9_minutesOfRings_24 rfl ?_
      refine s_getfN hC cs_X5 7 tw_900 (le_b rfl) (RepC.f_ring hR (hin9 c_1)) rfl dX9_minutesOfRings_27 rfl ?_
      refine s_iadd hC dX9_minutesOfRings_30 rfl ?_
      refine s_istore_n hC (L' := [(1, _), (0, _), (2, _)]) dX9_minutesOfRings_31 rfl rfl (le_b rfl) rfl ?_
      refine s_iinc hC (v := _ + 1) (j9 := 2) (L' := [(2, _), (1, _), (0, _)]) dX9_minutesOfRings_32 rfl rfl rfl (le_b rfl) rfl ?_
      refine s_goto hC (tgt := 4) dX9_minutesOfRings_35 (by decide) ?_
      refine WP.sub (L' := [(0, _), (1, _), (2, _)]) [2, 1, 0] rfl ?_
      refine ih (_, _, j + 1) ?_ ?_
      · dsimp only
        have h9 := hin9 c_1
        refine ⟨nI_1 j, h9, ?_⟩
        rfl
      · dsimp only
        have h9 := hin9 c_1; omega
def barF (σ : St) (t9 : Int32) : Int32 :=
  if 120 ≤ nI σ.n then 101
  else if inR σ.press (bdF σ 4 (stF [2, 4, 0, 3]) (nI σ.n)) (bdF σ 4 (stF [8, 5, 20, 7]) (nI σ.n)) = false then 112
  else if wornF σ.wears 8 = true then 99
  else if σ.seg ≤ 0 then 115
  else if muckF (atF 200 σ.kinds (nI σ.n)) (bI σ.foam) ≤ 2000 - σ.pit then (if t9 = ltF σ then 106 else if redF σ (nI σ.n) σ.nh = true then 97 else 45)
  else 109
set_option maxHeartbeats 1000000 in
set_option maxRecDepth 100000 in
theorem ct_X9_barOf (l : Launch) (g : Gl) (ω : Wd) (ad : Ix → Nat) (x : Ex) (σ : St) (hR : RepC g ad x σ ω) (t9 : Int32) : CT l g yX9_barOf cX9_barOf 3 (some .char) 4 87 0 0 [.ref (ad .main), .int t9] ω (dv (some (.int (barF σ t9))) ω) (nox) := by
  refine CT.of (own := "Boringhead") rfl rfl (le_b rfl) rfl ?_
  intro p e s m args below meth c sz0 hC hr htab hin
  refine s_aload_n hC dX9_barOf_0 rfl rfl 0 rfl ?_
  refine s_getf hC cs_X9 7 tw_244 (le_b rfl) (RepC.f_main hR) rfl dX9_barOf_1 rfl ?_
  refine s_callV hC (ct_Jx4a65c_size_8abf5 l g _ _ _ _ _ (RepC.f_built hR)) ce_Jx4a65c_size_8abf5 cs_Jx4a65c (RepC.f_built hR) tw_273 rfl rfl ⟨⟨le_b rfl, le_b rfl⟩, le_b rfl, le_b rfl⟩ (le_b rfl) dX9_barOf_4 rfl (dvk1 ?_) nokx
  refine s_istore_n hC (L' := [(2, _), (0, _), (1, _)]) dX9_barOf_7 rfl rfl (le_b rfl) rfl ?_
  refine s_iload_n hC dX9_barOf_8 rfl rfl 0 rfl ?_
  refine s_bipush hC (v := 120) dX9_barOf_9 rfl (by decide) ?_
  refine z_icmp_lt hC (tgt := 17) dX9_barOf_11 rfl (by decide) (fun c_1 => ?_) (fun c_1 => ?_)
  · refine s_aload_n hC dX9_barOf_17 rfl rfl 1 rfl ?_
    refine s_getf hC cs_X9 1 tw_238 (le_b rfl) (RepC.f_main hR) rfl dX9_barOf_18 rfl ?_
    refine s_getfN hC cs_X6 1 tw_122 (le_b rfl) (RepC.f_shield hR) rfl dX9_barOf_21 rfl ?_
    refine s_aload_n hC dX9_barOf_24 rfl rfl 1 rfl ?_
    refine s_getf hC cs_X9 0 tw_237 (le_b rfl) (RepC.f_main hR) rfl dX9_barOf_25 rfl ?_
    refine s_iload_n hC dX9_barOf_28 rfl rfl 0 rfl ?_
    refine s_gets hC 1 rfl tw_737 dX9_barOf_29 rfl ?_
    refine s_callV hC (ct_X7_bound l g _ _ _ _ hR _ _ 4 _ (ar_st g _ 1 rfl) (by decide)) ce_X7_bound cs_X7 (RepC.f_soil hR) tw_739 rfl rfl ⟨⟨le_b rfl, le_b rfl⟩, le_b rfl, le_b rfl⟩ (le_b rfl) dX9_barOf_32 rfl (dvk1 ?_) nokx
    refine s_aload_n hC dX9_barOf_35 rfl rfl 1 rfl ?_
    refine s_getf hC cs_X9 0 tw_237 (le_b rfl) (RepC.f_main hR) rfl dX9_barOf_36 rfl ?_
    refine s_iload_n hC dX9_barOf_39 rfl rfl 0 rfl ?_
    refine s_gets hC 2 rfl tw_750 dX9_barOf_40 rfl ?_
    refine s_callV hC (ct_X7_bound l g _ _ _ _ hR _ _ 4 _ (ar_st g _ 2 rfl) (by decide)) ce_X7_bound cs_X7 (RepC.f_soil hR) tw_739 rfl rfl ⟨⟨le_b rfl, le_b rfl⟩, le_b rfl, le_b rfl⟩ (le_b rfl) dX9_barOf_43 rfl (dvk1 ?_) nokx
    refine s_callS hC (ct_X9_isWithin l g _ _ _ _) ce_X9_isWithin tw_447 rfl rfl ⟨⟨le_b rfl, le_b rfl⟩, le_b rfl, le_b rfl⟩ (le_b rfl) dX9_barOf_46 rfl (dvk1 ?_) nokx
    refine z_if_neB hC (tgt := 55) dX9_barOf_49 rfl (by decide) (fun c_2 => ?_) (fun c_2 => ?_)
    · refine s_aload_n hC dX9_barOf_55 rfl rfl 1 rfl ?_
      refine s_getf hC cs_X9 1 tw_238 (le_b rfl) (RepC.f_main hR) rfl dX9_barOf_56 rfl ?_
      refine s_callV hC (ct_X6_isWornOut l g _ _ _ _ hR) ce_X6_isWornOut cs_X6 (RepC.f_shield hR) tw_836 rfl rfl ⟨⟨le_b rfl, le_b rfl⟩, le_b rfl, le_b rfl⟩ (le_b rfl) dX9_barOf_59 rfl (dvk1 ?_) nokx
      refine z_if_eqB hC (tgt := 68) dX9_barOf_62 rfl (by decide) (fun c_3 => ?_) (fun c_3 => ?_)
      · refine s_aload_n hC dX9_barOf_68 rfl rfl 1 rfl ?_
        refine s_getf hC cs_X9 4 tw_241 (le_b rfl) (RepC.f_main hR) rfl dX9_barOf_69 rfl ?_
        refine s_getfN hC cs_X8 0 tw_173 (le_b rfl) (RepC.f_yard hR) rfl dX9_barOf_72 rfl ?_
        refine z_if_gt hC (tgt := 81) dX9_barOf_75 rfl (by decide) (fun c_4 => ?_) (fun c_4 => ?_)
        · refine s_sipush hC (v := 2000) dX9_barOf_81 rfl (by decide) ?_
          refine s_aload_n hC dX9_barOf_84 rfl rfl 1 rfl ?_
          refine s_getf hC cs_X9 4 tw_241 (le_b rfl) (RepC.f_main hR) rfl dX9_barOf_85 rfl ?_
          refine s_getfN hC cs_X8 1 tw_175 (le_b rfl) (RepC.f_yard hR) rfl dX9_barOf_88 rfl ?_
          refine s_isub hC dX9_barOf_91 rfl ?_
          refine s_aload_n hC dX9_barOf_92 rfl rfl 1 rfl ?_
          refine s_getf hC cs_X9 0 tw_237 (le_b rfl) (RepC.f_main hR) rfl dX9_barOf_93 rfl ?_
          refine s_getfN hC cs_X7 0 tw_85 (le_b rfl) (RepC.f_soil hR) rfl dX9_barOf_96 rfl ?_
          refine s_iload_n hC dX9_barOf_99 rfl rfl 0 rfl ?_
          refine s_callS hC (ct_X9_at l g _ _ _ _ _ (Or.inl (RepC.f_kinds hR)) (by first | decide | assumption)) ce_X9_at tw_367 rfl rfl ⟨⟨le_b rfl, le_b rfl⟩, le_b rfl, le_b rfl⟩ (le_b rfl) dX9_barOf_100 rfl (dvk1 ?_) nokx
          refine s_aload_n hC dX9_barOf_103 rfl rfl 1 rfl ?_
          refine s_getf hC cs_X9 1 tw_238 (le_b rfl) (RepC.f_main hR) rfl dX9_barOf_104 rfl ?_
          refine s_getfN hC cs_X6 2 tw_125 (le_b rfl) (RepC.f_shield hR) rfl dX9_barOf_107 rfl ?_
          refine s_callS hC (ct_X9_muckOf l g _ _ _) ce_X9_muckOf tw_382 rfl rfl ⟨⟨le_b rfl, le_b rfl⟩, le_b rfl, le_b rfl⟩ (le_b rfl) dX9_barOf_110 rfl (dvk1 ?_) nokx
          refine z_icmp_ge hC (tgt := 119) dX9_barOf_113 rfl (by decide) (fun c_5 => ?_) (fun c_5 => ?_)
          · refine s_iload_n hC dX9_barOf_119 rfl rfl 2 rfl ?_
            refine s_aload_n hC dX9_barOf_120 rfl rfl 1 rfl ?_
            refine s_callV hC (ct_X9_lastTurn l g _ _ _ _ hR) ce_X9_lastTurn cs_X9 (RepC.f_main hR) tw_840 rfl rfl ⟨⟨le_b rfl, le_b rfl⟩, le_b rfl, le_b rfl⟩ (le_b rfl) dX9_barOf_121 rfl (dvk1 ?_) nokx
            refine z_icmp_ne hC (tgt := 130) dX9_barOf_124 rfl (by decide) (fun c_6 => ?_) (fun c_6 => ?_)
            · refine s_aload_n hC dX9_barOf_130 rfl rfl 1 rfl ?_
              refine s_iload_n hC dX9_barOf_131 rfl rfl 0 rfl ?_
              refine s_callV hC (ct_X9_isRedNear l g _ _ _ _ hR _) ce_X9_isRedNear cs_X9 (RepC.f_main hR) tw_848 rfl rfl ⟨⟨le_b rfl, le_b rfl⟩, le_b rfl, le_b rfl⟩ (le_b rfl) dX9_barOf_132 rfl (dvk1 ?_) nokx
              refine z_if_eqB hC (tgt := 143) dX9_barOf_135 rfl (by decide) (fun c_7 => ?_) (fun c_7 => ?_)
              · refine s_bipush hC (v := 45) dX9_barOf_143 rfl (by decide) ?_
                refine s_zret hC hr dX9_barOf_145 rfl (le_b rfl) (le_b rfl) ?_
                exact ⟨by simp [barF, c_1, c_2, c_3, c_4, c_5, c_6, c_7], rfl⟩
              · refine s_bipush hC (v := 97) dX9_barOf_138 rfl (by decide) ?_
                refine s_goto hC (tgt := 145) dX9_barOf_140 (by decide) ?_
                refine s_zret hC hr dX9_barOf_145 rfl (le_b rfl) (le_b rfl) ?_
                exact ⟨by simp [barF, c_1, c_2, c_3, c_4, c_5, c_6, c_7], rfl⟩
            · refine s_bipush hC (v := 106) dX9_barOf_127 rfl (by decide) ?_
              refine s_zret hC hr dX9_barOf_129 rfl (le_b rfl) (le_b rfl) ?_
              exact ⟨by simp [barF, c_1, c_2, c_3, c_4, c_5, c_6], rfl⟩
          · refine s_bipush hC (v := 109) dX9_barOf_116 rfl (by decide) ?_
            refine s_zret hC hr dX9_barOf_118 rfl (le_b rfl) (le_b rfl) ?_
            exact ⟨by simp [barF, c_1, c_2, c_3, c_4, c_5], rfl⟩
        · refine s_bipush hC (v := 115) dX9_barOf_78 rfl (by decide) ?_
          refine s_zret hC hr dX9_barOf_80 rfl (le_b rfl) (le_b rfl) ?_
          exact ⟨by simp [barF, c_1, c_2, c_3, c_4], rfl⟩
      · refine s_bipush hC (v := 99) dX9_barOf_65 rfl (by decide) ?_
        refine s_zret hC hr dX9_barOf_67 rfl (le_b rfl) (le_b rfl) ?_
        exact ⟨by simp [barF, c_1, c_2, c_3], rfl⟩
    · refine s_bipush hC (v := 112) dX9_barOf_52 rfl (by decide) ?_
      refine s_zret hC hr dX9_barOf_54 rfl (le_b rfl) (le_b rfl) ?_
      exact ⟨by simp [barF, c_1, c_2], rfl⟩
  · refine s_bipush hC (v := 101) dX9_barOf_14 rfl (by decide) ?_
    refine s_zret hC hr dX9_barOf_16 rfl (le_b rfl) (le_b rfl) ?_
    exact ⟨by simp [barF, c_1], rfl⟩
