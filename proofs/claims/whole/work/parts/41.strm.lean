set_option maxHeartbeats 1000000 in
set_option maxRecDepth 100000 in
theorem ct_J0_coder_7d493 (l : Launch) (g : Gl) (ω : Wd) (a v N : Nat) (f : Nat → Int32) (hs : strV g ω a v N f) : CT l g yJ0_coder_7d493 cJ0_coder_7d493 1 (some .byte) 0 0 0 0 [.ref a] ω (dv (some (.int 0)) ω) (nox) := by
  refine CT.of (own := "java/lang/String") rfl rfl (le_b rfl) rfl ?_
  intro p e s m args below meth c sz0 hC hr htab hin
  refine s_getz hC tw_1341 dJ0_coder_7d493_0 rfl ?_
  refine z_if_eq hC (tgt := 13) dJ0_coder_7d493_3 rfl (by decide) (fun c_1 => ((absurd c_1 (by decide) : False)).elim) (fun c_1 => ?_)
  refine s_aload_n hC dJ0_coder_7d493_6 rfl rfl 0 rfl ?_
  refine s_strC hC hs tw_2010 dJ0_coder_7d493_7 rfl ?_
  refine s_goto hC (tgt := 14) dJ0_coder_7d493_10 (by decide) ?_
  refine s_zret hC hr dJ0_coder_7d493_14 rfl (le_b rfl) (le_b rfl) ?_
  exact ⟨rfl, rfl⟩
set_option maxHeartbeats 1000000 in
set_option maxRecDepth 100000 in
theorem ct_J0_isLatin1_aae02 (l : Launch) (g : Gl) (ω : Wd) (a v N : Nat) (f : Nat → Int32) (hs : strV g ω a v N f) : CT l g yJ0_isLatin1_aae02 cJ0_isLatin1_aae02 1 (some .boolean) 0 0 0 0 [.ref a] ω (dv (some (.int 1)) ω) (nox) := by
  refine CT.of (own := "java/lang/String") rfl rfl (le_b rfl) rfl ?_
  intro p e s m args below meth c sz0 hC hr htab hin
  refine s_getz hC tw_1341 dJ0_isLatin1_aae02_0 rfl ?_
  refine z_if_eq hC (tgt := 17) dJ0_isLatin1_aae02_3 rfl (by decide) (fun c_1 => ((absurd c_1 (by decide) : False)).elim) (fun c_1 => ?_)
  refine s_aload_n hC dJ0_isLatin1_aae02_6 rfl rfl 0 rfl ?_
  refine s_strC hC hs tw_2010 dJ0_isLatin1_aae02_7 rfl ?_
  refine z_if_ne hC (tgt := 17) dJ0_isLatin1_aae02_10 rfl (by decide) (fun c_2 => ((absurd c_2 (by decide) : False)).elim) (fun c_2 => ?_)
  refine s_iconst hC (v := 1) dJ0_isLatin1_aae02_13 rfl (by decide) ?_
  refine s_goto hC (tgt := 18) dJ0_isLatin1_aae02_14 (by decide) ?_
  refine s_zret hC hr dJ0_isLatin1_aae02_18 rfl (le_b rfl) (le_b rfl) ?_
  exact ⟨rfl, rfl⟩
theorem sh0 (x : Int32) : x >>> (0 &&& 31) = x := by
  rw [show (0 : Int32) &&& 31 = 0 from by decide]
  exact Int32.shiftRight_zero
set_option maxHeartbeats 1000000 in
set_option maxRecDepth 100000 in
theorem ct_J0_length_8abf5 (l : Launch) (g : Gl) (ω : Wd) (a v N : Nat) (f : Nat → Int32) (hs : strV g ω a v N f) : CT l g yJ0_length_8abf5 cJ0_length_8abf5 1 (some .int) 1 20 0 0 [.ref a] ω (dv (some (.int (nI N))) ω) (nox) := by
  refine CT.of (own := "java/lang/String") rfl rfl (le_b rfl) rfl ?_
  intro p e s m args below meth c sz0 hC hr htab hin
  refine s_aload_n hC dJ0_length_8abf5_0 rfl rfl 0 rfl ?_
  refine s_strV hC hs tw_2009 dJ0_length_8abf5_1 rfl ?_
  refine s_alenV hC (strV.b hs) dJ0_length_8abf5_4 rfl ?_
  refine s_aload_n hC dJ0_length_8abf5_5 rfl rfl 0 rfl ?_
  refine s_callVs hC (ct_J0_coder_7d493 l g _ _ _ _ _ hs) ce_J0_coder_7d493 rfl hs tw_1347 rfl rfl ⟨⟨le_b rfl, le_b rfl⟩, le_b rfl, le_b rfl⟩ (le_b rfl) dJ0_length_8abf5_6 rfl (dvk1 ?_) nokx
  refine s_ishr hC dJ0_length_8abf5_9 rfl ?_
  refine s_iret hC hr dJ0_length_8abf5_10 (le_b rfl) (le_b rfl) ?_
  exact ⟨by rw [sh0], rfl⟩
set_option maxHeartbeats 1000000 in
set_option maxRecDepth 100000 in
theorem ct_J1_canEncode_9a6ad (l : Launch) (g : Gl) (ω : Wd) (c9 : Int32) : CT l g yJ1_canEncode_9a6ad cJ1_canEncode_9a6ad 1 (some .boolean) 0 0 0 0 [.int c9] ω (dv (some (.int (bI (inR c9 0 255)))) ω) (nox) := by
  refine CT.of (own := "java/lang/StringLatin1") rfl rfl (le_b rfl) rfl ?_
  intro p e s m args below meth c sz0 hC hr htab hin
  refine s_iload_n hC dJ1_canEncode_9a6ad_0 rfl rfl 0 rfl ?_
  refine z_if_lt hC (tgt := 15) dJ1_canEncode_9a6ad_1 rfl (by decide) (fun c_1 => ?_) (fun c_1 => ?_)
  · refine s_iconst hC (v := 0) dJ1_canEncode_9a6ad_15 rfl (by decide) ?_
    refine s_zret hC hr dJ1_canEncode_9a6ad_16 rfl (le_b rfl) (le_b rfl) ?_
    exact ⟨by simp [inR, bI, c_1], rfl⟩
  · refine s_iload_n hC dJ1_canEncode_9a6ad_4 rfl rfl 0 rfl ?_
    refine s_sipush hC (v := 255) dJ1_canEncode_9a6ad_5 rfl (by decide) ?_
    refine z_icmp_gt hC (tgt := 15) dJ1_canEncode_9a6ad_8 rfl (by decide) (fun c_2 => ?_) (fun c_2 => ?_)
    · refine s_iconst hC (v := 0) dJ1_canEncode_9a6ad_15 rfl (by decide) ?_
      refine s_zret hC hr dJ1_canEncode_9a6ad_16 rfl (le_b rfl) (le_b rfl) ?_
      exact ⟨by simp [inR, bI, c_1, c_2], rfl⟩
    · refine s_iconst hC (v := 1) dJ1_canEncode_9a6ad_11 rfl (by decide) ?_
      refine s_goto hC (tgt := 16) dJ1_canEncode_9a6ad_12 (by decide) ?_
      refine s_zret hC hr dJ1_canEncode_9a6ad_16 rfl (le_b rfl) (le_b rfl) ?_
      exact ⟨by simp [inR, bI, c_1, c_2], rfl⟩
theorem byte_q : ∀ q, q < 256 → (nI q).toInt8.toInt32 = if q < 128 then nI q else nI q - 256 := by decide +kernel
theorem lat_b {f : Nat → Int32} {N j : Nat} {c : Int32} (hf : latF f N) (hj : j < N) (hc : inR c 0 255 = true) : f j = c.toInt8.toInt32 ↔ f j = c := by
  obtain ⟨b, hb, he⟩ := hf j hj
  simp only [inR, Bool.and_eq_true, decide_eq_true_eq] at hc
  obtain ⟨q, hq, rfl⟩ := nI_of (Int32.not_lt.mpr hc.1)
  have hq2 := (nI_leI hq (by decide : 255 < 2 ^ 31)).mp hc.2
  rw [he, byte_q q (by omega)]
  by_cases h : q < 128
  · rw [if_pos h]
  · rw [if_neg h]
    constructor
    · intro h9
      have h8 := congrArg Int32.toInt h9
      rw [nI_toInt (by omega), show nI q - 256 = nI q - nI 256 from rfl, nI_subI (by omega) (by omega)] at h8
      omega
    · intro h9
      have := (nI_eq (by omega) hq).mp h9
      omega
theorem ixF_no {f : Nat → Int32} {c : Int32} (n k : Nat) (h : ∀ q, q < n → ¬ f (k + q) = c) : ixF f c n k = -1 := by
  induction n generalizing k with
  | zero => rfl
  | succ n ih =>
    rw [ixF, if_neg (by have := h 0 (by omega); simpa using this)]
    exact ih (k + 1) (fun q hq => by have := h (q + 1) (by omega); rwa [show k + 1 + q = k + (q + 1) by omega])
theorem ixF_out {f : Nat → Int32} {N : Nat} {c : Int32} (hf : latF f N) (hc : inR c 0 255 = false) : ixF f c N 0 = -1 := by
  refine ixF_no N 0 (fun q hq h => ?_)
  rw [Nat.zero_add] at h
  obtain ⟨b, hb, he⟩ := hf q hq
  rw [← h, he] at hc
  have : inR (nI b) 0 255 = true := by
    simp only [inR, Bool.and_eq_true, decide_eq_true_eq]
    exact ⟨nI_pos' (by omega), nI_le (b := 255) (by omega) (by decide)⟩
  rw [this] at hc
  cases hc
theorem iMin_s (x : Int32) : iMin x x = x := by
  unfold iMin
  split <;> rfl
theorem lat_cq : ∀ b, b < 128 → ((nI b &&& 255).toUInt32 % 65536).toInt32 = nI b ∧ narrow .char (.int (nI b)) = .int (nI b) ∧ (nI b).toInt8.toInt32 = nI b ∧ vp_nar .byte (nI b) = nI b := by decide +kernel
theorem lat_c {f : Nat → Int32} {N j : Nat} (hf : latF f N) (hj : j < N) : ((f j &&& 255).toUInt32 % 65536).toInt32 = f j := by
  obtain ⟨b, hb, he⟩ := hf j hj
  rw [he]
  exact (lat_cq b hb).1
theorem lat_ch {f : Nat → Int32} {N j : Nat} (hf : latF f N) (hj : j < N) : narrow .char (.int (f j)) = .int (f j) := by
  obtain ⟨b, hb, he⟩ := hf j hj
  rw [he]
  exact (lat_cq b hb).2.1
theorem lat_st {xs : List Int32} (h : ∀ x ∈ xs, ∃ b, b < 128 ∧ x = nI b) : latF (stF xs) xs.length := by
  intro k hk
  have : stF xs k = xs[k] := by simp [stF, List.getD_eq_getElem?_getD, List.getElem?_eq_getElem hk]
  rw [this]
  exact h _ (List.getElem_mem hk)
theorem lat_K : latF (stF [99, 115, 114, 98]) 4 := lat_st (xs := [99, 115, 114, 98]) (by
  intro x hx
  simp only [List.mem_cons, List.not_mem_nil, or_false] at hx
  rcases hx with rfl | rfl | rfl | rfl
  · exact ⟨99, by decide, rfl⟩
  · exact ⟨115, by decide, rfl⟩
  · exact ⟨114, by decide, rfl⟩
  · exact ⟨98, by decide, rfl⟩)
theorem lat_O : latF (stF [98, 107, 110]) 3 := lat_st (xs := [98, 107, 110]) (by
  intro x hx
  simp only [List.mem_cons, List.not_mem_nil, or_false] at hx
  rcases hx with rfl | rfl | rfl
  · exact ⟨98, by decide, rfl⟩
  · exact ⟨107, by decide, rfl⟩
  · exact ⟨110, by decide, rfl⟩)
set_option maxHeartbeats 1000000 in
set_option maxRecDepth 100000 in
theorem ct_J1_indexOfChar_4cfef (l : Launch) (g : Gl) (ω : Wd) (v N : Nat) (f : Nat → Int32) (hb : bvI g ω v N f) (hN : N ≤ 200) (c9 : Int32) (hc : inR c9 0 255 = true) (hf : latF f N) : CT l g yJ1_indexOfChar_4cfef cJ1_indexOfChar_4cfef 6 (some .int) 0 0 0 0 [.ref v, .int c9, .int 0, .int (nI N)] ω (dv (some (.int (ixF f c9 N 0))) ω) (nox) := by
  refine CT.of (own := "java/lang/StringLatin1") rfl rfl (le_b rfl) rfl ?_
  intro p e s m args below meth c sz0 hC hr htab hin
  refine s_iload_n hC dJ1_indexOfChar_4cfef_0 rfl rfl 1 rfl ?_
  refine s_i2b hC dJ1_indexOfChar_4cfef_1 rfl rfl ?_
  refine s_istore hC (L' := [(4, _), (0, _), (1, _), (2, _), (3, _)]) dJ1_indexOfChar_4cfef_2 rfl (le_b rfl) rfl ?_
  refine s_iload_n hC dJ1_indexOfChar_4cfef_4 rfl rfl 3 rfl ?_
  refine s_istore hC (L' := [(5, _), (4, _), (0, _), (1, _), (2, _), (3, _)]) dJ1_indexOfChar_4cfef_5 rfl (le_b rfl) rfl ?_
  refine WP.sub (L' := [(0, _), (3, _), (4, _), (5, _)]) [2, 5, 1, 0] rfl ?_
  refine wp_loop (σ := Int32 × Nat) (I := fun (i, j) => i = nI j ∧ j ≤ N ∧ ixF f c9 N 0 = ixF f c9 (N - j) j) (ωf := fun (i, j) => ω) (Lf := fun (i, j) => [(0, .ref v), (3, .int (nI N)), (4, .int c9.toInt8.toInt32), (5, .int i)]) (μ := fun (i, j) => N - j) (x0 := (_, 0)) ?_ ?_
  · exact ⟨rfl, Nat.zero_le _, rfl⟩
  · rintro ⟨i, j⟩ hI ih
    dsimp only at hI ih ⊢
    obtain ⟨rfl, hj, he⟩ := hI
    have hin9 : ¬ nI N ≤ nI j → j < N := nI_ltc (by omega) hj
    refine s_iload hC dJ1_indexOfChar_4cfef_7 rfl 3 rfl ?_
    refine s_iload_n hC dJ1_indexOfChar_4cfef_9 rfl rfl 1 rfl ?_
    refine z_icmp_ge hC (tgt := 31) dJ1_indexOfChar_4cfef_10 rfl (by decide) (fun c_1 => ?_) (fun c_1 => ?_)
    · refine s_iconst hC (v := (-1)) dJ1_indexOfChar_4cfef_31 rfl (by decide) ?_
      refine s_iret hC hr dJ1_indexOfChar_4cfef_32 (le_b rfl) (le_b rfl) ?_
      have hj9 : j = N := nI_lec (by omega) hj c_1
      refine ⟨?_, rfl⟩
      rw [he, hj9, Nat.sub_self]
      rfl
    · refine s_aload_n hC dJ1_indexOfChar_4cfef_13 rfl rfl 0 rfl ?_
      refine s_iload hC dJ1_indexOfChar_4cfef_14 rfl 3 rfl ?_
      refine s_baldB hC hb (vp_in_nI (hin9 c_1) (by omega)) dJ1_indexOfChar_4cfef_16 rfl ?_
      refine s_iload hC dJ1_indexOfChar_4cfef_17 rfl 2 rfl ?_
      refine z_icmp_ne hC (tgt := 25) dJ1_indexOfChar_4cfef_19 rfl (by decide) (fun c_2 => ?_) (fun c_2 => ?_)
      · refine s_iinc hC (v := _ + 1) (j9 := 3) (L' := [(5, _), (0, _), (3, _), (4, _)]) dJ1_indexOfChar_4cfef_25 rfl rfl rfl (le_b rfl) rfl ?_
        refine s_goto hC (tgt := 7) dJ1_indexOfChar_4cfef_28 (by decide) ?_
        refine WP.sub (L' := [(0, _), (3, _), (4, _), (5, _)]) [1, 2, 3, 0] rfl ?_
        refine ih (_, j + 1) ?_ ?_
        · dsimp only
          have h9 := hin9 c_1
          refine ⟨nI_1 j, by omega, ?_⟩
          rw [nI_clamp (by omega)] at c_2
          rw [he, show N - j = (N - (j + 1)) + 1 by omega, ixF, if_neg (fun h8 => c_2 ((lat_b hf h9 hc).mpr h8))]
        · dsimp only
          have h9 := hin9 c_1; omega
      · refine s_iload hC dJ1_indexOfChar_4cfef_22 rfl 3 rfl ?_
        refine s_iret hC hr dJ1_indexOfChar_4cfef_24 (le_b rfl) (le_b rfl) ?_
        have h9 := hin9 c_1
        refine ⟨?_, rfl⟩
        rw [nI_clamp (by omega)] at c_2
        rw [he, show N - j = (N - (j + 1)) + 1 by omega, ixF, if_pos ((lat_b hf h9 hc).mp c_2)]
set_option maxHeartbeats 1000000 in
set_option maxRecDepth 100000 in
theorem ct_J1_indexOf_4cfef (l : Launch) (g : Gl) (ω : Wd) (v N : Nat) (f : Nat → Int32) (hb : bvI g ω v N f) (hN : N ≤ 200) (hN0 : 0 < N) (c9 : Int32) (hf : latF f N) : CT l g yJ1_indexOf_4cfef cJ1_indexOf_4cfef 4 (some .int) 1 25 0 0 [.ref v, .int c9, .int 0, .int (nI N)] ω (dv (some (.int (ixF f c9 N 0))) ω) (nox) := by
  refine CT.of (own := "java/lang/StringLatin1") rfl rfl (le_b rfl) rfl ?_
  intro p e s m args below meth c sz0 hC hr htab hin
  refine s_iload_n hC dJ1_indexOf_4cfef_0 rfl rfl 1 rfl ?_
  refine s_callS hC (ct_J1_canEncode_9a6ad l g _ _) ce_J1_canEncode_9a6ad tw_1354 rfl rfl ⟨⟨le_b rfl, le_b rfl⟩, le_b rfl, le_b rfl⟩ (le_b rfl) dJ1_indexOf_4cfef_1 rfl (dvk1 ?_) nokx
  refine z_if_neB hC (tgt := 9) dJ1_indexOf_4cfef_4 rfl (by decide) (fun c_1 => ?_) (fun c_1 => ?_)
  · refine s_iload_n hC dJ1_indexOf_4cfef_9 rfl rfl 2 rfl ?_
    refine s_iconst hC (v := 0) dJ1_indexOf_4cfef_10 rfl (by decide) ?_
    refine s_max hC tw_1357 ⟨le_b rfl, le_b rfl, le_b rfl, le_b rfl⟩ dJ1_indexOf_4cfef_11 rfl ?_
    rw [show iMax 0 0 = 0 from rfl]
    refine s_istore_n hC (L' := [(2, _), (0, _), (1, _), (3, _)]) dJ1_indexOf_4cfef_14 rfl rfl (le_b rfl) rfl ?_
    refine s_iload_n hC dJ1_indexOf_4cfef_15 rfl rfl 3 rfl ?_
    refine s_aload_n hC dJ1_indexOf_4cfef_16 rfl rfl 1 rfl ?_
    refine s_alenV hC hb dJ1_indexOf_4cfef_17 rfl ?_
    refine s_min hC tw_1358 ⟨le_b rfl, le_b rfl, le_b rfl, le_b rfl⟩ dJ1_indexOf_4cfef_18 rfl ?_
    rw [iMin_s]
    refine s_istore_n hC (L' := [(3, _), (2, _), (0, _), (1, _)]) dJ1_indexOf_4cfef_21 rfl rfl (le_b rfl) rfl ?_
    refine s_iload_n hC dJ1_indexOf_4cfef_22 rfl rfl 1 rfl ?_
    refine s_iload_n hC dJ1_indexOf_4cfef_23 rfl rfl 0 rfl ?_
    refine z_icmp_lt hC (tgt := 29) dJ1_indexOf_4cfef_24 rfl (by decide) (fun c_2 => ?_) (fun c_2 => (nI_nle hN0 (by omega) c_2).elim)
    refine s_aload_n hC dJ1_indexOf_4cfef_29 rfl rfl 2 rfl ?_
    refine s_iload_n hC dJ1_indexOf_4cfef_30 rfl rfl 3 rfl ?_
    refine s_iload_n hC dJ1_indexOf_4cfef_31 rfl rfl 1 rfl ?_
    refine s_iload_n hC dJ1_indexOf_4cfef_32 rfl rfl 0 rfl ?_
    refine s_callS hC (ct_J1_indexOfChar_4cfef l g _ _ _ _ hb hN _ c_1 hf) ce_J1_indexOfChar_4cfef tw_1359 rfl rfl ⟨⟨le_b rfl, le_b rfl⟩, le_b rfl, le_b rfl⟩ (le_b rfl) dJ1_indexOf_4cfef_33 rfl (dvk1 ?_) nokx
    refine s_iret hC hr dJ1_indexOf_4cfef_36 (le_b rfl) (le_b rfl) ?_
    exact ⟨rfl, rfl⟩
  · refine s_iconst hC (v := (-1)) dJ1_indexOf_4cfef_7 rfl (by decide) ?_
    refine s_iret hC hr dJ1_indexOf_4cfef_8 (le_b rfl) (le_b rfl) ?_
    exact ⟨by rw [ixF_out hf c_1], rfl⟩
set_option maxHeartbeats 1000000 in
set_option maxRecDepth 100000 in
theorem ct_J0_indexOf_7cf53 (l : Launch) (g : Gl) (ω : Wd) (a v N : Nat) (f : Nat → Int32) (hs : strV g ω a v N f) (hN : N ≤ 200) (hN0 : 0 < N) (c9 : Int32) (hf : latF f N) : CT l g yJ0_indexOf_7cf53 cJ0_indexOf_7cf53 3 (some .int) 2 48 0 0 [.ref a, .int c9, .int 0] ω (dv (some (.int (ixF f c9 N 0))) ω) (nox) := by
  refine CT.of (own := "java/lang/String") rfl rfl (le_b rfl) rfl ?_
  intro p e s m args below meth c sz0 hC hr htab hin
  refine s_aload_n hC dJ0_indexOf_7cf53_0 rfl rfl 0 rfl ?_
  refine s_callVs hC (ct_J0_isLatin1_aae02 l g _ _ _ _ _ hs) ce_J0_isLatin1_aae02 rfl hs tw_1337 rfl rfl ⟨⟨le_b rfl, le_b rfl⟩, le_b rfl, le_b rfl⟩ (le_b rfl) dJ0_indexOf_7cf53_1 rfl (dvk1 ?_) nokx
  refine z_if_eq hC (tgt := 23) dJ0_indexOf_7cf53_4 rfl (by decide) (fun c_1 => ((absurd c_1 (by decide) : False)).elim) (fun c_1 => ?_)
  refine s_aload_n hC dJ0_indexOf_7cf53_7 rfl rfl 0 rfl ?_
  refine s_strV hC hs tw_2009 dJ0_indexOf_7cf53_8 rfl ?_
  refine s_iload_n hC dJ0_indexOf_7cf53_11 rfl rfl 1 rfl ?_
  refine s_iload_n hC dJ0_indexOf_7cf53_12 rfl rfl 2 rfl ?_
  refine s_aload_n hC dJ0_indexOf_7cf53_13 rfl rfl 0 rfl ?_
  refine s_callVs hC (ct_J0_length_8abf5 l g _ _ _ _ _ hs) ce_J0_length_8abf5 rfl hs tw_1343 rfl rfl ⟨⟨le_b rfl, le_b rfl⟩, le_b rfl, le_b rfl⟩ (le_b rfl) dJ0_indexOf_7cf53_14 rfl (dvk1 ?_) nokx
  refine s_callS hC (ct_J1_indexOf_4cfef l g _ _ _ _ (strV.b hs) hN hN0 _ hf) ce_J1_indexOf_4cfef tw_1351 rfl rfl ⟨⟨le_b rfl, le_b rfl⟩, le_b rfl, le_b rfl⟩ (le_b rfl) dJ0_indexOf_7cf53_17 rfl (dvk1 ?_) nokx
  refine s_goto hC (tgt := 36) dJ0_indexOf_7cf53_20 (by decide) ?_
  refine s_iret hC hr dJ0_indexOf_7cf53_36 (le_b rfl) (le_b rfl) ?_
  exact ⟨rfl, rfl⟩
set_option maxHeartbeats 1000000 in
set_option maxRecDepth 100000 in
theorem ct_J0_indexOf_0f7a4 (l : Launch) (g : Gl) (ω : Wd) (a v N : Nat) (f : Nat → Int32) (hs : strV g ω a v N f) (hN : N ≤ 200) (hN0 : 0 < N) (c9 : Int32) (hf : latF f N) : CT l g yJ0_indexOf_0f7a4 cJ0_indexOf_0f7a4 2 (some .int) 3 70 0 0 [.ref a, .int c9] ω (dv (some (.int (ixF f c9 N 0))) ω) (nox) := by
  refine CT.of (own := "java/lang/String") rfl rfl (le_b rfl) rfl ?_
  intro p e s m args below meth c sz0 hC hr htab hin
  refine s_aload_n hC dJ0_indexOf_0f7a4_0 rfl rfl 0 rfl ?_
  refine s_iload_n hC dJ0_indexOf_0f7a4_1 rfl rfl 1 rfl ?_
  refine s_iconst hC (v := 0) dJ0_indexOf_0f7a4_2 rfl (by decide) ?_
  refine s_callVs hC (ct_J0_indexOf_7cf53 l g _ _ _ _ _ hs hN hN0 _ hf) ce_J0_indexOf_7cf53 rfl hs tw_1333 rfl rfl ⟨⟨le_b rfl, le_b rfl⟩, le_b rfl, le_b rfl⟩ (le_b rfl) dJ0_indexOf_0f7a4_3 rfl (dvk1 ?_) nokx
  refine s_iret hC hr dJ0_indexOf_0f7a4_6 (le_b rfl) (le_b rfl) ?_
  exact ⟨rfl, rfl⟩
set_option maxHeartbeats 1000000 in
set_option maxRecDepth 100000 in
theorem ct_J3_checkIndex_r (l : Launch) (g : Gl) (ω : Wd) (x y : Int32) (t9 : Nat) (h0 : ¬ x < 0) (h1 : ¬ y ≤ x) : CT l g yJ3_checkIndex_8e157 cJ3_checkIndex_8e157 3 (some .int) 0 0 0 0 [.int x, .int y, .ref t9] ω (dv (some (.int x)) ω) (nox) := by
  refine CT.of (own := "jdk/internal/util/Preconditions") rfl rfl (le_b rfl) rfl ?_
  intro p e s m args below meth c sz0 hC hr htab hin
  refine s_iload_n hC dJ3_checkIndex_8e157_0 rfl rfl 0 rfl ?_
  refine z_if_lt hC (tgt := 9) dJ3_checkIndex_8e157_1 rfl (by decide) (fun c_1 => (c_1 (Int32.not_lt.mp h0)).elim) (fun c_1 => ?_)
  refine s_iload_n hC dJ3_checkIndex_8e157_4 rfl rfl 0 rfl ?_
  refine s_iload_n hC dJ3_checkIndex_8e157_5 rfl rfl 1 rfl ?_
  refine z_icmp_lt hC (tgt := 16) dJ3_checkIndex_8e157_6 rfl (by decide) (fun c_2 => ?_) (fun c_2 => (h1 c_2).elim)
  refine s_iload_n hC dJ3_checkIndex_8e157_16 rfl rfl 0 rfl ?_
  refine s_iret hC hr dJ3_checkIndex_8e157_17 (le_b rfl) (le_b rfl) ?_
  exact ⟨rfl, rfl⟩
set_option maxHeartbeats 1000000 in
set_option maxRecDepth 100000 in
theorem ct_J0_checkIndex_df160 (l : Launch) (g : Gl) (ω : Wd) (x y : Int32) (h0 : ¬ x < 0) (h1 : ¬ y ≤ x) : CT l g yJ0_checkIndex_df160 cJ0_checkIndex_df160 2 none 1 22 0 0 [.int x, .int y] ω (dv none ω) (nox) := by
  refine CT.of (own := "java/lang/String") rfl rfl (le_b rfl) rfl ?_
  intro p e s m args below meth c sz0 hC hr htab hin
  refine s_iload_n hC dJ0_checkIndex_df160_0 rfl rfl 0 rfl ?_
  refine s_iload_n hC dJ0_checkIndex_df160_1 rfl rfl 1 rfl ?_
  refine s_getF hC tw_1380 dJ0_checkIndex_df160_2 rfl ?_ (fun t9 => ?_)
  · refine s_callS hC (ct_J3_checkIndex_8e157 l g _ _ _ h0 h1) ce_J3_checkIndex_8e157 tw_1481 rfl rfl ⟨⟨le_b rfl, le_b rfl⟩, le_b rfl, le_b rfl⟩ (le_b rfl) dJ0_checkIndex_df160_5 rfl (dvk1 ?_) nokx
    refine s_pop hC dJ0_checkIndex_df160_8 rfl rfl ?_
    refine s_vret hC hr dJ0_checkIndex_df160_9 (le_b rfl) (le_b rfl) ?_
    exact ⟨rfl, rfl⟩
  · refine s_callS hC (ct_J3_checkIndex_r l g _ _ _ _ h0 h1) ce_J3_checkIndex_8e157 tw_1481 rfl rfl ⟨⟨le_b rfl, le_b rfl⟩, le_b rfl, le_b rfl⟩ (le_b rfl) dJ0_checkIndex_df160_5 rfl (dvk1 ?_) nokx
    refine s_pop hC dJ0_checkIndex_df160_8 rfl rfl ?_
    refine s_vret hC hr dJ0_checkIndex_df160_9 (le_b rfl) (le_b rfl) ?_
    exact ⟨rfl, rfl⟩
set_option maxHeartbeats 1000000 in
set_option maxRecDepth 100000 in
theorem ct_J1_charAt_3b067 (l : Launch) (g : Gl) (ω : Wd) (v N j : Nat) (f : Nat → Int32) (hb : bvI g ω v N f) (hN : N ≤ 200) (hj : j < N) (hf : latF f N) : CT l g yJ1_charAt_3b067 cJ1_charAt_3b067 2 (some .char) 2 43 0 0 [.ref v, .int (nI j)] ω (dv (some (.int (f j))) ω) (nox) := by
  refine CT.of (own := "java/lang/StringLatin1") rfl rfl (le_b rfl) rfl ?_
  intro p e s m args below meth c sz0 hC hr htab hin
  refine s_iload_n hC dJ1_charAt_3b067_0 rfl rfl 1 rfl ?_
  refine s_aload_n hC dJ1_charAt_3b067_1 rfl rfl 0 rfl ?_
  refine s_alenV hC hb dJ1_charAt_3b067_2 rfl ?_
  refine s_callS hC (ct_J0_checkIndex_df160 l g _ _ _ (Int32.not_lt.mpr (nI_pos' (by omega))) (nI_nle2 hj (by omega))) ce_J0_checkIndex_df160 tw_1478 rfl rfl ⟨⟨le_b rfl, le_b rfl⟩, le_b rfl, le_b rfl⟩ (le_b rfl) dJ1_charAt_3b067_3 rfl (dvk0 ?_) nokx
  refine s_aload_n hC dJ1_charAt_3b067_6 rfl rfl 0 rfl ?_
  refine s_iload_n hC dJ1_charAt_3b067_7 rfl rfl 1 rfl ?_
  refine s_baldB hC hb (vp_in_nI hj (by omega)) dJ1_charAt_3b067_8 rfl ?_
  rw [nI_clamp (show j < 2 ^ 31 by omega)]
  refine s_sipush hC (v := 255) dJ1_charAt_3b067_9 rfl (by decide) ?_
  refine s_iand hC dJ1_charAt_3b067_12 rfl ?_
  refine s_i2c hC dJ1_charAt_3b067_13 rfl (lat_c hf hj) ?_
  refine s_zret hC hr dJ1_charAt_3b067_14 (lat_ch hf hj) (le_b rfl) (le_b rfl) ?_
  exact ⟨rfl, rfl⟩
set_option maxHeartbeats 1000000 in
set_option maxRecDepth 100000 in
theorem ct_J0_charAt_5068e (l : Launch) (g : Gl) (ω : Wd) (a v N : Nat) (f : Nat → Int32) (hs : strV g ω a v N f) (j : Nat) (hN : N ≤ 200) (hj : j < N) (hf : latF f N) : CT l g yJ0_charAt_5068e cJ0_charAt_5068e 2 (some .char) 3 64 0 0 [.ref a, .int (nI j)] ω (dv (some (.int (f j))) ω) (nox) := by
  refine CT.of (own := "java/lang/String") rfl rfl (le_b rfl) rfl ?_
  intro p e s m args below meth c sz0 hC hr htab hin
  refine s_aload_n hC dJ0_charAt_5068e_0 rfl rfl 0 rfl ?_
  refine s_callVs hC (ct_J0_isLatin1_aae02 l g _ _ _ _ _ hs) ce_J0_isLatin1_aae02 rfl hs tw_1337 rfl rfl ⟨⟨le_b rfl, le_b rfl⟩, le_b rfl, le_b rfl⟩ (le_b rfl) dJ0_charAt_5068e_1 rfl (dvk1 ?_) nokx
  refine z_if_eq hC (tgt := 16) dJ0_charAt_5068e_4 rfl (by decide) (fun c_1 => ((absurd c_1 (by decide) : False)).elim) (fun c_1 => ?_)
  refine s_aload_n hC dJ0_charAt_5068e_7 rfl rfl 0 rfl ?_
  refine s_strV hC hs tw_2009 dJ0_charAt_5068e_8 rfl ?_
  refine s_iload_n hC dJ0_charAt_5068e_11 rfl rfl 1 rfl ?_
  refine s_callS hC (ct_J1_charAt_3b067 l g _ _ _ _ _ (strV.b hs) hN hj hf) ce_J1_charAt_3b067 tw_1475 rfl rfl ⟨⟨le_b rfl, le_b rfl⟩, le_b rfl, le_b rfl⟩ (le_b rfl) dJ0_charAt_5068e_12 rfl (dvk1 ?_) nokx
  refine s_zret hC hr dJ0_charAt_5068e_15 (lat_ch hf hj) (le_b rfl) (le_b rfl) ?_
  exact ⟨rfl, rfl⟩
