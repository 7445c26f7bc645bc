theorem dJ4_length_8abf5_0 : decode cJ4_length_8abf5 0 = .ok (.aload_n 0, 1) := by decide +kernel
theorem dJ4_length_8abf5_1 : decode cJ4_length_8abf5 1 = .ok (.invokespecial 343, 3) := by decide +kernel
theorem dJ4_length_8abf5_4 : decode cJ4_length_8abf5 4 = .ok (.ireturn, 1) := by decide +kernel
theorem ce_J5_isLatin1_aae02 : CeU "java/lang/StringBuilder" yJ5_isLatin1_aae02 cJ5_isLatin1_aae02 1 (some .boolean) 0 := ⟨tw_1865, ⟨tw_1862, tw_1864⟩, tw_35, ⟨by decide +kernel, by decide +kernel, by decide +kernel⟩⟩
theorem ce_J5_getValue_6d5f1 : CeU "java/lang/StringBuilder" yJ5_getValue_6d5f1 cJ5_getValue_6d5f1 1 (some (.array .byte)) 0 := ⟨tw_1988, ⟨tw_1985, tw_1987⟩, tw_35, ⟨by decide +kernel, by decide +kernel, by decide +kernel⟩⟩
theorem ce_J5_ensureCapacityInternal_d00df : CeP yJ5_ensureCapacityInternal_d00df cJ5_ensureCapacityInternal_d00df 3 none 1 := ⟨tw_1846, ⟨tw_1845, tw_1844, tw_2088⟩, tw_35, ⟨by decide +kernel, by decide +kernel, by decide +kernel⟩⟩
theorem ce_J5_putStringAt_47b60 : CeP yJ5_putStringAt_47b60 cJ5_putStringAt_47b60 3 none 2 := ⟨tw_1960, ⟨tw_1959, tw_1958, tw_2094⟩, tw_35, ⟨by decide +kernel, by decide +kernel, by decide +kernel⟩⟩
theorem ce_J5_inflateIfNeededFor_a7421 : CeP yJ5_inflateIfNeededFor_a7421 cJ5_inflateIfNeededFor_a7421 2 none 1 := ⟨tw_1964, ⟨tw_1963, tw_1962, tw_2095⟩, tw_35, ⟨by decide +kernel, by decide +kernel, by decide +kernel⟩⟩
theorem ce_J5_append_3fe6f : CeW "java/lang/StringBuilder" yJ5_append_3fe6f cJ5_append_3fe6f 2 (some (.object "java/lang/AbstractStringBuilder")) 1 := ⟨tw_1842, ⟨tw_1841, tw_1835, tw_2087⟩, tw_35, ⟨by decide +kernel, by decide +kernel⟩⟩
theorem ce_J5_append_cf1ce : CeW "java/lang/StringBuilder" yJ5_append_cf1ce cJ5_append_cf1ce 3 (some (.object "java/lang/AbstractStringBuilder")) 1 := ⟨tw_1948, ⟨tw_1947, tw_1835, tw_2092⟩, tw_35, ⟨by decide +kernel, by decide +kernel⟩⟩
theorem ce_J5_inflate_da8c8 : CeP yJ5_inflate_da8c8 cJ5_inflate_da8c8 2 none 0 := ⟨tw_1872, ⟨tw_1871, tw_1870, tw_2090⟩, tw_35, ⟨by decide +kernel, by decide +kernel, by decide +kernel⟩⟩
theorem ce_J5_newCapacity_0f7a4 : CeP yJ5_newCapacity_0f7a4 cJ5_newCapacity_0f7a4 6 (some .int) 1 := ⟨tw_1850, ⟨tw_1849, tw_1848, tw_2089⟩, tw_35, ⟨by decide +kernel, by decide +kernel, by decide +kernel⟩⟩
theorem ce_J5_appendNull_278bc : CeP yJ5_appendNull_278bc cJ5_appendNull_278bc 3 (some (.object "java/lang/AbstractStringBuilder")) 0 := ⟨tw_1952, ⟨tw_1951, tw_1950, tw_2093⟩, tw_35, ⟨by decide +kernel, by decide +kernel, by decide +kernel⟩⟩
theorem ce_J5_length_8abf5 : CeW "java/lang/StringBuilder" yJ5_length_8abf5 cJ5_length_8abf5 1 (some .int) 0 := ⟨tw_1996, ⟨tw_1990, tw_1835, tw_1991⟩, tw_35, ⟨by decide +kernel, by decide +kernel⟩⟩
/-- a StringBuilder's cell; a world that has all of another -/
def sbC (v : Nat) (n : Int32) : va_E := .inr (1, [.ref v, .int 0, .int 0, .int n])
def xtW (ω ω' : Wd) : Prop := ∀ q e, ω q = some e → ω' q = some e
theorem xt_rf (ω : Wd) : xtW ω ω := fun _ _ h => h
theorem xt_up {ω ω' : Wd} (h : xtW ω ω') {q : Nat} (hq : ω q = none) (e : va_E) : xtW ω (wup ω' q e) := fun a e9 h9 => (wup_n (w_ne h9 hq)).trans (h a e9 h9)
theorem strV_xt {g : Gl} {ω ω' : Wd} {a v N : Nat} {f : Nat → Int32} (h : strV g ω a v N f) (e : xtW ω ω') : strV g ω' a v N f := by
  rcases h with ⟨h, z, h1, h2⟩ | h
  · exact Or.inl ⟨h, z, e _ _ h1, e _ _ h2⟩
  · exact Or.inr h
/-- a write to a fresh cell -/
theorem strV_by {g : Gl} {ω : Wd} {a v N q : Nat} {f : Nat → Int32} (h : strV g ω a v N f) (hq : ∀ e, ω q = some e → a ≠ q ∧ v ≠ q) (e : va_E) (h0 : ω q ≠ none) : strV g (wup ω q e) a v N f := by
  rcases h with ⟨h, z, h1, h2⟩ | h
  · obtain ⟨e9, he⟩ := Option.ne_none_iff_exists'.mp h0
    exact Or.inl ⟨h, z, (wup_n (hq e9 he).1).trans h1, (wup_n (hq e9 he).2).trans h2⟩
  · exact Or.inr h
set_option maxHeartbeats 1000000 in
set_option maxRecDepth 100000 in
theorem ct_J5_isLatin1_aae02 (l : Launch) (g : Gl) (ω : Wd) (b v : Nat) (n : Int32) (hb : ω b = some (sbC v n)) : CT l g yJ5_isLatin1_aae02 cJ5_isLatin1_aae02 1 (some .boolean) 0 0 0 0 [.ref b] ω (dv (some (.int 1)) ω) (nox) := by
  refine CT.of (own := "java/lang/AbstractStringBuilder") rfl rfl (le_b rfl) rfl ?_
  intro p e s m args below meth c sz0 hC hr htab hin
  refine s_getz hC tw_1815 dJ5_isLatin1_aae02_0 rfl ?_
  refine z_if_eq hC (tgt := 17) dJ5_isLatin1_aae02_3 rfl (by decide) (fun c_1 => ((absurd c_1 (by decide) : False)).elim) (fun c_1 => ?_)
  refine s_aload_n hC dJ5_isLatin1_aae02_6 rfl rfl 0 rfl ?_
  refine s_getf hC cs_J4 1 tw_1824 (le_b rfl) hb rfl dJ5_isLatin1_aae02_7 rfl ?_
  refine z_if_ne hC (tgt := 17) dJ5_isLatin1_aae02_10 rfl (by decide) (fun c_2 => ((absurd c_2 (by decide) : False)).elim) (fun c_2 => ?_)
  refine s_iconst hC (v := 1) dJ5_isLatin1_aae02_13 rfl (by decide) ?_
  refine s_goto hC (tgt := 18) dJ5_isLatin1_aae02_14 (by decide) ?_
  refine s_zret hC hr dJ5_isLatin1_aae02_18 rfl (le_b rfl) (le_b rfl) ?_
  exact ⟨rfl, rfl⟩
set_option maxHeartbeats 1000000 in
set_option maxRecDepth 100000 in
theorem ct_J5_getValue_6d5f1 (l : Launch) (g : Gl) (ω : Wd) (b v : Nat) (n : Int32) (hb : ω b = some (sbC v n)) : CT l g yJ5_getValue_6d5f1 cJ5_getValue_6d5f1 1 (some (.array .byte)) 0 0 0 0 [.ref b] ω (dv (some (.ref v)) ω) (nox) := by
  refine CT.of (own := "java/lang/AbstractStringBuilder") rfl rfl (le_b rfl) rfl ?_
  intro p e s m args below meth c sz0 hC hr htab hin
  refine s_aload_n hC dJ5_getValue_6d5f1_0 rfl rfl 0 rfl ?_
  refine s_getf hC cs_J4 0 tw_1823 (le_b rfl) hb rfl dJ5_getValue_6d5f1_1 rfl ?_
  refine s_aret hC hr (by first | exact Or.inl ⟨_, rfl⟩ | exact Or.inr ⟨_, rfl⟩) dJ5_getValue_6d5f1_4 (le_b rfl) (le_b rfl) ?_
  exact ⟨rfl, rfl⟩
set_option maxHeartbeats 1000000 in
set_option maxRecDepth 100000 in
theorem ct_J5_length_8abf5 (l : Launch) (g : Gl) (ω : Wd) (b v : Nat) (n : Int32) (hb : ω b = some (sbC v n)) : CT l g yJ5_length_8abf5 cJ5_length_8abf5 1 (some .int) 0 0 0 0 [.ref b] ω (dv (some (.int n)) ω) (nox) := by
  refine CT.of (own := "java/lang/AbstractStringBuilder") rfl rfl (le_b rfl) rfl ?_
  intro p e s m args below meth c sz0 hC hr htab hin
  refine s_aload_n hC dJ5_length_8abf5_0 rfl rfl 0 rfl ?_
  refine s_getf hC cs_J4 3 tw_1826 (le_b rfl) hb rfl dJ5_length_8abf5_1 rfl ?_
  refine s_iret hC hr dJ5_length_8abf5_4 (le_b rfl) (le_b rfl) ?_
  exact ⟨rfl, rfl⟩
set_option maxHeartbeats 1000000 in
set_option maxRecDepth 100000 in
theorem ct_J4_length_8abf5 (l : Launch) (g : Gl) (ω : Wd) (b v : Nat) (n : Int32) (hb : ω b = some (sbC v n)) : CT l g yJ4_length_8abf5 cJ4_length_8abf5 1 (some .int) 1 20 0 0 [.ref b] ω (dv (some (.int n)) ω) (nox) := by
  refine CT.of (own := "java/lang/StringBuilder") rfl rfl (le_b rfl) rfl ?_
  intro p e s m args below meth c sz0 hC hr htab hin
  refine s_aload_n hC dJ4_length_8abf5_0 rfl rfl 0 rfl ?_
  refine s_callW hC (ct_J5_length_8abf5 l g _ _ _ _ hb) ce_J5_length_8abf5 cs_J4 hb tw_1995 rfl rfl ⟨⟨le_b rfl, le_b rfl⟩, le_b rfl, le_b rfl⟩ (le_b rfl) dJ4_length_8abf5_1 rfl (dvk1 ?_) nokx
  refine s_iret hC hr dJ4_length_8abf5_4 (le_b rfl) (le_b rfl) ?_
  exact ⟨rfl, rfl⟩
theorem tb_cap {m : Nat} (h : m ≤ 16) : nI m - (nI 16 >>> (0 &&& 31)) ≤ 0 := by
  rw [show (0 : Int32) &&& 31 = 0 from by decide, show nI 16 >>> (0 : Int32) = nI 16 from by decide]
  have : ∀ m, m ≤ 16 → nI m - nI 16 ≤ 0 := by decide +kernel
  exact this m h
set_option maxHeartbeats 1000000 in
set_option maxRecDepth 100000 in
theorem ct_J5_ensureCapacityInternal_d00df (l : Launch) (g : Gl) (ω : Wd) (b v : Nat) (n : Int32) (hb : ω b = some (sbC v n)) (f : Nat → Int32) (hv : ω v = some (.inl (g.2.1 2, 16, .inl f))) (m9 : Nat) (hm : m9 ≤ 16) : CT l g yJ5_ensureCapacityInternal_d00df cJ5_ensureCapacityInternal_d00df 3 none 0 0 0 0 [.ref b, .int (nI m9)] ω (dv none ω) (nox) := by
  refine CT.of (own := "java/lang/AbstractStringBuilder") rfl rfl (le_b rfl) rfl ?_
  intro p e s m args below meth c sz0 hC hr htab hin
  refine s_aload_n hC dJ5_ensureCapacityInternal_d00df_0 rfl rfl 0 rfl ?_
  refine s_getf hC cs_J4 0 tw_1823 (le_b rfl) hb rfl dJ5_ensureCapacityInternal_d00df_1 rfl ?_
  refine s_alenB hC hv dJ5_ensureCapacityInternal_d00df_4 rfl ?_
  refine s_aload_n hC dJ5_ensureCapacityInternal_d00df_5 rfl rfl 0 rfl ?_
  refine s_getf hC cs_J4 1 tw_1824 (le_b rfl) hb rfl dJ5_ensureCapacityInternal_d00df_6 rfl ?_
  refine s_ishr hC dJ5_ensureCapacityInternal_d00df_9 rfl ?_
  refine s_istore_n hC (L' := [(2, _), (0, _), (1, _)]) dJ5_ensureCapacityInternal_d00df_10 rfl rfl (le_b rfl) rfl ?_
  refine s_iload_n hC dJ5_ensureCapacityInternal_d00df_11 rfl rfl 2 rfl ?_
  refine s_iload_n hC dJ5_ensureCapacityInternal_d00df_12 rfl rfl 0 rfl ?_
  refine s_isub hC dJ5_ensureCapacityInternal_d00df_13 rfl ?_
  refine z_if_le hC (tgt := 38) dJ5_ensureCapacityInternal_d00df_14 rfl (by decide) (fun c_1 => ?_) (fun c_1 => (c_1 (tb_cap hm)).elim)
  refine s_vret hC hr dJ5_ensureCapacityInternal_d00df_38 (le_b rfl) (le_b rfl) ?_
  exact ⟨rfl, rfl⟩
set_option maxHeartbeats 1000000 in
set_option maxRecDepth 100000 in
theorem ct_J1_canEncode_fc78d (l : Launch) (g : Gl) (ω : Wd) (c9 : Int32) (hc : c9 ≤ 255) : CT l g yJ1_canEncode_fc78d cJ1_canEncode_fc78d 1 (some .boolean) 0 0 0 0 [.int c9] ω (dv (some (.int 1)) ω) (nox) := by
  refine CT.of (own := "java/lang/StringLatin1") rfl rfl (le_b rfl) rfl ?_
  intro p e s m args below meth c sz0 hC hr htab hin
  refine s_iload_n hC dJ1_canEncode_fc78d_0 rfl rfl 0 rfl ?_
  refine s_sipush hC (v := 255) dJ1_canEncode_fc78d_1 rfl (by decide) ?_
  refine z_icmp_gt hC (tgt := 11) dJ1_canEncode_fc78d_4 rfl (by decide) (fun c_1 => (c_1 hc).elim) (fun c_1 => ?_)
  refine s_iconst hC (v := 1) dJ1_canEncode_fc78d_7 rfl (by decide) ?_
  refine s_goto hC (tgt := 12) dJ1_canEncode_fc78d_8 (by decide) ?_
  refine s_zret hC hr dJ1_canEncode_fc78d_12 rfl (le_b rfl) (le_b rfl) ?_
  exact ⟨rfl, rfl⟩
theorem tb_c {c : Nat} (h : c < 128) : nI c ≤ (255 : Int32) := by
  have : ∀ c, c < 128 → nI c ≤ (255 : Int32) := by decide +kernel
  exact this c h
theorem tb_b {c : Nat} (h : c < 128) : (nI c).toInt8.toInt32 = nI c := (lat_cq c h).2.2.1
set_option maxHeartbeats 1000000 in
set_option maxRecDepth 100000 in
theorem ct_J5_append_3fe6f (l : Launch) (g : Gl) (ω : Wd) (b v n : Nat) (hb : ω b = some (sbC v (nI n))) (f : Nat → Int32) (hv : ω v = some (.inl (g.2.1 2, 16, .inl f))) (hbv : b ≠ v) (c9 : Nat) (hc : c9 < 128) (hn : n < 16) : CT l g yJ5_append_3fe6f cJ5_append_3fe6f 2 (some (.object "java/lang/AbstractStringBuilder")) 1 22 0 0 [.ref b, .int (nI c9)] ω (dv (some (.ref b)) (wup (wup ω b (sbC v (nI (n + 1)))) v (.inl (g.2.1 2, 16, .inl (upd f n (nI c9)))))) (nox) := by
  refine CT.of (own := "java/lang/AbstractStringBuilder") rfl rfl (le_b rfl) rfl ?_
  intro p e s m args below meth c sz0 hC hr htab hin
  refine s_aload_n hC dJ5_append_3fe6f_0 rfl rfl 0 rfl ?_
  refine s_aload_n hC dJ5_append_3fe6f_1 rfl rfl 0 rfl ?_
  refine s_getf hC cs_J4 3 tw_1826 (le_b rfl) hb rfl dJ5_append_3fe6f_2 rfl ?_
  refine s_iconst hC (v := 1) dJ5_append_3fe6f_5 rfl (by decide) ?_
  refine s_iadd hC dJ5_append_3fe6f_6 rfl ?_
  rw [nI_1]
  refine s_callP hC (ct_J5_ensureCapacityInternal_d00df l g _ _ _ _ hb _ hv _ hn) ce_J5_ensureCapacityInternal_d00df cs_J4 hb tw_1843 rfl rfl ⟨⟨le_b rfl, le_b rfl⟩, le_b rfl, le_b rfl⟩ (le_b rfl) dJ5_append_3fe6f_7 rfl (dvk0 ?_) nokx
  refine s_aload_n hC dJ5_append_3fe6f_10 rfl rfl 0 rfl ?_
  refine s_callU hC (ct_J5_isLatin1_aae02 l g _ _ _ _ hb) ce_J5_isLatin1_aae02 cs_J4 hb tw_1861 rfl rfl ⟨⟨le_b rfl, le_b rfl⟩, le_b rfl, le_b rfl⟩ (le_b rfl) dJ5_append_3fe6f_11 rfl (dvk1 ?_) nokx
  refine z_if_eq hC (tgt := 45) dJ5_append_3fe6f_14 rfl (by decide) (fun c_1 => ((absurd c_1 (by decide) : False)).elim) (fun c_1 => ?_)
  refine s_iload_n hC dJ5_append_3fe6f_17 rfl rfl 1 rfl ?_
  refine s_callS hC (ct_J1_canEncode_fc78d l g _ _ (tb_c hc)) ce_J1_canEncode_fc78d tw_1866 rfl rfl ⟨⟨le_b rfl, le_b rfl⟩, le_b rfl, le_b rfl⟩ (le_b rfl) dJ5_append_3fe6f_18 rfl (dvk1 ?_) nokx
  refine z_if_eq hC (tgt := 45) dJ5_append_3fe6f_21 rfl (by decide) (fun c_2 => ((absurd c_2 (by decide) : False)).elim) (fun c_2 => ?_)
  refine s_aload_n hC dJ5_append_3fe6f_24 rfl rfl 0 rfl ?_
  refine s_getf hC cs_J4 0 tw_1823 (le_b rfl) hb rfl dJ5_append_3fe6f_25 rfl ?_
  refine s_aload_n hC dJ5_append_3fe6f_28 rfl rfl 0 rfl ?_
  refine s_dup hC dJ5_append_3fe6f_29 rfl rfl ?_
  refine s_getf hC cs_J4 3 tw_1826 (le_b rfl) hb rfl dJ5_append_3fe6f_30 rfl ?_
  refine s_dup_x1 hC dJ5_append_3fe6f_33 rfl rfl rfl ?_
  refine s_iconst hC (v := 1) dJ5_append_3fe6f_34 rfl (by decide) ?_
  refine s_iadd hC dJ5_append_3fe6f_35 rfl ?_
  refine s_putf hC cs_J4 3 tw_1826 (le_b rfl) rfl rfl rfl hb (le_b rfl) dJ5_append_3fe6f_36 rfl ?_
  refine s_iload_n hC dJ5_append_3fe6f_39 rfl rfl 1 rfl ?_
  refine s_i2b hC dJ5_append_3fe6f_40 rfl (tb_b hc) ?_
  refine s_bast hC ((wup_n (Ne.symm hbv)).trans hv) (vp_in_nI hn (by decide)) dJ5_append_3fe6f_41 rfl ?_
  refine s_goto hC (tgt := 75) dJ5_append_3fe6f_42 (by decide) ?_
  refine s_aload_n hC dJ5_append_3fe6f_75 rfl rfl 0 rfl ?_
  refine s_aret hC hr (by first | exact Or.inl ⟨_, rfl⟩ | exact Or.inr ⟨_, rfl⟩) dJ5_append_3fe6f_76 (le_b rfl) (le_b rfl) ?_
  exact ⟨rfl, by rw [nI_clamp (by omega), (lat_cq c9 hc).2.2.2, nI_1]; rfl⟩
set_option maxHeartbeats 1000000 in
set_option maxRecDepth 100000 in
theorem ct_J4_append_cf468 (l : Launch) (g : Gl) (ω : Wd) (b v n : Nat) (hb : ω b = some (sbC v (nI n))) (f : Nat → Int32) (hv : ω v = some (.inl (g.2.1 2, 16, .inl f))) (hbv : b ≠ v) (c9 : Nat) (hc : c9 < 128) (hn : n < 16) : CT l g yJ4_append_cf468 cJ4_append_cf468 2 (some (.object "java/lang/StringBuilder")) 2 43 0 0 [.ref b, .int (nI c9)] ω (dv (some (.ref b)) (wup (wup ω b (sbC v (nI (n + 1)))) v (.inl (g.2.1 2, 16, .inl (upd f n (nI c9)))))) (nox) := by
  refine CT.of (own := "java/lang/StringBuilder") rfl rfl (le_b rfl) rfl ?_
  intro p e s m args below meth c sz0 hC hr htab hin
  refine s_aload_n hC dJ4_append_cf468_0 rfl rfl 0 rfl ?_
  refine s_iload_n hC dJ4_append_cf468_1 rfl rfl 1 rfl ?_
  refine s_callW hC (ct_J5_append_3fe6f l g _ _ _ _ hb _ hv hbv _ hc hn) ce_J5_append_3fe6f cs_J4 hb tw_1840 rfl rfl ⟨⟨le_b rfl, le_b rfl⟩, le_b rfl, le_b rfl⟩ (le_b rfl) dJ4_append_cf468_2 rfl (dvk1 ?_) nokx
  refine s_pop hC dJ4_append_cf468_5 rfl rfl ?_
  refine s_aload_n hC dJ4_append_cf468_6 rfl rfl 0 rfl ?_
  refine s_aret hC hr (by first | exact Or.inl ⟨_, rfl⟩ | exact Or.inr ⟨_, rfl⟩) dJ4_append_cf468_7 (le_b rfl) (le_b rfl) ?_
  exact ⟨rfl, rfl⟩
theorem nI_add9 (a b : Nat) : nI a + nI b = nI (a + b) := by
  unfold nI
  exact (Int32.ofNat_add a b).symm
theorem shl0 (x : Int32) : x <<< ((0 : Int32) &&& 31) = x := by
  rw [show (0 : Int32) &&& 31 = 0 from by decide]
  exact Int32.shiftLeft_zero
theorem z_cl : (0 : Int32).toNatClampNeg = 0 := by decide
theorem lat_le {f : Nat → Int32} {N M : Nat} (h : latF f N) (hM : M ≤ N) : latF f M := fun k hk => h k (Nat.lt_of_lt_of_le hk hM)
theorem w_un {ω : Wd} {q v : Nat} {e : va_E} (h : wup ω q e v = none) : ω v = none ∧ v ≠ q := by
  by_cases hq : v = q
  · rw [hq, wup_s] at h
    cases h
  · exact ⟨by rwa [wup_n hq] at h, hq⟩
set_option maxHeartbeats 1000000 in
set_option maxRecDepth 100000 in
theorem ct_J0_getBytes_840e7 (l : Launch) (g : Gl) (ω : Wd) (a v N : Nat) (f : Nat → Int32) (hs : strV g ω a v N f) (d : Nat) (h : Nat → Int32) (hd : ω d = some (.inl (g.2.1 2, 16, .inl h))) (k9 : Nat) (hk : k9 + N ≤ 16) (hf : latF f N) : CT l g yJ0_getBytes_840e7 cJ0_getBytes_840e7 4 none 1 20 0 0 [.ref a, .ref d, .int (nI k9), .int 0] ω (dv none (wup ω d (.inl (g.2.1 2, 16, .inl (va_cpy f h 0 k9 N))))) (nox) := by
  refine CT.of (own := "java/lang/String") rfl rfl (le_b rfl) rfl ?_
  intro p e s m args below meth c sz0 hC hr htab hin
  refine s_aload_n hC dJ0_getBytes_840e7_0 rfl rfl 0 rfl ?_
  refine s_callVs hC (ct_J0_coder_7d493 l g _ _ _ _ _ hs) ce_J0_coder_7d493 rfl hs tw_1347 rfl rfl ⟨⟨le_b rfl, le_b rfl⟩, le_b rfl, le_b rfl⟩ (le_b rfl) dJ0_getBytes_840e7_1 rfl (dvk1 ?_) nokx
  refine s_iload_n hC dJ0_getBytes_840e7_4 rfl rfl 3 rfl ?_
  refine z_icmp_ne hC (tgt := 28) dJ0_getBytes_840e7_5 rfl (by decide) (fun c_1 => (c_1 rfl).elim) (fun c_1 => ?_)
  refine s_aload_n hC dJ0_getBytes_840e7_8 rfl rfl 0 rfl ?_
  refine s_strV hC hs tw_2009 dJ0_getBytes_840e7_9 rfl ?_
  refine s_iconst hC (v := 0) dJ0_getBytes_840e7_12 rfl (by decide) ?_
  refine s_aload_n hC dJ0_getBytes_840e7_13 rfl rfl 1 rfl ?_
  refine s_iload_n hC dJ0_getBytes_840e7_14 rfl rfl 2 rfl ?_
  refine s_iload_n hC dJ0_getBytes_840e7_15 rfl rfl 3 rfl ?_
  refine s_ishl hC dJ0_getBytes_840e7_16 rfl ?_
  rw [shl0]
  refine s_aload_n hC dJ0_getBytes_840e7_17 rfl rfl 0 rfl ?_
  refine s_strV hC hs tw_2009 dJ0_getBytes_840e7_18 rfl ?_
  refine s_alenV hC (strV.b hs) dJ0_getBytes_840e7_21 rfl ?_
  refine s_copyB hC (strV.b hs) hd (by decide) (Int32.not_lt.mpr (nI_pos' (by omega))) (Int32.not_lt.mpr (nI_pos' (by omega))) (by rw [nI_clamp (by omega), z_cl]; omega) (by rw [nI_clamp (by omega), nI_clamp (by omega)]; exact hk) (fun i hi => by rw [nI_clamp (by omega)] at hi; rw [z_cl]; exact lat_fit hf (by omega)) tw_1970 ⟨le_b rfl, le_b rfl⟩ dJ0_getBytes_840e7_22 rfl ?_
  refine s_goto hC (tgt := 43) dJ0_getBytes_840e7_25 (by decide) ?_
  refine s_vret hC hr dJ0_getBytes_840e7_43 (le_b rfl) (le_b rfl) ?_
  exact ⟨rfl, by rw [nI_clamp (show k9 < 2 ^ 31 by omega), nI_clamp (show N < 2 ^ 31 by omega), z_cl]⟩
set_option maxHeartbeats 1000000 in
set_option maxRecDepth 100000 in
theorem ct_J5_inflateIfNeededFor_a7421 (l : Launch) (g : Gl) (ω : Wd) (b v : Nat) (n : Int32) (hb : ω b = some (sbC v n)) (a s9 N : Nat) (f9 : Nat → Int32) (hs : strV g ω a s9 N f9) : CT l g yJ5_inflateIfNeededFor_a7421 cJ5_inflateIfNeededFor_a7421 2 none 1 20 0 0 [.ref b, .ref a] ω (dv none ω) (nox) := by
  refine CT.of (own := "java/lang/AbstractStringBuilder") rfl rfl (le_b rfl) rfl ?_
  intro p e s m args below meth c sz0 hC hr htab hin
  refine s_getz hC tw_1815 dJ5_inflateIfNeededFor_a7421_0 rfl ?_
  refine z_if_eq hC (tgt := 21) dJ5_inflateIfNeededFor_a7421_3 rfl (by decide) (fun c_1 => ((absurd c_1 (by decide) : False)).elim) (fun c_1 => ?_)
  refine s_aload_n hC dJ5_inflateIfNeededFor_a7421_6 rfl rfl 0 rfl ?_
  refine s_getf hC cs_J4 1 tw_1824 (le_b rfl) hb rfl dJ5_inflateIfNeededFor_a7421_7 rfl ?_
  refine s_aload_n hC dJ5_inflateIfNeededFor_a7421_10 rfl rfl 1 rfl ?_
  refine s_callVs hC (ct_J0_coder_7d493 l g _ _ _ _ _ hs) ce_J0_coder_7d493 rfl hs tw_1965 rfl rfl ⟨⟨le_b rfl, le_b rfl⟩, le_b rfl, le_b rfl⟩ (le_b rfl) dJ5_inflateIfNeededFor_a7421_11 rfl (dvk1 ?_) nokx
  refine z_icmp_eq hC (tgt := 21) dJ5_inflateIfNeededFor_a7421_14 rfl (by decide) (fun c_2 => ?_) (fun c_2 => (c_2 rfl).elim)
  refine s_vret hC hr dJ5_inflateIfNeededFor_a7421_21 (le_b rfl) (le_b rfl) ?_
  exact ⟨rfl, rfl⟩
set_option maxHeartbeats 1000000 in
set_option maxRecDepth 100000 in
theorem ct_J5_putStringAt_47b60 (l : Launch) (g : Gl) (ω : Wd) (b v n : Nat) (hb : ω b = some (sbC v (nI n))) (f : Nat → Int32) (hv : ω v = some (.inl (g.2.1 2, 16, .inl f))) (hbv : b ≠ v) (a s9 N : Nat) (f9 : Nat → Int32) (hs : strV g ω a s9 N f9) (hk : n + N ≤ 16) (hf : latF f9 N) : CT l g yJ5_putStringAt_47b60 cJ5_putStringAt_47b60 3 none 2 43 0 0 [.ref b, .int (nI n), .ref a] ω (dv none (wup ω v (.inl (g.2.1 2, 16, .inl (va_cpy f9 f 0 n N))))) (nox) := by
  refine CT.of (own := "java/lang/AbstractStringBuilder") rfl rfl (le_b rfl) rfl ?_
  intro p e s m args below meth c sz0 hC hr htab hin
  refine s_aload_n hC dJ5_putStringAt_47b60_0 rfl rfl 0 rfl ?_
  refine s_aload_n hC dJ5_putStringAt_47b60_1 rfl rfl 2 rfl ?_
  refine s_callP hC (ct_J5_inflateIfNeededFor_a7421 l g _ _ _ _ hb _ _ _ _ hs) ce_J5_inflateIfNeededFor_a7421 cs_J4 hb tw_1961 rfl rfl ⟨⟨le_b rfl, le_b rfl⟩, le_b rfl, le_b rfl⟩ (le_b rfl) dJ5_putStringAt_47b60_2 rfl (dvk0 ?_) nokx
  refine s_aload_n hC dJ5_putStringAt_47b60_5 rfl rfl 2 rfl ?_
  refine s_aload_n hC dJ5_putStringAt_47b60_6 rfl rfl 0 rfl ?_
  refine s_getf hC cs_J4 0 tw_1823 (le_b rfl) hb rfl dJ5_putStringAt_47b60_7 rfl ?_
  refine s_iload_n hC dJ5_putStringAt_47b60_10 rfl rfl 1 rfl ?_
  refine s_aload_n hC dJ5_putStringAt_47b60_11 rfl rfl 0 rfl ?_
  refine s_getf hC cs_J4 1 tw_1824 (le_b rfl) hb rfl dJ5_putStringAt_47b60_12 rfl ?_
  refine s_callVs hC (ct_J0_getBytes_840e7 l g _ _ _ _ _ hs _ _ hv _ hk hf) ce_J0_getBytes_840e7 rfl hs tw_1966 rfl rfl ⟨⟨le_b rfl, le_b rfl⟩, le_b rfl, le_b rfl⟩ (le_b rfl) dJ5_putStringAt_47b60_15 rfl (dvk0 ?_) nokx
  refine s_vret hC hr dJ5_putStringAt_47b60_18 (le_b rfl) (le_b rfl) ?_
  exact ⟨rfl, rfl⟩
set_option maxHeartbeats 1000000 in
set_option maxRecDepth 100000 in
theorem ct_J5_append_cf1ce (l : Launch) (g : Gl) (ω : Wd) (b v n : Nat) (hb : ω b = some (sbC v (nI n))) (f : Nat → Int32) (hv : ω v = some (.inl (g.2.1 2, 16, .inl f))) (hbv : b ≠ v) (a s9 N : Nat) (f9 : Nat → Int32) (hs : strV g ω a s9 N f9) (hk : n + N ≤ 16) (hf : latF f9 N) : CT l g yJ5_append_cf1ce cJ5_append_cf1ce 3 (some (.object "java/lang/AbstractStringBuilder")) 3 65 0 0 [.ref b, .ref a] ω (dv (some (.ref b)) (wup (wup ω v (.inl (g.2.1 2, 16, .inl (va_cpy f9 f 0 n N)))) b (sbC v (nI (n + N))))) (nox) := by
  refine CT.of (own := "java/lang/AbstractStringBuilder") rfl rfl (le_b rfl) rfl ?_
  intro p e s m args below meth c sz0 hC hr htab hin
  refine s_aload_n hC dJ5_append_cf1ce_0 rfl rfl 1 rfl ?_
  refine s_ifnonnull hC (tgt := 9) dJ5_append_cf1ce_1 (by decide) ?_
  refine s_aload_n hC dJ5_append_cf1ce_9 rfl rfl 1 rfl ?_
  refine s_callVs hC (ct_J0_length_8abf5 l g _ _ _ _ _ hs) ce_J0_length_8abf5 rfl hs tw_1956 rfl rfl ⟨⟨le_b rfl, le_b rfl⟩, le_b rfl, le_b rfl⟩ (le_b rfl) dJ5_append_cf1ce_10 rfl (dvk1 ?_) nokx
  refine s_istore_n hC (L' := [(2, _), (0, _), (1, _)]) dJ5_append_cf1ce_13 rfl rfl (le_b rfl) rfl ?_
  refine s_aload_n hC dJ5_append_cf1ce_14 rfl rfl 1 rfl ?_
  refine s_aload_n hC dJ5_append_cf1ce_15 rfl rfl 1 rfl ?_
  refine s_getf hC cs_J4 3 tw_1826 (le_b rfl) hb rfl dJ5_append_cf1ce_16 rfl ?_
  refine s_iload_n hC dJ5_append_cf1ce_19 rfl rfl 0 rfl ?_
  refine s_iadd hC dJ5_append_cf1ce_20 rfl ?_
  rw [nI_add9]
  refine s_callP hC (ct_J5_ensureCapacityInternal_d00df l g _ _ _ _ hb _ hv _ hk) ce_J5_ensureCapacityInternal_d00df cs_J4 hb tw_1843 rfl rfl ⟨⟨le_b rfl, le_b rfl⟩, le_b rfl, le_b rfl⟩ (le_b rfl) dJ5_append_cf1ce_21 rfl (dvk0 ?_) nokx
  refine s_aload_n hC dJ5_append_cf1ce_24 rfl rfl 1 rfl ?_
  refine s_aload_n hC dJ5_append_cf1ce_25 rfl rfl 1 rfl ?_
  refine s_getf hC cs_J4 3 tw_1826 (le_b rfl) hb rfl dJ5_append_cf1ce_26 rfl ?_
  refine s_aload_n hC dJ5_append_cf1ce_29 rfl rfl 2 rfl ?_
  refine s_callP hC (ct_J5_putStringAt_47b60 l g _ _ _ _ hb _ hv hbv _ _ _ _ hs hk hf) ce_J5_putStringAt_47b60 cs_J4 hb tw_1957 rfl rfl ⟨⟨le_b rfl, le_b rfl⟩, le_b rfl, le_b rfl⟩ (le_b rfl) dJ5_append_cf1ce_30 rfl (dvk0 ?_) nokx
  refine s_aload_n hC dJ5_append_cf1ce_33 rfl rfl 1 rfl ?_
  refine s_dup hC dJ5_append_cf1ce_34 rfl rfl ?_
  refine s_getf hC cs_J4 3 tw_1826 (le_b rfl) ((wup_n hbv).trans hb) rfl dJ5_append_cf1ce_35 rfl ?_
  refine s_iload_n hC dJ5_append_cf1ce_38 rfl rfl 0 rfl ?_
  refine s_iadd hC dJ5_append_cf1ce_39 rfl ?_
  refine s_putf hC cs_J4 3 tw_1826 (le_b rfl) rfl rfl rfl ((wup_n hbv).trans hb) (le_b rfl) dJ5_append_cf1ce_40 rfl ?_
  refine s_aload_n hC dJ5_append_cf1ce_43 rfl rfl 1 rfl ?_
  refine s_aret hC hr (by first | exact Or.inl ⟨_, rfl⟩ | exact Or.inr ⟨_, rfl⟩) dJ5_append_cf1ce_44 (le_b rfl) (le_b rfl) ?_
  exact ⟨rfl, by rw [nI_add9]; rfl⟩
set_option maxHeartbeats 1000000 in
set_option maxRecDepth 100000 in
theorem ct_J4_append_15ec4 (l : Launch) (g : Gl) (ω : Wd) (b v n : Nat) (hb : ω b = some (sbC v (nI n))) (f : Nat → Int32) (hv : ω v = some (.inl (g.2.1 2, 16, .inl f))) (hbv : b ≠ v) (a s9 N : Nat) (f9 : Nat → Int32) (hs : strV g ω a s9 N f9) (hk : n + N ≤ 16) (hf : latF f9 N) : CT l g yJ4_append_15ec4 cJ4_append_15ec4 2 (some (.object "java/lang/StringBuilder")) 4 87 0 0 [.ref b, .ref a] ω (dv (some (.ref b)) (wup (wup ω v (.inl (g.2.1 2, 16, .inl (va_cpy f9 f 0 n N)))) b (sbC v (nI (n + N))))) (nox) := by
  refine CT.of (own := "java/lang/StringBuilder") rfl rfl (le_b rfl) rfl ?_
  intro p e s m args below meth c sz0 hC hr htab hin
  refine s_aload_n hC dJ4_append_15ec4_0 rfl rfl 0 rfl ?_
  refine s_aload_n hC dJ4_append_15ec4_1 rfl rfl 1 rfl ?_
  refine s_callW hC (ct_J5_append_cf1ce l g _ _ _ _ hb _ hv hbv _ _ _ _ hs hk hf) ce_J5_append_cf1ce cs_J4 hb tw_1946 rfl rfl ⟨⟨le_b rfl, le_b rfl⟩, le_b rfl, le_b rfl⟩ (le_b rfl) dJ4_append_15ec4_2 rfl (dvk1 ?_) nokx
  refine s_pop hC dJ4_append_15ec4_5 rfl rfl ?_
  refine s_aload_n hC dJ4_append_15ec4_6 rfl rfl 0 rfl ?_
  refine s_aret hC hr (by first | exact Or.inl ⟨_, rfl⟩ | exact Or.inr ⟨_, rfl⟩) dJ4_append_15ec4_7 (le_b rfl) (le_b rfl) ?_
  exact ⟨rfl, rfl⟩
set_option maxHeartbeats 1000000 in
set_option maxRecDepth 100000 in
theorem ct_J5_init_d00df (l : Launch) (g : Gl) (ω : Wd) (b : Nat) (hb : ω b = some (.inr (1, [.null, .int 0, .int 0, .int 0]))) : CT l g yJ5_init_d00df cJ5_init_d00df 2 none 1 20 1 16 [.ref b, .int 16] ω (fun r w => ∃ v, ω v = none ∧ r = none ∧ w = wup (wup ω v (.inl (g.2.1 2, 16, .inl (fun _ => 0)))) b (sbC v 0)) (nox) := by
  refine CT.of (own := "java/lang/AbstractStringBuilder") rfl rfl (le_b rfl) rfl ?_
  intro p e s m args below meth c sz0 hC hr htab hin
  refine s_aload_n hC dJ5_init_d00df_0 rfl rfl 0 rfl ?_
  refine s_objInit hC tw_1814 ⟨le_b rfl, le_b rfl⟩ dJ5_init_d00df_1 rfl ?_
  refine s_getz hC tw_1815 dJ5_init_d00df_4 rfl ?_
  refine z_if_eq hC (tgt := 25) dJ5_init_d00df_7 rfl (by decide) (fun c_1 => ((absurd c_1 (by decide) : False)).elim) (fun c_1 => ?_)
  refine s_aload_n hC dJ5_init_d00df_10 rfl rfl 0 rfl ?_
  refine s_iload_n hC dJ5_init_d00df_11 rfl rfl 1 rfl ?_
  refine s_newa hC 2 (at0 := .byte) (ty := .byte) (N' := 16) (a0 := (16, .inl (fun _ => 0))) rfl rfl tw_520 (fun _ => rfl) (by decide) (by decide) (by decide) (le_b rfl) (le_b rfl) dJ5_init_d00df_12 rfl (fun q_12 hq_12 => ?_)
  refine s_putf hC cs_J4 0 tw_1823 (le_b rfl) rfl rfl rfl ((wup_n (w_ne hb hq_12)).trans hb) (le_b rfl) dJ5_init_d00df_14 rfl ?_
  refine s_aload_n hC dJ5_init_d00df_17 rfl rfl 0 rfl ?_
  refine s_iconst hC (v := 0) dJ5_init_d00df_18 rfl (by decide) ?_
  refine s_putf hC cs_J4 1 tw_1824 (le_b rfl) rfl rfl rfl (wup_s _ _ _) (le_b rfl) dJ5_init_d00df_19 rfl ?_
  refine s_goto hC (tgt := 38) dJ5_init_d00df_22 (by decide) ?_
  refine s_vret hC hr dJ5_init_d00df_38 (le_b rfl) (le_b rfl) ?_
  exact ⟨q_12, hq_12, rfl, by rw [wup_wup]; rfl⟩
set_option maxHeartbeats 1000000 in
set_option maxRecDepth 100000 in
theorem ct_J4_init_da8c8 (l : Launch) (g : Gl) (ω : Wd) (b : Nat) (hb : ω b = some (.inr (1, [.null, .int 0, .int 0, .int 0]))) : CT l g yJ4_init_da8c8 cJ4_init_da8c8 1 none 2 41 1 16 [.ref b] ω (fun r w => ∃ v, ω v = none ∧ r = none ∧ w = wup (wup ω v (.inl (g.2.1 2, 16, .inl (fun _ => 0)))) b (sbC v 0)) (nox) := by
  refine CT.of (own := "java/lang/StringBuilder") rfl rfl (le_b rfl) rfl ?_
  intro p e s m args below meth c sz0 hC hr htab hin
  refine s_aload_n hC dJ4_init_da8c8_0 rfl rfl 0 rfl ?_
  refine s_bipush hC (v := 16) dJ4_init_da8c8_1 rfl (by decide) ?_
  refine s_callI hC (ct_J5_init_d00df l g _ _ hb) ce_J5_init_d00df tw_1811 rfl rfl ⟨⟨le_b rfl, le_b rfl⟩, le_b rfl, le_b rfl⟩ (le_b rfl) dJ4_init_da8c8_3 rfl (fun r w h9 => ?_) nokx
  obtain ⟨v9, hv9, rfl, rfl⟩ := h9
  refine s_vret hC hr dJ4_init_da8c8_6 (le_b rfl) (le_b rfl) ?_
  exact ⟨v9, hv9, rfl, rfl⟩
set_option maxHeartbeats 1000000 in
set_option maxRecDepth 100000 in
theorem ct_J7_checkLength_df160 (l : Launch) (g : Gl) (ω : Wd) (i9 j9 : Nat) (hij : i9 ≤ j9) (hj : j9 ≤ 200) : CT l g yJ7_checkLength_df160 cJ7_checkLength_df160 2 none 0 0 0 0 [.int (nI i9), .int (nI j9)] ω (dv none ω) (nox) := by
  refine CT.of (own := "java/util/Arrays") rfl rfl (le_b rfl) rfl ?_
  intro p e s m args below meth c sz0 hC hr htab hin
  refine s_iload_n hC dJ7_checkLength_df160_0 rfl rfl 1 rfl ?_
  refine s_iload_n hC dJ7_checkLength_df160_1 rfl rfl 0 rfl ?_
  refine z_icmp_ge hC (tgt := 37) dJ7_checkLength_df160_2 rfl (by decide) (fun c_1 => ?_) (fun c_1 => (c_1 (nI_le hij (by omega))).elim)
  refine s_vret hC hr dJ7_checkLength_df160_37 (le_b rfl) (le_b rfl) ?_
  exact ⟨rfl, rfl⟩
theorem cr_min {i j N : Nat} (hij : i ≤ j) (hj : j ≤ N) (hN : N ≤ 200) : iMin (nI N - nI i) (nI (j - i)) = nI (j - i) := by
  unfold iMin
  rw [nI_sub9 (by omega : i ≤ N)]
  by_cases h : nI (j - i) < nI (N - i)
  · exact if_pos h
  · have := (nI_leI (by omega) (by omega)).mp (Int32.not_lt.mp h)
    rw [if_neg h, show N - i = j - i by omega]
set_option maxHeartbeats 1000000 in
set_option maxRecDepth 100000 in
theorem ct_J7_copyOfRangeByte_39247 (l : Launch) (g : Gl) (ω : Wd) (v N : Nat) (f : Nat → Int32) (hb : bvI g ω v N f) (i9 j9 : Nat) (hij : i9 ≤ j9) (hj : j9 ≤ N) (hN : N ≤ 200) (hl : j9 - i9 ≤ 16) (hf : latF f j9) : CT l g yJ7_copyOfRangeByte_39247 cJ7_copyOfRangeByte_39247 5 (some (.array .byte)) 1 21 1 163 [.ref v, .int (nI i9), .int (nI j9)] ω (fun r w => ∃ q, ω q = none ∧ r = some (.ref q) ∧ w = wup ω q (.inl (g.2.1 2, j9 - i9, .inl (va_cpy f (fun _ => 0) i9 0 (j9 - i9))))) (nox) := by
  refine CT.of (own := "java/util/Arrays") rfl rfl (le_b rfl) rfl ?_
  intro p e s m args below meth c sz0 hC hr htab hin
  refine s_iload_n hC dJ7_copyOfRangeByte_39247_0 rfl rfl 1 rfl ?_
  refine s_iload_n hC dJ7_copyOfRangeByte_39247_1 rfl rfl 2 rfl ?_
  refine s_callS hC (ct_J7_checkLength_df160 l g _ _ _ hij (by omega)) ce_J7_checkLength_df160 tw_1910 rfl rfl ⟨⟨le_b rfl, le_b rfl⟩, le_b rfl, le_b rfl⟩ (le_b rfl) dJ7_copyOfRangeByte_39247_2 rfl (dvk0 ?_) nokx
  refine s_iload_n hC dJ7_copyOfRangeByte_39247_5 rfl rfl 2 rfl ?_
  refine s_iload_n hC dJ7_copyOfRangeByte_39247_6 rfl rfl 1 rfl ?_
  refine s_isub hC dJ7_copyOfRangeByte_39247_7 rfl ?_
  rw [nI_sub9 hij]
  refine s_istore_n hC (L' := [(3, _), (0, _), (1, _), (2, _)]) dJ7_copyOfRangeByte_39247_8 rfl rfl (le_b rfl) rfl ?_
  refine s_iload_n hC dJ7_copyOfRangeByte_39247_9 rfl rfl 0 rfl ?_
  refine s_newa hC 2 (at0 := .byte) (ty := .byte) (N' := (j9 - i9)) (a0 := ((j9 - i9), .inl (fun _ => 0))) rfl rfl tw_520 (fun _ => rfl) (Int32.not_lt.mpr (nI_pos' (by omega))) (nI_clamp (by omega)) (by show (j9 - i9) * 1 ≤ 536870912; omega) (le_b rfl) (by show _ ≤ 163; omega) dJ7_copyOfRangeByte_39247_10 rfl (fun q_10 hq_10 => ?_)
  refine WP.widen (k1 := 1) (n1 := 16) (le_b rfl) (by omega) ?_
  refine s_astore hC (L' := [(4, _), (3, _), (0, _), (1, _), (2, _)]) dJ7_copyOfRangeByte_39247_12 rfl (le_b rfl) rfl ?_
  refine s_aload_n hC dJ7_copyOfRangeByte_39247_14 rfl rfl 2 rfl ?_
  refine s_iload_n hC dJ7_copyOfRangeByte_39247_15 rfl rfl 3 rfl ?_
  refine s_aload hC dJ7_copyOfRangeByte_39247_16 rfl 0 rfl ?_
  refine s_iconst hC (v := 0) dJ7_copyOfRangeByte_39247_18 rfl (by decide) ?_
  refine s_aload_n hC dJ7_copyOfRangeByte_39247_19 rfl rfl 2 rfl ?_
  refine s_alenV hC (bvI_up hb _ hq_10) dJ7_copyOfRangeByte_39247_20 rfl ?_
  refine s_iload_n hC dJ7_copyOfRangeByte_39247_21 rfl rfl 3 rfl ?_
  refine s_isub hC dJ7_copyOfRangeByte_39247_22 rfl ?_
  refine s_iload_n hC dJ7_copyOfRangeByte_39247_23 rfl rfl 1 rfl ?_
  refine s_min hC tw_678 ⟨le_b rfl, le_b rfl, le_b rfl, le_b rfl⟩ dJ7_copyOfRangeByte_39247_24 rfl ?_
  rw [cr_min hij hj hN]
  refine s_copyB hC (bvI_up hb _ hq_10) (wup_s _ _ _) (Int32.not_lt.mpr (nI_pos' (by omega))) (by decide) (Int32.not_lt.mpr (nI_pos' (by omega))) (by rw [nI_clamp (by omega), nI_clamp (by omega)]; omega) (by rw [nI_clamp (by omega), z_cl]; omega) (fun i hi => by rw [nI_clamp (by omega)] at hi; rw [nI_clamp (by omega)]; exact lat_fit hf (by omega)) tw_681 ⟨le_b rfl, le_b rfl⟩ dJ7_copyOfRangeByte_39247_27 rfl ?_
  refine s_aload hC dJ7_copyOfRangeByte_39247_30 rfl 0 rfl ?_
  refine s_aret hC hr (by first | exact Or.inl ⟨_, rfl⟩ | exact Or.inr ⟨_, rfl⟩) dJ7_copyOfRangeByte_39247_32 (le_b rfl) (le_b rfl) ?_
  exact ⟨q_10, hq_10, rfl, by rw [wup_wup, nI_clamp (by omega), nI_clamp (by omega), z_cl]⟩
set_option maxHeartbeats 1000000 in
set_option maxRecDepth 100000 in
theorem ct_J7_copyOfRange_39247 (l : Launch) (g : Gl) (ω : Wd) (v N : Nat) (f : Nat → Int32) (hb : bvI g ω v N f) (i9 j9 : Nat) (hij : i9 ≤ j9) (hj : j9 ≤ N) (hN : N ≤ 200) (hl : j9 - i9 ≤ 16) (hf : latF f j9) (hw : ¬ (i9 = 0 ∧ j9 = N)) : CT l g yJ7_copyOfRange_39247 cJ7_copyOfRange_39247 3 (some (.array .byte)) 2 45 1 163 [.ref v, .int (nI i9), .int (nI j9)] ω (fun r w => ∃ q, ω q = none ∧ r = some (.ref q) ∧ w = wup ω q (.inl (g.2.1 2, j9 - i9, .inl (va_cpy f (fun _ => 0) i9 0 (j9 - i9))))) (nox) := by
  refine CT.of (own := "java/util/Arrays") rfl rfl (le_b rfl) rfl ?_
  intro p e s m args below meth c sz0 hC hr htab hin
  refine s_iload_n hC dJ7_copyOfRange_39247_0 rfl rfl 1 rfl ?_
  refine z_if_ne hC (tgt := 10) dJ7_copyOfRange_39247_1 rfl (by decide) (fun c_1 => ?_) (fun c_1 => ?_)
  · refine s_aload_n hC dJ7_copyOfRange_39247_10 rfl rfl 0 rfl ?_
    refine s_iload_n hC dJ7_copyOfRange_39247_11 rfl rfl 1 rfl ?_
    refine s_iload_n hC dJ7_copyOfRange_39247_12 rfl rfl 2 rfl ?_
    refine s_callS hC (ct_J7_copyOfRangeByte_39247 l g _ _ _ _ hb _ _ hij hj hN hl hf) ce_J7_copyOfRangeByte_39247 tw_1907 rfl rfl ⟨⟨le_b rfl, le_b rfl⟩, le_b rfl, le_b rfl⟩ (le_b rfl) dJ7_copyOfRange_39247_13 rfl (fun r w h9 => ?_) nokx
    obtain ⟨q9, hq9, rfl, rfl⟩ := h9
    refine s_aret hC hr (by first | exact Or.inl ⟨_, rfl⟩ | exact Or.inr ⟨_, rfl⟩) dJ7_copyOfRange_39247_16 (le_b rfl) (le_b rfl) ?_
    exact ⟨q9, hq9, rfl, rfl⟩
  · refine s_iload_n hC dJ7_copyOfRange_39247_4 rfl rfl 2 rfl ?_
    refine s_aload_n hC dJ7_copyOfRange_39247_5 rfl rfl 0 rfl ?_
    refine s_alenV hC hb dJ7_copyOfRange_39247_6 rfl ?_
    refine z_icmp_eq hC (tgt := 17) dJ7_copyOfRange_39247_7 rfl (by decide) (fun c_2 => (hw ⟨nI_eq0 (by omega) c_1, (nI_eq (by omega) (by omega)).mp c_2⟩).elim) (fun c_2 => ?_)
    refine s_aload_n hC dJ7_copyOfRange_39247_10 rfl rfl 0 rfl ?_
    refine s_iload_n hC dJ7_copyOfRange_39247_11 rfl rfl 1 rfl ?_
    refine s_iload_n hC dJ7_copyOfRange_39247_12 rfl rfl 2 rfl ?_
    refine s_callS hC (ct_J7_copyOfRangeByte_39247 l g _ _ _ _ hb _ _ hij hj hN hl hf) ce_J7_copyOfRangeByte_39247 tw_1907 rfl rfl ⟨⟨le_b rfl, le_b rfl⟩, le_b rfl, le_b rfl⟩ (le_b rfl) dJ7_copyOfRange_39247_13 rfl (fun r w h9 => ?_) nokx
    obtain ⟨q9, hq9, rfl, rfl⟩ := h9
    refine s_aret hC hr (by first | exact Or.inl ⟨_, rfl⟩ | exact Or.inr ⟨_, rfl⟩) dJ7_copyOfRange_39247_16 (le_b rfl) (le_b rfl) ?_
    exact ⟨q9, hq9, rfl, rfl⟩
set_option maxHeartbeats 1000000 in
set_option maxRecDepth 100000 in
theorem ct_J0_init_031fb (l : Launch) (g : Gl) (ω : Wd) (a v : Nat) (ha : ω a = some (.inr (0, [.null, .int 0, .int 0, .int 0]))) : CT l g yJ0_init_031fb cJ0_init_031fb 3 none 1 20 0 0 [.ref a, .ref v, .int 0] ω (dv none (wup ω a (.inr (0, [.ref v, .int 0, .int 0, .int 0])))) (nox) := by
  refine CT.of (own := "java/lang/String") rfl rfl (le_b rfl) rfl ?_
  intro p e s m args below meth c sz0 hC hr htab hin
  refine s_aload_n hC dJ0_init_031fb_0 rfl rfl 0 rfl ?_
  refine s_objInit hC tw_1983 ⟨le_b rfl, le_b rfl⟩ dJ0_init_031fb_1 rfl ?_
  refine s_aload_n hC dJ0_init_031fb_4 rfl rfl 0 rfl ?_
  refine s_aload_n hC dJ0_init_031fb_5 rfl rfl 1 rfl ?_
  refine s_putF hC hin cs_J0 0 tw_2009 (le_b rfl) rfl rfl rfl rfl ha (le_b rfl) dJ0_init_031fb_6 rfl ?_
  refine s_aload_n hC dJ0_init_031fb_9 rfl rfl 0 rfl ?_
  refine s_iload_n hC dJ0_init_031fb_10 rfl rfl 2 rfl ?_
  refine s_putF hC hin cs_J0 1 tw_2010 (le_b rfl) rfl rfl rfl rfl (wup_s _ _ _) (le_b rfl) dJ0_init_031fb_11 rfl ?_
  refine s_vret hC hr dJ0_init_031fb_14 (le_b rfl) (le_b rfl) ?_
  exact ⟨rfl, by rw [wup_wup]; rfl⟩
theorem cpy_at {f h : Nat → Int32} {i n : Nat} : ∀ k, k < n → va_cpy f h i 0 n k = f (i + k) := fun k hk => by
  unfold va_cpy
  rw [if_pos ⟨Nat.zero_le _, by omega⟩, Nat.sub_zero]
set_option maxHeartbeats 1000000 in
set_option maxRecDepth 100000 in
theorem ct_J1_newString_b4f7a (l : Launch) (g : Gl) (ω : Wd) (v N : Nat) (f : Nat → Int32) (hb : bvI g ω v N f) (i9 n9 : Nat) (hij : i9 + n9 ≤ N) (hN : N ≤ 200) (hl : n9 ≤ 16) (hf : latF f N) (hw : ¬ (i9 = 0 ∧ n9 = N)) : CT l g yJ1_newString_b4f7a cJ1_newString_b4f7a 3 (some (.object "java/lang/String")) 3 67 2 167 [.ref v, .int (nI i9), .int (nI n9)] ω (fun r w => ∃ a2 v2 f2, r = some (.ref a2) ∧ strV g w a2 v2 n9 f2 ∧ (∀ k, k < n9 → f2 k = f (i9 + k)) ∧ xtW ω w) (nox) := by
  refine CT.of (own := "java/lang/StringLatin1") rfl rfl (le_b rfl) rfl ?_
  intro p e s m args below meth c sz0 hC hr htab hin
  refine s_iload_n hC dJ1_newString_b4f7a_0 rfl rfl 2 rfl ?_
  refine z_if_ne hC (tgt := 7) dJ1_newString_b4f7a_1 rfl (by decide) (fun c_1 => ?_) (fun c_1 => ?_)
  · refine s_new hC cs_J0 (fs := [.null, .int 0, .int 0, .int 0]) tw_1903 tw_774 tw_18 (fun j hj => by rcases (show j = 0 ∨ j = 1 ∨ j = 2 ∨ j = 3 by omega) with rfl | rfl | rfl | rfl <;> rfl) (le_b rfl) (le_b rfl) dJ1_newString_b4f7a_7 rfl (fun q_7 hq_7 => ?_)
    refine s_dup hC dJ1_newString_b4f7a_10 rfl rfl ?_
    refine s_aload_n hC dJ1_newString_b4f7a_11 rfl rfl 0 rfl ?_
    refine s_iload_n hC dJ1_newString_b4f7a_12 rfl rfl 1 rfl ?_
    refine s_iload_n hC dJ1_newString_b4f7a_13 rfl rfl 1 rfl ?_
    refine s_iload_n hC dJ1_newString_b4f7a_14 rfl rfl 2 rfl ?_
    refine s_iadd hC dJ1_newString_b4f7a_15 rfl ?_
    rw [nI_add9]
    refine s_callS hC (ct_J7_copyOfRange_39247 l g _ _ _ _ (bvI_up hb _ hq_7) i9 (i9 + n9) (by omega) hij hN (by omega) (lat_le hf hij) (fun z => hw ⟨z.1, by omega⟩)) ce_J7_copyOfRange_39247 tw_1904 rfl rfl ⟨⟨le_b rfl, le_b rfl⟩, le_b rfl, le_b rfl⟩ (le_b rfl) dJ1_newString_b4f7a_16 rfl (fun r w h9 => ?_) nokx
    obtain ⟨v9, hv9, rfl, rfl⟩ := h9
    obtain ⟨hv0, hvq⟩ := w_un hv9
    refine s_iconst hC (v := 0) dJ1_newString_b4f7a_19 rfl (by decide) ?_
    refine s_callI hC (ct_J0_init_031fb l g _ q_7 v9 ((wup_n (Ne.symm hvq)).trans (wup_s _ _ _))) ce_J0_init_031fb tw_2017 rfl rfl ⟨⟨le_b rfl, le_b rfl⟩, le_b rfl, le_b rfl⟩ (le_b rfl) dJ1_newString_b4f7a_20 rfl (dvk0 ?_) nokx
    refine s_aret hC hr (by first | exact Or.inl ⟨_, rfl⟩ | exact Or.inr ⟨_, rfl⟩) dJ1_newString_b4f7a_23 (le_b rfl) (le_b rfl) ?_
    refine ⟨q_7, v9, _, rfl, Or.inl ⟨0, 0, wup_s _ _ _, (wup_n hvq).trans ((wup_s _ _ _).trans (by rw [show i9 + n9 - i9 = n9 by omega]))⟩, cpy_at, xt_up (xt_up (xt_up (xt_rf ω) hq_7 _) hv0 _) hq_7 _⟩
  · refine s_ldcS hC 33 rfl dJ1_newString_b4f7a_4 rfl ?_
    refine s_aret hC hr (by first | exact Or.inl ⟨_, rfl⟩ | exact Or.inr ⟨_, rfl⟩) dJ1_newString_b4f7a_6 (le_b rfl) (le_b rfl) ?_
    obtain rfl : n9 = 0 := nI_eq0 (by omega) c_1
    exact ⟨_, _, _, rfl, strK g _ (i := 2) rfl, fun k hk => absurd hk (by omega), xt_rf ω⟩
set_option maxHeartbeats 1000000 in
set_option maxRecDepth 100000 in
theorem ct_J3_checkFromToIndex_8c36e (l : Launch) (g : Gl) (ω : Wd) (x y z : Int32) (h0 : 0 ≤ x) (h1 : x ≤ y) (h2 : y ≤ z) : CT l g yJ3_checkFromToIndex_8c36e cJ3_checkFromToIndex_8c36e 4 (some .int) 0 0 0 0 [.int x, .int y, .int z, .null] ω (dv (some (.int x)) ω) (nox) := by
  refine CT.of (own := "jdk/internal/util/Preconditions") rfl rfl (le_b rfl) rfl ?_
  intro p e s m args below meth c sz0 hC hr htab hin
  refine s_iload_n hC dJ3_checkFromToIndex_8c36e_0 rfl rfl 0 rfl ?_
  refine z_if_lt hC (tgt := 14) dJ3_checkFromToIndex_8c36e_1 rfl (by decide) (fun c_1 => (c_1 h0).elim) (fun c_1 => ?_)
  refine s_iload_n hC dJ3_checkFromToIndex_8c36e_4 rfl rfl 0 rfl ?_
  refine s_iload_n hC dJ3_checkFromToIndex_8c36e_5 rfl rfl 1 rfl ?_
  refine z_icmp_gt hC (tgt := 14) dJ3_checkFromToIndex_8c36e_6 rfl (by decide) (fun c_2 => (c_2 h1).elim) (fun c_2 => ?_)
  refine s_iload_n hC dJ3_checkFromToIndex_8c36e_9 rfl rfl 1 rfl ?_
  refine s_iload_n hC dJ3_checkFromToIndex_8c36e_10 rfl rfl 2 rfl ?_
  refine z_icmp_le hC (tgt := 22) dJ3_checkFromToIndex_8c36e_11 rfl (by decide) (fun c_3 => ?_) (fun c_3 => (c_3 h2).elim)
  refine s_iload_n hC dJ3_checkFromToIndex_8c36e_22 rfl rfl 0 rfl ?_
  refine s_iret hC hr dJ3_checkFromToIndex_8c36e_23 (le_b rfl) (le_b rfl) ?_
  exact ⟨rfl, rfl⟩
set_option maxHeartbeats 1000000 in
set_option maxRecDepth 100000 in
theorem ct_J3_checkFromToIndex_r (l : Launch) (g : Gl) (ω : Wd) (x y z : Int32) (t9 : Nat) (h0 : 0 ≤ x) (h1 : x ≤ y) (h2 : y ≤ z) : CT l g yJ3_checkFromToIndex_8c36e cJ3_checkFromToIndex_8c36e 4 (some .int) 0 0 0 0 [.int x, .int y, .int z, .ref t9] ω (dv (some (.int x)) ω) (nox) := by
  refine CT.of (own := "jdk/internal/util/Preconditions") rfl rfl (le_b rfl) rfl ?_
  intro p e s m args below meth c sz0 hC hr htab hin
  refine s_iload_n hC dJ3_checkFromToIndex_8c36e_0 rfl rfl 0 rfl ?_
  refine z_if_lt hC (tgt := 14) dJ3_checkFromToIndex_8c36e_1 rfl (by decide) (fun c_1 => (c_1 h0).elim) (fun c_1 => ?_)
  refine s_iload_n hC dJ3_checkFromToIndex_8c36e_4 rfl rfl 0 rfl ?_
  refine s_iload_n hC dJ3_checkFromToIndex_8c36e_5 rfl rfl 1 rfl ?_
  refine z_icmp_gt hC (tgt := 14) dJ3_checkFromToIndex_8c36e_6 rfl (by decide) (fun c_2 => (c_2 h1).elim) (fun c_2 => ?_)
  refine s_iload_n hC dJ3_checkFromToIndex_8c36e_9 rfl rfl 1 rfl ?_
  refine s_iload_n hC dJ3_checkFromToIndex_8c36e_10 rfl rfl 2 rfl ?_
  refine z_icmp_le hC (tgt := 22) dJ3_checkFromToIndex_8c36e_11 rfl (by decide) (fun c_3 => ?_) (fun c_3 => (c_3 h2).elim)
  refine s_iload_n hC dJ3_checkFromToIndex_8c36e_22 rfl rfl 0 rfl ?_
  refine s_iret hC hr dJ3_checkFromToIndex_8c36e_23 (le_b rfl) (le_b rfl) ?_
  exact ⟨rfl, rfl⟩
set_option maxHeartbeats 1000000 in
set_option maxRecDepth 100000 in
theorem ct_J0_checkBoundsBeginEnd_23922 (l : Launch) (g : Gl) (ω : Wd) (x y z : Int32) (h0 : 0 ≤ x) (h1 : x ≤ y) (h2 : y ≤ z) : CT l g yJ0_checkBoundsBeginEnd_23922 cJ0_checkBoundsBeginEnd_23922 3 none 1 23 0 0 [.int x, .int y, .int z] ω (dv none ω) (nox) := by
  refine CT.of (own := "java/lang/String") rfl rfl (le_b rfl) rfl ?_
  intro p e s m args below meth c sz0 hC hr htab hin
  refine s_iload_n hC dJ0_checkBoundsBeginEnd_23922_0 rfl rfl 0 rfl ?_
  refine s_iload_n hC dJ0_checkBoundsBeginEnd_23922_1 rfl rfl 1 rfl ?_
  refine s_iload_n hC dJ0_checkBoundsBeginEnd_23922_2 rfl rfl 2 rfl ?_
  refine s_getF hC tw_1380 dJ0_checkBoundsBeginEnd_23922_3 rfl ?_ (fun t9 => ?_)
  · refine s_callS hC (ct_J3_checkFromToIndex_8c36e l g _ _ _ _ h0 h1 h2) ce_J3_checkFromToIndex_8c36e tw_1382 rfl rfl ⟨⟨le_b rfl, le_b rfl⟩, le_b rfl, le_b rfl⟩ (le_b rfl) dJ0_checkBoundsBeginEnd_23922_6 rfl (dvk1 ?_) nokx
    refine s_pop hC dJ0_checkBoundsBeginEnd_23922_9 rfl rfl ?_
    refine s_vret hC hr dJ0_checkBoundsBeginEnd_23922_10 (le_b rfl) (le_b rfl) ?_
    exact ⟨rfl, rfl⟩
  · refine s_callS hC (ct_J3_checkFromToIndex_r l g _ _ _ _ _ h0 h1 h2) ce_J3_checkFromToIndex_8c36e tw_1382 rfl rfl ⟨⟨le_b rfl, le_b rfl⟩, le_b rfl, le_b rfl⟩ (le_b rfl) dJ0_checkBoundsBeginEnd_23922_6 rfl (dvk1 ?_) nokx
    refine s_pop hC dJ0_checkBoundsBeginEnd_23922_9 rfl rfl ?_
    refine s_vret hC hr dJ0_checkBoundsBeginEnd_23922_10 (le_b rfl) (le_b rfl) ?_
    exact ⟨rfl, rfl⟩
set_option maxHeartbeats 1000000 in
set_option maxRecDepth 100000 in
theorem ct_J0_substring_37a41 (l : Launch) (g : Gl) (ω : Wd) (a v N : Nat) (f : Nat → Int32) (hs : strV g ω a v N f) (i9 j9 : Nat) (hij : i9 ≤ j9) (hj : j9 ≤ N) (hN : N ≤ 200) (hl : j9 - i9 ≤ 16) (hf : latF f N) : CT l g yJ0_substring_37a41 cJ0_substring_37a41 5 (some (.object "java/lang/String")) 4 89 2 167 [.ref a, .int (nI i9), .int (nI j9)] ω (fun r w => ∃ a2 v2 f2, r = some (.ref a2) ∧ strV g w a2 v2 (j9 - i9) f2 ∧ (∀ k, k < j9 - i9 → f2 k = f (i9 + k)) ∧ xtW ω w) (nox) := by
  refine CT.of (own := "java/lang/String") rfl rfl (le_b rfl) rfl ?_
  intro p e s m args below meth c sz0 hC hr htab hin
  refine s_aload_n hC dJ0_substring_37a41_0 rfl rfl 0 rfl ?_
  refine s_callVs hC (ct_J0_length_8abf5 l g _ _ _ _ _ hs) ce_J0_length_8abf5 rfl hs tw_1343 rfl rfl ⟨⟨le_b rfl, le_b rfl⟩, le_b rfl, le_b rfl⟩ (le_b rfl) dJ0_substring_37a41_1 rfl (dvk1 ?_) nokx
  refine s_istore_n hC (L' := [(3, _), (0, _), (1, _), (2, _)]) dJ0_substring_37a41_4 rfl rfl (le_b rfl) rfl ?_
  refine s_iload_n hC dJ0_substring_37a41_5 rfl rfl 2 rfl ?_
  refine s_iload_n hC dJ0_substring_37a41_6 rfl rfl 3 rfl ?_
  refine s_iload_n hC dJ0_substring_37a41_7 rfl rfl 0 rfl ?_
  refine s_callS hC (ct_J0_checkBoundsBeginEnd_23922 l g _ _ _ _ (nI_pos' (by omega)) (nI_le hij (by omega)) (nI_le hj (by omega))) ce_J0_checkBoundsBeginEnd_23922 tw_1898 rfl rfl ⟨⟨le_b rfl, le_b rfl⟩, le_b rfl, le_b rfl⟩ (le_b rfl) dJ0_substring_37a41_8 rfl (dvk0 ?_) nokx
  refine s_iload_n hC dJ0_substring_37a41_11 rfl rfl 2 rfl ?_
  refine z_if_ne hC (tgt := 22) dJ0_substring_37a41_12 rfl (by decide) (fun c_1 => ?_) (fun c_1 => ?_)
  · have hw : ¬ (i9 = 0 ∧ j9 - i9 = N) := fun z => c_1 (by rw [z.1]; rfl)
    refine s_iload_n hC dJ0_substring_37a41_22 rfl rfl 3 rfl ?_
    refine s_iload_n hC dJ0_substring_37a41_23 rfl rfl 2 rfl ?_
    refine s_isub hC dJ0_substring_37a41_24 rfl ?_
    rw [nI_sub9 hij]
    refine s_istore hC (L' := [(4, _), (3, _), (0, _), (1, _), (2, _)]) dJ0_substring_37a41_25 rfl (le_b rfl) rfl ?_
    refine s_aload_n hC dJ0_substring_37a41_27 rfl rfl 2 rfl ?_
    refine s_callVs hC (ct_J0_isLatin1_aae02 l g _ _ _ _ _ hs) ce_J0_isLatin1_aae02 rfl hs tw_1337 rfl rfl ⟨⟨le_b rfl, le_b rfl⟩, le_b rfl, le_b rfl⟩ (le_b rfl) dJ0_substring_37a41_28 rfl (dvk1 ?_) nokx
    refine z_if_eq hC (tgt := 47) dJ0_substring_37a41_31 rfl (by decide) (fun c_2 => ((absurd c_2 (by decide) : False)).elim) (fun c_2 => ?_)
    refine s_aload_n hC dJ0_substring_37a41_34 rfl rfl 2 rfl ?_
    refine s_strV hC hs tw_2009 dJ0_substring_37a41_35 rfl ?_
    refine s_iload_n hC dJ0_substring_37a41_38 rfl rfl 3 rfl ?_
    refine s_iload hC dJ0_substring_37a41_39 rfl 0 rfl ?_
    refine s_callS hC (ct_J1_newString_b4f7a l g _ _ _ _ (strV.b hs) i9 (j9 - i9) (by omega) hN hl hf hw) ce_J1_newString_b4f7a tw_1899 rfl rfl ⟨⟨le_b rfl, le_b rfl⟩, le_b rfl, le_b rfl⟩ (le_b rfl) dJ0_substring_37a41_41 rfl (fun r w h9 => ?_) nokx
    obtain ⟨a2, v2, f2, rfl, h5, h6, h7⟩ := h9
    refine s_goto hC (tgt := 57) dJ0_substring_37a41_44 (by decide) ?_
    refine s_aret hC hr (by first | exact Or.inl ⟨_, rfl⟩ | exact Or.inr ⟨_, rfl⟩) dJ0_substring_37a41_57 (le_b rfl) (le_b rfl) ?_
    exact ⟨a2, v2, f2, rfl, h5, h6, h7⟩
  · refine s_iload_n hC dJ0_substring_37a41_15 rfl rfl 3 rfl ?_
    refine s_iload_n hC dJ0_substring_37a41_16 rfl rfl 0 rfl ?_
    refine z_icmp_ne hC (tgt := 22) dJ0_substring_37a41_17 rfl (by decide) (fun c_3 => ?_) (fun c_3 => ?_)
    · have hw : ¬ (i9 = 0 ∧ j9 - i9 = N) := fun z => c_3 (by rw [show j9 = N by omega])
      refine s_iload_n hC dJ0_substring_37a41_22 rfl rfl 3 rfl ?_
      refine s_iload_n hC dJ0_substring_37a41_23 rfl rfl 2 rfl ?_
      refine s_isub hC dJ0_substring_37a41_24 rfl ?_
      rw [nI_sub9 hij]
      refine s_istore hC (L' := [(4, _), (3, _), (0, _), (1, _), (2, _)]) dJ0_substring_37a41_25 rfl (le_b rfl) rfl ?_
      refine s_aload_n hC dJ0_substring_37a41_27 rfl rfl 2 rfl ?_
      refine s_callVs hC (ct_J0_isLatin1_aae02 l g _ _ _ _ _ hs) ce_J0_isLatin1_aae02 rfl hs tw_1337 rfl rfl ⟨⟨le_b rfl, le_b rfl⟩, le_b rfl, le_b rfl⟩ (le_b rfl) dJ0_substring_37a41_28 rfl (dvk1 ?_) nokx
      refine z_if_eq hC (tgt := 47) dJ0_substring_37a41_31 rfl (by decide) (fun c_4 => ((absurd c_4 (by decide) : False)).elim) (fun c_4 => ?_)
      refine s_aload_n hC dJ0_substring_37a41_34 rfl rfl 2 rfl ?_
      refine s_strV hC hs tw_2009 dJ0_substring_37a41_35 rfl ?_
      refine s_iload_n hC dJ0_substring_37a41_38 rfl rfl 3 rfl ?_
      refine s_iload hC dJ0_substring_37a41_39 rfl 0 rfl ?_
      refine s_callS hC (ct_J1_newString_b4f7a l g _ _ _ _ (strV.b hs) i9 (j9 - i9) (by omega) hN hl hf hw) ce_J1_newString_b4f7a tw_1899 rfl rfl ⟨⟨le_b rfl, le_b rfl⟩, le_b rfl, le_b rfl⟩ (le_b rfl) dJ0_substring_37a41_41 rfl (fun r w h9 => ?_) nokx
      obtain ⟨a2, v2, f2, rfl, h5, h6, h7⟩ := h9
      refine s_goto hC (tgt := 57) dJ0_substring_37a41_44 (by decide) ?_
      refine s_aret hC hr (by first | exact Or.inl ⟨_, rfl⟩ | exact Or.inr ⟨_, rfl⟩) dJ0_substring_37a41_57 (le_b rfl) (le_b rfl) ?_
      exact ⟨a2, v2, f2, rfl, h5, h6, h7⟩
    · refine s_aload_n hC dJ0_substring_37a41_20 rfl rfl 1 rfl ?_
      refine s_aret hC hr (by first | exact Or.inl ⟨_, rfl⟩ | exact Or.inr ⟨_, rfl⟩) dJ0_substring_37a41_21 (le_b rfl) (le_b rfl) ?_
      obtain rfl : i9 = 0 := nI_eq0 (by omega) c_1
      obtain rfl : j9 = N := (nI_eq (by omega) (by omega)).mp c_3
      exact ⟨a, v, f, rfl, hs, fun k _ => by rw [Nat.zero_add], xt_rf ω⟩
set_option maxHeartbeats 1000000 in
set_option maxRecDepth 100000 in
theorem ct_J0_substring_b52d3 (l : Launch) (g : Gl) (ω : Wd) (a v N : Nat) (f : Nat → Int32) (hs : strV g ω a v N f) (i9 : Nat) (hj : i9 ≤ N) (hN : N ≤ 200) (hl : N - i9 ≤ 16) (hf : latF f N) : CT l g yJ0_substring_b52d3 cJ0_substring_b52d3 2 (some (.object "java/lang/String")) 5 113 2 167 [.ref a, .int (nI i9)] ω (fun r w => ∃ a2 v2 f2, r = some (.ref a2) ∧ strV g w a2 v2 (N - i9) f2 ∧ (∀ k, k < N - i9 → f2 k = f (i9 + k)) ∧ xtW ω w) (nox) := by
  refine CT.of (own := "java/lang/String") rfl rfl (le_b rfl) rfl ?_
  intro p e s m args below meth c sz0 hC hr htab hin
  refine s_aload_n hC dJ0_substring_b52d3_0 rfl rfl 0 rfl ?_
  refine s_iload_n hC dJ0_substring_b52d3_1 rfl rfl 1 rfl ?_
  refine s_aload_n hC dJ0_substring_b52d3_2 rfl rfl 0 rfl ?_
  refine s_callVs hC (ct_J0_length_8abf5 l g _ _ _ _ _ hs) ce_J0_length_8abf5 rfl hs tw_1343 rfl rfl ⟨⟨le_b rfl, le_b rfl⟩, le_b rfl, le_b rfl⟩ (le_b rfl) dJ0_substring_b52d3_3 rfl (dvk1 ?_) nokx
  refine s_callVs hC (ct_J0_substring_37a41 l g _ _ _ _ _ hs i9 N hj (Nat.le_refl N) hN hl hf) ce_J0_substring_37a41 rfl hs tw_2034 rfl rfl ⟨⟨le_b rfl, le_b rfl⟩, le_b rfl, le_b rfl⟩ (le_b rfl) dJ0_substring_b52d3_6 rfl (fun r w h9 => ?_) nokx
  obtain ⟨a2, v2, f2, rfl, h5, h6, h7⟩ := h9
  refine s_aret hC hr (by first | exact Or.inl ⟨_, rfl⟩ | exact Or.inr ⟨_, rfl⟩) dJ0_substring_b52d3_9 (le_b rfl) (le_b rfl) ?_
  exact ⟨a2, v2, f2, rfl, h5, h6, h7⟩
set_option maxHeartbeats 1000000 in
set_option maxRecDepth 100000 in
theorem ct_J0_init_db425 (l : Launch) (g : Gl) (ω : Wd) (a : Nat) (ha : ω a = some (.inr (0, [.null, .int 0, .int 0, .int 0]))) (b v n : Nat) (hb : ω b = some (sbC v (nI n))) (f : Nat → Int32) (hv : ω v = some (.inl (g.2.1 2, 16, .inl f))) (hn : n < 16) (hf : latF f n) (hab : b ≠ a) (hva : v ≠ a) : CT l g yJ0_init_db425 cJ0_init_db425 5 none 3 67 1 163 [.ref a, .ref b, .null] ω (fun r w => ∃ q, ω q = none ∧ r = none ∧ w a = some (.inr (0, [.ref q, .int 0, .int 0, .int 0])) ∧ w q = some (.inl (g.2.1 2, n, .inl (va_cpy f (fun _ => 0) 0 0 n))) ∧ ∀ p e, p ≠ a → ω p = some e → w p = some e) (nox) := by
  refine CT.of (own := "java/lang/String") rfl rfl (le_b rfl) rfl ?_
  intro p e s m args below meth c sz0 hC hr htab hin
  refine s_aload_n hC dJ0_init_db425_0 rfl rfl 0 rfl ?_
  refine s_objInit hC tw_1983 ⟨le_b rfl, le_b rfl⟩ dJ0_init_db425_1 rfl ?_
  refine s_aload_n hC dJ0_init_db425_4 rfl rfl 1 rfl ?_
  refine s_callU hC (ct_J5_getValue_6d5f1 l g _ _ _ _ hb) ce_J5_getValue_6d5f1 cs_J4 hb tw_1984 rfl rfl ⟨⟨le_b rfl, le_b rfl⟩, le_b rfl, le_b rfl⟩ (le_b rfl) dJ0_init_db425_5 rfl (dvk1 ?_) nokx
  refine s_astore_n hC (L' := [(3, _), (0, _), (1, _), (2, _)]) dJ0_init_db425_8 rfl rfl (le_b rfl) rfl ?_
  refine s_aload_n hC dJ0_init_db425_9 rfl rfl 2 rfl ?_
  refine s_callO (y := yJ4_length_8abf5) (x := yJ5_length_8abf5) (bytes := cJ4_length_8abf5) (maxL := 1) (ret := (some .int)) hC (ct_J4_length_8abf5 l g _ _ _ _ hb) tw_1994 tw_1991 tw_1990 tw_1992 tw_1993 tw_36 tw_1996 ⟨by decide +kernel, by decide +kernel, by decide +kernel⟩ cs_J4 hb tw_1989 rfl rfl ⟨⟨le_b rfl, le_b rfl⟩, le_b rfl, le_b rfl⟩ (le_b rfl) dJ0_init_db425_10 rfl (dvk1 ?_) nokx
  refine s_istore hC (L' := [(4, _), (3, _), (0, _), (1, _), (2, _)]) dJ0_init_db425_13 rfl (le_b rfl) rfl ?_
  refine s_aload_n hC dJ0_init_db425_15 rfl rfl 3 rfl ?_
  refine s_callU hC (ct_J5_isLatin1_aae02 l g _ _ _ _ hb) ce_J5_isLatin1_aae02 cs_J4 hb tw_1997 rfl rfl ⟨⟨le_b rfl, le_b rfl⟩, le_b rfl, le_b rfl⟩ (le_b rfl) dJ0_init_db425_16 rfl (dvk1 ?_) nokx
  refine z_if_eq hC (tgt := 41) dJ0_init_db425_19 rfl (by decide) (fun c_1 => ((absurd c_1 (by decide) : False)).elim) (fun c_1 => ?_)
  refine s_aload_n hC dJ0_init_db425_22 rfl rfl 2 rfl ?_
  refine s_iconst hC (v := 0) dJ0_init_db425_23 rfl (by decide) ?_
  refine s_putF hC hin cs_J0 1 tw_2010 (le_b rfl) rfl rfl rfl rfl ha (le_b rfl) dJ0_init_db425_24 rfl ?_
  refine s_aload_n hC dJ0_init_db425_27 rfl rfl 2 rfl ?_
  refine s_aload_n hC dJ0_init_db425_28 rfl rfl 1 rfl ?_
  refine s_iconst hC (v := 0) dJ0_init_db425_29 rfl (by decide) ?_
  refine s_iload hC dJ0_init_db425_30 rfl 0 rfl ?_
  refine s_callS hC (ct_J7_copyOfRange_39247 l g _ _ _ _ (Or.inl ((wup_n hva).trans hv)) 0 n (Nat.zero_le _) (by omega) (by decide) (by omega) hf (fun z => by omega)) ce_J7_copyOfRange_39247 tw_1998 rfl rfl ⟨⟨le_b rfl, le_b rfl⟩, le_b rfl, le_b rfl⟩ (le_b rfl) dJ0_init_db425_32 rfl (fun r w h9 => ?_) nokx
  obtain ⟨q9, hq9, rfl, rfl⟩ := h9
  obtain ⟨hq0, hqa⟩ := w_un hq9
  refine s_putF hC hin cs_J0 0 tw_2009 (le_b rfl) rfl rfl rfl rfl ((wup_n (Ne.symm hqa)).trans (wup_s _ _ _)) (le_b rfl) dJ0_init_db425_35 rfl ?_
  refine s_goto hC (tgt := 97) dJ0_init_db425_38 (by decide) ?_
  refine s_vret hC hr dJ0_init_db425_97 (le_b rfl) (le_b rfl) ?_
  exact ⟨q9, hq0, rfl, wup_s _ _ _, (wup_n hqa).trans (wup_s _ _ _), fun p e hp he => (wup_n hp).trans ((wup_n (w_ne he hq0)).trans ((wup_n hp).trans he))⟩
set_option maxHeartbeats 1000000 in
set_option maxRecDepth 100000 in
theorem ct_J0_init_81219 (l : Launch) (g : Gl) (ω : Wd) (a : Nat) (ha : ω a = some (.inr (0, [.null, .int 0, .int 0, .int 0]))) (b v n : Nat) (hb : ω b = some (sbC v (nI n))) (f : Nat → Int32) (hv : ω v = some (.inl (g.2.1 2, 16, .inl f))) (hn : n < 16) (hf : latF f n) (hab : b ≠ a) (hva : v ≠ a) : CT l g yJ0_init_81219 cJ0_init_81219 2 none 4 91 1 163 [.ref a, .ref b] ω (fun r w => ∃ q, ω q = none ∧ r = none ∧ w a = some (.inr (0, [.ref q, .int 0, .int 0, .int 0])) ∧ w q = some (.inl (g.2.1 2, n, .inl (va_cpy f (fun _ => 0) 0 0 n))) ∧ ∀ p e, p ≠ a → ω p = some e → w p = some e) (nox) := by
  refine CT.of (own := "java/lang/String") rfl rfl (le_b rfl) rfl ?_
  intro p e s m args below meth c sz0 hC hr htab hin
  refine s_aload_n hC dJ0_init_81219_0 rfl rfl 0 rfl ?_
  refine s_aload_n hC dJ0_init_81219_1 rfl rfl 1 rfl ?_
  refine s_null hC dJ0_init_81219_2 rfl ?_
  refine s_callI hC (ct_J0_init_db425 l g _ _ ha _ _ _ hb _ hv hn hf hab hva) ce_J0_init_db425 tw_1980 rfl rfl ⟨⟨le_b rfl, le_b rfl⟩, le_b rfl, le_b rfl⟩ (le_b rfl) dJ0_init_81219_3 rfl (fun r w h9 => ?_) nokx
  obtain ⟨q9, hq9, rfl, h5, h6, h7⟩ := h9
  refine s_vret hC hr dJ0_init_81219_6 (le_b rfl) (le_b rfl) ?_
  exact ⟨q9, hq9, rfl, h5, h6, h7⟩
set_option maxHeartbeats 1000000 in
set_option maxRecDepth 100000 in
theorem ct_J4_toString_0e30d (l : Launch) (g : Gl) (ω : Wd) (b v n : Nat) (hb : ω b = some (sbC v (nI n))) (f : Nat → Int32) (hv : ω v = some (.inl (g.2.1 2, 16, .inl f))) (hn : n < 16) (hf : latF f n) : CT l g yJ4_toString_0e30d cJ4_toString_0e30d 1 (some (.object "java/lang/String")) 5 112 2 167 [.ref b] ω (fun r w => ∃ a q, ω a = none ∧ ω q = none ∧ q ≠ a ∧ r = some (.ref a) ∧ w a = some (.inr (0, [.ref q, .int 0, .int 0, .int 0])) ∧ w q = some (.inl (g.2.1 2, n, .inl (va_cpy f (fun _ => 0) 0 0 n))) ∧ xtW ω w) (nox) := by
  refine CT.of (own := "java/lang/StringBuilder") rfl rfl (le_b rfl) rfl ?_
  intro p e s m args below meth c sz0 hC hr htab hin
  refine s_new hC cs_J0 (fs := [.null, .int 0, .int 0, .int 0]) tw_1976 tw_774 tw_18 (fun j hj => by rcases (show j = 0 ∨ j = 1 ∨ j = 2 ∨ j = 3 by omega) with rfl | rfl | rfl | rfl <;> rfl) (le_b rfl) (le_b rfl) dJ4_toString_0e30d_0 rfl (fun q_0 hq_0 => ?_)
  refine s_dup hC dJ4_toString_0e30d_3 rfl rfl ?_
  refine s_aload_n hC dJ4_toString_0e30d_4 rfl rfl 0 rfl ?_
  refine s_callI hC (ct_J0_init_81219 l g _ _ (wup_s _ _ _) _ _ _ ((wup_n (w_ne hb hq_0)).trans hb) _ ((wup_n (w_ne hv hq_0)).trans hv) hn hf (w_ne hb hq_0) (w_ne hv hq_0)) ce_J0_init_81219 tw_1977 rfl rfl ⟨⟨le_b rfl, le_b rfl⟩, le_b rfl, le_b rfl⟩ (le_b rfl) dJ4_toString_0e30d_5 rfl (fun r w h9 => ?_) nokx
  obtain ⟨q9, hq9, rfl, h5, h6, h7⟩ := h9
  obtain ⟨hq0, hqa⟩ := w_un hq9
  refine s_aret hC hr (by first | exact Or.inl ⟨_, rfl⟩ | exact Or.inr ⟨_, rfl⟩) dJ4_toString_0e30d_8 (le_b rfl) (le_b rfl) ?_
  exact ⟨q_0, q9, hq_0, hq0, hqa, rfl, h5, h6, fun p e he => h7 p e (w_ne he hq_0) ((wup_n (w_ne he hq_0)).trans he)⟩
