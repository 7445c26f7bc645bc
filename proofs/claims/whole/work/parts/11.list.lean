theorem z_wide (f : FP.Core.Fmt) : 0 < f.tails := FP.Core.tails_pos f
section LST
variable {p : Program} {l : Launch} {e : Env} {R : Room} {s : State} {m : MethodId} {args : Array Value} {below : List Frame} {meth : Method} {c : Code} {cc : ByteArray} {nL : Nat} {own : String} {g : Gl} {ω0 : Wd} {sz0 : Nat} {Q : State → Prop} {ω : Wd} {k n pc pc' : Nat} {L : List (Nat × Value)} {rest : List Value} {a N : Nat} {i : Int32}
theorem s_aaldV (hC : Cx p l e R s m args below meth c cc nL own g ω0 sz0) {fq : Nat → Option Nat} {v : Nat} (ha : ω a = some (.inl (g.2.1 3, N, .inr (.inr (.inr (.inr fq)))))) (hin : vp_in i N) (hv : fq i.toNatClampNeg = some v) (hdg : decode cc pc = .ok (.aaload, 1)) (hp : pc + 1 = pc')
    (kk : WP p l e R s m args below meth c g ω0 sz0 Q nL ω k n pc' L (.ref v :: rest)) : WP p l e R s m args below meth c g ω0 sz0 Q nL ω k n pc L (.int i :: .ref a :: rest) := s_aald hC ha hin hdg hp (by rw [hv]; exact kk)
theorem same_mc (hC : Cx p l e R s m args below meth c cc nL own g ω0 sz0) : ∀ x, s.fieldFound? "java/util/AbstractList" "modCount" "I" = some x → s.fieldFound? "java/util/ArrayList" "modCount" "I" = some x := by
  have h := hC.w tw_74 rfl
  intro x hx
  simp only [Cond.before, Cond.holds, Cond.value, hx] at h
  cases hj : s.fieldFound? "java/util/ArrayList" "modCount" "I" with
  | none => simp [hj] at h
  | some y =>
    have h2 := Cond.sameField_spec (args := args) hj (hC.w tw_74 rfl)
    exact h2.symm.trans hx
end LST
theorem elt_up {g : Gl} {ω : Wd} {v a ci : Nat} {fs fs' : List Value} (h : elt g ω v) (ha : ω a = some (.inr (ci, fs))) : elt g (wup ω a (.inr (ci, fs'))) v := by
  rcases h with ⟨ci1, fs1, C, T, N, he, h2⟩ | ⟨x, he⟩
  · by_cases hva : v = a
    · subst hva
      have := Option.some.inj (he.symm.trans ha)
      cases this
      exact Or.inl ⟨ci, fs', C, T, N, wup_s _ _ _, h2⟩
    · exact Or.inl ⟨ci1, fs1, C, T, N, (wup_n hva).trans he, h2⟩
  · refine Or.inr ⟨x, (wup_n (fun z => ?_)).trans he⟩
    rw [z, ha] at he
    cases he
theorem elt_new {g : Gl} {ω : Wd} {v q : Nat} {e : va_E} (h : elt g ω v) (hq : ω q = none) : elt g (wup ω q e) v := by
  rcases h with ⟨ci1, fs1, C, T, N, he, h2⟩ | ⟨x, he⟩
  · exact Or.inl ⟨ci1, fs1, C, T, N, (wup_n (w_ne he hq)).trans he, h2⟩
  · exact Or.inr ⟨x, (wup_n (w_ne he hq)).trans he⟩
theorem elt_arr {g : Gl} {ω : Wd} {v a j N : Nat} {fq fq' : Nat → Option Nat} (h : elt g ω v) (hj : g.2.1 j ≠ g.2.1 0) (ha : ω a = some (.inl (g.2.1 j, N, .inr (.inr (.inr (.inr fq)))))) : elt g (wup ω a (.inl (g.2.1 j, N, .inr (.inr (.inr (.inr fq')))))) v := by
  rcases h with ⟨ci1, fs1, C, T, N, he, h2⟩ | ⟨x, he⟩
  · refine Or.inl ⟨ci1, fs1, C, T, N, (wup_n (fun z => ?_)).trans he, h2⟩
    rw [z, ha] at he
    cases he
  · refine Or.inr ⟨x, (wup_n (fun z => ?_)).trans he⟩
    rw [z, ha] at he
    exact hj (congrArg Prod.fst (Sum.inl.inj (Option.some.inj he)))
/-- a row's sizes -/
def caps : List Nat := [0, 10, 15, 22, 33, 49, 73, 109, 163]
def nxc (cap : Nat) : Nat := if cap = 0 then 10 else cap + cap / 2
theorem caps_le : ∀ cap ∈ caps, cap ≤ 163 := by decide
theorem caps_pos : ∀ cap ∈ caps, ¬ cap = 0 → ¬ nI cap ≤ 0 := by decide
theorem caps_nx : ∀ cap ∈ caps, ¬ cap = 0 → cap ≤ 109 → nI cap + iMax (nI cap + 1 - nI cap) (nI cap >>> (1 &&& 31)) = nI (nxc cap) ∧ ¬ nI (nxc cap) ≤ 0 ∧ nI (nxc cap) ≤ 2147483639 ∧ nxc cap ∈ caps ∧ cap < nxc cap ∧ nxc cap ≤ 163 := by decide
theorem caps_109 : ∀ cap ∈ caps, cap < 163 → cap ≤ 109 := by decide
def rwE (g : Gl) (N : Nat) (fq : Nat → Option Nat) : va_E := .inl (g.2.1 3, N, .inr (.inr (.inr (.inr fq))))
def alE (mc : Int32) (ed n : Nat) : va_E := .inr (4, [.int mc, .ref ed, .int (nI n)])
def itE (c lr mc : Int32) (al : Nat) : va_E := .inr (3, [.int c, .int lr, .int mc, .ref al])
theorem nx_in {i N : Nat} (h : i < N) (hN : N ≤ 163) : vp_in (nI i) N := vp_in_nI h (by omega)
set_option maxHeartbeats 1000000 in
set_option maxRecDepth 100000 in
theorem ct_Jxa1e45_init_da8c8 (l : Launch) (g : Gl) (ω : Wd) (al : Nat) : CT l g yJxa1e45_init_da8c8 cJxa1e45_init_da8c8 1 none 1 20 0 0 [.ref al] ω (dv none ω) (nox) := by
  refine CT.of (own := "java/util/AbstractCollection") rfl rfl (le_b rfl) rfl ?_
  intro p e s m args below meth c sz0 hC hr htab hin
  refine s_aload_n hC dJxa1e45_init_da8c8_0 rfl rfl 0 rfl ?_
  refine s_objInit hC tw_65 ⟨le_b rfl, le_b rfl⟩ dJxa1e45_init_da8c8_1 rfl ?_
  refine s_vret hC hr dJxa1e45_init_da8c8_4 (le_b rfl) (le_b rfl) ?_
  exact ⟨rfl, rfl⟩
set_option maxHeartbeats 1000000 in
set_option maxRecDepth 100000 in
theorem ct_Jxc12de_init_da8c8 (l : Launch) (g : Gl) (ω : Wd) (al : Nat) (fs : List Value) (hl : 0 < fs.length) (h0 : ω al = some (.inr (4, fs))) : CT l g yJxc12de_init_da8c8 cJxc12de_init_da8c8 1 none 2 40 0 0 [.ref al] ω (dv none (wup ω al (.inr (4, fs.set 0 (.int 0))))) (nox) := by
  refine CT.of (own := "java/util/AbstractList") rfl rfl (le_b rfl) rfl ?_
  intro p e s m args below meth c sz0 hC hr htab hin
  refine s_aload_n hC dJxc12de_init_da8c8_0 rfl rfl 0 rfl ?_
  refine s_callI hC (ct_Jxa1e45_init_da8c8 l g ω _) ce_Jxa1e45_init_da8c8 tw_62 rfl rfl ⟨⟨le_b rfl, le_b rfl⟩, le_b rfl, le_b rfl⟩ (le_b rfl) dJxc12de_init_da8c8_1 rfl (dvk0 ?_) nokx
  refine s_aload_n hC dJxc12de_init_da8c8_4 rfl rfl 0 rfl ?_
  refine s_iconst hC (v := 0) dJxc12de_init_da8c8_5 rfl (by decide) ?_
  refine s_putf hC cs_Jx4a65c 0 tw_72 (le_b rfl) rfl rfl rfl h0 hl dJxc12de_init_da8c8_6 rfl ?_
  refine s_vret hC hr dJxc12de_init_da8c8_9 (le_b rfl) (le_b rfl) ?_
  exact ⟨rfl, rfl⟩
set_option maxHeartbeats 1000000 in
set_option maxRecDepth 100000 in
theorem ct_Jx4a65c_init_da8c8 (l : Launch) (g : Gl) (ω : Wd) (al : Nat) (h0 : ω al = some (.inr (4, [.int 0, .null, .int 0]))) : CT l g yJx4a65c_init_da8c8 cJx4a65c_init_da8c8 1 none 3 60 0 0 [.ref al] ω (dv none (wup ω al (alE 0 (g.2.2.1 19) 0))) (nox) := by
  refine CT.of (own := "java/util/ArrayList") rfl rfl (le_b rfl) rfl ?_
  intro p e s m args below meth c sz0 hC hr htab hin
  refine s_aload_n hC dJx4a65c_init_da8c8_0 rfl rfl 0 rfl ?_
  refine s_callI hC (ct_Jxc12de_init_da8c8 l g ω _ _ (le_b rfl) h0) ce_Jxc12de_init_da8c8 tw_59 rfl rfl ⟨⟨le_b rfl, le_b rfl⟩, le_b rfl, le_b rfl⟩ (le_b rfl) dJx4a65c_init_da8c8_1 rfl (dvk0 ?_) nokx
  refine s_aload_n hC dJx4a65c_init_da8c8_4 rfl rfl 0 rfl ?_
  refine s_getsE hC tw_66 dJx4a65c_init_da8c8_5 rfl ?_
  refine s_putf hC cs_Jx4a65c 1 tw_68 (le_b rfl) rfl rfl rfl (wup_s _ _ _) (le_b rfl) dJx4a65c_init_da8c8_8 rfl ?_
  refine s_vret hC hr dJx4a65c_init_da8c8_11 (le_b rfl) (le_b rfl) ?_
  exact ⟨rfl, wup_wup _ _ _ _⟩
set_option maxHeartbeats 1000000 in
set_option maxRecDepth 100000 in
theorem ct_Jx4a65c_size_8abf5 (l : Launch) (g : Gl) (ω : Wd) (al ed n : Nat) (mc : Int32) (h0 : ω al = some (alE mc ed n)) : CT l g yJx4a65c_size_8abf5 cJx4a65c_size_8abf5 1 (some .int) 0 0 0 0 [.ref al] ω (dv (some (.int (nI n))) ω) (nox) := by
  refine CT.of (own := "java/util/ArrayList") rfl rfl (le_b rfl) rfl ?_
  intro p e s m args below meth c sz0 hC hr htab hin
  refine s_aload_n hC dJx4a65c_size_8abf5_0 rfl rfl 0 rfl ?_
  refine s_getf hC cs_Jx4a65c 2 tw_71 (le_b rfl) h0 rfl dJx4a65c_size_8abf5_1 rfl ?_
  refine s_iret hC hr dJx4a65c_size_8abf5_4 (le_b rfl) (le_b rfl) ?_
  exact ⟨rfl, rfl⟩
theorem nI_eq0 {n : Nat} (hn : n < 2 ^ 31) (h : nI n = 0) : n = 0 := by
  exact (nI_eq hn (by decide)).mp h
set_option maxHeartbeats 1000000 in
set_option maxRecDepth 100000 in
theorem ct_Jx4a65c_isEmpty_aae02 (l : Launch) (g : Gl) (ω : Wd) (al ed n : Nat) (mc : Int32) (h0 : ω al = some (alE mc ed n)) (hn : n < 2 ^ 31) : CT l g yJx4a65c_isEmpty_aae02 cJx4a65c_isEmpty_aae02 1 (some .boolean) 0 0 0 0 [.ref al] ω (dv (some (.int (bI (decide (n = 0))))) ω) (nox) := by
  refine CT.of (own := "java/util/ArrayList") rfl rfl (le_b rfl) rfl ?_
  intro p e s m args below meth c sz0 hC hr htab hin
  refine s_aload_n hC dJx4a65c_isEmpty_aae02_0 rfl rfl 0 rfl ?_
  refine s_getf hC cs_Jx4a65c 2 tw_71 (le_b rfl) h0 rfl dJx4a65c_isEmpty_aae02_1 rfl ?_
  refine z_if_ne hC (tgt := 11) dJx4a65c_isEmpty_aae02_4 rfl (by decide) (fun c_1 => ?_) (fun c_1 => ?_)
  · refine s_iconst hC (v := 0) dJx4a65c_isEmpty_aae02_11 rfl (by decide) ?_
    refine s_zret hC hr dJx4a65c_isEmpty_aae02_12 rfl (le_b rfl) (le_b rfl) ?_
    refine ⟨?_, rfl⟩
    first
      | (rw [decide_eq_false (fun h9 => c_1 (by rw [h9]; rfl))]; rfl)
      | (rw [decide_eq_true (nI_eq0 hn c_1)]; rfl)
  · refine s_iconst hC (v := 1) dJx4a65c_isEmpty_aae02_7 rfl (by decide) ?_
    refine s_goto hC (tgt := 12) dJx4a65c_isEmpty_aae02_8 (by decide) ?_
    refine s_zret hC hr dJx4a65c_isEmpty_aae02_12 rfl (le_b rfl) (le_b rfl) ?_
    refine ⟨?_, rfl⟩
    first
      | (rw [decide_eq_false (fun h9 => c_1 (by rw [h9]; rfl))]; rfl)
      | (rw [decide_eq_true (nI_eq0 hn c_1)]; rfl)
set_option maxHeartbeats 1000000 in
set_option maxRecDepth 100000 in
theorem ct_J3_checkIndex_8e157 (l : Launch) (g : Gl) (ω : Wd) (x y : Int32) (h0 : ¬ x < 0) (h1 : ¬ y ≤ x) : CT l g yJ3_checkIndex_8e157 cJ3_checkIndex_8e157 3 (some .int) 0 0 0 0 [.int x, .int y, .null] ω (dv (some (.int x)) ω) (nox) := by
  refine CT.of (own := "jdk/internal/util/Preconditions") rfl rfl (le_b rfl) rfl ?_
  intro p e s m args below meth c sz0 hC hr htab hin
  refine s_iload_n hC dJ3_checkIndex_8e157_0 rfl rfl 0 rfl ?_
  refine z_if_lt hC (tgt := 9) dJ3_checkIndex_8e157_1 rfl (by decide) (fun c_1 => (c_1 (Int32.not_lt.mp h0)).elim) (fun c_1 => ?_)
  refine s_iload_n hC dJ3_checkIndex_8e157_4 rfl rfl 0 rfl ?_
  refine s_iload_n hC dJ3_checkIndex_8e157_5 rfl rfl 1 rfl ?_
  refine z_icmp_lt hC (tgt := 16) dJ3_checkIndex_8e157_6 rfl (by decide) (fun c_2 => ?_) (fun c_2 => (h1 c_2).elim)
  refine s_iload_n hC dJ3_checkIndex_8e157_16 rfl rfl 0 rfl ?_
  refine s_iret hC hr dJ3_checkIndex_8e157_17 (le_b rfl) (le_b rfl) ?_
  exact ⟨rfl, rfl⟩
set_option maxHeartbeats 1000000 in
set_option maxRecDepth 100000 in
theorem ct_J15_checkIndex_7cf53 (l : Launch) (g : Gl) (ω : Wd) (x y : Int32) (h0 : ¬ x < 0) (h1 : ¬ y ≤ x) : CT l g yJ15_checkIndex_7cf53 cJ15_checkIndex_7cf53 2 (some .int) 1 22 0 0 [.int x, .int y] ω (dv (some (.int x)) ω) (nox) := by
  refine CT.of (own := "java/util/Objects") rfl rfl (le_b rfl) rfl ?_
  intro p e s m args below meth c sz0 hC hr htab hin
  refine s_iload_n hC dJ15_checkIndex_7cf53_0 rfl rfl 0 rfl ?_
  refine s_iload_n hC dJ15_checkIndex_7cf53_1 rfl rfl 1 rfl ?_
  refine s_null hC dJ15_checkIndex_7cf53_2 rfl ?_
  refine s_callS hC (ct_J3_checkIndex_8e157 l g ω _ _ h0 h1) ce_J3_checkIndex_8e157 tw_292 rfl rfl ⟨⟨le_b rfl, le_b rfl⟩, le_b rfl, le_b rfl⟩ (le_b rfl) dJ15_checkIndex_7cf53_3 rfl (dvk1 ?_) nokx
  refine s_iret hC hr dJ15_checkIndex_7cf53_6 (le_b rfl) (le_b rfl) ?_
  exact ⟨rfl, rfl⟩
set_option maxHeartbeats 1000000 in
set_option maxRecDepth 100000 in
theorem ct_Jx4a65c_elementData_915e3 (l : Launch) (g : Gl) (ω : Wd) (al ed n : Nat) (mc : Int32) (h0 : ω al = some (alE mc ed n)) (cap : Nat) (fq : Nat → Option Nat) (h1 : ω ed = some (rwE g cap fq)) (hcap : cap ≤ 163) (j v : Nat) (hj : j < cap) (hv : fq j = some v) : CT l g yJx4a65c_elementData_915e3 cJx4a65c_elementData_915e3 2 (some (.object "java/lang/Object")) 0 0 0 0 [.ref al, .int (nI j)] ω (dv (some (.ref v)) ω) (nox) := by
  refine CT.of (own := "java/util/ArrayList") rfl rfl (le_b rfl) rfl ?_
  intro p e s m args below meth c sz0 hC hr htab hin
  refine s_aload_n hC dJx4a65c_elementData_915e3_0 rfl rfl 0 rfl ?_
  refine s_getf hC cs_Jx4a65c 1 tw_68 (le_b rfl) h0 rfl dJx4a65c_elementData_915e3_1 rfl ?_
  refine s_iload_n hC dJx4a65c_elementData_915e3_4 rfl rfl 1 rfl ?_
  refine s_aaldV hC h1 (nx_in hj hcap) (by rw [nI_clamp (by omega)]; exact hv) dJx4a65c_elementData_915e3_5 rfl ?_
  refine s_aret hC hr (by first | exact Or.inl ⟨_, rfl⟩ | exact Or.inr ⟨_, rfl⟩) dJx4a65c_elementData_915e3_6 (le_b rfl) (le_b rfl) ?_
  exact ⟨rfl, rfl⟩
set_option maxHeartbeats 1000000 in
set_option maxRecDepth 100000 in
theorem ct_Jx4a65c_get_915e3 (l : Launch) (g : Gl) (ω : Wd) (al ed n : Nat) (mc : Int32) (h0 : ω al = some (alE mc ed n)) (cap : Nat) (fq : Nat → Option Nat) (h1 : ω ed = some (rwE g cap fq)) (hcap : cap ≤ 163) (j v : Nat) (hn : n ≤ cap) (hj : j < n) (hv : fq j = some v) : CT l g yJx4a65c_get_915e3 cJx4a65c_get_915e3 2 (some (.object "java/lang/Object")) 2 43 0 0 [.ref al, .int (nI j)] ω (dv (some (.ref v)) ω) (nox) := by
  refine CT.of (own := "java/util/ArrayList") rfl rfl (le_b rfl) rfl ?_
  intro p e s m args below meth c sz0 hC hr htab hin
  refine s_iload_n hC dJx4a65c_get_915e3_0 rfl rfl 1 rfl ?_
  refine s_aload_n hC dJx4a65c_get_915e3_1 rfl rfl 0 rfl ?_
  refine s_getf hC cs_Jx4a65c 2 tw_71 (le_b rfl) h0 rfl dJx4a65c_get_915e3_2 rfl ?_
  refine s_callS hC (ct_J15_checkIndex_7cf53 l g ω _ _ (Int32.not_lt.mpr (nI_pos' (by omega))) (nI_nle2 hj (by omega))) ce_J15_checkIndex_7cf53 tw_289 rfl rfl ⟨⟨le_b rfl, le_b rfl⟩, le_b rfl, le_b rfl⟩ (le_b rfl) dJx4a65c_get_915e3_5 rfl (dvk1 ?_) nokx
  refine s_pop hC dJx4a65c_get_915e3_8 rfl rfl ?_
  refine s_aload_n hC dJx4a65c_get_915e3_9 rfl rfl 0 rfl ?_
  refine s_iload_n hC dJx4a65c_get_915e3_10 rfl rfl 1 rfl ?_
  refine s_callV hC (ct_Jx4a65c_elementData_915e3 l g ω _ _ _ _ h0 _ _ h1 hcap j v (by omega) hv) ce_Jx4a65c_elementData_915e3 cs_Jx4a65c h0 tw_295 rfl rfl ⟨⟨le_b rfl, le_b rfl⟩, le_b rfl, le_b rfl⟩ (le_b rfl) dJx4a65c_get_915e3_11 rfl (dvk1 ?_) nokx
  refine s_aret hC hr (by first | exact Or.inl ⟨_, rfl⟩ | exact Or.inr ⟨_, rfl⟩) dJx4a65c_get_915e3_14 (le_b rfl) (le_b rfl) ?_
  exact ⟨rfl, rfl⟩
set_option maxHeartbeats 1000000 in
set_option maxRecDepth 100000 in
theorem ct_J8_newLength_cabcc (l : Launch) (g : Gl) (ω : Wd) (x y z : Int32) (h1 : ¬ x + iMax y z ≤ 0) (h2 : x + iMax y z ≤ 2147483639) : CT l g yJ8_newLength_cabcc cJ8_newLength_cabcc 4 (some .int) 1 21 0 0 [.int x, .int y, .int z] ω (dv (some (.int (x + iMax y z))) ω) (nox) := by
  refine CT.of (own := "jdk/internal/util/ArraysSupport") rfl rfl (le_b rfl) rfl ?_
  intro p e s m args below meth c sz0 hC hr htab hin
  refine s_iload_n hC dJ8_newLength_cabcc_0 rfl rfl 0 rfl ?_
  refine s_iload_n hC dJ8_newLength_cabcc_1 rfl rfl 1 rfl ?_
  refine s_iload_n hC dJ8_newLength_cabcc_2 rfl rfl 2 rfl ?_
  refine s_max hC tw_638 ⟨le_b rfl, le_b rfl, le_b rfl, le_b rfl⟩ dJ8_newLength_cabcc_3 rfl ?_
  refine s_iadd hC dJ8_newLength_cabcc_6 rfl ?_
  refine s_istore_n hC (L' := [(3, _), (0, _), (1, _), (2, _)]) dJ8_newLength_cabcc_7 rfl rfl (le_b rfl) rfl ?_
  refine s_iconst hC (v := 0) dJ8_newLength_cabcc_8 rfl (by decide) ?_
  refine s_iload_n hC dJ8_newLength_cabcc_9 rfl rfl 0 rfl ?_
  refine z_icmp_ge hC (tgt := 21) dJ8_newLength_cabcc_10 rfl (by decide) (fun c_1 => (h1 c_1).elim) (fun c_1 => ?_)
  refine s_iload_n hC dJ8_newLength_cabcc_13 rfl rfl 0 rfl ?_
  refine s_ldcI hC tw_639 dJ8_newLength_cabcc_14 rfl ?_
  refine z_icmp_gt hC (tgt := 21) dJ8_newLength_cabcc_16 rfl (by decide) (fun c_2 => (c_2 h2).elim) (fun c_2 => ?_)
  refine s_iload_n hC dJ8_newLength_cabcc_19 rfl rfl 0 rfl ?_
  refine s_iret hC hr dJ8_newLength_cabcc_20 (le_b rfl) (le_b rfl) ?_
  exact ⟨rfl, rfl⟩
theorem le_trans9 {a b c : Nat} (h : a ≤ b) (h2 : b ≤ c) : a ≤ c := Nat.le_trans h h2
theorem cp_min {n0 N : Nat} (h : n0 ≤ N) (hN : N ≤ 163) : iMin (nI n0) (nI N) = nI n0 := by
  unfold iMin
  rw [if_neg (fun h9 => absurd ((nI_ltI (by omega) (by omega)).mp h9) (by omega))]
set_option maxHeartbeats 1000000 in
set_option maxRecDepth 100000 in
theorem ct_J7_copyOf_6403c (l : Launch) (g : Gl) (ω : Wd) (a n0 N : Nat) (f : Nat → Option Nat) (h0 : ω a = some (rwE g n0 f)) (hn : n0 ≤ N) (hN : N ≤ 163) (hel : ∀ i : Nat, i < n0 → ∀ y : Nat, f i = some y → elt g ω y) : CT l g yJ7_copyOf_6403c cJ7_copyOf_6403c 4 (some (.array (.object "java/lang/Object"))) 1 21 1 163 [.ref a, .int (nI N), .ref (g.2.2.1 21)] ω (fun r w => ∃ q f2, r = some (.ref q) ∧ ω q = none ∧ (∀ i, i < n0 → f2 i = f i) ∧ w = wup ω q (rwE g N f2)) (nox) := by
  refine CT.of (own := "java/util/Arrays") rfl rfl (le_b rfl) rfl ?_
  intro p e s m args below meth c sz0 hC hr htab hin
  refine s_aload_n hC dJ7_copyOf_6403c_0 rfl rfl 2 rfl ?_
  refine s_ldcM hC tw_675 dJ7_copyOf_6403c_1 rfl ?_
  refine z_acmpR_ne hC (tgt := 13) dJ7_copyOf_6403c_3 rfl (by decide) (fun c_1 => (c_1 rfl).elim) (fun c_1 => ?_)
  refine s_iload_n hC dJ7_copyOf_6403c_6 rfl rfl 1 rfl ?_
  refine s_newq hC (N := N) tw_677 (Int32.not_lt.mpr (nI_pos' (by omega))) (nI_clamp (by omega)) (by omega) (le_b rfl) (by show 0 + N ≤ 163; omega) dJ7_copyOf_6403c_7 rfl (fun q_7 hq_7 => ?_)
  refine WP.widen (k1 := 1) (n1 := 163) (le_b rfl) (by omega) ?_
  refine s_goto hC (tgt := 24) dJ7_copyOf_6403c_10 (by decide) ?_
  refine s_astore_n hC (L' := [(3, _), (0, _), (1, _), (2, _)]) dJ7_copyOf_6403c_24 rfl rfl (le_b rfl) rfl ?_
  refine s_aload_n hC dJ7_copyOf_6403c_25 rfl rfl 1 rfl ?_
  refine s_iconst hC (v := 0) dJ7_copyOf_6403c_26 rfl (by decide) ?_
  refine s_aload_n hC dJ7_copyOf_6403c_27 rfl rfl 0 rfl ?_
  refine s_iconst hC (v := 0) dJ7_copyOf_6403c_28 rfl (by decide) ?_
  refine s_aload_n hC dJ7_copyOf_6403c_29 rfl rfl 1 rfl ?_
  refine s_alenQ hC ((wup_n (w_ne h0 hq_7)).trans h0) dJ7_copyOf_6403c_30 rfl ?_
  refine s_iload_n hC dJ7_copyOf_6403c_31 rfl rfl 2 rfl ?_
  refine s_min hC tw_678 ⟨le_b rfl, le_b rfl, le_b rfl, le_b rfl⟩ dJ7_copyOf_6403c_32 rfl ?_
  refine s_copyA hC ((wup_n (w_ne h0 hq_7)).trans h0) (wup_s _ _ _) (Int32.not_lt.mpr (by decide)) (Int32.not_lt.mpr (by decide)) (Int32.not_lt.mpr (by rw [cp_min hn hN]; exact nI_pos' (by omega))) (by rw [cp_min hn hN, nI_clamp (by omega)]; simp) (by rw [cp_min hn hN, nI_clamp (by omega)]; simp; omega) (fun i hi y hy => elt_new (hel i (by rw [cp_min hn hN, nI_clamp (by omega)] at hi; exact hi) y (by simpa using hy)) hq_7) tw_681 ⟨le_b rfl, le_b rfl⟩ dJ7_copyOf_6403c_35 rfl ?_
  refine s_aload_n hC dJ7_copyOf_6403c_38 rfl rfl 0 rfl ?_
  refine s_aret hC hr (by first | exact Or.inl ⟨_, rfl⟩ | exact Or.inr ⟨_, rfl⟩) dJ7_copyOf_6403c_39 (le_b rfl) (le_b rfl) ?_
  refine ⟨q_7, _, rfl, hq_7, fun i hi => ?_, wup_wup _ _ _ _⟩
  rw [cp_min hn hN, nI_clamp (by omega)]
  simp [va_cpy, hi]
set_option maxHeartbeats 1000000 in
set_option maxRecDepth 100000 in
theorem ct_J7_copyOf_1904c (l : Launch) (g : Gl) (ω : Wd) (a n0 N : Nat) (f : Nat → Option Nat) (h0 : ω a = some (rwE g n0 f)) (hn : n0 ≤ N) (hN : N ≤ 163) (hel : ∀ i : Nat, i < n0 → ∀ y : Nat, f i = some y → elt g ω y) : CT l g yJ7_copyOf_1904c cJ7_copyOf_1904c 2 (some (.array (.object "java/lang/Object"))) 2 44 1 163 [.ref a, .int (nI N)] ω (fun r w => ∃ q f2, r = some (.ref q) ∧ ω q = none ∧ (∀ i, i < n0 → f2 i = f i) ∧ w = wup ω q (rwE g N f2)) (nox) := by
  refine CT.of (own := "java/util/Arrays") rfl rfl (le_b rfl) rfl ?_
  intro p e s m args below meth c sz0 hC hr htab hin
  refine s_aload_n hC dJ7_copyOf_1904c_0 rfl rfl 0 rfl ?_
  refine s_iload_n hC dJ7_copyOf_1904c_1 rfl rfl 1 rfl ?_
  refine s_aload_n hC dJ7_copyOf_1904c_2 rfl rfl 0 rfl ?_
  refine s_getC hC h0 tw_646 ⟨le_b rfl, le_b rfl⟩ dJ7_copyOf_1904c_3 rfl ?_
  refine s_callS hC (ct_J7_copyOf_6403c l g ω _ _ _ _ h0 hn hN hel) ce_J7_copyOf_6403c tw_672 rfl rfl ⟨⟨le_b rfl, le_b rfl⟩, le_b rfl, le_b rfl⟩ (le_b rfl) dJ7_copyOf_1904c_6 rfl (fun r w h9 => ?_) nokx
  obtain ⟨q, f2, rfl, hq, h8, rfl⟩ := h9
  refine s_aret hC hr (by first | exact Or.inl ⟨_, rfl⟩ | exact Or.inr ⟨_, rfl⟩) dJ7_copyOf_1904c_9 (le_b rfl) (le_b rfl) ?_
  exact ⟨q, f2, rfl, hq, h8, rfl⟩
set_option maxHeartbeats 1000000 in
set_option maxRecDepth 100000 in
theorem ct_Jx4a65c_grow_92f84 (l : Launch) (g : Gl) (ω : Wd) (al ed n : Nat) (mc : Int32) (h0 : ω al = some (alE mc ed n)) (cap : Nat) (fq : Nat → Option Nat) (hc : cap ∈ caps) (hc9 : cap ≤ 109) (h1 : (cap = 0 ∧ ed = g.2.2.1 19) ∨ (¬ cap = 0 ∧ ω ed = some (rwE g cap fq))) (hel : ∀ i : Nat, i < cap → ∀ y : Nat, fq i = some y → elt g ω y) : CT l g yJx4a65c_grow_92f84 cJx4a65c_grow_92f84 4 (some (.array (.object "java/lang/Object"))) 3 65 1 163 [.ref al, .int (nI cap + 1)] ω (fun r w => ∃ q f2, r = some (.ref q) ∧ ω q = none ∧ (∀ i, i < cap → f2 i = fq i) ∧ w = wup (wup ω q (rwE g (nxc cap) f2)) al (alE mc q n)) (nox) := by
  refine CT.of (own := "java/util/ArrayList") rfl rfl (le_b rfl) rfl ?_
  intro p e s m args below meth c sz0 hC hr htab hin
  rcases h1 with ⟨rfl, rfl⟩ | ⟨hz, h1⟩
  · refine s_aload_n hC dJx4a65c_grow_92f84_0 rfl rfl 0 rfl ?_
    refine s_getf hC cs_Jx4a65c 1 tw_68 (le_b rfl) h0 rfl dJx4a65c_grow_92f84_1 rfl ?_
    refine s_alenE hC dJx4a65c_grow_92f84_4 rfl ?_
    refine s_istore_n hC (L' := [(2, _), (0, _), (1, _)]) dJx4a65c_grow_92f84_5 rfl rfl (le_b rfl) rfl ?_
    refine s_iload_n hC dJx4a65c_grow_92f84_6 rfl rfl 0 rfl ?_
    refine z_if_gt hC (tgt := 20) dJx4a65c_grow_92f84_7 rfl (by decide) (fun c_1 => (c_1 (by decide)).elim) (fun c_1 => ?_)
    refine s_aload_n hC dJx4a65c_grow_92f84_10 rfl rfl 1 rfl ?_
    refine s_getf hC cs_Jx4a65c 1 tw_68 (le_b rfl) h0 rfl dJx4a65c_grow_92f84_11 rfl ?_
    refine s_getsE hC tw_66 dJx4a65c_grow_92f84_14 rfl ?_
    refine z_acmpR_eq hC (tgt := 45) dJx4a65c_grow_92f84_17 rfl (by decide) (fun c_2 => ?_) (fun c_2 => (c_2 rfl).elim)
    refine s_aload_n hC dJx4a65c_grow_92f84_45 rfl rfl 1 rfl ?_
    refine s_bipush hC (v := 10) dJx4a65c_grow_92f84_46 rfl (by decide) ?_
    refine s_iload_n hC dJx4a65c_grow_92f84_48 rfl rfl 2 rfl ?_
    refine s_max hC tw_684 ⟨le_b rfl, le_b rfl, le_b rfl, le_b rfl⟩ dJx4a65c_grow_92f84_49 rfl ?_
    refine s_newq hC (N := 10) tw_685 (by decide) (by decide) (by decide) (le_b rfl) (le_b rfl) dJx4a65c_grow_92f84_52 rfl (fun q_52 hq_52 => ?_)
    refine s_dup_x1 hC dJx4a65c_grow_92f84_55 rfl rfl rfl ?_
    refine s_putf hC cs_Jx4a65c 1 tw_68 (le_b rfl) rfl rfl rfl ((wup_n (w_ne h0 hq_52)).trans h0) (le_b rfl) dJx4a65c_grow_92f84_56 rfl ?_
    refine s_aret hC hr (by first | exact Or.inl ⟨_, rfl⟩ | exact Or.inr ⟨_, rfl⟩) dJx4a65c_grow_92f84_59 (le_b rfl) (le_b rfl) ?_
    exact ⟨q_52, _, rfl, hq_52, fun i hi => absurd hi (Nat.not_lt_zero i), rfl⟩
  · refine s_aload_n hC dJx4a65c_grow_92f84_0 rfl rfl 0 rfl ?_
    refine s_getf hC cs_Jx4a65c 1 tw_68 (le_b rfl) h0 rfl dJx4a65c_grow_92f84_1 rfl ?_
    refine s_alenQ hC h1 dJx4a65c_grow_92f84_4 rfl ?_
    refine s_istore_n hC (L' := [(2, _), (0, _), (1, _)]) dJx4a65c_grow_92f84_5 rfl rfl (le_b rfl) rfl ?_
    refine s_iload_n hC dJx4a65c_grow_92f84_6 rfl rfl 0 rfl ?_
    refine z_if_gt hC (tgt := 20) dJx4a65c_grow_92f84_7 rfl (by decide) (fun c_3 => ?_) (fun c_3 => ((caps_pos cap hc hz) c_3).elim)
    refine s_iload_n hC dJx4a65c_grow_92f84_20 rfl rfl 0 rfl ?_
    refine s_iload_n hC dJx4a65c_grow_92f84_21 rfl rfl 2 rfl ?_
    refine s_iload_n hC dJx4a65c_grow_92f84_22 rfl rfl 0 rfl ?_
    refine s_isub hC dJx4a65c_grow_92f84_23 rfl ?_
    refine s_iload_n hC dJx4a65c_grow_92f84_24 rfl rfl 0 rfl ?_
    refine s_iconst hC (v := 1) dJx4a65c_grow_92f84_25 rfl (by decide) ?_
    refine s_ishr hC dJx4a65c_grow_92f84_26 rfl ?_
    refine s_callS hC (ct_J8_newLength_cabcc l g ω _ _ _ (by rw [(caps_nx cap hc hz hc9).1]; exact (caps_nx cap hc hz hc9).2.1) (by rw [(caps_nx cap hc hz hc9).1]; exact (caps_nx cap hc hz hc9).2.2.1)) ce_J8_newLength_cabcc tw_635 rfl rfl ⟨⟨le_b rfl, le_b rfl⟩, le_b rfl, le_b rfl⟩ (le_b rfl) dJx4a65c_grow_92f84_27 rfl (dvk1 ?_) nokx
    rw [(caps_nx cap hc hz hc9).1]
    refine s_istore_n hC (L' := [(3, _), (2, _), (0, _), (1, _)]) dJx4a65c_grow_92f84_30 rfl rfl (le_b rfl) rfl ?_
    refine s_aload_n hC dJx4a65c_grow_92f84_31 rfl rfl 2 rfl ?_
    refine s_aload_n hC dJx4a65c_grow_92f84_32 rfl rfl 2 rfl ?_
    refine s_getf hC cs_Jx4a65c 1 tw_68 (le_b rfl) h0 rfl dJx4a65c_grow_92f84_33 rfl ?_
    refine s_iload_n hC dJx4a65c_grow_92f84_36 rfl rfl 0 rfl ?_
    refine s_callS hC (ct_J7_copyOf_1904c l g ω _ _ (nxc cap) _ h1 (Nat.le_of_lt (caps_nx cap hc hz hc9).2.2.2.2.1) (caps_nx cap hc hz hc9).2.2.2.2.2 hel) ce_J7_copyOf_1904c tw_643 rfl rfl ⟨⟨le_b rfl, le_b rfl⟩, le_b rfl, le_b rfl⟩ (le_b rfl) dJx4a65c_grow_92f84_37 rfl (fun r w h9 => ?_) nokx
    obtain ⟨q, f2, rfl, hq, h8, rfl⟩ := h9
    refine s_dup_x1 hC dJx4a65c_grow_92f84_40 rfl rfl rfl ?_
    refine s_putf hC cs_Jx4a65c 1 tw_68 (le_b rfl) rfl rfl rfl ((wup_n (w_ne h0 hq)).trans h0) (le_b rfl) dJx4a65c_grow_92f84_41 rfl ?_
    refine s_aret hC hr (by first | exact Or.inl ⟨_, rfl⟩ | exact Or.inr ⟨_, rfl⟩) dJx4a65c_grow_92f84_44 (le_b rfl) (le_b rfl) ?_
    exact ⟨q, f2, rfl, hq, h8, rfl⟩
set_option maxHeartbeats 1000000 in
set_option maxRecDepth 100000 in
theorem ct_Jx4a65c_grow_d5877 (l : Launch) (g : Gl) (ω : Wd) (al ed n : Nat) (mc : Int32) (h0 : ω al = some (alE mc ed n)) (cap : Nat) (fq : Nat → Option Nat) (hc : cap ∈ caps) (hc9 : cap ≤ 109) (h1 : (cap = 0 ∧ ed = g.2.2.1 19) ∨ (¬ cap = 0 ∧ ω ed = some (rwE g cap fq))) (hel : ∀ i : Nat, i < cap → ∀ y : Nat, fq i = some y → elt g ω y) (hnc : n = cap) : CT l g yJx4a65c_grow_d5877 cJx4a65c_grow_d5877 1 (some (.array (.object "java/lang/Object"))) 4 88 1 163 [.ref al] ω (fun r w => ∃ q f2, r = some (.ref q) ∧ ω q = none ∧ (∀ i, i < cap → f2 i = fq i) ∧ w = wup (wup ω q (rwE g (nxc cap) f2)) al (alE mc q n)) (nox) := by
  subst hnc
  refine CT.of (own := "java/util/ArrayList") rfl rfl (le_b rfl) rfl ?_
  intro p e s m args below meth c sz0 hC hr htab hin
  refine s_aload_n hC dJx4a65c_grow_d5877_0 rfl rfl 0 rfl ?_
  refine s_aload_n hC dJx4a65c_grow_d5877_1 rfl rfl 0 rfl ?_
  refine s_getf hC cs_Jx4a65c 2 tw_71 (le_b rfl) h0 rfl dJx4a65c_grow_d5877_2 rfl ?_
  refine s_iconst hC (v := 1) dJx4a65c_grow_d5877_5 rfl (by decide) ?_
  refine s_iadd hC dJx4a65c_grow_d5877_6 rfl ?_
  refine s_callV hC (ct_Jx4a65c_grow_92f84 l g ω _ _ _ _ h0 _ _ hc hc9 h1 hel) ce_Jx4a65c_grow_92f84 cs_Jx4a65c h0 tw_631 rfl rfl ⟨⟨le_b rfl, le_b rfl⟩, le_b rfl, le_b rfl⟩ (le_b rfl) dJx4a65c_grow_d5877_7 rfl (fun r w h9 => ?_) nokx
  obtain ⟨q, f2, rfl, hq, h8, rfl⟩ := h9
  refine s_aret hC hr (by first | exact Or.inl ⟨_, rfl⟩ | exact Or.inr ⟨_, rfl⟩) dJx4a65c_grow_d5877_10 (le_b rfl) (le_b rfl) ?_
  exact ⟨q, f2, rfl, hq, h8, rfl⟩
theorem up_ok (fq : Nat → Option Nat) (n : Nat) (x : Nat) (hn : n < 2 ^ 31) : (∀ i, i < n → va_up fq (nI n).toNatClampNeg (some x) i = fq i) ∧ va_up fq (nI n).toNatClampNeg (some x) n = some x := by
  rw [nI_clamp hn]
  exact ⟨fun i hi => by simp [va_up, Nat.ne_of_lt hi], by simp [va_up]⟩
theorem nx_cap {cap n : Nat} (hc : cap ∈ caps) (hn : n = cap) (hn9 : n < 163) : nxc cap ∈ caps ∧ cap < nxc cap := by
  subst hn
  have : ∀ c ∈ caps, c < 163 → nxc c ∈ caps ∧ c < nxc c := by decide
  exact this n hc hn9
set_option maxHeartbeats 1000000 in
set_option maxRecDepth 100000 in
theorem ct_Jx4a65c_add_72be8 (l : Launch) (g : Gl) (ω : Wd) (al ed n : Nat) (mc : Int32) (h0 : ω al = some (alE mc ed n)) (cap x : Nat) (fq : Nat → Option Nat) (hc : cap ∈ caps) (hn : n ≤ cap) (hn9 : n < 163) (h1 : (cap = 0 ∧ ed = g.2.2.1 19) ∨ (¬ cap = 0 ∧ ω ed = some (rwE g cap fq))) (hx : elt g ω x) (hel : ∀ i : Nat, i < n → ∀ y : Nat, fq i = some y → elt g ω y) (hg : g.2.1 3 ≠ g.2.1 0) : CT l g yJx4a65c_add_72be8 cJx4a65c_add_72be8 4 none 5 108 1 163 [.ref al, .ref x, .ref ed, .int (nI n)] ω (fun r w => r = none ∧ ∃ ed2 cap2 f2, cap2 ∈ caps ∧ n + 1 ≤ cap2 ∧ (∀ i, i < n → f2 i = fq i) ∧ f2 n = some x ∧ (ω ed2 = none ∨ (ed2 = ed ∧ ¬ cap = 0)) ∧ w al = some (alE mc ed2 (n + 1)) ∧ w ed2 = some (rwE g cap2 f2) ∧ ∀ b, b ≠ al → b ≠ ed2 → w b = ω b) (nox) := by
  refine CT.of (own := "java/util/ArrayList") rfl rfl (le_b rfl) rfl ?_
  intro p e s m args below meth c sz0 hC hr htab hin
  rcases h1 with ⟨rfl, rfl⟩ | ⟨hz, h1⟩
  · refine s_iload_n hC dJx4a65c_add_72be8_0 rfl rfl 3 rfl ?_
    refine s_aload_n hC dJx4a65c_add_72be8_1 rfl rfl 2 rfl ?_
    refine s_alenE hC dJx4a65c_add_72be8_2 rfl ?_
    have hnc : n = 0 := by omega
    refine z_icmp_ne hC (tgt := 11) dJx4a65c_add_72be8_3 rfl (by decide) (fun c_1 => (c_1 (by rw [hnc])).elim) (fun c_1 => ?_)
    refine s_aload_n hC dJx4a65c_add_72be8_6 rfl rfl 0 rfl ?_
    refine s_callV hC (ct_Jx4a65c_grow_d5877 l g ω _ _ _ _ h0 0 fq hc (caps_109 0 hc (by omega)) (Or.inl ⟨rfl, rfl⟩) (fun i hi y hy => hel i (by omega) y hy) hnc) ce_Jx4a65c_grow_d5877 cs_Jx4a65c h0 tw_627 rfl rfl ⟨⟨le_b rfl, le_b rfl⟩, le_b rfl, le_b rfl⟩ (le_b rfl) dJx4a65c_add_72be8_7 rfl (fun r w h9 => ?_) nokx
    obtain ⟨q, f2, rfl, hq, h8, rfl⟩ := h9
    refine s_astore_n hC (L' := [(2, _), (0, _), (1, _), (3, _)]) dJx4a65c_add_72be8_10 rfl rfl (le_b rfl) rfl ?_
    refine s_aload_n hC dJx4a65c_add_72be8_11 rfl rfl 0 rfl ?_
    refine s_iload_n hC dJx4a65c_add_72be8_12 rfl rfl 3 rfl ?_
    refine s_aload_n hC dJx4a65c_add_72be8_13 rfl rfl 2 rfl ?_
    refine s_aast hC ((wup_n (Ne.symm (w_ne h0 hq))).trans (wup_s _ _ _)) (elt_up (elt_new hx hq) ((wup_n (w_ne h0 hq)).trans h0)) (vp_in_nI (by simp [nxc]; omega) (by decide)) dJx4a65c_add_72be8_14 rfl ?_
    refine s_aload_n hC dJx4a65c_add_72be8_15 rfl rfl 1 rfl ?_
    refine s_iload_n hC dJx4a65c_add_72be8_16 rfl rfl 3 rfl ?_
    refine s_iconst hC (v := 1) dJx4a65c_add_72be8_17 rfl (by decide) ?_
    refine s_iadd hC dJx4a65c_add_72be8_18 rfl ?_
    refine s_putf hC cs_Jx4a65c 2 tw_71 (le_b rfl) rfl rfl rfl ((wup_n (w_ne h0 hq)).trans (wup_s _ _ _)) (le_b rfl) dJx4a65c_add_72be8_19 rfl ?_
    refine s_vret hC hr dJx4a65c_add_72be8_22 (le_b rfl) (le_b rfl) ?_
    have hcn := nx_cap hc hnc hn9
    refine ⟨rfl, q, nxc _, _, hcn.1, by omega, fun i hi => ((up_ok f2 n x (by omega)).1 i hi).trans (h8 i (by omega)), (up_ok f2 n x (by omega)).2, Or.inl hq, ?_, ?_, ?_⟩
    · rw [wup_s, nI_1]; rfl
    · exact (wup_n (Ne.symm (w_ne h0 hq))).trans (wup_s _ _ _)
    · intro b hb hb2
      rw [wup_n hb, wup_n hb2, wup_n hb, wup_n hb2]
  · refine s_iload_n hC dJx4a65c_add_72be8_0 rfl rfl 3 rfl ?_
    refine s_aload_n hC dJx4a65c_add_72be8_1 rfl rfl 2 rfl ?_
    refine s_alenQ hC h1 dJx4a65c_add_72be8_2 rfl ?_
    refine z_icmp_ne hC (tgt := 11) dJx4a65c_add_72be8_3 rfl (by decide) (fun c_2 => ?_) (fun c_2 => ?_)
    · refine s_aload_n hC dJx4a65c_add_72be8_11 rfl rfl 2 rfl ?_
      refine s_iload_n hC dJx4a65c_add_72be8_12 rfl rfl 3 rfl ?_
      refine s_aload_n hC dJx4a65c_add_72be8_13 rfl rfl 1 rfl ?_
      have hea : ed ≠ al := fun h9 => by rw [h9, h0] at h1; cases h1
      refine s_aast hC h1 (by first | exact (elt_up (elt_new hx hq) ((wup_n (w_ne h0 hq)).trans h0)) | exact hx) (by first | exact vp_in_nI (by have := nx_cap hc hnc hn9; omega) (by have := caps_le _ (nx_cap hc hnc hn9).1; omega) | exact vp_in_nI (by have h7 : ¬ n = cap := fun h9 => c_2 (by rw [h9]); omega) (by have := caps_le cap hc; omega)) dJx4a65c_add_72be8_14 rfl ?_
      refine s_aload_n hC dJx4a65c_add_72be8_15 rfl rfl 0 rfl ?_
      refine s_iload_n hC dJx4a65c_add_72be8_16 rfl rfl 3 rfl ?_
      refine s_iconst hC (v := 1) dJx4a65c_add_72be8_17 rfl (by decide) ?_
      refine s_iadd hC dJx4a65c_add_72be8_18 rfl ?_
      refine s_putf hC cs_Jx4a65c 2 tw_71 (le_b rfl) rfl rfl rfl ((wup_n (Ne.symm hea)).trans h0) (le_b rfl) dJx4a65c_add_72be8_19 rfl ?_
      refine s_vret hC hr dJx4a65c_add_72be8_22 (le_b rfl) (le_b rfl) ?_
      refine ⟨rfl, ed, cap, _, hc, by have h7 : ¬ n = cap := fun h9 => c_2 (by rw [h9]); omega, (up_ok fq n x (by omega)).1, (up_ok fq n x (by omega)).2, Or.inr ⟨rfl, hz⟩, ?_, ?_, ?_⟩
      · rw [wup_s, nI_1]; rfl
      · exact (wup_n hea).trans (wup_s _ _ _)
      · intro b hb hb2
        rw [wup_n hb, wup_n hb2]
    · have hnc : n = cap := (nI_eq (by omega) (by have := caps_le cap hc; omega)).mp c_2
      refine s_aload_n hC dJx4a65c_add_72be8_6 rfl rfl 0 rfl ?_
      refine s_callV hC (ct_Jx4a65c_grow_d5877 l g ω _ _ _ _ h0 cap fq hc (caps_109 cap hc (by omega)) (Or.inr ⟨hz, h1⟩) (fun i hi y hy => hel i (by omega) y hy) hnc) ce_Jx4a65c_grow_d5877 cs_Jx4a65c h0 tw_627 rfl rfl ⟨⟨le_b rfl, le_b rfl⟩, le_b rfl, le_b rfl⟩ (le_b rfl) dJx4a65c_add_72be8_7 rfl (fun r w h9 => ?_) nokx
      obtain ⟨q, f2, rfl, hq, h8, rfl⟩ := h9
      refine s_astore_n hC (L' := [(2, _), (0, _), (1, _), (3, _)]) dJx4a65c_add_72be8_10 rfl rfl (le_b rfl) rfl ?_
      refine s_aload_n hC dJx4a65c_add_72be8_11 rfl rfl 0 rfl ?_
      refine s_iload_n hC dJx4a65c_add_72be8_12 rfl rfl 3 rfl ?_
      refine s_aload_n hC dJx4a65c_add_72be8_13 rfl rfl 2 rfl ?_
      have hea : ed ≠ al := fun h9 => by rw [h9, h0] at h1; cases h1
      refine s_aast hC ((wup_n (Ne.symm (w_ne h0 hq))).trans (wup_s _ _ _)) (by first | exact (elt_up (elt_new hx hq) ((wup_n (w_ne h0 hq)).trans h0)) | exact hx) (by first | exact vp_in_nI (by have := nx_cap hc hnc hn9; omega) (by have := caps_le _ (nx_cap hc hnc hn9).1; omega) | exact vp_in_nI (by have h7 : ¬ n = cap := fun h9 => c_2 (by rw [h9]); omega) (by have := caps_le cap hc; omega)) dJx4a65c_add_72be8_14 rfl ?_
      refine s_aload_n hC dJx4a65c_add_72be8_15 rfl rfl 1 rfl ?_
      refine s_iload_n hC dJx4a65c_add_72be8_16 rfl rfl 3 rfl ?_
      refine s_iconst hC (v := 1) dJx4a65c_add_72be8_17 rfl (by decide) ?_
      refine s_iadd hC dJx4a65c_add_72be8_18 rfl ?_
      refine s_putf hC cs_Jx4a65c 2 tw_71 (le_b rfl) rfl rfl rfl ((wup_n (w_ne h0 hq)).trans (wup_s _ _ _)) (le_b rfl) dJx4a65c_add_72be8_19 rfl ?_
      refine s_vret hC hr dJx4a65c_add_72be8_22 (le_b rfl) (le_b rfl) ?_
      have hcn := nx_cap hc hnc hn9
      refine ⟨rfl, q, nxc _, _, hcn.1, by omega, fun i hi => ((up_ok f2 n x (by omega)).1 i hi).trans (h8 i (by omega)), (up_ok f2 n x (by omega)).2, Or.inl hq, ?_, ?_, ?_⟩
      · rw [wup_s, nI_1]; rfl
      · exact (wup_n (Ne.symm (w_ne h0 hq))).trans (wup_s _ _ _)
      · intro b hb hb2
        rw [wup_n hb, wup_n hb2, wup_n hb, wup_n hb2]
set_option maxHeartbeats 1000000 in
set_option maxRecDepth 100000 in
theorem ct_Jx4a65c_add_9ea2d (l : Launch) (g : Gl) (ω : Wd) (al ed n : Nat) (mc : Int32) (h0 : ω al = some (alE mc ed n)) (cap x : Nat) (fq : Nat → Option Nat) (hc : cap ∈ caps) (hn : n ≤ cap) (hn9 : n < 163) (h1 : (cap = 0 ∧ ed = g.2.2.1 19) ∨ (¬ cap = 0 ∧ ω ed = some (rwE g cap fq))) (hx : elt g ω x) (hel : ∀ i : Nat, i < n → ∀ y : Nat, fq i = some y → elt g ω y) (hg : g.2.1 3 ≠ g.2.1 0) : CT l g yJx4a65c_add_9ea2d cJx4a65c_add_9ea2d 2 (some .boolean) 6 131 1 163 [.ref al, .ref x] ω (fun r w => r = some (.int 1) ∧ ∃ ed2 cap2 f2, cap2 ∈ caps ∧ n + 1 ≤ cap2 ∧ (∀ i, i < n → f2 i = fq i) ∧ f2 n = some x ∧ (ω ed2 = none ∨ (ed2 = ed ∧ ¬ cap = 0)) ∧ w al = some (alE (mc + 1) ed2 (n + 1)) ∧ w ed2 = some (rwE g cap2 f2) ∧ ∀ b, b ≠ al → b ≠ ed2 → w b = ω b) (nox) := by
  refine CT.of (own := "java/util/ArrayList") rfl rfl (le_b rfl) rfl ?_
  intro p e s m args below meth c sz0 hC hr htab hin
  refine s_aload_n hC dJx4a65c_add_9ea2d_0 rfl rfl 0 rfl ?_
  refine s_dup hC dJx4a65c_add_9ea2d_1 rfl rfl ?_
  refine s_getfR hC cs_Jx4a65c 0 tw_75 (same_mc hC) (le_b rfl) h0 rfl dJx4a65c_add_9ea2d_2 rfl ?_
  refine s_iconst hC (v := 1) dJx4a65c_add_9ea2d_5 rfl (by decide) ?_
  refine s_iadd hC dJx4a65c_add_9ea2d_6 rfl ?_
  refine s_putfR hC cs_Jx4a65c 0 tw_75 (same_mc hC) (le_b rfl) rfl rfl rfl h0 (le_b rfl) dJx4a65c_add_9ea2d_7 rfl ?_
  refine s_aload_n hC dJx4a65c_add_9ea2d_10 rfl rfl 0 rfl ?_
  refine s_aload_n hC dJx4a65c_add_9ea2d_11 rfl rfl 1 rfl ?_
  refine s_aload_n hC dJx4a65c_add_9ea2d_12 rfl rfl 0 rfl ?_
  refine s_getf hC cs_Jx4a65c 1 tw_68 (le_b rfl) (wup_s _ _ _) rfl dJx4a65c_add_9ea2d_13 rfl ?_
  refine s_aload_n hC dJx4a65c_add_9ea2d_16 rfl rfl 0 rfl ?_
  refine s_getf hC cs_Jx4a65c 2 tw_71 (le_b rfl) (wup_s _ _ _) rfl dJx4a65c_add_9ea2d_17 rfl ?_
  refine s_callV hC (ct_Jx4a65c_add_72be8 l g (wup ω al (alE (mc + 1) ed n)) _ _ _ _ (wup_s _ _ _) cap x fq hc hn hn9 (h1.imp id (fun h9 => ⟨h9.1, (wup_n (fun z => by rw [z, h0] at h9; cases h9.2)).trans h9.2⟩)) (elt_up hx h0) (fun i hi y hy => elt_up (hel i hi y hy) h0) hg) ce_Jx4a65c_add_72be8 cs_Jx4a65c (wup_s _ _ _) tw_623 rfl rfl ⟨⟨le_b rfl, le_b rfl⟩, le_b rfl, le_b rfl⟩ (le_b rfl) dJx4a65c_add_9ea2d_20 rfl (fun r w h9 => ?_) nokx
  obtain ⟨rfl, ed2, cap2, f2, a1, a2, a3, a4, a5, a6, a7, a8⟩ := h9
  refine s_iconst hC (v := 1) dJx4a65c_add_9ea2d_23 rfl (by decide) ?_
  refine s_zret hC hr dJx4a65c_add_9ea2d_24 rfl (le_b rfl) (le_b rfl) ?_
  refine ⟨rfl, ed2, cap2, f2, a1, a2, a3, a4, ?_, a6, a7, fun b hb hb2 => (a8 b hb hb2).trans (wup_n hb)⟩
  rcases a5 with a5 | a5
  · refine Or.inl ?_
    by_cases hz : ed2 = al
    · rw [hz, wup_s] at a5; cases a5
    · rw [wup_n hz] at a5; exact a5
  · exact Or.inr a5
set_option maxHeartbeats 1000000 in
set_option maxRecDepth 100000 in
theorem ct_Jx35411_init_45d68 (l : Launch) (g : Gl) (ω : Wd) (it al ed n : Nat) (mc : Int32) (h1 : ω it = some (.inr (3, [.int 0, .int 0, .int 0, .null]))) (h0 : ω al = some (alE mc ed n)) : CT l g yJx35411_init_45d68 cJx35411_init_45d68 2 none 1 20 0 0 [.ref it, .ref al] ω (dv none (wup ω it (itE 0 (-1) mc al))) (nox) := by
  have hne : it ≠ al := fun z => by rw [z, h0] at h1; cases h1
  refine CT.of (own := "java/util/ArrayList$Itr") rfl rfl (le_b rfl) rfl ?_
  intro p e s m args below meth c sz0 hC hr htab hin
  refine s_aload_n hC dJx35411_init_45d68_0 rfl rfl 0 rfl ?_
  refine s_aload_n hC dJx35411_init_45d68_1 rfl rfl 1 rfl ?_
  refine s_putF hC hin cs_Jx35411 3 tw_1511 (le_b rfl) rfl rfl rfl rfl h1 (le_b rfl) dJx35411_init_45d68_2 rfl ?_
  refine s_aload_n hC dJx35411_init_45d68_5 rfl rfl 0 rfl ?_
  refine s_objInit hC tw_1507 ⟨le_b rfl, le_b rfl⟩ dJx35411_init_45d68_6 rfl ?_
  refine s_aload_n hC dJx35411_init_45d68_9 rfl rfl 0 rfl ?_
  refine s_iconst hC (v := (-1)) dJx35411_init_45d68_10 rfl (by decide) ?_
  refine s_putf hC cs_Jx35411 1 tw_1509 (le_b rfl) rfl rfl rfl (wup_s _ _ _) (le_b rfl) dJx35411_init_45d68_11 rfl ?_
  refine s_aload_n hC dJx35411_init_45d68_14 rfl rfl 0 rfl ?_
  refine s_aload_n hC dJx35411_init_45d68_15 rfl rfl 0 rfl ?_
  refine s_getf hC cs_Jx35411 3 tw_1511 (le_b rfl) (wup_s _ _ _) rfl dJx35411_init_45d68_16 rfl ?_
  refine s_getfR hC cs_Jx4a65c 0 tw_73 (same_mc hC) (le_b rfl) ((wup_n (Ne.symm hne)).trans ((wup_n (Ne.symm hne)).trans h0)) rfl dJx35411_init_45d68_19 rfl ?_
  refine s_putf hC cs_Jx35411 2 tw_1510 (le_b rfl) rfl rfl rfl (wup_s _ _ _) (le_b rfl) dJx35411_init_45d68_22 rfl ?_
  refine s_vret hC hr dJx35411_init_45d68_25 (le_b rfl) (le_b rfl) ?_
  exact ⟨rfl, by rw [wup_wup, wup_wup]; rfl⟩
set_option maxHeartbeats 1000000 in
set_option maxRecDepth 100000 in
theorem ct_Jx4a65c_iterator_32c93 (l : Launch) (g : Gl) (ω : Wd) (al ed n : Nat) (mc : Int32) (h0 : ω al = some (alE mc ed n)) : CT l g yJx4a65c_iterator_32c93 cJx4a65c_iterator_32c93 1 (some (.object "java/util/Iterator")) 2 41 1 4 [.ref al] ω (fun r w => ∃ q, r = some (.ref q) ∧ ω q = none ∧ w = wup ω q (itE 0 (-1) mc al)) (nox) := by
  refine CT.of (own := "java/util/ArrayList") rfl rfl (le_b rfl) rfl ?_
  intro p e s m args below meth c sz0 hC hr htab hin
  refine s_new hC cs_Jx35411 (fs := [.int 0, .int 0, .int 0, .null]) tw_1502 tw_1503 tw_29 (fun j hj => by rcases (show j = 0 ∨ j = 1 ∨ j = 2 ∨ j = 3 by omega) with rfl | rfl | rfl | rfl <;> rfl) (le_b rfl) (le_b rfl) dJx4a65c_iterator_32c93_0 rfl (fun q_0 hq_0 => ?_)
  refine s_dup hC dJx4a65c_iterator_32c93_3 rfl rfl ?_
  refine s_aload_n hC dJx4a65c_iterator_32c93_4 rfl rfl 0 rfl ?_
  refine s_callI hC (ct_Jx35411_init_45d68 l g _ _ _ _ _ _ (wup_s _ _ _) ((wup_n (w_ne h0 hq_0)).trans h0)) ce_Jx35411_init_45d68 tw_1504 rfl rfl ⟨⟨le_b rfl, le_b rfl⟩, le_b rfl, le_b rfl⟩ (le_b rfl) dJx4a65c_iterator_32c93_5 rfl (dvk0 ?_) nokx
  refine s_aret hC hr (by first | exact Or.inl ⟨_, rfl⟩ | exact Or.inr ⟨_, rfl⟩) dJx4a65c_iterator_32c93_8 (le_b rfl) (le_b rfl) ?_
  exact ⟨q_0, rfl, hq_0, wup_wup _ _ _ _⟩
set_option maxHeartbeats 1000000 in
set_option maxRecDepth 100000 in
theorem ct_Jx35411_hasNext_aae02 (l : Launch) (g : Gl) (ω : Wd) (it j al ed n : Nat) (mc lr : Int32) (h1 : ω it = some (itE (nI j) lr mc al)) (h0 : ω al = some (alE mc ed n)) (hn : n ≤ 163) (hj : j ≤ n) : CT l g yJx35411_hasNext_aae02 cJx35411_hasNext_aae02 1 (some .boolean) 0 0 0 0 [.ref it] ω (dv (some (.int (bI (decide (j < n))))) ω) (nox) := by
  refine CT.of (own := "java/util/ArrayList$Itr") rfl rfl (le_b rfl) rfl ?_
  intro p e s m args below meth c sz0 hC hr htab hin
  refine s_aload_n hC dJx35411_hasNext_aae02_0 rfl rfl 0 rfl ?_
  refine s_getf hC cs_Jx35411 0 tw_1508 (le_b rfl) h1 rfl dJx35411_hasNext_aae02_1 rfl ?_
  refine s_aload_n hC dJx35411_hasNext_aae02_4 rfl rfl 0 rfl ?_
  refine s_getf hC cs_Jx35411 3 tw_1511 (le_b rfl) h1 rfl dJx35411_hasNext_aae02_5 rfl ?_
  refine s_getfN hC cs_Jx4a65c 2 tw_70 (le_b rfl) h0 rfl dJx35411_hasNext_aae02_8 rfl ?_
  refine z_icmp_eq hC (tgt := 18) dJx35411_hasNext_aae02_11 rfl (by decide) (fun c_1 => ?_) (fun c_1 => ?_)
  · refine s_iconst hC (v := 0) dJx35411_hasNext_aae02_18 rfl (by decide) ?_
    refine s_zret hC hr dJx35411_hasNext_aae02_19 rfl (le_b rfl) (le_b rfl) ?_
    refine ⟨?_, rfl⟩
    first
      | (rw [decide_eq_false (fun h9 => absurd ((nI_eq (by omega) (by omega)).mp c_1) (by omega))]; rfl)
      | (rw [decide_eq_true (by have h7 : ¬ j = n := fun h9 => c_1 (by rw [h9]); omega)]; rfl)
  · refine s_iconst hC (v := 1) dJx35411_hasNext_aae02_14 rfl (by decide) ?_
    refine s_goto hC (tgt := 19) dJx35411_hasNext_aae02_15 (by decide) ?_
    refine s_zret hC hr dJx35411_hasNext_aae02_19 rfl (le_b rfl) (le_b rfl) ?_
    refine ⟨?_, rfl⟩
    first
      | (rw [decide_eq_false (fun h9 => absurd ((nI_eq (by omega) (by omega)).mp c_1) (by omega))]; rfl)
      | (rw [decide_eq_true (by have h7 : ¬ j = n := fun h9 => c_1 (by rw [h9]); omega)]; rfl)
set_option maxHeartbeats 1000000 in
set_option maxRecDepth 100000 in
theorem ct_Jx35411_checkForComodification_da8c8 (l : Launch) (g : Gl) (ω : Wd) (it j al ed n : Nat) (mc lr : Int32) (h1 : ω it = some (itE (nI j) lr mc al)) (h0 : ω al = some (alE mc ed n)) (hn : n ≤ 163) : CT l g yJx35411_checkForComodification_da8c8 cJx35411_checkForComodification_da8c8 1 none 0 0 0 0 [.ref it] ω (dv none ω) (nox) := by
  refine CT.of (own := "java/util/ArrayList$Itr") rfl rfl (le_b rfl) rfl ?_
  intro p e s m args below meth c sz0 hC hr htab hin
  refine s_aload_n hC dJx35411_checkForComodification_da8c8_0 rfl rfl 0 rfl ?_
  refine s_getf hC cs_Jx35411 3 tw_1511 (le_b rfl) h1 rfl dJx35411_checkForComodification_da8c8_1 rfl ?_
  refine s_getfR hC cs_Jx4a65c 0 tw_73 (same_mc hC) (le_b rfl) h0 rfl dJx35411_checkForComodification_da8c8_4 rfl ?_
  refine s_aload_n hC dJx35411_checkForComodification_da8c8_7 rfl rfl 0 rfl ?_
  refine s_getf hC cs_Jx35411 2 tw_1510 (le_b rfl) h1 rfl dJx35411_checkForComodification_da8c8_8 rfl ?_
  refine z_icmp_eq hC (tgt := 22) dJx35411_checkForComodification_da8c8_11 rfl (by decide) (fun c_1 => ?_) (fun c_1 => (c_1 rfl).elim)
  refine s_vret hC hr dJx35411_checkForComodification_da8c8_22 (le_b rfl) (le_b rfl) ?_
  exact ⟨rfl, rfl⟩
set_option maxHeartbeats 1000000 in
set_option maxRecDepth 100000 in
theorem ct_Jx35411_next_0502b (l : Launch) (g : Gl) (ω : Wd) (it j al ed n : Nat) (mc lr : Int32) (h1 : ω it = some (itE (nI j) lr mc al)) (h0 : ω al = some (alE mc ed n)) (hn : n ≤ 163) (hj : j < n) (cap v : Nat) (fq : Nat → Option Nat) (h2 : ω ed = some (rwE g cap fq)) (hcap : cap ≤ 163) (hnc : n ≤ cap) (hv : fq j = some v) : CT l g yJx35411_next_0502b cJx35411_next_0502b 3 (some (.object "java/lang/Object")) 1 20 0 0 [.ref it] ω (dv (some (.ref v)) (wup ω it (itE (nI (j + 1)) (nI j) mc al))) (nox) := by
  have hne : al ≠ it := fun z => by rw [z, h1] at h0; cases h0
  have hne2 : ed ≠ it := fun z => by rw [z, h1] at h2; cases h2
  refine CT.of (own := "java/util/ArrayList$Itr") rfl rfl (le_b rfl) rfl ?_
  intro p e s m args below meth c sz0 hC hr htab hin
  refine s_aload_n hC dJx35411_next_0502b_0 rfl rfl 0 rfl ?_
  refine s_callV hC (ct_Jx35411_checkForComodification_da8c8 l g ω _ _ _ _ _ _ _ h1 h0 hn) ce_Jx35411_checkForComodification_da8c8 cs_Jx35411 h1 tw_1540 rfl rfl ⟨⟨le_b rfl, le_b rfl⟩, le_b rfl, le_b rfl⟩ (le_b rfl) dJx35411_next_0502b_1 rfl (dvk0 ?_) nokx
  refine s_aload_n hC dJx35411_next_0502b_4 rfl rfl 0 rfl ?_
  refine s_getf hC cs_Jx35411 0 tw_1508 (le_b rfl) h1 rfl dJx35411_next_0502b_5 rfl ?_
  refine s_istore_n hC (L' := [(1, _), (0, _)]) dJx35411_next_0502b_8 rfl rfl (le_b rfl) rfl ?_
  refine s_iload_n hC dJx35411_next_0502b_9 rfl rfl 0 rfl ?_
  refine s_aload_n hC dJx35411_next_0502b_10 rfl rfl 1 rfl ?_
  refine s_getf hC cs_Jx35411 3 tw_1511 (le_b rfl) h1 rfl dJx35411_next_0502b_11 rfl ?_
  refine s_getfN hC cs_Jx4a65c 2 tw_70 (le_b rfl) h0 rfl dJx35411_next_0502b_14 rfl ?_
  refine z_icmp_lt hC (tgt := 28) dJx35411_next_0502b_17 rfl (by decide) (fun c_1 => ?_) (fun c_1 => ((nI_nle2 hj (by omega)) c_1).elim)
  refine s_aload_n hC dJx35411_next_0502b_28 rfl rfl 1 rfl ?_
  refine s_getf hC cs_Jx35411 3 tw_1511 (le_b rfl) h1 rfl dJx35411_next_0502b_29 rfl ?_
  refine s_getf hC cs_Jx4a65c 1 tw_69 (le_b rfl) h0 rfl dJx35411_next_0502b_32 rfl ?_
  refine s_astore_n hC (L' := [(2, _), (1, _), (0, _)]) dJx35411_next_0502b_35 rfl rfl (le_b rfl) rfl ?_
  refine s_iload_n hC dJx35411_next_0502b_36 rfl rfl 1 rfl ?_
  refine s_aload_n hC dJx35411_next_0502b_37 rfl rfl 0 rfl ?_
  refine s_alenQ hC h2 dJx35411_next_0502b_38 rfl ?_
  refine z_icmp_lt hC (tgt := 50) dJx35411_next_0502b_39 rfl (by decide) (fun c_2 => ?_) (fun c_2 => ((nI_nle2 (Nat.lt_of_lt_of_le hj hnc) (by omega)) c_2).elim)
  refine s_aload_n hC dJx35411_next_0502b_50 rfl rfl 2 rfl ?_
  refine s_iload_n hC dJx35411_next_0502b_51 rfl rfl 1 rfl ?_
  refine s_iconst hC (v := 1) dJx35411_next_0502b_52 rfl (by decide) ?_
  refine s_iadd hC dJx35411_next_0502b_53 rfl ?_
  refine s_putf hC cs_Jx35411 0 tw_1508 (le_b rfl) rfl rfl rfl h1 (le_b rfl) dJx35411_next_0502b_54 rfl ?_
  refine s_aload_n hC dJx35411_next_0502b_57 rfl rfl 0 rfl ?_
  refine s_aload_n hC dJx35411_next_0502b_58 rfl rfl 2 rfl ?_
  refine s_iload_n hC dJx35411_next_0502b_59 rfl rfl 1 rfl ?_
  refine s_dup_x1 hC dJx35411_next_0502b_60 rfl rfl rfl ?_
  refine s_putf hC cs_Jx35411 1 tw_1509 (le_b rfl) rfl rfl rfl (wup_s _ _ _) (le_b rfl) dJx35411_next_0502b_61 rfl ?_
  refine s_aaldV hC ((wup_n hne2).trans ((wup_n hne2).trans h2)) (nx_in (Nat.lt_of_lt_of_le hj hnc) hcap) (by rw [nI_clamp (by omega)]; exact hv) dJx35411_next_0502b_64 rfl ?_
  refine s_aret hC hr (by first | exact Or.inl ⟨_, rfl⟩ | exact Or.inr ⟨_, rfl⟩) dJx35411_next_0502b_65 (le_b rfl) (le_b rfl) ?_
  exact ⟨rfl, by rw [wup_wup, nI_1]; rfl⟩
