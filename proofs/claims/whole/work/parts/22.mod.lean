abbrev mnL (ad : Iy → Nat) (y : Ey) (σ : St) : List Value := [.int y.th, .ref (ad .kinds), .ref (ad .refs), .ref (ad .depths), .ref (ad .waters), .ref (ad .bR), .ref (ad .bU), .ref (ad .bores), .ref (ad .rings), .ref (ad .wears), .ref (ad .houses), .int σ.press, .int (bI σ.foam), .int σ.pR, .int σ.pU, .int σ.hR, .int σ.hU, .int σ.seg, .int σ.pit, .int σ.mn, .ref (ad .str), .ref (ad .waits)]
section CASTI
variable {p : Program} {l : Launch} {e : Env} {R : Room} {s : State} {m : MethodId} {args : Array Value} {below : List Frame} {meth : Method} {c : Code} {cc : ByteArray} {nL : Nat} {own : String} {g : Gl} {ω0 : Wd} {sz0 : Nat} {Q : State → Prop} {ω : Wd} {k n pc pc' : Nat} {L : List (Nat × Value)} {rest : List Value} {a N : Nat} {f : Nat → Int32}
theorem s_castI (hC : Cx p l e R s m args below meth c cc nL own g ω0 sz0) {index : Nat} (hcl : Cond.classLink own index "[I" ∈ lw_tbl) (ha : ω a = some (.inl (g.2.1 0, N, .inl f))) (hdg : decode cc pc = .ok (.checkcast index, 3)) (hp : pc + 3 = pc')
    (kk : WP p l e R s m args below meth c g ω0 sz0 Q nL ω k n pc' L (.ref a :: rest)) : WP p l e R s m args below meth c g ω0 sz0 Q nL ω k n pc L (.ref a :: rest) := fun H locs ls hw hk hS hl => by
  subst hp
  exact va_castA hC.1 hC.2.1 hC.2.2.2.1 (hC.w hcl rfl) (wh_one hw ha) 0 rfl (hC.2.2.2.2.2.1.1.2 0 (g.2.1 0, .int) rfl).2 hdg (kk H locs ls hw hk hS hl)
end CASTI
def inJ (x lo hi : Int64) : Bool := decide (lo ≤ x) && decide (x ≤ hi)
set_option maxHeartbeats 1000000 in
set_option maxRecDepth 100000 in
theorem ct_X11_in (l : Launch) (g : Gl) (ω : Wd) (v9 lo9 hi9 : Int64) : CT l g yX11_in cX11_in 6 (some .boolean) 0 0 0 0 [.long v9, .long lo9, .long hi9] ω (dv (some (.int (bI (inJ v9 lo9 hi9)))) ω) (nox) := by
  refine CT.of (own := "BoringheadModel") rfl rfl (le_b rfl) rfl ?_
  intro p e s m args below meth c sz0 hC hr htab hin
  refine s_lload_n hC dX11_in_0 rfl rfl 0 rfl ?_
  refine s_lload_n hC dX11_in_1 rfl rfl 1 rfl ?_
  refine s_lcmp hC dX11_in_2 rfl ?_
  refine z_lif_lt hC (tgt := 17) dX11_in_3 rfl (by decide) (fun c_1 => ?_) (fun c_1 => ?_)
  · refine s_iconst hC (v := 0) dX11_in_17 rfl (by decide) ?_
    refine s_zret hC hr dX11_in_18 rfl (le_b rfl) (le_b rfl) ?_
    exact ⟨by simp [inJ, bI, c_1], rfl⟩
  · refine s_lload_n hC dX11_in_6 rfl rfl 0 rfl ?_
    refine s_lload hC dX11_in_7 rfl 2 rfl ?_
    refine s_lcmp hC dX11_in_9 rfl ?_
    refine z_lif_gt hC (tgt := 17) dX11_in_10 rfl (by decide) (fun c_2 => ?_) (fun c_2 => ?_)
    · refine s_iconst hC (v := 0) dX11_in_17 rfl (by decide) ?_
      refine s_zret hC hr dX11_in_18 rfl (le_b rfl) (le_b rfl) ?_
      exact ⟨by simp [inJ, bI, c_1, c_2], rfl⟩
    · refine s_iconst hC (v := 1) dX11_in_13 rfl (by decide) ?_
      refine s_goto hC (tgt := 18) dX11_in_14 (by decide) ?_
      refine s_zret hC hr dX11_in_18 rfl (le_b rfl) (le_b rfl) ?_
      exact ⟨by simp [inJ, bI, c_1, c_2], rfl⟩
set_option maxHeartbeats 1000000 in
set_option maxRecDepth 100000 in
theorem ct_X11_isPlace (l : Launch) (g : Gl) (ω : Wd) (p9 : Int32) : CT l g yX11_isPlace cX11_isPlace 1 (some .boolean) 1 25 0 0 [.int p9] ω (dv (some (.int (bI (inJ p9.toInt64 0 199)))) ω) (nox) := by
  refine CT.of (own := "BoringheadModel") rfl rfl (le_b rfl) rfl ?_
  intro p e s m args below meth c sz0 hC hr htab hin
  refine s_iload_n hC dX11_isPlace_0 rfl rfl 0 rfl ?_
  refine s_i2l hC dX11_isPlace_1 rfl rfl ?_
  refine s_lconst hC (v := 0) dX11_isPlace_2 rfl (by decide) ?_
  refine s_ldc2 hC tw_1418 dX11_isPlace_3 rfl ?_
  refine s_callS hC (ct_X11_in l g _ _ _ _) ce_X11_in tw_1419 rfl rfl ⟨⟨le_b rfl, le_b rfl⟩, le_b rfl, le_b rfl⟩ (le_b rfl) dX11_isPlace_6 rfl (dvk1 ?_) nokx
  refine s_zret hC hr dX11_isPlace_9 (bI_nz _) (le_b rfl) (le_b rfl) ?_
  exact ⟨rfl, rfl⟩
set_option maxHeartbeats 1000000 in
set_option maxRecDepth 100000 in
theorem ct_X11_thrown (l : Launch) (g : Gl) (ω : Wd) (ad : Iy → Nat) (y : Ey) (σ : St) (hR : RepM g ad y σ ω) : CT l g yX11_thrown cX11_thrown 1 (some .int) 0 0 0 0 [.ref (ad .main)] ω (dv (some (.int y.th)) ω) (nox) := by
  refine CT.of (own := "BoringheadModel") rfl rfl (le_b rfl) rfl ?_
  intro p e s m args below meth c sz0 hC hr htab hin
  refine s_aload_n hC dX11_thrown_0 rfl rfl 0 rfl ?_
  refine s_getf hC cs_X11 0 tw_1249 (le_b rfl) (RepM.f_main hR) rfl dX11_thrown_1 rfl ?_
  refine s_iret hC hr dX11_thrown_4 (le_b rfl) (le_b rfl) ?_
  exact ⟨rfl, rfl⟩
set_option maxHeartbeats 1000000 in
set_option maxRecDepth 100000 in
theorem ct_X11_begins (l : Launch) (g : Gl) (ω : Wd) (ad : Iy → Nat) (y : Ey) (σ : St) (hR : RepM g ad y σ ω) : CT l g yX11_begins cX11_begins 1 none 0 0 0 0 [.ref (ad .main)] ω (dv none (wup ω (ad .main) (.inr (16, (mnL ad y σ).set 0 (.int 0))))) (nox) := by
  refine CT.of (own := "BoringheadModel") rfl rfl (le_b rfl) rfl ?_
  intro p e s m args below meth c sz0 hC hr htab hin
  refine s_aload_n hC dX11_begins_0 rfl rfl 0 rfl ?_
  refine s_iconst hC (v := 0) dX11_begins_1 rfl (by decide) ?_
  refine s_putf hC cs_X11 0 tw_1249 (le_b rfl) rfl rfl rfl (RepM.f_main hR) (le_b rfl) dX11_begins_2 rfl ?_
  refine WP.rm (RepM.s_main_0 hR _) (fun hR_2 => ?_)
  refine s_vret hC hr dX11_begins_5 (le_b rfl) (le_b rfl) ?_
  exact ⟨rfl, rfl⟩
set_option maxHeartbeats 1000000 in
set_option maxRecDepth 100000 in
theorem ct_X11_fails_f (l : Launch) (g : Gl) (ω : Wd) (ad : Iy → Nat) (y : Ey) (σ : St) (hR : RepM g ad y σ ω) (h0 : y.th = 0) (n9 : Int32) : CT l g yX11_fails cX11_fails 3 (some .boolean) 0 0 0 0 [.ref (ad .main), .int 0, .int n9] ω (dv (some (.int 0)) ω) (nox) := by
  refine CT.of (own := "BoringheadModel") rfl rfl (le_b rfl) rfl ?_
  intro p e s m args below meth c sz0 hC hr htab hin
  refine s_aload_n hC dX11_fails_0 rfl rfl 0 rfl ?_
  refine s_getf hC cs_X11 0 tw_1249 (le_b rfl) (RepM.f_main hR) rfl dX11_fails_1 rfl ?_
  refine z_if_ne hC (tgt := 16) dX11_fails_4 rfl (by decide) (fun c_1 => (c_1 h0).elim) (fun c_1 => ?_)
  refine s_iload_n hC dX11_fails_7 rfl rfl 1 rfl ?_
  refine z_if_eq hC (tgt := 16) dX11_fails_8 rfl (by decide) (fun c_2 => ?_) (fun c_2 => ((absurd c_2 (by decide) : False)).elim)
  refine s_aload_n hC dX11_fails_16 rfl rfl 0 rfl ?_
  refine s_getf hC cs_X11 0 tw_1249 (le_b rfl) (RepM.f_main hR) rfl dX11_fails_17 rfl ?_
  refine z_if_le hC (tgt := 27) dX11_fails_20 rfl (by decide) (fun c_3 => ?_) (fun c_3 => (c_3 (by rw [h0]; decide)).elim)
  refine s_iconst hC (v := 0) dX11_fails_27 rfl (by decide) ?_
  refine s_zret hC hr dX11_fails_28 rfl (le_b rfl) (le_b rfl) ?_
  exact ⟨rfl, rfl⟩
set_option maxHeartbeats 1000000 in
set_option maxRecDepth 100000 in
theorem ct_X11_fails_t (l : Launch) (g : Gl) (ω : Wd) (ad : Iy → Nat) (y : Ey) (σ : St) (hR : RepM g ad y σ ω) (h0 : y.th = 0) (n9 : Int32) (hn : ¬ n9 ≤ 0) : CT l g yX11_fails cX11_fails 3 (some .boolean) 0 0 0 0 [.ref (ad .main), .int 1, .int n9] ω (dv (some (.int 1)) (wup ω (ad .main) (.inr (16, (mnL ad y σ).set 0 (.int n9))))) (nox) := by
  refine CT.of (own := "BoringheadModel") rfl rfl (le_b rfl) rfl ?_
  intro p e s m args below meth c sz0 hC hr htab hin
  refine s_aload_n hC dX11_fails_0 rfl rfl 0 rfl ?_
  refine s_getf hC cs_X11 0 tw_1249 (le_b rfl) (RepM.f_main hR) rfl dX11_fails_1 rfl ?_
  refine z_if_ne hC (tgt := 16) dX11_fails_4 rfl (by decide) (fun c_1 => (c_1 h0).elim) (fun c_1 => ?_)
  refine s_iload_n hC dX11_fails_7 rfl rfl 1 rfl ?_
  refine z_if_eq hC (tgt := 16) dX11_fails_8 rfl (by decide) (fun c_2 => ((absurd c_2 (by decide) : False)).elim) (fun c_2 => ?_)
  refine s_aload_n hC dX11_fails_11 rfl rfl 0 rfl ?_
  refine s_iload_n hC dX11_fails_12 rfl rfl 2 rfl ?_
  refine s_putf hC cs_X11 0 tw_1249 (le_b rfl) rfl rfl rfl (RepM.f_main hR) (le_b rfl) dX11_fails_13 rfl ?_
  refine WP.rm (RepM.s_main_0 hR _) (fun hR_13 => ?_)
  refine s_aload_n hC dX11_fails_16 rfl rfl 0 rfl ?_
  refine s_getf hC cs_X11 0 tw_1249 (le_b rfl) (RepM.f_main hR_13) rfl dX11_fails_17 rfl ?_
  refine z_if_le hC (tgt := 27) dX11_fails_20 rfl (by decide) (fun c_3 => (hn c_3).elim) (fun c_3 => ?_)
  refine s_iconst hC (v := 1) dX11_fails_23 rfl (by decide) ?_
  refine s_goto hC (tgt := 28) dX11_fails_24 (by decide) ?_
  refine s_zret hC hr dX11_fails_28 rfl (le_b rfl) (le_b rfl) ?_
  exact ⟨rfl, rfl⟩
def nsC (σ : St) (f9 t9 : Int32) (b : Bool) : Nat := if inJ f9.toInt64 0 199 = true then (if inJ t9.toInt64 0 199 = true then (if f9 ≤ t9 then (if b = true then (if nI σ.n ≤ f9 then 0 else 2) else 1) else 1) else 1) else 1
set_option maxHeartbeats 1000000 in
set_option maxRecDepth 100000 in
theorem ct_X11_noStretch (l : Launch) (g : Gl) (ω : Wd) (ad : Iy → Nat) (y : Ey) (σ : St) (hR : RepM g ad y σ ω) (hth : y.th = 0) (f9 t9 : Int32) (b : Bool) : CT l g yX11_noStretch cX11_noStretch 4 (some .boolean) 2 45 0 0 [.ref (ad .main), .int f9, .int t9, .int (bI b)] ω (fun r w => (nsC σ f9 t9 b = 0 ∧ r = some (.int 0) ∧ w = ω) ∨ (¬ nsC σ f9 t9 b = 0 ∧ r = some (.int 1) ∧ w = wup ω (ad .main) (.inr (16, (mnL ad y σ).set 0 (.int (nI (nsC σ f9 t9 b))))))) (nox) := by
  refine CT.of (own := "BoringheadModel") rfl rfl (le_b rfl) rfl ?_
  intro p e s m args below meth c sz0 hC hr htab hin
  refine s_aload_n hC dX11_noStretch_0 rfl rfl 0 rfl ?_
  refine s_iload_n hC dX11_noStretch_1 rfl rfl 1 rfl ?_
  refine s_callS hC (ct_X11_isPlace l g _ _) ce_X11_isPlace tw_1415 rfl rfl ⟨⟨le_b rfl, le_b rfl⟩, le_b rfl, le_b rfl⟩ (le_b rfl) dX11_noStretch_2 rfl (dvk1 ?_) nokx
  refine z_if_eqB hC (tgt := 24) dX11_noStretch_5 rfl (by decide) (fun c_1 => ?_) (fun c_1 => ?_)
  · refine s_iconst hC (v := 1) dX11_noStretch_24 rfl (by decide) ?_
    refine s_goto hC (tgt := 29) dX11_noStretch_25 (by decide) ?_
    refine s_iconst hC (v := 1) dX11_noStretch_29 rfl (by decide) ?_
    refine s_callV hC (ct_X11_fails_t l g _ _ _ _ hR (by first | rfl | exact hth) _ (by decide)) ce_X11_fails cs_X11 (RepM.f_main hR) tw_1422 rfl rfl ⟨⟨le_b rfl, le_b rfl⟩, le_b rfl, le_b rfl⟩ (le_b rfl) dX11_noStretch_30 rfl (dvk1 ?_) nokx
    refine WP.rm (RepM.s_main_0 hR _) (fun hR_30 => ?_)
    refine z_if_ne hC (tgt := 62) dX11_noStretch_33 rfl (by decide) (fun c_2 => ?_) (fun c_2 => ((absurd c_2 (by decide) : False)).elim)
    refine s_iconst hC (v := 1) dX11_noStretch_62 rfl (by decide) ?_
    refine s_goto hC (tgt := 67) dX11_noStretch_63 (by decide) ?_
    refine s_zret hC hr dX11_noStretch_67 rfl (le_b rfl) (le_b rfl) ?_
    first
      | exact Or.inl ⟨by simp [nsC, c_1, c_2], rfl, rfl⟩
      | exact Or.inr ⟨by simp [nsC, c_1, c_2], rfl, by rw [show nsC σ f9 t9 b = 1 by simp [nsC, c_1, c_2]]; rfl⟩
      | exact Or.inr ⟨by simp [nsC, c_1, c_2], rfl, by rw [show nsC σ f9 t9 b = 2 by simp [nsC, c_1, c_2]]; rfl⟩
  · refine s_iload_n hC dX11_noStretch_8 rfl rfl 2 rfl ?_
    refine s_callS hC (ct_X11_isPlace l g _ _) ce_X11_isPlace tw_1415 rfl rfl ⟨⟨le_b rfl, le_b rfl⟩, le_b rfl, le_b rfl⟩ (le_b rfl) dX11_noStretch_9 rfl (dvk1 ?_) nokx
    refine z_if_eqB hC (tgt := 24) dX11_noStretch_12 rfl (by decide) (fun c_3 => ?_) (fun c_3 => ?_)
    · refine s_iconst hC (v := 1) dX11_noStretch_24 rfl (by decide) ?_
      refine s_goto hC (tgt := 29) dX11_noStretch_25 (by decide) ?_
      refine s_iconst hC (v := 1) dX11_noStretch_29 rfl (by decide) ?_
      refine s_callV hC (ct_X11_fails_t l g _ _ _ _ hR (by first | rfl | exact hth) _ (by decide)) ce_X11_fails cs_X11 (RepM.f_main hR) tw_1422 rfl rfl ⟨⟨le_b rfl, le_b rfl⟩, le_b rfl, le_b rfl⟩ (le_b rfl) dX11_noStretch_30 rfl (dvk1 ?_) nokx
      refine WP.rm (RepM.s_main_0 hR _) (fun hR_30 => ?_)
      refine z_if_ne hC (tgt := 62) dX11_noStretch_33 rfl (by decide) (fun c_4 => ?_) (fun c_4 => ((absurd c_4 (by decide) : False)).elim)
      refine s_iconst hC (v := 1) dX11_noStretch_62 rfl (by decide) ?_
      refine s_goto hC (tgt := 67) dX11_noStretch_63 (by decide) ?_
      refine s_zret hC hr dX11_noStretch_67 rfl (le_b rfl) (le_b rfl) ?_
      first
        | exact Or.inl ⟨by simp [nsC, c_1, c_3, c_4], rfl, rfl⟩
        | exact Or.inr ⟨by simp [nsC, c_1, c_3, c_4], rfl, by rw [show nsC σ f9 t9 b = 1 by simp [nsC, c_1, c_3, c_4]]; rfl⟩
        | exact Or.inr ⟨by simp [nsC, c_1, c_3, c_4], rfl, by rw [show nsC σ f9 t9 b = 2 by simp [nsC, c_1, c_3, c_4]]; rfl⟩
    · refine s_iload_n hC dX11_noStretch_15 rfl rfl 2 rfl ?_
      refine s_iload_n hC dX11_noStretch_16 rfl rfl 1 rfl ?_
      refine z_icmp_lt hC (tgt := 24) dX11_noStretch_17 rfl (by decide) (fun c_5 => ?_) (fun c_5 => ?_)
      · refine s_iconst hC (v := 1) dX11_noStretch_24 rfl (by decide) ?_
        refine s_goto hC (tgt := 29) dX11_noStretch_25 (by decide) ?_
        refine s_iconst hC (v := 1) dX11_noStretch_29 rfl (by decide) ?_
        refine s_callV hC (ct_X11_fails_t l g _ _ _ _ hR (by first | rfl | exact hth) _ (by decide)) ce_X11_fails cs_X11 (RepM.f_main hR) tw_1422 rfl rfl ⟨⟨le_b rfl, le_b rfl⟩, le_b rfl, le_b rfl⟩ (le_b rfl) dX11_noStretch_30 rfl (dvk1 ?_) nokx
        refine WP.rm (RepM.s_main_0 hR _) (fun hR_30 => ?_)
        refine z_if_ne hC (tgt := 62) dX11_noStretch_33 rfl (by decide) (fun c_6 => ?_) (fun c_6 => ((absurd c_6 (by decide) : False)).elim)
        refine s_iconst hC (v := 1) dX11_noStretch_62 rfl (by decide) ?_
        refine s_goto hC (tgt := 67) dX11_noStretch_63 (by decide) ?_
        refine s_zret hC hr dX11_noStretch_67 rfl (le_b rfl) (le_b rfl) ?_
        first
          | exact Or.inl ⟨by simp [nsC, c_1, c_3, c_5, c_6], rfl, rfl⟩
          | exact Or.inr ⟨by simp [nsC, c_1, c_3, c_5, c_6], rfl, by rw [show nsC σ f9 t9 b = 1 by simp [nsC, c_1, c_3, c_5, c_6]]; rfl⟩
          | exact Or.inr ⟨by simp [nsC, c_1, c_3, c_5, c_6], rfl, by rw [show nsC σ f9 t9 b = 2 by simp [nsC, c_1, c_3, c_5, c_6]]; rfl⟩
      · refine s_iload_n hC dX11_noStretch_20 rfl rfl 3 rfl ?_
        refine z_if_neB hC (tgt := 28) dX11_noStretch_21 rfl (by decide) (fun c_7 => ?_) (fun c_7 => ?_)
        · refine s_iconst hC (v := 0) dX11_noStretch_28 rfl (by decide) ?_
          refine s_iconst hC (v := 1) dX11_noStretch_29 rfl (by decide) ?_
          refine s_callV hC (ct_X11_fails_f l g _ _ _ _ hR (by first | rfl | exact hth) _) ce_X11_fails cs_X11 (RepM.f_main hR) tw_1422 rfl rfl ⟨⟨le_b rfl, le_b rfl⟩, le_b rfl, le_b rfl⟩ (le_b rfl) dX11_noStretch_30 rfl (dvk1 ?_) nokx
          refine z_if_ne hC (tgt := 62) dX11_noStretch_33 rfl (by decide) (fun c_8 => ((absurd c_8 (by decide) : False)).elim) (fun c_8 => ?_)
          refine s_aload_n hC dX11_noStretch_36 rfl rfl 0 rfl ?_
          refine s_iload_n hC dX11_noStretch_37 rfl rfl 1 rfl ?_
          refine s_aload_n hC dX11_noStretch_38 rfl rfl 0 rfl ?_
          refine s_getf hC cs_X11 8 tw_1257 (le_b rfl) (RepM.f_main hR) rfl dX11_noStretch_39 rfl ?_
          refine s_callF hC (nA := 0) 0 (ct_Jx4a65c_size_8abf5 l g _ _ _ _ _ (RepM.f_rings hR)) rfl tw_276 tw_5 tw_274 tw_1431 (by decide +kernel) cs_Jx4a65c (RepM.f_rings hR) tw_1427 rfl rfl ⟨⟨le_b rfl, le_b rfl⟩, le_b rfl, le_b rfl⟩ (le_b rfl) dX11_noStretch_42 rfl (dvk1 ?_) nokx
          refine z_icmp_ge hC (tgt := 54) dX11_noStretch_47 rfl (by decide) (fun c_9 => ?_) (fun c_9 => ?_)
          · refine s_iconst hC (v := 0) dX11_noStretch_54 rfl (by decide) ?_
            refine s_iconst hC (v := 2) dX11_noStretch_55 rfl (by decide) ?_
            refine s_callV hC (ct_X11_fails_f l g _ _ _ _ hR (by first | rfl | exact hth) _) ce_X11_fails cs_X11 (RepM.f_main hR) tw_1422 rfl rfl ⟨⟨le_b rfl, le_b rfl⟩, le_b rfl, le_b rfl⟩ (le_b rfl) dX11_noStretch_56 rfl (dvk1 ?_) nokx
            refine z_if_eq hC (tgt := 66) dX11_noStretch_59 rfl (by decide) (fun c_10 => ?_) (fun c_10 => ((absurd c_10 (by decide) : False)).elim)
            refine s_iconst hC (v := 0) dX11_noStretch_66 rfl (by decide) ?_
            refine s_zret hC hr dX11_noStretch_67 rfl (le_b rfl) (le_b rfl) ?_
            first
              | exact Or.inl ⟨by simp [nsC, c_1, c_3, c_5, c_7, c_8, c_9, c_10], rfl, rfl⟩
              | exact Or.inr ⟨by simp [nsC, c_1, c_3, c_5, c_7, c_8, c_9, c_10], rfl, by rw [show nsC σ f9 t9 b = 1 by simp [nsC, c_1, c_3, c_5, c_7, c_8, c_9, c_10]]; rfl⟩
              | exact Or.inr ⟨by simp [nsC, c_1, c_3, c_5, c_7, c_8, c_9, c_10], rfl, by rw [show nsC σ f9 t9 b = 2 by simp [nsC, c_1, c_3, c_5, c_7, c_8, c_9, c_10]]; rfl⟩
          · refine s_iconst hC (v := 1) dX11_noStretch_50 rfl (by decide) ?_
            refine s_goto hC (tgt := 55) dX11_noStretch_51 (by decide) ?_
            refine s_iconst hC (v := 2) dX11_noStretch_55 rfl (by decide) ?_
            refine s_callV hC (ct_X11_fails_t l g _ _ _ _ hR (by first | rfl | exact hth) _ (by decide)) ce_X11_fails cs_X11 (RepM.f_main hR) tw_1422 rfl rfl ⟨⟨le_b rfl, le_b rfl⟩, le_b rfl, le_b rfl⟩ (le_b rfl) dX11_noStretch_56 rfl (dvk1 ?_) nokx
            refine WP.rm (RepM.s_main_0 hR _) (fun hR_56 => ?_)
            refine z_if_eq hC (tgt := 66) dX11_noStretch_59 rfl (by decide) (fun c_11 => ((absurd c_11 (by decide) : False)).elim) (fun c_11 => ?_)
            refine s_iconst hC (v := 1) dX11_noStretch_62 rfl (by decide) ?_
            refine s_goto hC (tgt := 67) dX11_noStretch_63 (by decide) ?_
            refine s_zret hC hr dX11_noStretch_67 rfl (le_b rfl) (le_b rfl) ?_
            first
              | exact Or.inl ⟨by simp [nsC, c_1, c_3, c_5, c_7, c_8, c_9, c_11], rfl, rfl⟩
              | exact Or.inr ⟨by simp [nsC, c_1, c_3, c_5, c_7, c_8, c_9, c_11], rfl, by rw [show nsC σ f9 t9 b = 1 by simp [nsC, c_1, c_3, c_5, c_7, c_8, c_9, c_11]]; rfl⟩
              | exact Or.inr ⟨by simp [nsC, c_1, c_3, c_5, c_7, c_8, c_9, c_11], rfl, by rw [show nsC σ f9 t9 b = 2 by simp [nsC, c_1, c_3, c_5, c_7, c_8, c_9, c_11]]; rfl⟩
        · refine s_iconst hC (v := 1) dX11_noStretch_24 rfl (by decide) ?_
          refine s_goto hC (tgt := 29) dX11_noStretch_25 (by decide) ?_
          refine s_iconst hC (v := 1) dX11_noStretch_29 rfl (by decide) ?_
          refine s_callV hC (ct_X11_fails_t l g _ _ _ _ hR (by first | rfl | exact hth) _ (by decide)) ce_X11_fails cs_X11 (RepM.f_main hR) tw_1422 rfl rfl ⟨⟨le_b rfl, le_b rfl⟩, le_b rfl, le_b rfl⟩ (le_b rfl) dX11_noStretch_30 rfl (dvk1 ?_) nokx
          refine WP.rm (RepM.s_main_0 hR _) (fun hR_30 => ?_)
          refine z_if_ne hC (tgt := 62) dX11_noStretch_33 rfl (by decide) (fun c_12 => ?_) (fun c_12 => ((absurd c_12 (by decide) : False)).elim)
          refine s_iconst hC (v := 1) dX11_noStretch_62 rfl (by decide) ?_
          refine s_goto hC (tgt := 67) dX11_noStretch_63 (by decide) ?_
          refine s_zret hC hr dX11_noStretch_67 rfl (le_b rfl) (le_b rfl) ?_
          first
            | exact Or.inl ⟨by simp [nsC, c_1, c_3, c_5, c_7, c_12], rfl, rfl⟩
            | exact Or.inr ⟨by simp [nsC, c_1, c_3, c_5, c_7, c_12], rfl, by rw [show nsC σ f9 t9 b = 1 by simp [nsC, c_1, c_3, c_5, c_7, c_12]]; rfl⟩
            | exact Or.inr ⟨by simp [nsC, c_1, c_3, c_5, c_7, c_12], rfl, by rw [show nsC σ f9 t9 b = 2 by simp [nsC, c_1, c_3, c_5, c_7, c_12]]; rfl⟩
set_option maxHeartbeats 1000000 in
set_option maxRecDepth 100000 in
theorem ct_X11_isOf_rings (l : Launch) (g : Gl) (ω : Wd) (ad : Iy → Nat) (y : Ey) (σ : St) (hR : RepM g ad y σ ω) (r9 : Int32) : CT l g yX11_isOf cX11_isOf 2 (some .boolean) 1 25 0 0 [.ref (ad .rings), .int r9] ω (dv (some (.int (bI (inJ r9.toInt64 0 (nI σ.n - 1).toInt64)))) ω) (nox) := by
  refine CT.of (own := "BoringheadModel") rfl rfl (le_b rfl) rfl ?_
  intro p e s m args below meth c sz0 hC hr htab hin
  refine s_iload_n hC dX11_isOf_0 rfl rfl 1 rfl ?_
  refine s_i2l hC dX11_isOf_1 rfl rfl ?_
  refine s_lconst hC (v := 0) dX11_isOf_2 rfl (by decide) ?_
  refine s_aload_n hC dX11_isOf_3 rfl rfl 0 rfl ?_
  refine s_callF hC (nA := 0) 0 (ct_Jx4a65c_size_8abf5 l g _ _ _ _ _ (RepM.f_rings hR)) rfl tw_276 tw_5 tw_274 tw_1431 (by decide +kernel) cs_Jx4a65c (RepM.f_rings hR) tw_1427 rfl rfl ⟨⟨le_b rfl, le_b rfl⟩, le_b rfl, le_b rfl⟩ (le_b rfl) dX11_isOf_4 rfl (dvk1 ?_) nokx
  refine s_iconst hC (v := 1) dX11_isOf_9 rfl (by decide) ?_
  refine s_isub hC dX11_isOf_10 rfl ?_
  refine s_i2l hC dX11_isOf_11 rfl rfl ?_
  refine s_callS hC (ct_X11_in l g _ _ _ _) ce_X11_in tw_1419 rfl rfl ⟨⟨le_b rfl, le_b rfl⟩, le_b rfl, le_b rfl⟩ (le_b rfl) dX11_isOf_12 rfl (dvk1 ?_) nokx
  refine s_zret hC hr dX11_isOf_15 (bI_nz _) (le_b rfl) (le_b rfl) ?_
  exact ⟨rfl, rfl⟩
set_option maxHeartbeats 1000000 in
set_option maxRecDepth 100000 in
theorem ct_X11_isOf_houses (l : Launch) (g : Gl) (ω : Wd) (ad : Iy → Nat) (y : Ey) (σ : St) (hR : RepM g ad y σ ω) (r9 : Int32) : CT l g yX11_isOf cX11_isOf 2 (some .boolean) 1 25 0 0 [.ref (ad .houses), .int r9] ω (dv (some (.int (bI (inJ r9.toInt64 0 (nI σ.nh - 1).toInt64)))) ω) (nox) := by
  refine CT.of (own := "BoringheadModel") rfl rfl (le_b rfl) rfl ?_
  intro p e s m args below meth c sz0 hC hr htab hin
  refine s_iload_n hC dX11_isOf_0 rfl rfl 1 rfl ?_
  refine s_i2l hC dX11_isOf_1 rfl rfl ?_
  refine s_lconst hC (v := 0) dX11_isOf_2 rfl (by decide) ?_
  refine s_aload_n hC dX11_isOf_3 rfl rfl 0 rfl ?_
  refine s_callF hC (nA := 0) 0 (ct_Jx4a65c_size_8abf5 l g _ _ _ _ _ (RepM.f_houses hR)) rfl tw_276 tw_5 tw_274 tw_1431 (by decide +kernel) cs_Jx4a65c (RepM.f_houses hR) tw_1427 rfl rfl ⟨⟨le_b rfl, le_b rfl⟩, le_b rfl, le_b rfl⟩ (le_b rfl) dX11_isOf_4 rfl (dvk1 ?_) nokx
  refine s_iconst hC (v := 1) dX11_isOf_9 rfl (by decide) ?_
  refine s_isub hC dX11_isOf_10 rfl ?_
  refine s_i2l hC dX11_isOf_11 rfl rfl ?_
  refine s_callS hC (ct_X11_in l g _ _ _ _) ce_X11_in tw_1419 rfl rfl ⟨⟨le_b rfl, le_b rfl⟩, le_b rfl, le_b rfl⟩ (le_b rfl) dX11_isOf_12 rfl (dvk1 ?_) nokx
  refine s_zret hC hr dX11_isOf_15 (bI_nz _) (le_b rfl) (le_b rfl) ?_
  exact ⟨rfl, rfl⟩
