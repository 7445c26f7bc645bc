section LOOPS
variable {p : Program} {l : Launch} {e : Env} {R : Room} {s : State} {m : MethodId} {args : Array Value} {below : List Frame} {meth : Method} {c : Code} {nL : Nat} {g : Gl} {ω0 : Wd} {sz0 : Nat} {Q : State → Prop} {k n pc : Nat} {st : List Value}
theorem wp_loop {σ : Type} (I : σ → Prop) (ωf : σ → Wd) (Lf : σ → List (Nat × Value)) (μ : σ → Nat) (x0 : σ) (h0 : I x0) (hs : ∀ x, I x → (∀ y, I y → μ y < μ x → WP p l e R s m args below meth c g ω0 sz0 Q nL (ωf y) k n pc (Lf y) st) → WP p l e R s m args below meth c g ω0 sz0 Q nL (ωf x) k n pc (Lf x) st) : WP p l e R s m args below meth c g ω0 sz0 Q nL (ωf x0) k n pc (Lf x0) st := by
  have key : ∀ (d : Nat) (x : σ), μ x < d → I x → WP p l e R s m args below meth c g ω0 sz0 Q nL (ωf x) k n pc (Lf x) st := by
    intro d
    induction d with
    | zero => intro x h; omega
    | succ d ih => intro x h hI; exact hs x hI (fun y hy hm => ih y (by omega) hy)
  exact key _ x0 (Nat.lt_succ_self _) h0
end LOOPS
/-- an entry of an array, 0 outside -/
def atF (N : Nat) (f : Nat → Int32) (i : Int32) : Int32 := if 0 ≤ i then (if nI N ≤ i then 0 else f i.toNatClampNeg) else 0
def atC (N : Nat) (f : Nat → Int32) (i : Int32) : Int32 := if 0 ≤ i then (if nI N ≤ i then 45 else f i.toNatClampNeg) else 45
theorem vin_of {i : Int32} {N : Nat} (hN : N < 2 ^ 31) (h0 : 0 ≤ i) (h1 : ¬ nI N ≤ i) : vp_in i N := by
  obtain ⟨j, hj, rfl⟩ := nI_of (Int32.not_lt.mpr h0)
  have hlt : j < N := by
    rcases Nat.lt_or_ge j N with h | h
    · exact h
    · exact absurd (nI_le h hj) h1
  exact vp_in_nI hlt hN
theorem nI_nle2 {j N : Nat} (h : j < N) (hN : N < 2 ^ 31) : ¬ nI N ≤ nI j := nI_ge h hN
theorem atF_in {N j : Nat} {f : Nat → Int32} (hN : N < 2 ^ 31) (hj : j < N) : atF N f (nI j) = f j := by
  unfold atF
  rw [if_pos (nI_pos' (by omega)), if_neg (nI_nle2 hj hN), nI_clamp (by omega)]
theorem atC_in {N j : Nat} {f : Nat → Int32} (hN : N < 2 ^ 31) (hj : j < N) : atC N f (nI j) = f j := by
  unfold atC
  rw [if_pos (nI_pos' (by omega)), if_neg (nI_nle2 hj hN), nI_clamp (by omega)]
theorem ar_st (g : Gl) (ω : Wd) (i : Nat) {C d D : String} {xs : List Int32} (h : stT[i]? = some (C, d, D, .int, xs)) : arI g ω (g.2.2.1 i) xs.length (stF xs) := Or.inr ⟨i, C, d, D, xs, h, rfl, rfl, rfl⟩
theorem ar_sc (g : Gl) (ω : Wd) (i : Nat) {C d D : String} {xs : List Int32} (h : stT[i]? = some (C, d, D, .char, xs)) : arC g ω (g.2.2.1 i) xs.length (stF xs) := Or.inr ⟨i, C, d, D, xs, h, rfl, rfl, rfl⟩
/-- the places a .. a+m-1 of f are v now; how many of them weren't -/
def fillN (f : Nat → Int32) (a m : Nat) (v : Int32) : Nat → Int32 := fun j => if a ≤ j ∧ j < a + m then v else f j
def cntN (f : Nat → Int32) (v : Int32) (a : Nat) : Nat → Nat
  | 0 => 0
  | m + 1 => cntN f v a m + (if f (a + m) = v then 0 else 1)
theorem fillN_0 (f : Nat → Int32) (a : Nat) (v : Int32) : fillN f a 0 v = f := by
  funext j
  unfold fillN
  rw [if_neg (by omega)]
theorem fillN_up (f : Nat → Int32) (a m : Nat) (v : Int32) : upd (fillN f a m v) (a + m) v = fillN f a (m + 1) v := by
  funext j
  unfold upd fillN
  by_cases h : j = a + m
  · rw [if_pos h, if_pos (by omega)]
  · rw [if_neg h]
    by_cases h2 : a ≤ j ∧ j < a + m
    · rw [if_pos h2, if_pos (by omega)]
    · rw [if_neg h2, if_neg (by omega)]
theorem fillN_at (f : Nat → Int32) (a m : Nat) (v : Int32) : fillN f a m v (a + m) = f (a + m) := by
  unfold fillN
  rw [if_neg (by omega)]
/-- the place of a letter, -1 without -/
def ixF (f : Nat → Int32) (c : Int32) : Nat → Nat → Int32
  | 0, _ => -1
  | n + 1, k => if f k = c then nI k else ixF f c n (k + 1)
def ixOf (xs : List Int32) (c : Int32) : Int32 := ixF (stF xs) c xs.length 0
set_option maxHeartbeats 4000000 in
set_option maxRecDepth 100000 in
theorem ct_X9_isWithin (l : Launch) (g : Gl) (ω : Wd) (x lo hi : Int32) : CT l g yX9_isWithin cX9_isWithin 3 (some .boolean) 0 0 0 0 [.int x, .int lo, .int hi] ω (dv (some (.int (bI (inR x lo hi)))) ω) (nox) := by
  refine CT.of (own := "Boringhead") rfl rfl (le_b rfl) rfl ?_
  intro p e s m args below meth c sz0 hC hr htab hin
  refine s_iload_n hC dX9_isWithin_0 rfl rfl 0 rfl ?_
  refine s_iload_n hC dX9_isWithin_1 rfl rfl 1 rfl ?_
  refine z_icmp_lt hC (tgt := 14) dX9_isWithin_2 rfl (by decide) (fun c_1 => ?_) (fun c_1 => ?_)
  · refine s_iconst hC (v := 0) dX9_isWithin_14 rfl (by decide) ?_
    refine s_zret hC hr dX9_isWithin_15 rfl (le_b rfl) (le_b rfl) ?_
    exact ⟨by simp [inR, bI, *], rfl⟩
  · refine s_iload_n hC dX9_isWithin_5 rfl rfl 0 rfl ?_
    refine s_iload_n hC dX9_isWithin_6 rfl rfl 2 rfl ?_
    refine z_icmp_gt hC (tgt := 14) dX9_isWithin_7 rfl (by decide) (fun c_2 => ?_) (fun c_2 => ?_)
    · refine s_iconst hC (v := 0) dX9_isWithin_14 rfl (by decide) ?_
      refine s_zret hC hr dX9_isWithin_15 rfl (le_b rfl) (le_b rfl) ?_
      exact ⟨by simp [inR, bI, *], rfl⟩
    · refine s_iconst hC (v := 1) dX9_isWithin_10 rfl (by decide) ?_
      refine s_goto hC (tgt := 15) dX9_isWithin_11 (by decide) ?_
      refine s_zret hC hr dX9_isWithin_15 rfl (le_b rfl) (le_b rfl) ?_
      exact ⟨by simp [inR, bI, *], rfl⟩
set_option maxHeartbeats 4000000 in
set_option maxRecDepth 100000 in
theorem ct_X9_isPlace (l : Launch) (g : Gl) (ω : Wd) (x : Int32) : CT l g yX9_isPlace cX9_isPlace 1 (some .boolean) 1 22 0 0 [.int x] ω (dv (some (.int (bI (inR x 0 199)))) ω) (nox) := by
  refine CT.of (own := "Boringhead") rfl rfl (le_b rfl) rfl ?_
  intro p e s m args below meth c sz0 hC hr htab hin
  refine s_iload_n hC dX9_isPlace_0 rfl rfl 0 rfl ?_
  refine s_iconst hC (v := 0) dX9_isPlace_1 rfl (by decide) ?_
  refine s_sipush hC (v := 199) dX9_isPlace_2 rfl (by decide) ?_
  refine s_callS hC (ct_X9_isWithin l g ω _ _ _) ce_X9_isWithin tw_447 rfl rfl ⟨⟨le_b rfl, le_b rfl⟩, le_b rfl, le_b rfl⟩ (le_b rfl) dX9_isPlace_5 rfl (dvk1 ?_) nokx
  refine s_zret hC hr dX9_isPlace_8 (bI_nz _) (le_b rfl) (le_b rfl) ?_
  exact ⟨rfl, rfl⟩
def isStr (f t : Int32) : Bool := inR f 0 199 && inR t 0 199 && decide (f ≤ t)
set_option maxHeartbeats 4000000 in
set_option maxRecDepth 100000 in
theorem ct_X9_isStretch (l : Launch) (g : Gl) (ω : Wd) (f t : Int32) : CT l g yX9_isStretch cX9_isStretch 2 (some .boolean) 2 42 0 0 [.int f, .int t] ω (dv (some (.int (bI (isStr f t)))) ω) (nox) := by
  refine CT.of (own := "Boringhead") rfl rfl (le_b rfl) rfl ?_
  intro p e s m args below meth c sz0 hC hr htab hin
  refine s_iload_n hC dX9_isStretch_0 rfl rfl 0 rfl ?_
  refine s_callS hC (ct_X9_isPlace l g ω _) ce_X9_isPlace tw_444 rfl rfl ⟨⟨le_b rfl, le_b rfl⟩, le_b rfl, le_b rfl⟩ (le_b rfl) dX9_isStretch_1 rfl (dvk1 ?_) nokx
  refine z_if_eqB hC (tgt := 23) dX9_isStretch_4 rfl (by decide) (fun c_1 => ?_) (fun c_1 => ?_)
  · refine s_iconst hC (v := 0) dX9_isStretch_23 rfl (by decide) ?_
    refine s_zret hC hr dX9_isStretch_24 rfl (le_b rfl) (le_b rfl) ?_
    exact ⟨by simp [isStr, bI, *], rfl⟩
  · refine s_iload_n hC dX9_isStretch_7 rfl rfl 1 rfl ?_
    refine s_callS hC (ct_X9_isPlace l g ω _) ce_X9_isPlace tw_444 rfl rfl ⟨⟨le_b rfl, le_b rfl⟩, le_b rfl, le_b rfl⟩ (le_b rfl) dX9_isStretch_8 rfl (dvk1 ?_) nokx
    refine z_if_eqB hC (tgt := 23) dX9_isStretch_11 rfl (by decide) (fun c_2 => ?_) (fun c_2 => ?_)
    · refine s_iconst hC (v := 0) dX9_isStretch_23 rfl (by decide) ?_
      refine s_zret hC hr dX9_isStretch_24 rfl (le_b rfl) (le_b rfl) ?_
      exact ⟨by simp [isStr, bI, *], rfl⟩
    · refine s_iload_n hC dX9_isStretch_14 rfl rfl 0 rfl ?_
      refine s_iload_n hC dX9_isStretch_15 rfl rfl 1 rfl ?_
      refine z_icmp_gt hC (tgt := 23) dX9_isStretch_16 rfl (by decide) (fun c_3 => ?_) (fun c_3 => ?_)
      · refine s_iconst hC (v := 0) dX9_isStretch_23 rfl (by decide) ?_
        refine s_zret hC hr dX9_isStretch_24 rfl (le_b rfl) (le_b rfl) ?_
        exact ⟨by simp [isStr, bI, *], rfl⟩
      · refine s_iconst hC (v := 1) dX9_isStretch_19 rfl (by decide) ?_
        refine s_goto hC (tgt := 24) dX9_isStretch_20 (by decide) ?_
        refine s_zret hC hr dX9_isStretch_24 rfl (le_b rfl) (le_b rfl) ?_
        exact ⟨by simp [isStr, bI, *], rfl⟩
set_option maxHeartbeats 4000000 in
set_option maxRecDepth 100000 in
theorem ct_X9_at (l : Launch) (g : Gl) (ω : Wd) (a N : Nat) (f : Nat → Int32) (i : Int32) (ha : arI g ω a N f) (hN : N < 2 ^ 31) : CT l g yX9_at cX9_at 2 (some .int) 0 0 0 0 [.ref a, .int i] ω (dv (some (.int (atF N f i))) ω) (nox) := by
  refine CT.of (own := "Boringhead") rfl rfl (le_b rfl) rfl ?_
  intro p e s m args below meth c sz0 hC hr htab hin
  refine s_iload_n hC dX9_at_0 rfl rfl 1 rfl ?_
  refine z_if_lt hC (tgt := 16) dX9_at_1 rfl (by decide) (fun c_1 => ?_) (fun c_1 => ?_)
  · refine s_iconst hC (v := 0) dX9_at_16 rfl (by decide) ?_
    refine s_iret hC hr dX9_at_17 (le_b rfl) (le_b rfl) ?_
    exact ⟨by simp [atF, *], rfl⟩
  · refine s_iload_n hC dX9_at_4 rfl rfl 1 rfl ?_
    refine s_aload_n hC dX9_at_5 rfl rfl 0 rfl ?_
    refine s_alenI hC ha dX9_at_6 rfl ?_
    refine z_icmp_ge hC (tgt := 16) dX9_at_7 rfl (by decide) (fun c_2 => ?_) (fun c_2 => ?_)
    · refine s_iconst hC (v := 0) dX9_at_16 rfl (by decide) ?_
      refine s_iret hC hr dX9_at_17 (le_b rfl) (le_b rfl) ?_
      exact ⟨by simp [atF, *], rfl⟩
    · refine s_aload_n hC dX9_at_10 rfl rfl 0 rfl ?_
      refine s_iload_n hC dX9_at_11 rfl rfl 1 rfl ?_
      refine s_ialdK hC ha (vin_of hN c_1 c_2) dX9_at_12 rfl ?_
      refine s_goto hC (tgt := 17) dX9_at_13 (by decide) ?_
      refine s_iret hC hr dX9_at_17 (le_b rfl) (le_b rfl) ?_
      exact ⟨by simp [atF, *], rfl⟩
set_option maxHeartbeats 4000000 in
set_option maxRecDepth 100000 in
theorem ct_X9_letterAt (l : Launch) (g : Gl) (ω : Wd) (a N : Nat) (f : Nat → Int32) (i : Int32) (ha : arC g ω a N f) (hN : N < 2 ^ 31) (hf : ∀ j, narrow .char (.int (f j)) = .int (f j)) : CT l g yX9_letterAt cX9_letterAt 2 (some .char) 0 0 0 0 [.ref a, .int i] ω (dv (some (.int (atC N f i))) ω) (nox) := by
  refine CT.of (own := "Boringhead") rfl rfl (le_b rfl) rfl ?_
  intro p e s m args below meth c sz0 hC hr htab hin
  refine s_iload_n hC dX9_letterAt_0 rfl rfl 1 rfl ?_
  refine z_if_lt hC (tgt := 16) dX9_letterAt_1 rfl (by decide) (fun c_1 => ?_) (fun c_1 => ?_)
  · refine s_bipush hC (v := 45) dX9_letterAt_16 rfl (by decide) ?_
    refine s_zret hC hr dX9_letterAt_18 (by first | rfl | exact hf _) (le_b rfl) (le_b rfl) ?_
    exact ⟨by simp [atC, *], rfl⟩
  · refine s_iload_n hC dX9_letterAt_4 rfl rfl 1 rfl ?_
    refine s_aload_n hC dX9_letterAt_5 rfl rfl 0 rfl ?_
    refine s_alenC hC ha dX9_letterAt_6 rfl ?_
    refine z_icmp_ge hC (tgt := 16) dX9_letterAt_7 rfl (by decide) (fun c_2 => ?_) (fun c_2 => ?_)
    · refine s_bipush hC (v := 45) dX9_letterAt_16 rfl (by decide) ?_
      refine s_zret hC hr dX9_letterAt_18 (by first | rfl | exact hf _) (le_b rfl) (le_b rfl) ?_
      exact ⟨by simp [atC, *], rfl⟩
    · refine s_aload_n hC dX9_letterAt_10 rfl rfl 0 rfl ?_
      refine s_iload_n hC dX9_letterAt_11 rfl rfl 1 rfl ?_
      refine s_caldK hC ha (vin_of hN c_1 c_2) dX9_letterAt_12 rfl ?_
      refine s_goto hC (tgt := 18) dX9_letterAt_13 (by decide) ?_
      refine s_zret hC hr dX9_letterAt_18 (by first | rfl | exact hf _) (le_b rfl) (le_b rfl) ?_
      exact ⟨by simp [atC, *], rfl⟩
def putW (g : Gl) (ω : Wd) (a N : Nat) (f : Nat → Int32) (i v : Int32) : Wd := if 0 ≤ i then (if nI N ≤ i then ω else wup ω a (.inl (g.2.1 0, N, .inl (upd f i.toNatClampNeg v)))) else ω
set_option maxHeartbeats 4000000 in
set_option maxRecDepth 100000 in
theorem ct_X9_put (l : Launch) (g : Gl) (ω : Wd) (a N : Nat) (f : Nat → Int32) (i v : Int32) (ha : ω a = some (.inl (g.2.1 0, N, .inl f))) (hN : N < 2 ^ 31) : CT l g yX9_put cX9_put 3 none 0 0 0 0 [.ref a, .int i, .int v] ω (dv none (putW g ω a N f i v)) (nox) := by
  refine CT.of (own := "Boringhead") rfl rfl (le_b rfl) rfl ?_
  intro p e s m args below meth c sz0 hC hr htab hin
  refine s_iload_n hC dX9_put_0 rfl rfl 1 rfl ?_
  refine z_if_lt hC (tgt := 14) dX9_put_1 rfl (by decide) (fun c_1 => ?_) (fun c_1 => ?_)
  · refine s_vret hC hr dX9_put_14 (le_b rfl) (le_b rfl) ?_
    exact ⟨rfl, by simp [putW, *]⟩
  · refine s_iload_n hC dX9_put_4 rfl rfl 1 rfl ?_
    refine s_aload_n hC dX9_put_5 rfl rfl 0 rfl ?_
    refine s_alenI hC (Or.inl ha) dX9_put_6 rfl ?_
    refine z_icmp_ge hC (tgt := 14) dX9_put_7 rfl (by decide) (fun c_2 => ?_) (fun c_2 => ?_)
    · refine s_vret hC hr dX9_put_14 (le_b rfl) (le_b rfl) ?_
      exact ⟨rfl, by simp [putW, *]⟩
    · refine s_aload_n hC dX9_put_10 rfl rfl 0 rfl ?_
      refine s_iload_n hC dX9_put_11 rfl rfl 1 rfl ?_
      refine s_iload_n hC dX9_put_12 rfl rfl 2 rfl ?_
      refine s_iast hC ha (vin_of hN c_1 c_2) dX9_put_13 rfl ?_
      refine s_vret hC hr dX9_put_14 (le_b rfl) (le_b rfl) ?_
      exact ⟨rfl, by simp [putW, *]⟩
set_option maxHeartbeats 4000000 in
set_option maxRecDepth 100000 in
theorem ct_X9_changeMinutes (l : Launch) (g : Gl) (ω : Wd) (w : Int32) : CT l g yX9_changeMinutes cX9_changeMinutes 1 (some .int) 0 0 0 0 [.int w] ω (dv (some (.int (if w ≤ 10 then 20 else if w ≤ 20 then 50 else if w ≤ 30 then 80 else 140))) ω) (nox) := by
  refine CT.of (own := "Boringhead") rfl rfl (le_b rfl) rfl ?_
  intro p e s m args below meth c sz0 hC hr htab hin
  refine s_iload_n hC dX9_changeMinutes_0 rfl rfl 0 rfl ?_
  refine s_bipush hC (v := 10) dX9_changeMinutes_1 rfl (by decide) ?_
  refine z_icmp_gt hC (tgt := 9) dX9_changeMinutes_3 rfl (by decide) (fun c_1 => ?_) (fun c_1 => ?_)
  · refine s_iload_n hC dX9_changeMinutes_9 rfl rfl 0 rfl ?_
    refine s_bipush hC (v := 20) dX9_changeMinutes_10 rfl (by decide) ?_
    refine z_icmp_gt hC (tgt := 18) dX9_changeMinutes_12 rfl (by decide) (fun c_2 => ?_) (fun c_2 => ?_)
    · refine s_iload_n hC dX9_changeMinutes_18 rfl rfl 0 rfl ?_
      refine s_bipush hC (v := 30) dX9_changeMinutes_19 rfl (by decide) ?_
      refine z_icmp_gt hC (tgt := 29) dX9_changeMinutes_21 rfl (by decide) (fun c_3 => ?_) (fun c_3 => ?_)
      · refine s_sipush hC (v := 140) dX9_changeMinutes_29 rfl (by decide) ?_
        refine s_iret hC hr dX9_changeMinutes_32 (le_b rfl) (le_b rfl) ?_
        exact ⟨by simp [*], rfl⟩
      · refine s_bipush hC (v := 80) dX9_changeMinutes_24 rfl (by decide) ?_
        refine s_goto hC (tgt := 32) dX9_changeMinutes_26 (by decide) ?_
        refine s_iret hC hr dX9_changeMinutes_32 (le_b rfl) (le_b rfl) ?_
        exact ⟨by simp [*], rfl⟩
    · refine s_bipush hC (v := 50) dX9_changeMinutes_15 rfl (by decide) ?_
      refine s_iret hC hr dX9_changeMinutes_17 (le_b rfl) (le_b rfl) ?_
      exact ⟨by simp [*], rfl⟩
  · refine s_bipush hC (v := 20) dX9_changeMinutes_6 rfl (by decide) ?_
    refine s_iret hC hr dX9_changeMinutes_8 (le_b rfl) (le_b rfl) ?_
    exact ⟨by simp [*], rfl⟩
def turnF (r i m : Int32) : Int32 := r >>> (3 * (m - 1 - i) &&& 31) &&& 7
set_option maxHeartbeats 4000000 in
set_option maxRecDepth 100000 in
theorem ct_X9_turnOf (l : Launch) (g : Gl) (ω : Wd) (r i m9 : Int32) : CT l g yX9_turnOf cX9_turnOf 3 (some .int) 0 0 0 0 [.int r, .int i, .int m9] ω (dv (some (.int (turnF r i m9))) ω) (nox) := by
  refine CT.of (own := "Boringhead") rfl rfl (le_b rfl) rfl ?_
  intro p e s m args below meth c sz0 hC hr htab hin
  refine s_iload_n hC dX9_turnOf_0 rfl rfl 0 rfl ?_
  refine s_iconst hC (v := 3) dX9_turnOf_1 rfl (by decide) ?_
  refine s_iload_n hC dX9_turnOf_2 rfl rfl 2 rfl ?_
  refine s_iconst hC (v := 1) dX9_turnOf_3 rfl (by decide) ?_
  refine s_isub hC dX9_turnOf_4 rfl ?_
  refine s_iload_n hC dX9_turnOf_5 rfl rfl 1 rfl ?_
  refine s_isub hC dX9_turnOf_6 rfl ?_
  refine s_imul hC dX9_turnOf_7 rfl ?_
  refine s_ishr hC dX9_turnOf_8 rfl ?_
  refine s_bipush hC (v := 7) dX9_turnOf_9 rfl (by decide) ?_
  refine s_iand hC dX9_turnOf_11 rfl ?_
  refine s_iret hC hr dX9_turnOf_12 (le_b rfl) (le_b rfl) ?_
  exact ⟨rfl, rfl⟩
theorem fill_0 {x : Nat} (h : x < 2 ^ 31) : iMax (nI x) 0 = nI x := by
  unfold iMax
  rw [if_neg (nI_pos h)]
set_option maxHeartbeats 4000000 in
set_option maxRecDepth 100000 in
theorem ct_X9_fill (l : Launch) (g : Gl) (ω : Wd) (a N x y : Nat) (f : Nat → Int32) (v : Int32) (ha : ω a = some (.inl (g.2.1 0, N, .inl f))) (hN : N < 2 ^ 30) (hxy : x ≤ y) (hy : y < N) : CT l g yX9_fill cX9_fill 6 (some .int) 1 21 0 0 [.ref a, .int (nI x), .int (nI y), .int v] ω (dv (some (.int (nI (cntN f v x (y + 1 - x))))) (wup ω a (.inl (g.2.1 0, N, .inl (fillN f x (y + 1 - x) v))))) (nox) := by
  refine CT.of (own := "Boringhead") rfl rfl (le_b rfl) rfl ?_
  intro p e s m args below meth c sz0 hC hr htab hin
  have hmx : iMax (nI x) 0 = nI (x + 0) := fill_0 (by omega)
  refine s_iconst hC (v := 0) dX9_fill_0 rfl (by decide) ?_
  refine s_istore hC (L' := [(4, _), (0, _), (1, _), (2, _), (3, _)]) dX9_fill_1 rfl (le_b rfl) rfl ?_
  refine s_iload_n hC dX9_fill_3 rfl rfl 2 rfl ?_
  refine s_iconst hC (v := 0) dX9_fill_4 rfl (by decide) ?_
  refine s_max hC tw_544 ⟨le_b rfl, le_b rfl, le_b rfl, le_b rfl⟩ dX9_fill_5 rfl ?_
  refine s_istore hC (L' := [(5, _), (4, _), (0, _), (1, _), (2, _), (3, _)]) dX9_fill_8 rfl (le_b rfl) rfl ?_
  refine WP.sub (L' := [(0, _), (2, _), (3, _), (4, _), (5, _)]) [2, 4, 5, 1, 0] rfl ?_
  refine wp_loop (σ := Int32 × Int32 × Wd × Nat) (I := fun (o, i, W, j) => j ≤ y + 1 - x ∧ i = nI (x + j) ∧ o = nI (cntN f v x j) ∧ W = wup ω a (.inl (g.2.1 0, N, .inl (fillN f x j v)))) (ωf := fun (o, i, W, j) => W) (Lf := fun (o, i, W, j) => [(0, .ref a), (2, .int (nI y)), (3, .int v), (4, .int o), (5, .int i)]) (μ := fun (o, i, W, j) => y + 1 - x - j) (x0 := (_, _, _, 0)) ?_ ?_
  · exact ⟨Nat.zero_le _, hmx, rfl, by rw [fillN_0, wup_self ha]⟩
  · rintro ⟨o, i, W, j⟩ hI ih
    dsimp only at hI ih ⊢
    obtain ⟨hj, rfl, rfl, rfl⟩ := hI
    have hin9 : nI (x + j) ≤ nI y → j < y + 1 - x ∧ vp_in (nI (x + j)) N := fun h => by
      have h2 := (nI_leI (by omega) (by omega)).mp h
      exact ⟨by omega, vp_in_nI (by omega) (by omega)⟩
    refine s_iload hC dX9_fill_10 rfl 4 rfl ?_
    refine s_iload_n hC dX9_fill_12 rfl rfl 1 rfl ?_
    refine z_icmp_gt hC (tgt := 45) dX9_fill_13 rfl (by decide) (fun c_1 => ?_) (fun c_1 => ?_)
    · refine s_iload hC dX9_fill_45 rfl 3 rfl ?_
      refine s_iret hC hr dX9_fill_47 (le_b rfl) (le_b rfl) ?_
      obtain rfl : j = y + 1 - x := by
        have : ¬ x + j ≤ y := fun h => c_1 (nI_le h (by omega))
        omega
      exact ⟨rfl, rfl⟩
    · refine s_iload hC dX9_fill_16 rfl 4 rfl ?_
      refine s_aload_n hC dX9_fill_18 rfl rfl 0 rfl ?_
      refine s_alenI hC (Or.inl (wup_s _ _ _)) dX9_fill_19 rfl ?_
      refine z_icmp_ge hC (tgt := 45) dX9_fill_20 rfl (by decide) (fun c_2 => ?_) (fun c_2 => ?_)
      · refine s_iload hC dX9_fill_45 rfl 3 rfl ?_
        refine s_iret hC hr dX9_fill_47 (le_b rfl) (le_b rfl) ?_
        exact absurd c_2 (nI_nle2 (by have := hin9 c_1; omega) (by omega))
      · refine s_aload_n hC dX9_fill_23 rfl rfl 0 rfl ?_
        refine s_iload hC dX9_fill_24 rfl 4 rfl ?_
        refine s_ialdK hC (Or.inl (wup_s _ _ _)) (hin9 c_1).2 dX9_fill_26 rfl ?_
        refine s_iload_n hC dX9_fill_27 rfl rfl 2 rfl ?_
        refine z_icmp_eq hC (tgt := 34) dX9_fill_28 rfl (by decide) (fun c_3 => ?_) (fun c_3 => ?_)
        · refine s_aload_n hC dX9_fill_34 rfl rfl 0 rfl ?_
          refine s_iload hC dX9_fill_35 rfl 4 rfl ?_
          refine s_iload_n hC dX9_fill_37 rfl rfl 2 rfl ?_
          refine s_iast hC (wup_s _ _ _) (hin9 c_1).2 dX9_fill_38 rfl ?_
          refine s_iinc hC (v := _ + 1) (j9 := 4) (L' := [(5, _), (0, _), (2, _), (3, _), (4, _)]) dX9_fill_39 rfl rfl rfl (le_b rfl) rfl ?_
          refine s_goto hC (tgt := 10) dX9_fill_42 (by decide) ?_
          refine WP.sub (L' := [(0, _), (2, _), (3, _), (4, _), (5, _)]) [1, 2, 3, 4, 0] rfl ?_
          refine ih (_, _, (wup _ _ _), j + 1) ?_ ?_
          · dsimp only
            have h9 := hin9 c_1
            refine ⟨by omega, nI_1 (x + j), ?_, by rw [wup_wup, nI_clamp (by omega), fillN_up]⟩
            rw [nI_clamp (by omega), fillN_at] at c_3
            first
              | (rw [cntN, if_pos c_3]; rfl)
              | (rw [cntN, if_neg c_3, nI_1])
          · dsimp only
            have h9 := hin9 c_1; omega
        · refine s_iinc hC (v := _ + 1) (j9 := 3) (L' := [(4, _), (0, _), (2, _), (3, _), (5, _)]) dX9_fill_31 rfl rfl rfl (le_b rfl) rfl ?_
          refine s_aload_n hC dX9_fill_34 rfl rfl 1 rfl ?_
          refine s_iload hC dX9_fill_35 rfl 4 rfl ?_
          refine s_iload_n hC dX9_fill_37 rfl rfl 3 rfl ?_
          refine s_iast hC (wup_s _ _ _) (hin9 c_1).2 dX9_fill_38 rfl ?_
          refine s_iinc hC (v := _ + 1) (j9 := 4) (L' := [(5, _), (4, _), (0, _), (2, _), (3, _)]) dX9_fill_39 rfl rfl rfl (le_b rfl) rfl ?_
          refine s_goto hC (tgt := 10) dX9_fill_42 (by decide) ?_
          refine WP.sub (L' := [(0, _), (2, _), (3, _), (4, _), (5, _)]) [2, 3, 4, 1, 0] rfl ?_
          refine ih (_, _, (wup _ _ _), j + 1) ?_ ?_
          · dsimp only
            have h9 := hin9 c_1
            refine ⟨by omega, nI_1 (x + j), ?_, by rw [wup_wup, nI_clamp (by omega), fillN_up]⟩
            rw [nI_clamp (by omega), fillN_at] at c_3
            first
              | (rw [cntN, if_pos c_3]; rfl)
              | (rw [cntN, if_neg c_3, nI_1])
          · dsimp only
            have h9 := hin9 c_1; omega
set_option maxHeartbeats 4000000 in
set_option maxRecDepth 100000 in
theorem ct_X9_indexIn (l : Launch) (g : Gl) (ω : Wd) (a N : Nat) (f : Nat → Int32) (c9 : Int32) (ha : arC g ω a N f) (hN : N < 2 ^ 30) : CT l g yX9_indexIn cX9_indexIn 3 (some .int) 0 0 0 0 [.ref a, .int c9] ω (dv (some (.int (ixF f c9 N 0))) ω) (nox) := by
  refine CT.of (own := "Boringhead") rfl rfl (le_b rfl) rfl ?_
  intro p e s m args below meth c sz0 hC hr htab hin
  refine s_iconst hC (v := 0) dX9_indexIn_0 rfl (by decide) ?_
  refine s_istore_n hC (L' := [(2, _), (0, _), (1, _)]) dX9_indexIn_1 rfl rfl (le_b rfl) rfl ?_
  refine WP.sub (L' := [(0, _), (1, _), (2, _)]) [1, 2, 0] rfl ?_
  refine wp_loop (σ := Int32 × Nat) (I := fun (i, j) => i = nI j ∧ j ≤ N ∧ ixF f c9 N 0 = ixF f c9 (N - j) j) (ωf := fun (i, j) => ω) (Lf := fun (i, j) => [(0, .ref a), (1, .int c9), (2, .int i)]) (μ := fun (i, j) => N - j) (x0 := (_, 0)) ?_ ?_
  · exact ⟨rfl, Nat.zero_le _, rfl⟩
  · rintro ⟨i, j⟩ hI ih
    dsimp only at hI ih ⊢
    obtain ⟨rfl, hj, he⟩ := hI
    have hin9 : ¬ nI N ≤ nI j → j < N := fun h => by
      rcases Nat.lt_or_ge j N with h2 | h2
      · exact h2
      · exact absurd (nI_le h2 (by omega)) h
    refine s_iload_n hC dX9_indexIn_2 rfl rfl 2 rfl ?_
    refine s_aload_n hC dX9_indexIn_3 rfl rfl 0 rfl ?_
    refine s_alenC hC ha dX9_indexIn_4 rfl ?_
    refine z_icmp_ge hC (tgt := 23) dX9_indexIn_5 rfl (by decide) (fun c_1 => ?_) (fun c_1 => ?_)
    · refine s_iconst hC (v := (-1)) dX9_indexIn_23 rfl (by decide) ?_
      refine s_iret hC hr dX9_indexIn_24 (le_b rfl) (le_b rfl) ?_
      have hj9 : N = j := by
        rcases Nat.lt_or_ge j N with h2 | h2
        · exact absurd c_1 (nI_nle2 h2 (by omega))
        · omega
      refine ⟨?_, rfl⟩
      rw [he, hj9, Nat.sub_self]
      rfl
    · refine s_aload_n hC dX9_indexIn_8 rfl rfl 0 rfl ?_
      refine s_iload_n hC dX9_indexIn_9 rfl rfl 2 rfl ?_
      refine s_caldK hC ha (vp_in_nI (hin9 c_1) (by omega)) dX9_indexIn_10 rfl ?_
      refine s_iload_n hC dX9_indexIn_11 rfl rfl 1 rfl ?_
      refine z_icmp_ne hC (tgt := 17) dX9_indexIn_12 rfl (by decide) (fun c_2 => ?_) (fun c_2 => ?_)
      · refine s_iinc hC (v := _ + 1) (j9 := 2) (L' := [(2, _), (0, _), (1, _)]) dX9_indexIn_17 rfl rfl rfl (le_b rfl) rfl ?_
        refine s_goto hC (tgt := 2) dX9_indexIn_20 (by decide) ?_
        refine WP.sub (L' := [(0, _), (1, _), (2, _)]) [1, 2, 0] rfl ?_
        refine ih (_, j + 1) ?_ ?_
        · dsimp only
          have h9 := hin9 c_1
          refine ⟨nI_1 j, by omega, ?_⟩
          rw [nI_clamp (by omega)] at c_2
          rw [he, show N - j = (N - (j + 1)) + 1 by omega, ixF, if_neg c_2]
        · dsimp only
          have h9 := hin9 c_1; omega
      · refine s_iload_n hC dX9_indexIn_15 rfl rfl 2 rfl ?_
        refine s_iret hC hr dX9_indexIn_16 (le_b rfl) (le_b rfl) ?_
        have h9 := hin9 c_1
        refine ⟨?_, rfl⟩
        rw [nI_clamp (by omega)] at c_2
        rw [he, show N - j = (N - (j + 1)) + 1 by omega, ixF, if_pos c_2]
/-- the muck of a ring -/
def muckF (kd fo : Int32) : Int32 := 50 * (atF 4 (stF [130, 120, 160, 140]) kd + (if fo = 0 then 0 else 10)) / 100
set_option maxHeartbeats 4000000 in
set_option maxRecDepth 100000 in
theorem ct_X9_muckOf (l : Launch) (g : Gl) (ω : Wd) (kd fo : Int32) : CT l g yX9_muckOf cX9_muckOf 3 (some .int) 1 21 0 0 [.int kd, .int fo] ω (dv (some (.int (muckF kd fo))) ω) (nox) := by
  refine CT.of (own := "Boringhead") rfl rfl (le_b rfl) rfl ?_
  intro p e s m args below meth c sz0 hC hr htab hin
  refine s_gets hC 4 rfl tw_385 dX9_muckOf_0 rfl ?_
  refine s_iload_n hC dX9_muckOf_3 rfl rfl 0 rfl ?_
  refine s_callS hC (ct_X9_at l g ω _ _ _ _ (ar_st g ω 4 rfl) (by decide)) ce_X9_at tw_367 rfl rfl ⟨⟨le_b rfl, le_b rfl⟩, le_b rfl, le_b rfl⟩ (le_b rfl) dX9_muckOf_4 rfl (dvk1 ?_) nokx
  refine s_iload_n hC dX9_muckOf_7 rfl rfl 1 rfl ?_
  refine z_if_eq hC (tgt := 16) dX9_muckOf_8 rfl (by decide) (fun c_1 => ?_) (fun c_1 => ?_)
  · refine s_iconst hC (v := 0) dX9_muckOf_16 rfl (by decide) ?_
    refine s_iadd hC dX9_muckOf_17 rfl ?_
    refine s_istore_n hC (L' := [(2, _), (0, _), (1, _)]) dX9_muckOf_18 rfl rfl (le_b rfl) rfl ?_
    refine s_bipush hC (v := 50) dX9_muckOf_19 rfl (by decide) ?_
    refine s_iload_n hC dX9_muckOf_21 rfl rfl 0 rfl ?_
    refine s_imul hC dX9_muckOf_22 rfl ?_
    refine s_bipush hC (v := 100) dX9_muckOf_23 rfl (by decide) ?_
    refine s_idiv hC dX9_muckOf_25 rfl (by decide) ?_
    refine s_iret hC hr dX9_muckOf_26 (le_b rfl) (le_b rfl) ?_
    exact ⟨by simp [muckF, *], rfl⟩
  · refine s_bipush hC (v := 10) dX9_muckOf_11 rfl (by decide) ?_
    refine s_goto hC (tgt := 17) dX9_muckOf_13 (by decide) ?_
    refine s_iadd hC dX9_muckOf_17 rfl ?_
    refine s_istore_n hC (L' := [(2, _), (0, _), (1, _)]) dX9_muckOf_18 rfl rfl (le_b rfl) rfl ?_
    refine s_bipush hC (v := 50) dX9_muckOf_19 rfl (by decide) ?_
    refine s_iload_n hC dX9_muckOf_21 rfl rfl 0 rfl ?_
    refine s_imul hC dX9_muckOf_22 rfl ?_
    refine s_bipush hC (v := 100) dX9_muckOf_23 rfl (by decide) ?_
    refine s_idiv hC dX9_muckOf_25 rfl (by decide) ?_
    refine s_iret hC hr dX9_muckOf_26 (le_b rfl) (le_b rfl) ?_
    exact ⟨by simp [muckF, *], rfl⟩
