/-! the start: constructors -/
section CTOR
variable {p : Program} {l : Launch} {e : Env} {R : Room} {s : State} {m : MethodId} {args : Array Value} {below : List Frame} {meth : Method} {c : Code} {cc : ByteArray} {nL : Nat} {own : String} {g : Gl} {ω0 : Wd} {sz0 : Nat} {Q : State → Prop} {ω : Wd} {k n pc pc' : Nat} {L : List (Nat × Value)} {rest : List Value}
theorem clC_fit : ∀ i, i < 7 → fits .char (.int (stF [103, 112, 99, 115, 109, 119, 104] i)) = true := by decide +kernel
theorem s_cloneC (hC : Cx p l e R s m args below meth c cc nL own g ω0 sz0) {index : Nat} (hlink : Cond.methodLink own index ⟨"[C", "clone", "()Ljava/lang/Object;"⟩ ∈ lw_tbl) (hR : 1 ≤ R.frames ∧ (rest.map fun v => v.category).sum + 14 ≤ R.locals) (hcells : k + 1 ≤ R.cells) (hslots : n + 7 ≤ R.slots) (hdg : decode cc pc = .ok (.invokevirtual index, 3)) (hp : pc + 3 = pc')
    (kk : ∀ q, ω q = none → WP p l e R s m args below meth c g ω0 sz0 Q nL (wup ω q (.inl (g.2.1 1, 7, .inl (stF [103, 112, 99, 115, 109, 119, 104])))) (k + 1) (n + 7) pc' L (.ref q :: rest)) : WP p l e R s m args below meth c g ω0 sz0 Q nL ω k n pc L (.ref (g.2.2.1 9) :: rest) := fun H locs ls hw hk hS hl => by
  subst hp
  obtain ⟨ws, hP, hD, -, -, h3⟩ := wh_all hw
  obtain ⟨cell, z1, z2, z3, z4, z5, z6⟩ := hC.2.2.2.2.2.1.2.2.2.2.1.2.2
  have hA9 : ¬ frA ω0 sz0 (g.2.2.1 9) := fun h9 => z6 (frA_up hC.2.2.2.2.2.2.2.2.1 hC.2.2.2.2.2.2.2.2.2 h9)
  have hcH : H[g.2.2.1 9]? = some cell := by rw [hS.2.1 _ (Array.getElem?_eq_some_iff.mp z1).1 hA9]; exact z1
  have hnm := va_nm_char (hC.2.2.2.2.2.1.1.2 1 (g.2.1 1, .char) rfl).2
  obtain ⟨c0, t0', f1, f2, f3⟩ := Cond.castable_spec (hC.n (w := .castable "[C" "java/lang/Cloneable") tw_221 rfl)
  cases hnm.symm.trans f1
  have hsl : cell.slots = (vp_cell (g.2.1 1) (7, .inl (stF [103, 112, 99, 115, 109, 119, 104]))).slots := by
    have h9 := congrArg Cell.slots z5
    exact h9
  have hsz : cell.slots.size = 7 := by rw [hsl]; exact arrV_size _ _ _
  intro T hT X
  have hcellT : T.heap[g.2.2.1 9]? = some cell := by rw [hT]; exact hcH
  obtain ⟨-, kA, hkA, comp, hkind⟩ := State.isArrayOf_alike X.warmed.alike ((hC.2.2.2.2.2.1.1.2 1 (g.2.1 1, .char) rfl).1 0 (fun _ => .null))
  obtain ⟨-, kS, hkS, compS, hkindS⟩ := (hC.2.2.2.2.2.1.1.2 1 (g.2.1 1, .char) rfl).1 0 (fun _ => .null)
  obtain ⟨vm', X', st⟩ := X.cloneArray hC.1 hC.2.2.2.1 (hC.w hlink rfl) (hC.w (w := .sameMethod "[C" "java/lang/Object" "clone" "()Ljava/lang/Object;") tw_217 rfl) (hC.w (w := .native ⟨"java/lang/Object", "clone", "()Ljava/lang/Object;"⟩) tw_218 rfl) (hC.w (w := .instanceMethod ⟨"java/lang/Object", "clone", "()Ljava/lang/Object;"⟩) tw_219 rfl) (hC.w (w := .selects "[C" ⟨"[C", "clone", "()Ljava/lang/Object;"⟩ ⟨"java/lang/Object", "clone", "()Ljava/lang/Object;"⟩) tw_220 rfl) (a := g.2.2.1 9) (cell := cell) hcellT (fun k h => by rw [h] at z2; cases z2) z3 (by rw [z4]; exact hnm) f2 (by rw [z4]; exact f3)
    (fun i v hv => by
      rw [z4]
      have hk' : T.vm.classes[g.2.1 1]? = some kA := hkA
      rw [hsl] at hv
      have := va_fit (cA := g.2.1 1) (n := 7) (F := fun j => .int (stF [103, 112, 99, 115, 109, 119, 104] j)) (ty := .char) clC_fit i v hv
      simpa [State.fitsSlot, State.slotType?, hk', hkind] using this)
    (g := F0 m pc ls (.ref (g.2.2.1 9) :: rest)) rfl (by rw [hC.2.2.1]; exact hl.1) rfl (by rw [hC.2.1]; exact hdg) hR.1 (by show 2 * 0 + _ + 14 ≤ _; omega) hcells (by rw [hsz]; exact hslots) (hloader := by rw [z4]; exact Vm.clonesLoader_of_array hkS hkindS)
  rw [z5, hsz] at X'
  rw [z5] at st
  have h0 : ∀ (H1 : Heap), H1[H.size]? = some (vp_cell (g.2.1 1) (7, .inl (stF [103, 112, 99, 115, 109, 119, 104]))) → H1.size = H.size + 1 → (∀ q : Nat, q < H.size → H1[q]? = H[q]?) → ω H.size = none ∧ wh g (frA ω0 sz0) (wup ω H.size (.inl (g.2.1 1, 7, .inl (stF [103, 112, 99, 115, 109, 119, 104])))) H1 := fun H1 e1 y1 o1 =>
    h3 _ _ H1 ((hP.kept (fun k y hy => o1 y.1 ((hP k y hy).lt))).app (fun k y hy => by
      have hz : k < 1 := (List.getElem?_eq_some_iff.mp hy).1
      rw [show k = 0 by omega] at hy
      cases hy
      exact e1)) (hD.push hP rfl (hC.A _ hS.1))
  generalize vp_cell (g.2.1 1) (7, .inl (stF [103, 112, 99, 115, 109, 119, 104])) = E at X' st h0
  have y1 : (H.push E).size = H.size + 1 := Array.size_push _
  have o1 : ∀ q : Nat, q < H.size → (H.push E)[q]? = H[q]? := fun q hq => by rw [Array.getElem?_push, if_neg (Nat.ne_of_lt hq)]
  obtain ⟨n1, n2⟩ := h0 (H.push E) Array.getElem?_push_size y1 o1
  obtain ⟨t, b1, b2⟩ := kk H.size n1 (H.push E) _ ls n2 (kp_up hk _ _) ⟨Nat.le_trans hS.1 (by omega), fun y h1 h2 => (o1 y (Nat.lt_of_lt_of_le h1 hS.1)).trans (hS.2.1 y h1 h2), hS.2.2⟩ hl ((T.setVm vm').pushCell E) (by rw [← hT]; rfl) X'
  refine ⟨t, st t ?_, b2⟩
  rw [hT]
  exact b1
theorem s_castC (hC : Cx p l e R s m args below meth c cc nL own g ω0 sz0) {index a N : Nat} {f : Nat → Int32} (hcl : Cond.classLink own index "[C" ∈ lw_tbl) (ha : ω a = some (.inl (g.2.1 1, N, .inl f))) (hdg : decode cc pc = .ok (.checkcast index, 3)) (hp : pc + 3 = pc')
    (kk : WP p l e R s m args below meth c g ω0 sz0 Q nL ω k n pc' L (.ref a :: rest)) : WP p l e R s m args below meth c g ω0 sz0 Q nL ω k n pc L (.ref a :: rest) := fun H locs ls hw hk hS hl => by
  subst hp
  exact va_castA hC.1 hC.2.1 hC.2.2.2.1 (hC.w hcl rfl) (wh_one hw ha) 0 rfl (va_nm_char (hC.2.2.2.2.2.1.1.2 1 (g.2.1 1, .char) rfl).2) hdg (kk H locs ls hw hk hS hl)
/-- a world's name -/
theorem WP.seal (kk : ∀ w, w = ω → WP p l e R s m args below meth c g ω0 sz0 Q nL w k n pc L rest) : WP p l e R s m args below meth c g ω0 sz0 Q nL ω k n pc L rest := kk ω rfl
theorem WP.lv {K : List Nat} (h : ∀ q ∈ K, ω q ≠ none) (kk : (∀ q ∈ K, ω q ≠ none) → WP p l e R s m args below meth c g ω0 sz0 Q nL ω k n pc L rest) : WP p l e R s m args below meth c g ω0 sz0 Q nL ω k n pc L rest := kk h
end CTOR
theorem live_up {K : List Nat} {w : Wd} (h : ∀ q ∈ K, w q ≠ none) {a : Nat} {e : va_E} : ∀ q ∈ K, wup w a e q ≠ none := fun q hq => kp_up (kp_rf w) a e q (h q hq)
theorem live_new {K : List Nat} {w : Wd} (h : ∀ q ∈ K, w q ≠ none) {a : Nat} {e : va_E} : ∀ q ∈ a :: K, wup w a e q ≠ none := fun q hq => by
  rcases List.mem_cons.mp hq with rfl | hq
  · rw [wup_s]
    exact fun z => by cases z
  · exact live_up h q hq
theorem nodup_new {K : List Nat} {w : Wd} (hn : K.Nodup) (h : ∀ q ∈ K, w q ≠ none) {a : Nat} (ha : w a = none) : (a :: K).Nodup := List.nodup_cons.mpr ⟨fun hm => h a hm ha, hn⟩
theorem nodup_app {K J : List Nat} {w : Wd} (hn : K.Nodup) (h : ∀ q ∈ K, w q ≠ none) (hj : J.Nodup) (hf : ∀ q ∈ J, w q = none) : (J ++ K).Nodup := List.nodup_append.mpr ⟨hj, hn, fun a ha b hb he => by
  subst he
  exact h a hb (hf a ha)⟩
theorem live_app {K J : List Nat} {w : Wd} (h : ∀ q ∈ K, w q ≠ none) (hj : ∀ q ∈ J, w q ≠ none) : ∀ q ∈ J ++ K, w q ≠ none := fun q hq => (List.mem_append.mp hq).elim (hj q) (h q)
theorem wup_abs {w : Wd} {a v : Nat} {e1 e2 x : va_E} : wup (wup (wup w a e1) v x) a e2 = wup (wup w v x) a e2 := by
  funext q
  by_cases h : q = a
  · rw [h, wup_s, wup_s]
  · rw [wup_n h, wup_n h]
    by_cases h2 : q = v
    · rw [h2, wup_s, wup_s]
    · rw [wup_n h2, wup_n h2, wup_n h]
theorem live_nil {w : Wd} : ∀ q ∈ ([] : List Nat), w q ≠ none := fun q hq => absurd hq (by simp)
theorem live_cons {K : List Nat} {w : Wd} {a : Nat} {e : va_E} (ha : w a = some e) (h : ∀ q ∈ K, w q ≠ none) : ∀ q ∈ a :: K, w q ≠ none := fun q hq => by
  rcases List.mem_cons.mp hq with rfl | hq
  · rw [ha]
    exact fun z => by cases z
  · exact h q hq
theorem none_nil {w : Wd} : ∀ q ∈ ([] : List Nat), w q = none := fun q hq => absurd hq (by simp)
theorem none_cons {K : List Nat} {w : Wd} {a : Nat} (ha : w a = none) (h : ∀ q ∈ K, w q = none) : ∀ q ∈ a :: K, w q = none := fun q hq => by
  rcases List.mem_cons.mp hq with rfl | hq
  · exact ha
  · exact h q hq
theorem no_up {w : Wd} {a q : Nat} {e : va_E} (h : wup w a e q = none) : w q = none := (w_un h).1
set_option maxHeartbeats 1000000 in
set_option maxRecDepth 100000 in
theorem ct_X3_init (l : Launch) (g : Gl) (ω : Wd) (a : Nat) (ha : ω a = some (.inr (8, [.int 0, .int 0, .int 0, .int 0]))) : CT l g yX3_init cX3_init 1 none 1 20 0 0 [.ref a] ω (dv none (wup ω a (.inr (8, [.int 0, .int 0, .int 0, .int 0])))) (nox) := by
  refine CT.of (own := "Boringhead$Course") rfl rfl (le_b rfl) rfl ?_
  intro p e s m args below meth c sz0 hC hr htab hin
  refine s_aload_n hC dX3_init_0 rfl rfl 0 rfl ?_
  refine s_objInit hC tw_148 ⟨le_b rfl, le_b rfl⟩ dX3_init_1 rfl ?_
  refine s_aload_n hC dX3_init_4 rfl rfl 0 rfl ?_
  refine s_iconst hC (v := 0) dX3_init_5 rfl (by decide) ?_
  refine s_putf hC cs_X3 0 tw_149 (le_b rfl) rfl rfl rfl ha (le_b rfl) dX3_init_6 rfl ?_
  refine s_aload_n hC dX3_init_9 rfl rfl 0 rfl ?_
  refine s_iconst hC (v := 0) dX3_init_10 rfl (by decide) ?_
  refine s_putf hC cs_X3 1 tw_151 (le_b rfl) rfl rfl rfl (wup_s _ _ _) (le_b rfl) dX3_init_11 rfl ?_
  refine s_aload_n hC dX3_init_14 rfl rfl 0 rfl ?_
  refine s_iconst hC (v := 0) dX3_init_15 rfl (by decide) ?_
  refine s_putf hC cs_X3 2 tw_153 (le_b rfl) rfl rfl rfl (wup_s _ _ _) (le_b rfl) dX3_init_16 rfl ?_
  refine s_aload_n hC dX3_init_19 rfl rfl 0 rfl ?_
  refine s_iconst hC (v := 0) dX3_init_20 rfl (by decide) ?_
  refine s_putf hC cs_X3 3 tw_155 (le_b rfl) rfl rfl rfl (wup_s _ _ _) (le_b rfl) dX3_init_21 rfl ?_
  refine s_vret hC hr dX3_init_24 (le_b rfl) (le_b rfl) ?_
  exact ⟨rfl, by simp only [wup_wup]; rfl⟩
set_option maxHeartbeats 1000000 in
set_option maxRecDepth 100000 in
theorem ct_X8_init (l : Launch) (g : Gl) (ω : Wd) (a : Nat) (ha : ω a = some (.inr (13, [.int 0, .int 0, .int 0]))) : CT l g yX8_init cX8_init 1 none 1 20 0 0 [.ref a] ω (dv none (wup ω a (.inr (13, [.int 0, .int 0, .int 0])))) (nox) := by
  refine CT.of (own := "Boringhead$Yard") rfl rfl (le_b rfl) rfl ?_
  intro p e s m args below meth c sz0 hC hr htab hin
  refine s_aload_n hC dX8_init_0 rfl rfl 0 rfl ?_
  refine s_objInit hC tw_171 ⟨le_b rfl, le_b rfl⟩ dX8_init_1 rfl ?_
  refine s_aload_n hC dX8_init_4 rfl rfl 0 rfl ?_
  refine s_iconst hC (v := 0) dX8_init_5 rfl (by decide) ?_
  refine s_putf hC cs_X8 0 tw_172 (le_b rfl) rfl rfl rfl ha (le_b rfl) dX8_init_6 rfl ?_
  refine s_aload_n hC dX8_init_9 rfl rfl 0 rfl ?_
  refine s_iconst hC (v := 0) dX8_init_10 rfl (by decide) ?_
  refine s_putf hC cs_X8 1 tw_174 (le_b rfl) rfl rfl rfl (wup_s _ _ _) (le_b rfl) dX8_init_11 rfl ?_
  refine s_aload_n hC dX8_init_14 rfl rfl 0 rfl ?_
  refine s_iconst hC (v := 0) dX8_init_15 rfl (by decide) ?_
  refine s_putf hC cs_X8 2 tw_176 (le_b rfl) rfl rfl rfl (wup_s _ _ _) (le_b rfl) dX8_init_16 rfl ?_
  refine s_vret hC hr dX8_init_19 (le_b rfl) (le_b rfl) ?_
  exact ⟨rfl, by simp only [wup_wup]; rfl⟩
set_option maxHeartbeats 1000000 in
set_option maxRecDepth 100000 in
theorem ct_X1_init (l : Launch) (g : Gl) (ω : Wd) (a : Nat) (ha : ω a = some (.inr (6, [.int 0, .int 0, .int 0, .int 0]))) : CT l g yX1_init cX1_init 1 none 1 20 0 0 [.ref a] ω (dv none (wup ω a (.inr (6, [.int 0, .int 0, .int 0, .int 0])))) (nox) := by
  refine CT.of (own := "Boringhead$Clock") rfl rfl (le_b rfl) rfl ?_
  intro p e s m args below meth c sz0 hC hr htab hin
  refine s_aload_n hC dX1_init_0 rfl rfl 0 rfl ?_
  refine s_objInit hC tw_190 ⟨le_b rfl, le_b rfl⟩ dX1_init_1 rfl ?_
  refine s_aload_n hC dX1_init_4 rfl rfl 0 rfl ?_
  refine s_iconst hC (v := 0) dX1_init_5 rfl (by decide) ?_
  refine s_putf hC cs_X1 0 tw_191 (le_b rfl) rfl rfl rfl ha (le_b rfl) dX1_init_6 rfl ?_
  refine s_aload_n hC dX1_init_9 rfl rfl 0 rfl ?_
  refine s_iconst hC (v := 0) dX1_init_10 rfl (by decide) ?_
  refine s_putf hC cs_X1 1 tw_193 (le_b rfl) rfl rfl rfl (wup_s _ _ _) (le_b rfl) dX1_init_11 rfl ?_
  refine s_aload_n hC dX1_init_14 rfl rfl 0 rfl ?_
  refine s_iconst hC (v := 0) dX1_init_15 rfl (by decide) ?_
  refine s_putf hC cs_X1 2 tw_195 (le_b rfl) rfl rfl rfl (wup_s _ _ _) (le_b rfl) dX1_init_16 rfl ?_
  refine s_aload_n hC dX1_init_19 rfl rfl 0 rfl ?_
  refine s_iconst hC (v := 0) dX1_init_20 rfl (by decide) ?_
  refine s_putf hC cs_X1 3 tw_197 (le_b rfl) rfl rfl rfl (wup_s _ _ _) (le_b rfl) dX1_init_21 rfl ?_
  refine s_vret hC hr dX1_init_24 (le_b rfl) (le_b rfl) ?_
  exact ⟨rfl, by simp only [wup_wup]; rfl⟩
set_option maxHeartbeats 1000000 in
set_option maxRecDepth 100000 in
theorem ct_X6_init (l : Launch) (g : Gl) (ω : Wd) (a : Nat) (ha : ω a = some (.inr (11, [.null, .int 0, .int 0, .int 0, .int 0]))) : CT l g yX6_init cX6_init 1 none 1 20 1 8 [.ref a] ω (fun r w => ∃ v, ω v = none ∧ r = none ∧ w = wup (wup ω v (.inl (g.2.1 0, 8, .inl (fun _ => 0)))) a (.inr (11, [.ref v, .int 0, .int 0, .int 0, .int 0]))) (nox) := by
  refine CT.of (own := "Boringhead$Shield") rfl rfl (le_b rfl) rfl ?_
  intro p e s m args below meth c sz0 hC hr htab hin
  refine s_aload_n hC dX6_init_0 rfl rfl 0 rfl ?_
  refine s_objInit hC tw_118 ⟨le_b rfl, le_b rfl⟩ dX6_init_1 rfl ?_
  refine s_aload_n hC dX6_init_4 rfl rfl 0 rfl ?_
  refine s_bipush hC (v := 8) dX6_init_5 rfl (by decide) ?_
  refine s_newa hC 0 (at0 := .int) (ty := .int) (N' := 8) (a0 := (8, .inl (fun _ => 0))) rfl rfl tw_83 (fun _ => rfl) (by decide) (by decide) (by decide) (le_b rfl) (le_b rfl) dX6_init_7 rfl (fun q_7 hq_7 => ?_)
  refine s_putF hC hin cs_X6 0 tw_119 (le_b rfl) rfl rfl rfl rfl ((wup_n (w_ne ha hq_7)).trans ha) (le_b rfl) dX6_init_9 rfl ?_
  refine s_aload_n hC dX6_init_12 rfl rfl 0 rfl ?_
  refine s_iconst hC (v := 0) dX6_init_13 rfl (by decide) ?_
  refine s_putf hC cs_X6 1 tw_121 (le_b rfl) rfl rfl rfl (wup_s _ _ _) (le_b rfl) dX6_init_14 rfl ?_
  refine s_aload_n hC dX6_init_17 rfl rfl 0 rfl ?_
  refine s_iconst hC (v := 0) dX6_init_18 rfl (by decide) ?_
  refine s_putf hC cs_X6 2 tw_123 (le_b rfl) rfl rfl rfl (wup_s _ _ _) (le_b rfl) dX6_init_19 rfl ?_
  refine s_aload_n hC dX6_init_22 rfl rfl 0 rfl ?_
  refine s_iconst hC (v := 0) dX6_init_23 rfl (by decide) ?_
  refine s_putf hC cs_X6 3 tw_126 (le_b rfl) rfl rfl rfl (wup_s _ _ _) (le_b rfl) dX6_init_24 rfl ?_
  refine s_aload_n hC dX6_init_27 rfl rfl 0 rfl ?_
  refine s_iconst hC (v := 0) dX6_init_28 rfl (by decide) ?_
  refine s_putf hC cs_X6 4 tw_129 (le_b rfl) rfl rfl rfl (wup_s _ _ _) (le_b rfl) dX6_init_29 rfl ?_
  refine s_vret hC hr dX6_init_32 (le_b rfl) (le_b rfl) ?_
  exact ⟨q_7, hq_7, rfl, by simp only [wup_wup]; rfl⟩
set_option maxHeartbeats 1000000 in
set_option maxRecDepth 100000 in
theorem ct_X2_init (l : Launch) (g : Gl) (ω : Wd) (a : Nat) (ha : ω a = some (.inr (7, [.null, .null]))) : CT l g yX2_init cX2_init 1 none 1 15 2 10 [.ref a] ω (fun r w => ∃ o v, ω o = none ∧ ω v = none ∧ o ≠ v ∧ r = none ∧ w = wup (wup (wup ω o (.inl (g.2.1 1, 7, .inl (stF [103, 112, 99, 115, 109, 119, 104])))) v (.inl (g.2.1 0, 3, .inl (fun _ => 0)))) a (.inr (7, [.ref o, .ref v]))) (nox) := by
  refine CT.of (own := "Boringhead$Contract") rfl rfl (le_b rfl) rfl ?_
  intro p e s m args below meth c sz0 hC hr htab hin
  refine s_aload_n hC dX2_init_0 rfl rfl 0 rfl ?_
  refine s_objInit hC tw_213 ⟨le_b rfl, le_b rfl⟩ dX2_init_1 rfl ?_
  refine s_aload_n hC dX2_init_4 rfl rfl 0 rfl ?_
  refine s_getsN hC 9 rfl tw_214 dX2_init_5 rfl ?_
  refine s_cloneC hC tw_216 ⟨le_b rfl, le_b rfl⟩ (le_b rfl) (le_b rfl) dX2_init_8 rfl (fun q_8 hq_8 => ?_)
  refine s_castC hC tw_222 (wup_s _ _ _) dX2_init_11 rfl ?_
  refine s_putF hC hin cs_X2 0 tw_225 (le_b rfl) rfl rfl rfl rfl ((wup_n (w_ne ha hq_8)).trans ha) (le_b rfl) dX2_init_14 rfl ?_
  refine s_aload_n hC dX2_init_17 rfl rfl 0 rfl ?_
  refine s_getsN hC 10 rfl tw_223 dX2_init_18 rfl ?_
  refine s_alenC hC (Or.inr ⟨10, _, _, _, _, rfl, rfl, rfl, rfl⟩) dX2_init_21 rfl ?_
  refine s_newa hC 0 (at0 := .int) (ty := .int) (N' := 3) (a0 := (3, .inl (fun _ => 0))) rfl rfl tw_83 (fun _ => rfl) (by decide) (by decide) (by decide) (le_b rfl) (le_b rfl) dX2_init_22 rfl (fun q_22 hq_22 => ?_)
  refine s_putF hC hin cs_X2 1 tw_227 (le_b rfl) rfl rfl rfl rfl ((wup_n (w_ne (wup_s _ _ _) hq_22)).trans (wup_s _ _ _)) (le_b rfl) dX2_init_24 rfl ?_
  refine s_vret hC hr dX2_init_27 (le_b rfl) (le_b rfl) ?_
  exact ⟨q_8, q_22, hq_8, no_up (no_up hq_22), (w_ne (wup_s _ _ _) (no_up hq_22)), rfl, wup_abs⟩
/-- the first depths: 20 everywhere -/
def dp0 : Nat → Int32 := fillN (fun _ => 0) 0 200 20
set_option maxHeartbeats 1000000 in
set_option maxRecDepth 100000 in
theorem ct_X7_init (l : Launch) (g : Gl) (ω : Wd) (a : Nat) (ha : ω a = some (.inr (12, [.null, .null, .null, .null, .null, .null, .null]))) : CT l g yX7_init cX7_init 2 none 4 80 7 1203 [.ref a] ω (fun r w => ∃ k1 k2 k3 k4 k5 k6 k7, [k1, k2, k3, k4, k5, k6, k7].Nodup ∧ (∀ q ∈ [k1, k2, k3, k4, k5, k6, k7], ω q = none) ∧ r = none ∧ w a = some (.inr (12, [.ref k1, .ref k2, .ref k3, .ref k4, .ref k5, .ref k6, .ref k7])) ∧ w k1 = some (.inl (g.2.1 0, 200, .inl (fun _ => 0))) ∧ w k2 = some (.inl (g.2.1 0, 200, .inl (fun _ => 0))) ∧ w k3 = some (.inl (g.2.1 0, 200, .inl dp0)) ∧ w k4 = some (.inl (g.2.1 0, 200, .inl (fun _ => 0))) ∧ w k5 = some (.inl (g.2.1 0, 200, .inl (fun _ => 0))) ∧ w k6 = some (.inl (g.2.1 0, 200, .inl (fun _ => 0))) ∧ w k7 = some (alE 0 (g.2.2.1 19) 0) ∧ ∀ p e, p ≠ a → ω p = some e → w p = some e) (nox) := by
  refine CT.of (own := "Boringhead$Soil") rfl rfl (le_b rfl) rfl ?_
  intro p e s m args below meth c sz0 hC hr htab hin
  refine s_aload_n hC dX7_init_0 rfl rfl 0 rfl ?_
  refine s_objInit hC tw_53 ⟨le_b rfl, le_b rfl⟩ dX7_init_1 rfl ?_
  refine s_aload_n hC dX7_init_4 rfl rfl 0 rfl ?_
  refine s_sipush hC (v := 200) dX7_init_5 rfl (by decide) ?_
  refine s_newa hC 0 (at0 := .int) (ty := .int) (N' := 200) (a0 := (200, .inl (fun _ => 0))) rfl rfl tw_83 (fun _ => rfl) (by decide) (by decide) (by decide) (le_b rfl) (le_b rfl) dX7_init_8 rfl (fun q_8 hq_8 => ?_)
  refine s_putF hC hin cs_X7 0 tw_84 (le_b rfl) rfl rfl rfl rfl ((wup_n (w_ne ha hq_8)).trans ha) (le_b rfl) dX7_init_10 rfl ?_
  refine s_aload_n hC dX7_init_13 rfl rfl 0 rfl ?_
  refine s_sipush hC (v := 200) dX7_init_14 rfl (by decide) ?_
  refine s_newa hC 0 (at0 := .int) (ty := .int) (N' := 200) (a0 := (200, .inl (fun _ => 0))) rfl rfl tw_83 (fun _ => rfl) (by decide) (by decide) (by decide) (le_b rfl) (le_b rfl) dX7_init_17 rfl (fun q_17 hq_17 => ?_)
  refine s_putF hC hin cs_X7 1 tw_86 (le_b rfl) rfl rfl rfl rfl ((wup_n (w_ne (wup_s _ _ _) hq_17)).trans (wup_s _ _ _)) (le_b rfl) dX7_init_19 rfl ?_
  refine s_aload_n hC dX7_init_22 rfl rfl 0 rfl ?_
  refine s_sipush hC (v := 200) dX7_init_23 rfl (by decide) ?_
  refine s_newa hC 0 (at0 := .int) (ty := .int) (N' := 200) (a0 := (200, .inl (fun _ => 0))) rfl rfl tw_83 (fun _ => rfl) (by decide) (by decide) (by decide) (le_b rfl) (le_b rfl) dX7_init_26 rfl (fun q_26 hq_26 => ?_)
  refine s_putF hC hin cs_X7 2 tw_88 (le_b rfl) rfl rfl rfl rfl ((wup_n (w_ne (wup_s _ _ _) hq_26)).trans (wup_s _ _ _)) (le_b rfl) dX7_init_28 rfl ?_
  refine s_aload_n hC dX7_init_31 rfl rfl 0 rfl ?_
  refine s_sipush hC (v := 200) dX7_init_32 rfl (by decide) ?_
  refine s_newa hC 0 (at0 := .int) (ty := .int) (N' := 200) (a0 := (200, .inl (fun _ => 0))) rfl rfl tw_83 (fun _ => rfl) (by decide) (by decide) (by decide) (le_b rfl) (le_b rfl) dX7_init_35 rfl (fun q_35 hq_35 => ?_)
  refine s_putF hC hin cs_X7 3 tw_90 (le_b rfl) rfl rfl rfl rfl ((wup_n (w_ne (wup_s _ _ _) hq_35)).trans (wup_s _ _ _)) (le_b rfl) dX7_init_37 rfl ?_
  refine s_aload_n hC dX7_init_40 rfl rfl 0 rfl ?_
  refine s_sipush hC (v := 200) dX7_init_41 rfl (by decide) ?_
  refine s_newa hC 0 (at0 := .int) (ty := .int) (N' := 200) (a0 := (200, .inl (fun _ => 0))) rfl rfl tw_83 (fun _ => rfl) (by decide) (by decide) (by decide) (le_b rfl) (le_b rfl) dX7_init_44 rfl (fun q_44 hq_44 => ?_)
  refine s_putF hC hin cs_X7 4 tw_92 (le_b rfl) rfl rfl rfl rfl ((wup_n (w_ne (wup_s _ _ _) hq_44)).trans (wup_s _ _ _)) (le_b rfl) dX7_init_46 rfl ?_
  refine s_aload_n hC dX7_init_49 rfl rfl 0 rfl ?_
  refine s_sipush hC (v := 200) dX7_init_50 rfl (by decide) ?_
  refine s_newa hC 0 (at0 := .int) (ty := .int) (N' := 200) (a0 := (200, .inl (fun _ => 0))) rfl rfl tw_83 (fun _ => rfl) (by decide) (by decide) (by decide) (le_b rfl) (le_b rfl) dX7_init_53 rfl (fun q_53 hq_53 => ?_)
  refine s_putF hC hin cs_X7 5 tw_94 (le_b rfl) rfl rfl rfl rfl ((wup_n (w_ne (wup_s _ _ _) hq_53)).trans (wup_s _ _ _)) (le_b rfl) dX7_init_55 rfl ?_
  refine s_aload_n hC dX7_init_58 rfl rfl 0 rfl ?_
  refine s_new hC cs_Jx4a65c (fs := [.int 0, .null, .int 0]) tw_54 tw_55 tw_5 (fun j hj => by rcases (show j = 0 ∨ j = 1 ∨ j = 2 by omega) with rfl | rfl | rfl <;> rfl) (le_b rfl) (le_b rfl) dX7_init_59 rfl (fun q_59 hq_59 => ?_)
  refine s_dup hC dX7_init_62 rfl rfl ?_
  refine s_callI hC (ct_Jx4a65c_init_da8c8 l g _ _ (wup_s _ _ _)) ce_Jx4a65c_init_da8c8 tw_56 rfl rfl ⟨⟨le_b rfl, le_b rfl⟩, le_b rfl, le_b rfl⟩ (le_b rfl) dX7_init_63 rfl (dvk0 ?_) nokx
  refine s_putF hC hin cs_X7 6 tw_96 (le_b rfl) rfl rfl rfl rfl ((wup_n (w_ne (wup_s _ _ _) hq_59)).trans ((wup_n (w_ne (wup_s _ _ _) hq_59)).trans (wup_s _ _ _))) (le_b rfl) dX7_init_66 rfl ?_
  refine WP.seal (fun w9 hw9 => ?_)
  have f_a : w9 a = some _ := (congrFun hw9 _).trans (wup_s _ _ _)
  have f_q_8 : w9 q_8 = some _ := (congrFun hw9 _).trans ((wup_n (Ne.symm (w_ne ha hq_8))).trans ((wup_n (w_ne ((wup_n (Ne.symm (w_ne ha hq_8))).trans ((wup_n (w_ne ((wup_n (Ne.symm (w_ne ha hq_8))).trans ((wup_n (w_ne ((wup_n (Ne.symm (w_ne ha hq_8))).trans ((wup_n (w_ne ((wup_n (Ne.symm (w_ne ha hq_8))).trans ((wup_n (w_ne ((wup_n (Ne.symm (w_ne ha hq_8))).trans ((wup_n (w_ne ((wup_n (Ne.symm (w_ne ha hq_8))).trans (wup_s _ _ _)) hq_17)).trans ((wup_n (Ne.symm (w_ne ha hq_8))).trans (wup_s _ _ _)))) hq_26)).trans ((wup_n (Ne.symm (w_ne ha hq_8))).trans ((wup_n (w_ne ((wup_n (Ne.symm (w_ne ha hq_8))).trans (wup_s _ _ _)) hq_17)).trans ((wup_n (Ne.symm (w_ne ha hq_8))).trans (wup_s _ _ _)))))) hq_35)).trans ((wup_n (Ne.symm (w_ne ha hq_8))).trans ((wup_n (w_ne ((wup_n (Ne.symm (w_ne ha hq_8))).trans ((wup_n (w_ne ((wup_n (Ne.symm (w_ne ha hq_8))).trans (wup_s _ _ _)) hq_17)).trans ((wup_n (Ne.symm (w_ne ha hq_8))).trans (wup_s _ _ _)))) hq_26)).trans ((wup_n (Ne.symm (w_ne ha hq_8))).trans ((wup_n (w_ne ((wup_n (Ne.symm (w_ne ha hq_8))).trans (wup_s _ _ _)) hq_17)).trans ((wup_n (Ne.symm (w_ne ha hq_8))).trans (wup_s _ _ _)))))))) hq_44)).trans ((wup_n (Ne.symm (w_ne ha hq_8))).trans ((wup_n (w_ne ((wup_n (Ne.symm (w_ne ha hq_8))).trans ((wup_n (w_ne ((wup_n (Ne.symm (w_ne ha hq_8))).trans ((wup_n (w_ne ((wup_n (Ne.symm (w_ne ha hq_8))).trans (wup_s _ _ _)) hq_17)).trans ((wup_n (Ne.symm (w_ne ha hq_8))).trans (wup_s _ _ _)))) hq_26)).trans ((wup_n (Ne.symm (w_ne ha hq_8))).trans ((wup_n (w_ne ((wup_n (Ne.symm (w_ne ha hq_8))).trans (wup_s _ _ _)) hq_17)).trans ((wup_n (Ne.symm (w_ne ha hq_8))).trans (wup_s _ _ _)))))) hq_35)).trans ((wup_n (Ne.symm (w_ne ha hq_8))).trans ((wup_n (w_ne ((wup_n (Ne.symm (w_ne ha hq_8))).trans ((wup_n (w_ne ((wup_n (Ne.symm (w_ne ha hq_8))).trans (wup_s _ _ _)) hq_17)).trans ((wup_n (Ne.symm (w_ne ha hq_8))).trans (wup_s _ _ _)))) hq_26)).trans ((wup_n (Ne.symm (w_ne ha hq_8))).trans ((wup_n (w_ne ((wup_n (Ne.symm (w_ne ha hq_8))).trans (wup_s _ _ _)) hq_17)).trans ((wup_n (Ne.symm (w_ne ha hq_8))).trans (wup_s _ _ _)))))))))) hq_53)).trans ((wup_n (Ne.symm (w_ne ha hq_8))).trans ((wup_n (w_ne ((wup_n (Ne.symm (w_ne ha hq_8))).trans ((wup_n (w_ne ((wup_n (Ne.symm (w_ne ha hq_8))).trans ((wup_n (w_ne ((wup_n (Ne.symm (w_ne ha hq_8))).trans ((wup_n (w_ne ((wup_n (Ne.symm (w_ne ha hq_8))).trans (wup_s _ _ _)) hq_17)).trans ((wup_n (Ne.symm (w_ne ha hq_8))).trans (wup_s _ _ _)))) hq_26)).trans ((wup_n (Ne.symm (w_ne ha hq_8))).trans ((wup_n (w_ne ((wup_n (Ne.symm (w_ne ha hq_8))).trans (wup_s _ _ _)) hq_17)).trans ((wup_n (Ne.symm (w_ne ha hq_8))).trans (wup_s _ _ _)))))) hq_35)).trans ((wup_n (Ne.symm (w_ne ha hq_8))).trans ((wup_n (w_ne ((wup_n (Ne.symm (w_ne ha hq_8))).trans ((wup_n (w_ne ((wup_n (Ne.symm (w_ne ha hq_8))).trans (wup_s _ _ _)) hq_17)).trans ((wup_n (Ne.symm (w_ne ha hq_8))).trans (wup_s _ _ _)))) hq_26)).trans ((wup_n (Ne.symm (w_ne ha hq_8))).trans ((wup_n (w_ne ((wup_n (Ne.symm (w_ne ha hq_8))).trans (wup_s _ _ _)) hq_17)).trans ((wup_n (Ne.symm (w_ne ha hq_8))).trans (wup_s _ _ _)))))))) hq_44)).trans ((wup_n (Ne.symm (w_ne ha hq_8))).trans ((wup_n (w_ne ((wup_n (Ne.symm (w_ne ha hq_8))).trans ((wup_n (w_ne ((wup_n (Ne.symm (w_ne ha hq_8))).trans ((wup_n (w_ne ((wup_n (Ne.symm (w_ne ha hq_8))).trans (wup_s _ _ _)) hq_17)).trans ((wup_n (Ne.symm (w_ne ha hq_8))).trans (wup_s _ _ _)))) hq_26)).trans ((wup_n (Ne.symm (w_ne ha hq_8))).trans ((wup_n (w_ne ((wup_n (Ne.symm (w_ne ha hq_8))).trans (wup_s _ _ _)) hq_17)).trans ((wup_n (Ne.symm (w_ne ha hq_8))).trans (wup_s _ _ _)))))) hq_35)).trans ((wup_n (Ne.symm (w_ne ha hq_8))).trans ((wup_n (w_ne ((wup_n (Ne.symm (w_ne ha hq_8))).trans ((wup_n (w_ne ((wup_n (Ne.symm (w_ne ha hq_8))).trans (wup_s _ _ _)) hq_17)).trans ((wup_n (Ne.symm (w_ne ha hq_8))).trans (wup_s _ _ _)))) hq_26)).trans ((wup_n (Ne.symm (w_ne ha hq_8))).trans ((wup_n (w_ne ((wup_n (Ne.symm (w_ne ha hq_8))).trans (wup_s _ _ _)) hq_17)).trans ((wup_n (Ne.symm (w_ne ha hq_8))).trans (wup_s _ _ _)))))))))))) hq_59)).trans ((wup_n (w_ne ((wup_n (Ne.symm (w_ne ha hq_8))).trans ((wup_n (w_ne ((wup_n (Ne.symm (w_ne ha hq_8))).trans ((wup_n (w_ne ((wup_n (Ne.symm (w_ne ha hq_8))).trans ((wup_n (w_ne ((wup_n (Ne.symm (w_ne ha hq_8))).trans ((wup_n (w_ne ((wup_n (Ne.symm (w_ne ha hq_8))).trans ((wup_n (w_ne ((wup_n (Ne.symm (w_ne ha hq_8))).trans (wup_s _ _ _)) hq_17)).trans ((wup_n (Ne.symm (w_ne ha hq_8))).trans (wup_s _ _ _)))) hq_26)).trans ((wup_n (Ne.symm (w_ne ha hq_8))).trans ((wup_n (w_ne ((wup_n (Ne.symm (w_ne ha hq_8))).trans (wup_s _ _ _)) hq_17)).trans ((wup_n (Ne.symm (w_ne ha hq_8))).trans (wup_s _ _ _)))))) hq_35)).trans ((wup_n (Ne.symm (w_ne ha hq_8))).trans ((wup_n (w_ne ((wup_n (Ne.symm (w_ne ha hq_8))).trans ((wup_n (w_ne ((wup_n (Ne.symm (w_ne ha hq_8))).trans (wup_s _ _ _)) hq_17)).trans ((wup_n (Ne.symm (w_ne ha hq_8))).trans (wup_s _ _ _)))) hq_26)).trans ((wup_n (Ne.symm (w_ne ha hq_8))).trans ((wup_n (w_ne ((wup_n (Ne.symm (w_ne ha hq_8))).trans (wup_s _ _ _)) hq_17)).trans ((wup_n (Ne.symm (w_ne ha hq_8))).trans (wup_s _ _ _)))))))) hq_44)).trans ((wup_n (Ne.symm (w_ne ha hq_8))).trans ((wup_n (w_ne ((wup_n (Ne.symm (w_ne ha hq_8))).trans ((wup_n (w_ne ((wup_n (Ne.symm (w_ne ha hq_8))).trans ((wup_n (w_ne ((wup_n (Ne.symm (w_ne ha hq_8))).trans (wup_s _ _ _)) hq_17)).trans ((wup_n (Ne.symm (w_ne ha hq_8))).trans (wup_s _ _ _)))) hq_26)).trans ((wup_n (Ne.symm (w_ne ha hq_8))).trans ((wup_n (w_ne ((wup_n (Ne.symm (w_ne ha hq_8))).trans (wup_s _ _ _)) hq_17)).trans ((wup_n (Ne.symm (w_ne ha hq_8))).trans (wup_s _ _ _)))))) hq_35)).trans ((wup_n (Ne.symm (w_ne ha hq_8))).trans ((wup_n (w_ne ((wup_n (Ne.symm (w_ne ha hq_8))).trans ((wup_n (w_ne ((wup_n (Ne.symm (w_ne ha hq_8))).trans (wup_s _ _ _)) hq_17)).trans ((wup_n (Ne.symm (w_ne ha hq_8))).trans (wup_s _ _ _)))) hq_26)).trans ((wup_n (Ne.symm (w_ne ha hq_8))).trans ((wup_n (w_ne ((wup_n (Ne.symm (w_ne ha hq_8))).trans (wup_s _ _ _)) hq_17)).trans ((wup_n (Ne.symm (w_ne ha hq_8))).trans (wup_s _ _ _)))))))))) hq_53)).trans ((wup_n (Ne.symm (w_ne ha hq_8))).trans ((wup_n (w_ne ((wup_n (Ne.symm (w_ne ha hq_8))).trans ((wup_n (w_ne ((wup_n (Ne.symm (w_ne ha hq_8))).trans ((wup_n (w_ne ((wup_n (Ne.symm (w_ne ha hq_8))).trans ((wup_n (w_ne ((wup_n (Ne.symm (w_ne ha hq_8))).trans (wup_s _ _ _)) hq_17)).trans ((wup_n (Ne.symm (w_ne ha hq_8))).trans (wup_s _ _ _)))) hq_26)).trans ((wup_n (Ne.symm (w_ne ha hq_8))).trans ((wup_n (w_ne ((wup_n (Ne.symm (w_ne ha hq_8))).trans (wup_s _ _ _)) hq_17)).trans ((wup_n (Ne.symm (w_ne ha hq_8))).trans (wup_s _ _ _)))))) hq_35)).trans ((wup_n (Ne.symm (w_ne ha hq_8))).trans ((wup_n (w_ne ((wup_n (Ne.symm (w_ne ha hq_8))).trans ((wup_n (w_ne ((wup_n (Ne.symm (w_ne ha hq_8))).trans (wup_s _ _ _)) hq_17)).trans ((wup_n (Ne.symm (w_ne ha hq_8))).trans (wup_s _ _ _)))) hq_26)).trans ((wup_n (Ne.symm (w_ne ha hq_8))).trans ((wup_n (w_ne ((wup_n (Ne.symm (w_ne ha hq_8))).trans (wup_s _ _ _)) hq_17)).trans ((wup_n (Ne.symm (w_ne ha hq_8))).trans (wup_s _ _ _)))))))) hq_44)).trans ((wup_n (Ne.symm (w_ne ha hq_8))).trans ((wup_n (w_ne ((wup_n (Ne.symm (w_ne ha hq_8))).trans ((wup_n (w_ne ((wup_n (Ne.symm (w_ne ha hq_8))).trans ((wup_n (w_ne ((wup_n (Ne.symm (w_ne ha hq_8))).trans (wup_s _ _ _)) hq_17)).trans ((wup_n (Ne.symm (w_ne ha hq_8))).trans (wup_s _ _ _)))) hq_26)).trans ((wup_n (Ne.symm (w_ne ha hq_8))).trans ((wup_n (w_ne ((wup_n (Ne.symm (w_ne ha hq_8))).trans (wup_s _ _ _)) hq_17)).trans ((wup_n (Ne.symm (w_ne ha hq_8))).trans (wup_s _ _ _)))))) hq_35)).trans ((wup_n (Ne.symm (w_ne ha hq_8))).trans ((wup_n (w_ne ((wup_n (Ne.symm (w_ne ha hq_8))).trans ((wup_n (w_ne ((wup_n (Ne.symm (w_ne ha hq_8))).trans (wup_s _ _ _)) hq_17)).trans ((wup_n (Ne.symm (w_ne ha hq_8))).trans (wup_s _ _ _)))) hq_26)).trans ((wup_n (Ne.symm (w_ne ha hq_8))).trans ((wup_n (w_ne ((wup_n (Ne.symm (w_ne ha hq_8))).trans (wup_s _ _ _)) hq_17)).trans ((wup_n (Ne.symm (w_ne ha hq_8))).trans (wup_s _ _ _)))))))))))) hq_59)).trans ((wup_n (Ne.symm (w_ne ha hq_8))).trans ((wup_n (w_ne ((wup_n (Ne.symm (w_ne ha hq_8))).trans ((wup_n (w_ne ((wup_n (Ne.symm (w_ne ha hq_8))).trans ((wup_n (w_ne ((wup_n (Ne.symm (w_ne ha hq_8))).trans ((wup_n (w_ne ((wup_n (Ne.symm (w_ne ha hq_8))).trans ((wup_n (w_ne ((wup_n (Ne.symm (w_ne ha hq_8))).trans (wup_s _ _ _)) hq_17)).trans ((wup_n (Ne.symm (w_ne ha hq_8))).trans (wup_s _ _ _)))) hq_26)).trans ((wup_n (Ne.symm (w_ne ha hq_8))).trans ((wup_n (w_ne ((wup_n (Ne.symm (w_ne ha hq_8))).trans (wup_s _ _ _)) hq_17)).trans ((wup_n (Ne.symm (w_ne ha hq_8))).trans (wup_s _ _ _)))))) hq_35)).trans ((wup_n (Ne.symm (w_ne ha hq_8))).trans ((wup_n (w_ne ((wup_n (Ne.symm (w_ne ha hq_8))).trans ((wup_n (w_ne ((wup_n (Ne.symm (w_ne ha hq_8))).trans (wup_s _ _ _)) hq_17)).trans ((wup_n (Ne.symm (w_ne ha hq_8))).trans (wup_s _ _ _)))) hq_26)).trans ((wup_n (Ne.symm (w_ne ha hq_8))).trans ((wup_n (w_ne ((wup_n (Ne.symm (w_ne ha hq_8))).trans (wup_s _ _ _)) hq_17)).trans ((wup_n (Ne.symm (w_ne ha hq_8))).trans (wup_s _ _ _)))))))) hq_44)).trans ((wup_n (Ne.symm (w_ne ha hq_8))).trans ((wup_n (w_ne ((wup_n (Ne.symm (w_ne ha hq_8))).trans ((wup_n (w_ne ((wup_n (Ne.symm (w_ne ha hq_8))).trans ((wup_n (w_ne ((wup_n (Ne.symm (w_ne ha hq_8))).trans (wup_s _ _ _)) hq_17)).trans ((wup_n (Ne.symm (w_ne ha hq_8))).trans (wup_s _ _ _)))) hq_26)).trans ((wup_n (Ne.symm (w_ne ha hq_8))).trans ((wup_n (w_ne ((wup_n (Ne.symm (w_ne ha hq_8))).trans (wup_s _ _ _)) hq_17)).trans ((wup_n (Ne.symm (w_ne ha hq_8))).trans (wup_s _ _ _)))))) hq_35)).trans ((wup_n (Ne.symm (w_ne ha hq_8))).trans ((wup_n (w_ne ((wup_n (Ne.symm (w_ne ha hq_8))).trans ((wup_n (w_ne ((wup_n (Ne.symm (w_ne ha hq_8))).trans (wup_s _ _ _)) hq_17)).trans ((wup_n (Ne.symm (w_ne ha hq_8))).trans (wup_s _ _ _)))) hq_26)).trans ((wup_n (Ne.symm (w_ne ha hq_8))).trans ((wup_n (w_ne ((wup_n (Ne.symm (w_ne ha hq_8))).trans (wup_s _ _ _)) hq_17)).trans ((wup_n (Ne.symm (w_ne ha hq_8))).trans (wup_s _ _ _)))))))))) hq_53)).trans ((wup_n (Ne.symm (w_ne ha hq_8))).trans ((wup_n (w_ne ((wup_n (Ne.symm (w_ne ha hq_8))).trans ((wup_n (w_ne ((wup_n (Ne.symm (w_ne ha hq_8))).trans ((wup_n (w_ne ((wup_n (Ne.symm (w_ne ha hq_8))).trans ((wup_n (w_ne ((wup_n (Ne.symm (w_ne ha hq_8))).trans (wup_s _ _ _)) hq_17)).trans ((wup_n (Ne.symm (w_ne ha hq_8))).trans (wup_s _ _ _)))) hq_26)).trans ((wup_n (Ne.symm (w_ne ha hq_8))).trans ((wup_n (w_ne ((wup_n (Ne.symm (w_ne ha hq_8))).trans (wup_s _ _ _)) hq_17)).trans ((wup_n (Ne.symm (w_ne ha hq_8))).trans (wup_s _ _ _)))))) hq_35)).trans ((wup_n (Ne.symm (w_ne ha hq_8))).trans ((wup_n (w_ne ((wup_n (Ne.symm (w_ne ha hq_8))).trans ((wup_n (w_ne ((wup_n (Ne.symm (w_ne ha hq_8))).trans (wup_s _ _ _)) hq_17)).trans ((wup_n (Ne.symm (w_ne ha hq_8))).trans (wup_s _ _ _)))) hq_26)).trans ((wup_n (Ne.symm (w_ne ha hq_8))).trans ((wup_n (w_ne ((wup_n (Ne.symm (w_ne ha hq_8))).trans (wup_s _ _ _)) hq_17)).trans ((wup_n (Ne.symm (w_ne ha hq_8))).trans (wup_s _ _ _)))))))) hq_44)).trans ((wup_n (Ne.symm (w_ne ha hq_8))).trans ((wup_n (w_ne ((wup_n (Ne.symm (w_ne ha hq_8))).trans ((wup_n (w_ne ((wup_n (Ne.symm (w_ne ha hq_8))).trans ((wup_n (w_ne ((wup_n (Ne.symm (w_ne ha hq_8))).trans (wup_s _ _ _)) hq_17)).trans ((wup_n (Ne.symm (w_ne ha hq_8))).trans (wup_s _ _ _)))) hq_26)).trans ((wup_n (Ne.symm (w_ne ha hq_8))).trans ((wup_n (w_ne ((wup_n (Ne.symm (w_ne ha hq_8))).trans (wup_s _ _ _)) hq_17)).trans ((wup_n (Ne.symm (w_ne ha hq_8))).trans (wup_s _ _ _)))))) hq_35)).trans ((wup_n (Ne.symm (w_ne ha hq_8))).trans ((wup_n (w_ne ((wup_n (Ne.symm (w_ne ha hq_8))).trans ((wup_n (w_ne ((wup_n (Ne.symm (w_ne ha hq_8))).trans (wup_s _ _ _)) hq_17)).trans ((wup_n (Ne.symm (w_ne ha hq_8))).trans (wup_s _ _ _)))) hq_26)).trans ((wup_n (Ne.symm (w_ne ha hq_8))).trans ((wup_n (w_ne ((wup_n (Ne.symm (w_ne ha hq_8))).trans (wup_s _ _ _)) hq_17)).trans ((wup_n (Ne.symm (w_ne ha hq_8))).trans (wup_s _ _ _)))))))))))))))
  have f_q_17 : w9 q_17 = some _ := (congrFun hw9 _).trans ((wup_n (Ne.symm (w_ne (wup_s _ _ _) hq_17))).trans ((wup_n (w_ne ((wup_n (Ne.symm (w_ne (wup_s _ _ _) hq_17))).trans ((wup_n (w_ne ((wup_n (Ne.symm (w_ne (wup_s _ _ _) hq_17))).trans ((wup_n (w_ne ((wup_n (Ne.symm (w_ne (wup_s _ _ _) hq_17))).trans ((wup_n (w_ne ((wup_n (Ne.symm (w_ne (wup_s _ _ _) hq_17))).trans ((wup_n (w_ne ((wup_n (Ne.symm (w_ne (wup_s _ _ _) hq_17))).trans (wup_s _ _ _)) hq_26)).trans ((wup_n (Ne.symm (w_ne (wup_s _ _ _) hq_17))).trans (wup_s _ _ _)))) hq_35)).trans ((wup_n (Ne.symm (w_ne (wup_s _ _ _) hq_17))).trans ((wup_n (w_ne ((wup_n (Ne.symm (w_ne (wup_s _ _ _) hq_17))).trans (wup_s _ _ _)) hq_26)).trans ((wup_n (Ne.symm (w_ne (wup_s _ _ _) hq_17))).trans (wup_s _ _ _)))))) hq_44)).trans ((wup_n (Ne.symm (w_ne (wup_s _ _ _) hq_17))).trans ((wup_n (w_ne ((wup_n (Ne.symm (w_ne (wup_s _ _ _) hq_17))).trans ((wup_n (w_ne ((wup_n (Ne.symm (w_ne (wup_s _ _ _) hq_17))).trans (wup_s _ _ _)) hq_26)).trans ((wup_n (Ne.symm (w_ne (wup_s _ _ _) hq_17))).trans (wup_s _ _ _)))) hq_35)).trans ((wup_n (Ne.symm (w_ne (wup_s _ _ _) hq_17))).trans ((wup_n (w_ne ((wup_n (Ne.symm (w_ne (wup_s _ _ _) hq_17))).trans (wup_s _ _ _)) hq_26)).trans ((wup_n (Ne.symm (w_ne (wup_s _ _ _) hq_17))).trans (wup_s _ _ _)))))))) hq_53)).trans ((wup_n (Ne.symm (w_ne (wup_s _ _ _) hq_17))).trans ((wup_n (w_ne ((wup_n (Ne.symm (w_ne (wup_s _ _ _) hq_17))).trans ((wup_n (w_ne ((wup_n (Ne.symm (w_ne (wup_s _ _ _) hq_17))).trans ((wup_n (w_ne ((wup_n (Ne.symm (w_ne (wup_s _ _ _) hq_17))).trans (wup_s _ _ _)) hq_26)).trans ((wup_n (Ne.symm (w_ne (wup_s _ _ _) hq_17))).trans (wup_s _ _ _)))) hq_35)).trans ((wup_n (Ne.symm (w_ne (wup_s _ _ _) hq_17))).trans ((wup_n (w_ne ((wup_n (Ne.symm (w_ne (wup_s _ _ _) hq_17))).trans (wup_s _ _ _)) hq_26)).trans ((wup_n (Ne.symm (w_ne (wup_s _ _ _) hq_17))).trans (wup_s _ _ _)))))) hq_44)).trans ((wup_n (Ne.symm (w_ne (wup_s _ _ _) hq_17))).trans ((wup_n (w_ne ((wup_n (Ne.symm (w_ne (wup_s _ _ _) hq_17))).trans ((wup_n (w_ne ((wup_n (Ne.symm (w_ne (wup_s _ _ _) hq_17))).trans (wup_s _ _ _)) hq_26)).trans ((wup_n (Ne.symm (w_ne (wup_s _ _ _) hq_17))).trans (wup_s _ _ _)))) hq_35)).trans ((wup_n (Ne.symm (w_ne (wup_s _ _ _) hq_17))).trans ((wup_n (w_ne ((wup_n (Ne.symm (w_ne (wup_s _ _ _) hq_17))).trans (wup_s _ _ _)) hq_26)).trans ((wup_n (Ne.symm (w_ne (wup_s _ _ _) hq_17))).trans (wup_s _ _ _)))))))))) hq_59)).trans ((wup_n (w_ne ((wup_n (Ne.symm (w_ne (wup_s _ _ _) hq_17))).trans ((wup_n (w_ne ((wup_n (Ne.symm (w_ne (wup_s _ _ _) hq_17))).trans ((wup_n (w_ne ((wup_n (Ne.symm (w_ne (wup_s _ _ _) hq_17))).trans ((wup_n (w_ne ((wup_n (Ne.symm (w_ne (wup_s _ _ _) hq_17))).trans ((wup_n (w_ne ((wup_n (Ne.symm (w_ne (wup_s _ _ _) hq_17))).trans (wup_s _ _ _)) hq_26)).trans ((wup_n (Ne.symm (w_ne (wup_s _ _ _) hq_17))).trans (wup_s _ _ _)))) hq_35)).trans ((wup_n (Ne.symm (w_ne (wup_s _ _ _) hq_17))).trans ((wup_n (w_ne ((wup_n (Ne.symm (w_ne (wup_s _ _ _) hq_17))).trans (wup_s _ _ _)) hq_26)).trans ((wup_n (Ne.symm (w_ne (wup_s _ _ _) hq_17))).trans (wup_s _ _ _)))))) hq_44)).trans ((wup_n (Ne.symm (w_ne (wup_s _ _ _) hq_17))).trans ((wup_n (w_ne ((wup_n (Ne.symm (w_ne (wup_s _ _ _) hq_17))).trans ((wup_n (w_ne ((wup_n (Ne.symm (w_ne (wup_s _ _ _) hq_17))).trans (wup_s _ _ _)) hq_26)).trans ((wup_n (Ne.symm (w_ne (wup_s _ _ _) hq_17))).trans (wup_s _ _ _)))) hq_35)).trans ((wup_n (Ne.symm (w_ne (wup_s _ _ _) hq_17))).trans ((wup_n (w_ne ((wup_n (Ne.symm (w_ne (wup_s _ _ _) hq_17))).trans (wup_s _ _ _)) hq_26)).trans ((wup_n (Ne.symm (w_ne (wup_s _ _ _) hq_17))).trans (wup_s _ _ _)))))))) hq_53)).trans ((wup_n (Ne.symm (w_ne (wup_s _ _ _) hq_17))).trans ((wup_n (w_ne ((wup_n (Ne.symm (w_ne (wup_s _ _ _) hq_17))).trans ((wup_n (w_ne ((wup_n (Ne.symm (w_ne (wup_s _ _ _) hq_17))).trans ((wup_n (w_ne ((wup_n (Ne.symm (w_ne (wup_s _ _ _) hq_17))).trans (wup_s _ _ _)) hq_26)).trans ((wup_n (Ne.symm (w_ne (wup_s _ _ _) hq_17))).trans (wup_s _ _ _)))) hq_35)).trans ((wup_n (Ne.symm (w_ne (wup_s _ _ _) hq_17))).trans ((wup_n (w_ne ((wup_n (Ne.symm (w_ne (wup_s _ _ _) hq_17))).trans (wup_s _ _ _)) hq_26)).trans ((wup_n (Ne.symm (w_ne (wup_s _ _ _) hq_17))).trans (wup_s _ _ _)))))) hq_44)).trans ((wup_n (Ne.symm (w_ne (wup_s _ _ _) hq_17))).trans ((wup_n (w_ne ((wup_n (Ne.symm (w_ne (wup_s _ _ _) hq_17))).trans ((wup_n (w_ne ((wup_n (Ne.symm (w_ne (wup_s _ _ _) hq_17))).trans (wup_s _ _ _)) hq_26)).trans ((wup_n (Ne.symm (w_ne (wup_s _ _ _) hq_17))).trans (wup_s _ _ _)))) hq_35)).trans ((wup_n (Ne.symm (w_ne (wup_s _ _ _) hq_17))).trans ((wup_n (w_ne ((wup_n (Ne.symm (w_ne (wup_s _ _ _) hq_17))).trans (wup_s _ _ _)) hq_26)).trans ((wup_n (Ne.symm (w_ne (wup_s _ _ _) hq_17))).trans (wup_s _ _ _)))))))))) hq_59)).trans ((wup_n (Ne.symm (w_ne (wup_s _ _ _) hq_17))).trans ((wup_n (w_ne ((wup_n (Ne.symm (w_ne (wup_s _ _ _) hq_17))).trans ((wup_n (w_ne ((wup_n (Ne.symm (w_ne (wup_s _ _ _) hq_17))).trans ((wup_n (w_ne ((wup_n (Ne.symm (w_ne (wup_s _ _ _) hq_17))).trans ((wup_n (w_ne ((wup_n (Ne.symm (w_ne (wup_s _ _ _) hq_17))).trans (wup_s _ _ _)) hq_26)).trans ((wup_n (Ne.symm (w_ne (wup_s _ _ _) hq_17))).trans (wup_s _ _ _)))) hq_35)).trans ((wup_n (Ne.symm (w_ne (wup_s _ _ _) hq_17))).trans ((wup_n (w_ne ((wup_n (Ne.symm (w_ne (wup_s _ _ _) hq_17))).trans (wup_s _ _ _)) hq_26)).trans ((wup_n (Ne.symm (w_ne (wup_s _ _ _) hq_17))).trans (wup_s _ _ _)))))) hq_44)).trans ((wup_n (Ne.symm (w_ne (wup_s _ _ _) hq_17))).trans ((wup_n (w_ne ((wup_n (Ne.symm (w_ne (wup_s _ _ _) hq_17))).trans ((wup_n (w_ne ((wup_n (Ne.symm (w_ne (wup_s _ _ _) hq_17))).trans (wup_s _ _ _)) hq_26)).trans ((wup_n (Ne.symm (w_ne (wup_s _ _ _) hq_17))).trans (wup_s _ _ _)))) hq_35)).trans ((wup_n (Ne.symm (w_ne (wup_s _ _ _) hq_17))).trans ((wup_n (w_ne ((wup_n (Ne.symm (w_ne (wup_s _ _ _) hq_17))).trans (wup_s _ _ _)) hq_26)).trans ((wup_n (Ne.symm (w_ne (wup_s _ _ _) hq_17))).trans (wup_s _ _ _)))))))) hq_53)).trans ((wup_n (Ne.symm (w_ne (wup_s _ _ _) hq_17))).trans ((wup_n (w_ne ((wup_n (Ne.symm (w_ne (wup_s _ _ _) hq_17))).trans ((wup_n (w_ne ((wup_n (Ne.symm (w_ne (wup_s _ _ _) hq_17))).trans ((wup_n (w_ne ((wup_n (Ne.symm (w_ne (wup_s _ _ _) hq_17))).trans (wup_s _ _ _)) hq_26)).trans ((wup_n (Ne.symm (w_ne (wup_s _ _ _) hq_17))).trans (wup_s _ _ _)))) hq_35)).trans ((wup_n (Ne.symm (w_ne (wup_s _ _ _) hq_17))).trans ((wup_n (w_ne ((wup_n (Ne.symm (w_ne (wup_s _ _ _) hq_17))).trans (wup_s _ _ _)) hq_26)).trans ((wup_n (Ne.symm (w_ne (wup_s _ _ _) hq_17))).trans (wup_s _ _ _)))))) hq_44)).trans ((wup_n (Ne.symm (w_ne (wup_s _ _ _) hq_17))).trans ((wup_n (w_ne ((wup_n (Ne.symm (w_ne (wup_s _ _ _) hq_17))).trans ((wup_n (w_ne ((wup_n (Ne.symm (w_ne (wup_s _ _ _) hq_17))).trans (wup_s _ _ _)) hq_26)).trans ((wup_n (Ne.symm (w_ne (wup_s _ _ _) hq_17))).trans (wup_s _ _ _)))) hq_35)).trans ((wup_n (Ne.symm (w_ne (wup_s _ _ _) hq_17))).trans ((wup_n (w_ne ((wup_n (Ne.symm (w_ne (wup_s _ _ _) hq_17))).trans (wup_s _ _ _)) hq_26)).trans ((wup_n (Ne.symm (w_ne (wup_s _ _ _) hq_17))).trans (wup_s _ _ _)))))))))))))
  have f_q_26 : w9 q_26 = some _ := (congrFun hw9 _).trans ((wup_n (Ne.symm (w_ne (wup_s _ _ _) hq_26))).trans ((wup_n (w_ne ((wup_n (Ne.symm (w_ne (wup_s _ _ _) hq_26))).trans ((wup_n (w_ne ((wup_n (Ne.symm (w_ne (wup_s _ _ _) hq_26))).trans ((wup_n (w_ne ((wup_n (Ne.symm (w_ne (wup_s _ _ _) hq_26))).trans ((wup_n (w_ne ((wup_n (Ne.symm (w_ne (wup_s _ _ _) hq_26))).trans (wup_s _ _ _)) hq_35)).trans ((wup_n (Ne.symm (w_ne (wup_s _ _ _) hq_26))).trans (wup_s _ _ _)))) hq_44)).trans ((wup_n (Ne.symm (w_ne (wup_s _ _ _) hq_26))).trans ((wup_n (w_ne ((wup_n (Ne.symm (w_ne (wup_s _ _ _) hq_26))).trans (wup_s _ _ _)) hq_35)).trans ((wup_n (Ne.symm (w_ne (wup_s _ _ _) hq_26))).trans (wup_s _ _ _)))))) hq_53)).trans ((wup_n (Ne.symm (w_ne (wup_s _ _ _) hq_26))).trans ((wup_n (w_ne ((wup_n (Ne.symm (w_ne (wup_s _ _ _) hq_26))).trans ((wup_n (w_ne ((wup_n (Ne.symm (w_ne (wup_s _ _ _) hq_26))).trans (wup_s _ _ _)) hq_35)).trans ((wup_n (Ne.symm (w_ne (wup_s _ _ _) hq_26))).trans (wup_s _ _ _)))) hq_44)).trans ((wup_n (Ne.symm (w_ne (wup_s _ _ _) hq_26))).trans ((wup_n (w_ne ((wup_n (Ne.symm (w_ne (wup_s _ _ _) hq_26))).trans (wup_s _ _ _)) hq_35)).trans ((wup_n (Ne.symm (w_ne (wup_s _ _ _) hq_26))).trans (wup_s _ _ _)))))))) hq_59)).trans ((wup_n (w_ne ((wup_n (Ne.symm (w_ne (wup_s _ _ _) hq_26))).trans ((wup_n (w_ne ((wup_n (Ne.symm (w_ne (wup_s _ _ _) hq_26))).trans ((wup_n (w_ne ((wup_n (Ne.symm (w_ne (wup_s _ _ _) hq_26))).trans ((wup_n (w_ne ((wup_n (Ne.symm (w_ne (wup_s _ _ _) hq_26))).trans (wup_s _ _ _)) hq_35)).trans ((wup_n (Ne.symm (w_ne (wup_s _ _ _) hq_26))).trans (wup_s _ _ _)))) hq_44)).trans ((wup_n (Ne.symm (w_ne (wup_s _ _ _) hq_26))).trans ((wup_n (w_ne ((wup_n (Ne.symm (w_ne (wup_s _ _ _) hq_26))).trans (wup_s _ _ _)) hq_35)).trans ((wup_n (Ne.symm (w_ne (wup_s _ _ _) hq_26))).trans (wup_s _ _ _)))))) hq_53)).trans ((wup_n (Ne.symm (w_ne (wup_s _ _ _) hq_26))).trans ((wup_n (w_ne ((wup_n (Ne.symm (w_ne (wup_s _ _ _) hq_26))).trans ((wup_n (w_ne ((wup_n (Ne.symm (w_ne (wup_s _ _ _) hq_26))).trans (wup_s _ _ _)) hq_35)).trans ((wup_n (Ne.symm (w_ne (wup_s _ _ _) hq_26))).trans (wup_s _ _ _)))) hq_44)).trans ((wup_n (Ne.symm (w_ne (wup_s _ _ _) hq_26))).trans ((wup_n (w_ne ((wup_n (Ne.symm (w_ne (wup_s _ _ _) hq_26))).trans (wup_s _ _ _)) hq_35)).trans ((wup_n (Ne.symm (w_ne (wup_s _ _ _) hq_26))).trans (wup_s _ _ _)))))))) hq_59)).trans ((wup_n (Ne.symm (w_ne (wup_s _ _ _) hq_26))).trans ((wup_n (w_ne ((wup_n (Ne.symm (w_ne (wup_s _ _ _) hq_26))).trans ((wup_n (w_ne ((wup_n (Ne.symm (w_ne (wup_s _ _ _) hq_26))).trans ((wup_n (w_ne ((wup_n (Ne.symm (w_ne (wup_s _ _ _) hq_26))).trans (wup_s _ _ _)) hq_35)).trans ((wup_n (Ne.symm (w_ne (wup_s _ _ _) hq_26))).trans (wup_s _ _ _)))) hq_44)).trans ((wup_n (Ne.symm (w_ne (wup_s _ _ _) hq_26))).trans ((wup_n (w_ne ((wup_n (Ne.symm (w_ne (wup_s _ _ _) hq_26))).trans (wup_s _ _ _)) hq_35)).trans ((wup_n (Ne.symm (w_ne (wup_s _ _ _) hq_26))).trans (wup_s _ _ _)))))) hq_53)).trans ((wup_n (Ne.symm (w_ne (wup_s _ _ _) hq_26))).trans ((wup_n (w_ne ((wup_n (Ne.symm (w_ne (wup_s _ _ _) hq_26))).trans ((wup_n (w_ne ((wup_n (Ne.symm (w_ne (wup_s _ _ _) hq_26))).trans (wup_s _ _ _)) hq_35)).trans ((wup_n (Ne.symm (w_ne (wup_s _ _ _) hq_26))).trans (wup_s _ _ _)))) hq_44)).trans ((wup_n (Ne.symm (w_ne (wup_s _ _ _) hq_26))).trans ((wup_n (w_ne ((wup_n (Ne.symm (w_ne (wup_s _ _ _) hq_26))).trans (wup_s _ _ _)) hq_35)).trans ((wup_n (Ne.symm (w_ne (wup_s _ _ _) hq_26))).trans (wup_s _ _ _)))))))))))
  have f_q_35 : w9 q_35 = some _ := (congrFun hw9 _).trans ((wup_n (Ne.symm (w_ne (wup_s _ _ _) hq_35))).trans ((wup_n (w_ne ((wup_n (Ne.symm (w_ne (wup_s _ _ _) hq_35))).trans ((wup_n (w_ne ((wup_n (Ne.symm (w_ne (wup_s _ _ _) hq_35))).trans ((wup_n (w_ne ((wup_n (Ne.symm (w_ne (wup_s _ _ _) hq_35))).trans (wup_s _ _ _)) hq_44)).trans ((wup_n (Ne.symm (w_ne (wup_s _ _ _) hq_35))).trans (wup_s _ _ _)))) hq_53)).trans ((wup_n (Ne.symm (w_ne (wup_s _ _ _) hq_35))).trans ((wup_n (w_ne ((wup_n (Ne.symm (w_ne (wup_s _ _ _) hq_35))).trans (wup_s _ _ _)) hq_44)).trans ((wup_n (Ne.symm (w_ne (wup_s _ _ _) hq_35))).trans (wup_s _ _ _)))))) hq_59)).trans ((wup_n (w_ne ((wup_n (Ne.symm (w_ne (wup_s _ _ _) hq_35))).trans ((wup_n (w_ne ((wup_n (Ne.symm (w_ne (wup_s _ _ _) hq_35))).trans ((wup_n (w_ne ((wup_n (Ne.symm (w_ne (wup_s _ _ _) hq_35))).trans (wup_s _ _ _)) hq_44)).trans ((wup_n (Ne.symm (w_ne (wup_s _ _ _) hq_35))).trans (wup_s _ _ _)))) hq_53)).trans ((wup_n (Ne.symm (w_ne (wup_s _ _ _) hq_35))).trans ((wup_n (w_ne ((wup_n (Ne.symm (w_ne (wup_s _ _ _) hq_35))).trans (wup_s _ _ _)) hq_44)).trans ((wup_n (Ne.symm (w_ne (wup_s _ _ _) hq_35))).trans (wup_s _ _ _)))))) hq_59)).trans ((wup_n (Ne.symm (w_ne (wup_s _ _ _) hq_35))).trans ((wup_n (w_ne ((wup_n (Ne.symm (w_ne (wup_s _ _ _) hq_35))).trans ((wup_n (w_ne ((wup_n (Ne.symm (w_ne (wup_s _ _ _) hq_35))).trans (wup_s _ _ _)) hq_44)).trans ((wup_n (Ne.symm (w_ne (wup_s _ _ _) hq_35))).trans (wup_s _ _ _)))) hq_53)).trans ((wup_n (Ne.symm (w_ne (wup_s _ _ _) hq_35))).trans ((wup_n (w_ne ((wup_n (Ne.symm (w_ne (wup_s _ _ _) hq_35))).trans (wup_s _ _ _)) hq_44)).trans ((wup_n (Ne.symm (w_ne (wup_s _ _ _) hq_35))).trans (wup_s _ _ _)))))))))
  have f_q_44 : w9 q_44 = some _ := (congrFun hw9 _).trans ((wup_n (Ne.symm (w_ne (wup_s _ _ _) hq_44))).trans ((wup_n (w_ne ((wup_n (Ne.symm (w_ne (wup_s _ _ _) hq_44))).trans ((wup_n (w_ne ((wup_n (Ne.symm (w_ne (wup_s _ _ _) hq_44))).trans (wup_s _ _ _)) hq_53)).trans ((wup_n (Ne.symm (w_ne (wup_s _ _ _) hq_44))).trans (wup_s _ _ _)))) hq_59)).trans ((wup_n (w_ne ((wup_n (Ne.symm (w_ne (wup_s _ _ _) hq_44))).trans ((wup_n (w_ne ((wup_n (Ne.symm (w_ne (wup_s _ _ _) hq_44))).trans (wup_s _ _ _)) hq_53)).trans ((wup_n (Ne.symm (w_ne (wup_s _ _ _) hq_44))).trans (wup_s _ _ _)))) hq_59)).trans ((wup_n (Ne.symm (w_ne (wup_s _ _ _) hq_44))).trans ((wup_n (w_ne ((wup_n (Ne.symm (w_ne (wup_s _ _ _) hq_44))).trans (wup_s _ _ _)) hq_53)).trans ((wup_n (Ne.symm (w_ne (wup_s _ _ _) hq_44))).trans (wup_s _ _ _)))))))
  have f_q_53 : w9 q_53 = some _ := (congrFun hw9 _).trans ((wup_n (Ne.symm (w_ne (wup_s _ _ _) hq_53))).trans ((wup_n (w_ne ((wup_n (Ne.symm (w_ne (wup_s _ _ _) hq_53))).trans (wup_s _ _ _)) hq_59)).trans ((wup_n (w_ne ((wup_n (Ne.symm (w_ne (wup_s _ _ _) hq_53))).trans (wup_s _ _ _)) hq_59)).trans ((wup_n (Ne.symm (w_ne (wup_s _ _ _) hq_53))).trans (wup_s _ _ _)))))
  have f_q_59 : w9 q_59 = some _ := (congrFun hw9 _).trans ((wup_n (Ne.symm (w_ne (wup_s _ _ _) hq_59))).trans (wup_s _ _ _))
  have z_q_8 : ω q_8 = none := by
    have h9 := hq_8
    repeat (first | exact h9 | replace h9 := no_up h9)
  have z_q_17 : ω q_17 = none := by
    have h9 := hq_17
    repeat (first | exact h9 | replace h9 := no_up h9)
  have z_q_26 : ω q_26 = none := by
    have h9 := hq_26
    repeat (first | exact h9 | replace h9 := no_up h9)
  have z_q_35 : ω q_35 = none := by
    have h9 := hq_35
    repeat (first | exact h9 | replace h9 := no_up h9)
  have z_q_44 : ω q_44 = none := by
    have h9 := hq_44
    repeat (first | exact h9 | replace h9 := no_up h9)
  have z_q_53 : ω q_53 = none := by
    have h9 := hq_53
    repeat (first | exact h9 | replace h9 := no_up h9)
  have z_q_59 : ω q_59 = none := by
    have h9 := hq_59
    repeat (first | exact h9 | replace h9 := no_up h9)
  have n_q_8_q_17 : q_8 ≠ q_17 := (w_ne ((wup_n (Ne.symm (w_ne ha hq_8))).trans (wup_s _ _ _)) hq_17)
  have n_q_8_q_26 : q_8 ≠ q_26 := (w_ne ((wup_n (Ne.symm (w_ne ha hq_8))).trans ((wup_n (w_ne ((wup_n (Ne.symm (w_ne ha hq_8))).trans (wup_s _ _ _)) hq_17)).trans ((wup_n (Ne.symm (w_ne ha hq_8))).trans (wup_s _ _ _)))) hq_26)
  have n_q_17_q_26 : q_17 ≠ q_26 := (w_ne ((wup_n (Ne.symm (w_ne (wup_s _ _ _) hq_17))).trans (wup_s _ _ _)) hq_26)
  have n_q_8_q_35 : q_8 ≠ q_35 := (w_ne ((wup_n (Ne.symm (w_ne ha hq_8))).trans ((wup_n (w_ne ((wup_n (Ne.symm (w_ne ha hq_8))).trans ((wup_n (w_ne ((wup_n (Ne.symm (w_ne ha hq_8))).trans (wup_s _ _ _)) hq_17)).trans ((wup_n (Ne.symm (w_ne ha hq_8))).trans (wup_s _ _ _)))) hq_26)).trans ((wup_n (Ne.symm (w_ne ha hq_8))).trans ((wup_n (w_ne ((wup_n (Ne.symm (w_ne ha hq_8))).trans (wup_s _ _ _)) hq_17)).trans ((wup_n (Ne.symm (w_ne ha hq_8))).trans (wup_s _ _ _)))))) hq_35)
  have n_q_17_q_35 : q_17 ≠ q_35 := (w_ne ((wup_n (Ne.symm (w_ne (wup_s _ _ _) hq_17))).trans ((wup_n (w_ne ((wup_n (Ne.symm (w_ne (wup_s _ _ _) hq_17))).trans (wup_s _ _ _)) hq_26)).trans ((wup_n (Ne.symm (w_ne (wup_s _ _ _) hq_17))).trans (wup_s _ _ _)))) hq_35)
  have n_q_26_q_35 : q_26 ≠ q_35 := (w_ne ((wup_n (Ne.symm (w_ne (wup_s _ _ _) hq_26))).trans (wup_s _ _ _)) hq_35)
  have n_q_8_q_44 : q_8 ≠ q_44 := (w_ne ((wup_n (Ne.symm (w_ne ha hq_8))).trans ((wup_n (w_ne ((wup_n (Ne.symm (w_ne ha hq_8))).trans ((wup_n (w_ne ((wup_n (Ne.symm (w_ne ha hq_8))).trans ((wup_n (w_ne ((wup_n (Ne.symm (w_ne ha hq_8))).trans (wup_s _ _ _)) hq_17)).trans ((wup_n (Ne.symm (w_ne ha hq_8))).trans (wup_s _ _ _)))) hq_26)).trans ((wup_n (Ne.symm (w_ne ha hq_8))).trans ((wup_n (w_ne ((wup_n (Ne.symm (w_ne ha hq_8))).trans (wup_s _ _ _)) hq_17)).trans ((wup_n (Ne.symm (w_ne ha hq_8))).trans (wup_s _ _ _)))))) hq_35)).trans ((wup_n (Ne.symm (w_ne ha hq_8))).trans ((wup_n (w_ne ((wup_n (Ne.symm (w_ne ha hq_8))).trans ((wup_n (w_ne ((wup_n (Ne.symm (w_ne ha hq_8))).trans (wup_s _ _ _)) hq_17)).trans ((wup_n (Ne.symm (w_ne ha hq_8))).trans (wup_s _ _ _)))) hq_26)).trans ((wup_n (Ne.symm (w_ne ha hq_8))).trans ((wup_n (w_ne ((wup_n (Ne.symm (w_ne ha hq_8))).trans (wup_s _ _ _)) hq_17)).trans ((wup_n (Ne.symm (w_ne ha hq_8))).trans (wup_s _ _ _)))))))) hq_44)
  have n_q_17_q_44 : q_17 ≠ q_44 := (w_ne ((wup_n (Ne.symm (w_ne (wup_s _ _ _) hq_17))).trans ((wup_n (w_ne ((wup_n (Ne.symm (w_ne (wup_s _ _ _) hq_17))).trans ((wup_n (w_ne ((wup_n (Ne.symm (w_ne (wup_s _ _ _) hq_17))).trans (wup_s _ _ _)) hq_26)).trans ((wup_n (Ne.symm (w_ne (wup_s _ _ _) hq_17))).trans (wup_s _ _ _)))) hq_35)).trans ((wup_n (Ne.symm (w_ne (wup_s _ _ _) hq_17))).trans ((wup_n (w_ne ((wup_n (Ne.symm (w_ne (wup_s _ _ _) hq_17))).trans (wup_s _ _ _)) hq_26)).trans ((wup_n (Ne.symm (w_ne (wup_s _ _ _) hq_17))).trans (wup_s _ _ _)))))) hq_44)
  have n_q_26_q_44 : q_26 ≠ q_44 := (w_ne ((wup_n (Ne.symm (w_ne (wup_s _ _ _) hq_26))).trans ((wup_n (w_ne ((wup_n (Ne.symm (w_ne (wup_s _ _ _) hq_26))).trans (wup_s _ _ _)) hq_35)).trans ((wup_n (Ne.symm (w_ne (wup_s _ _ _) hq_26))).trans (wup_s _ _ _)))) hq_44)
  have n_q_35_q_44 : q_35 ≠ q_44 := (w_ne ((wup_n (Ne.symm (w_ne (wup_s _ _ _) hq_35))).trans (wup_s _ _ _)) hq_44)
  have n_q_8_q_53 : q_8 ≠ q_53 := (w_ne ((wup_n (Ne.symm (w_ne ha hq_8))).trans ((wup_n (w_ne ((wup_n (Ne.symm (w_ne ha hq_8))).trans ((wup_n (w_ne ((wup_n (Ne.symm (w_ne ha hq_8))).trans ((wup_n (w_ne ((wup_n (Ne.symm (w_ne ha hq_8))).trans ((wup_n (w_ne ((wup_n (Ne.symm (w_ne ha hq_8))).trans (wup_s _ _ _)) hq_17)).trans ((wup_n (Ne.symm (w_ne ha hq_8))).trans (wup_s _ _ _)))) hq_26)).trans ((wup_n (Ne.symm (w_ne ha hq_8))).trans ((wup_n (w_ne ((wup_n (Ne.symm (w_ne ha hq_8))).trans (wup_s _ _ _)) hq_17)).trans ((wup_n (Ne.symm (w_ne ha hq_8))).trans (wup_s _ _ _)))))) hq_35)).trans ((wup_n (Ne.symm (w_ne ha hq_8))).trans ((wup_n (w_ne ((wup_n (Ne.symm (w_ne ha hq_8))).trans ((wup_n (w_ne ((wup_n (Ne.symm (w_ne ha hq_8))).trans (wup_s _ _ _)) hq_17)).trans ((wup_n (Ne.symm (w_ne ha hq_8))).trans (wup_s _ _ _)))) hq_26)).trans ((wup_n (Ne.symm (w_ne ha hq_8))).trans ((wup_n (w_ne ((wup_n (Ne.symm (w_ne ha hq_8))).trans (wup_s _ _ _)) hq_17)).trans ((wup_n (Ne.symm (w_ne ha hq_8))).trans (wup_s _ _ _)))))))) hq_44)).trans ((wup_n (Ne.symm (w_ne ha hq_8))).trans ((wup_n (w_ne ((wup_n (Ne.symm (w_ne ha hq_8))).trans ((wup_n (w_ne ((wup_n (Ne.symm (w_ne ha hq_8))).trans ((wup_n (w_ne ((wup_n (Ne.symm (w_ne ha hq_8))).trans (wup_s _ _ _)) hq_17)).trans ((wup_n (Ne.symm (w_ne ha hq_8))).trans (wup_s _ _ _)))) hq_26)).trans ((wup_n (Ne.symm (w_ne ha hq_8))).trans ((wup_n (w_ne ((wup_n (Ne.symm (w_ne ha hq_8))).trans (wup_s _ _ _)) hq_17)).trans ((wup_n (Ne.symm (w_ne ha hq_8))).trans (wup_s _ _ _)))))) hq_35)).trans ((wup_n (Ne.symm (w_ne ha hq_8))).trans ((wup_n (w_ne ((wup_n (Ne.symm (w_ne ha hq_8))).trans ((wup_n (w_ne ((wup_n (Ne.symm (w_ne ha hq_8))).trans (wup_s _ _ _)) hq_17)).trans ((wup_n (Ne.symm (w_ne ha hq_8))).trans (wup_s _ _ _)))) hq_26)).trans ((wup_n (Ne.symm (w_ne ha hq_8))).trans ((wup_n (w_ne ((wup_n (Ne.symm (w_ne ha hq_8))).trans (wup_s _ _ _)) hq_17)).trans ((wup_n (Ne.symm (w_ne ha hq_8))).trans (wup_s _ _ _)))))))))) hq_53)
  have n_q_17_q_53 : q_17 ≠ q_53 := (w_ne ((wup_n (Ne.symm (w_ne (wup_s _ _ _) hq_17))).trans ((wup_n (w_ne ((wup_n (Ne.symm (w_ne (wup_s _ _ _) hq_17))).trans ((wup_n (w_ne ((wup_n (Ne.symm (w_ne (wup_s _ _ _) hq_17))).trans ((wup_n (w_ne ((wup_n (Ne.symm (w_ne (wup_s _ _ _) hq_17))).trans (wup_s _ _ _)) hq_26)).trans ((wup_n (Ne.symm (w_ne (wup_s _ _ _) hq_17))).trans (wup_s _ _ _)))) hq_35)).trans ((wup_n (Ne.symm (w_ne (wup_s _ _ _) hq_17))).trans ((wup_n (w_ne ((wup_n (Ne.symm (w_ne (wup_s _ _ _) hq_17))).trans (wup_s _ _ _)) hq_26)).trans ((wup_n (Ne.symm (w_ne (wup_s _ _ _) hq_17))).trans (wup_s _ _ _)))))) hq_44)).trans ((wup_n (Ne.symm (w_ne (wup_s _ _ _) hq_17))).trans ((wup_n (w_ne ((wup_n (Ne.symm (w_ne (wup_s _ _ _) hq_17))).trans ((wup_n (w_ne ((wup_n (Ne.symm (w_ne (wup_s _ _ _) hq_17))).trans (wup_s _ _ _)) hq_26)).trans ((wup_n (Ne.symm (w_ne (wup_s _ _ _) hq_17))).trans (wup_s _ _ _)))) hq_35)).trans ((wup_n (Ne.symm (w_ne (wup_s _ _ _) hq_17))).trans ((wup_n (w_ne ((wup_n (Ne.symm (w_ne (wup_s _ _ _) hq_17))).trans (wup_s _ _ _)) hq_26)).trans ((wup_n (Ne.symm (w_ne (wup_s _ _ _) hq_17))).trans (wup_s _ _ _)))))))) hq_53)
  have n_q_26_q_53 : q_26 ≠ q_53 := (w_ne ((wup_n (Ne.symm (w_ne (wup_s _ _ _) hq_26))).trans ((wup_n (w_ne ((wup_n (Ne.symm (w_ne (wup_s _ _ _) hq_26))).trans ((wup_n (w_ne ((wup_n (Ne.symm (w_ne (wup_s _ _ _) hq_26))).trans (wup_s _ _ _)) hq_35)).trans ((wup_n (Ne.symm (w_ne (wup_s _ _ _) hq_26))).trans (wup_s _ _ _)))) hq_44)).trans ((wup_n (Ne.symm (w_ne (wup_s _ _ _) hq_26))).trans ((wup_n (w_ne ((wup_n (Ne.symm (w_ne (wup_s _ _ _) hq_26))).trans (wup_s _ _ _)) hq_35)).trans ((wup_n (Ne.symm (w_ne (wup_s _ _ _) hq_26))).trans (wup_s _ _ _)))))) hq_53)
  have n_q_35_q_53 : q_35 ≠ q_53 := (w_ne ((wup_n (Ne.symm (w_ne (wup_s _ _ _) hq_35))).trans ((wup_n (w_ne ((wup_n (Ne.symm (w_ne (wup_s _ _ _) hq_35))).trans (wup_s _ _ _)) hq_44)).trans ((wup_n (Ne.symm (w_ne (wup_s _ _ _) hq_35))).trans (wup_s _ _ _)))) hq_53)
  have n_q_44_q_53 : q_44 ≠ q_53 := (w_ne ((wup_n (Ne.symm (w_ne (wup_s _ _ _) hq_44))).trans (wup_s _ _ _)) hq_53)
  have n_q_8_q_59 : q_8 ≠ q_59 := (w_ne ((wup_n (Ne.symm (w_ne ha hq_8))).trans ((wup_n (w_ne ((wup_n (Ne.symm (w_ne ha hq_8))).trans ((wup_n (w_ne ((wup_n (Ne.symm (w_ne ha hq_8))).trans ((wup_n (w_ne ((wup_n (Ne.symm (w_ne ha hq_8))).trans ((wup_n (w_ne ((wup_n (Ne.symm (w_ne ha hq_8))).trans ((wup_n (w_ne ((wup_n (Ne.symm (w_ne ha hq_8))).trans (wup_s _ _ _)) hq_17)).trans ((wup_n (Ne.symm (w_ne ha hq_8))).trans (wup_s _ _ _)))) hq_26)).trans ((wup_n (Ne.symm (w_ne ha hq_8))).trans ((wup_n (w_ne ((wup_n (Ne.symm (w_ne ha hq_8))).trans (wup_s _ _ _)) hq_17)).trans ((wup_n (Ne.symm (w_ne ha hq_8))).trans (wup_s _ _ _)))))) hq_35)).trans ((wup_n (Ne.symm (w_ne ha hq_8))).trans ((wup_n (w_ne ((wup_n (Ne.symm (w_ne ha hq_8))).trans ((wup_n (w_ne ((wup_n (Ne.symm (w_ne ha hq_8))).trans (wup_s _ _ _)) hq_17)).trans ((wup_n (Ne.symm (w_ne ha hq_8))).trans (wup_s _ _ _)))) hq_26)).trans ((wup_n (Ne.symm (w_ne ha hq_8))).trans ((wup_n (w_ne ((wup_n (Ne.symm (w_ne ha hq_8))).trans (wup_s _ _ _)) hq_17)).trans ((wup_n (Ne.symm (w_ne ha hq_8))).trans (wup_s _ _ _)))))))) hq_44)).trans ((wup_n (Ne.symm (w_ne ha hq_8))).trans ((wup_n (w_ne ((wup_n (Ne.symm (w_ne ha hq_8))).trans ((wup_n (w_ne ((wup_n (Ne.symm (w_ne ha hq_8))).trans ((wup_n (w_ne ((wup_n (Ne.symm (w_ne ha hq_8))).trans (wup_s _ _ _)) hq_17)).trans ((wup_n (Ne.symm (w_ne ha hq_8))).trans (wup_s _ _ _)))) hq_26)).trans ((wup_n (Ne.symm (w_ne ha hq_8))).trans ((wup_n (w_ne ((wup_n (Ne.symm (w_ne ha hq_8))).trans (wup_s _ _ _)) hq_17)).trans ((wup_n (Ne.symm (w_ne ha hq_8))).trans (wup_s _ _ _)))))) hq_35)).trans ((wup_n (Ne.symm (w_ne ha hq_8))).trans ((wup_n (w_ne ((wup_n (Ne.symm (w_ne ha hq_8))).trans ((wup_n (w_ne ((wup_n (Ne.symm (w_ne ha hq_8))).trans (wup_s _ _ _)) hq_17)).trans ((wup_n (Ne.symm (w_ne ha hq_8))).trans (wup_s _ _ _)))) hq_26)).trans ((wup_n (Ne.symm (w_ne ha hq_8))).trans ((wup_n (w_ne ((wup_n (Ne.symm (w_ne ha hq_8))).trans (wup_s _ _ _)) hq_17)).trans ((wup_n (Ne.symm (w_ne ha hq_8))).trans (wup_s _ _ _)))))))))) hq_53)).trans ((wup_n (Ne.symm (w_ne ha hq_8))).trans ((wup_n (w_ne ((wup_n (Ne.symm (w_ne ha hq_8))).trans ((wup_n (w_ne ((wup_n (Ne.symm (w_ne ha hq_8))).trans ((wup_n (w_ne ((wup_n (Ne.symm (w_ne ha hq_8))).trans ((wup_n (w_ne ((wup_n (Ne.symm (w_ne ha hq_8))).trans (wup_s _ _ _)) hq_17)).trans ((wup_n (Ne.symm (w_ne ha hq_8))).trans (wup_s _ _ _)))) hq_26)).trans ((wup_n (Ne.symm (w_ne ha hq_8))).trans ((wup_n (w_ne ((wup_n (Ne.symm (w_ne ha hq_8))).trans (wup_s _ _ _)) hq_17)).trans ((wup_n (Ne.symm (w_ne ha hq_8))).trans (wup_s _ _ _)))))) hq_35)).trans ((wup_n (Ne.symm (w_ne ha hq_8))).trans ((wup_n (w_ne ((wup_n (Ne.symm (w_ne ha hq_8))).trans ((wup_n (w_ne ((wup_n (Ne.symm (w_ne ha hq_8))).trans (wup_s _ _ _)) hq_17)).trans ((wup_n (Ne.symm (w_ne ha hq_8))).trans (wup_s _ _ _)))) hq_26)).trans ((wup_n (Ne.symm (w_ne ha hq_8))).trans ((wup_n (w_ne ((wup_n (Ne.symm (w_ne ha hq_8))).trans (wup_s _ _ _)) hq_17)).trans ((wup_n (Ne.symm (w_ne ha hq_8))).trans (wup_s _ _ _)))))))) hq_44)).trans ((wup_n (Ne.symm (w_ne ha hq_8))).trans ((wup_n (w_ne ((wup_n (Ne.symm (w_ne ha hq_8))).trans ((wup_n (w_ne ((wup_n (Ne.symm (w_ne ha hq_8))).trans ((wup_n (w_ne ((wup_n (Ne.symm (w_ne ha hq_8))).trans (wup_s _ _ _)) hq_17)).trans ((wup_n (Ne.symm (w_ne ha hq_8))).trans (wup_s _ _ _)))) hq_26)).trans ((wup_n (Ne.symm (w_ne ha hq_8))).trans ((wup_n (w_ne ((wup_n (Ne.symm (w_ne ha hq_8))).trans (wup_s _ _ _)) hq_17)).trans ((wup_n (Ne.symm (w_ne ha hq_8))).trans (wup_s _ _ _)))))) hq_35)).trans ((wup_n (Ne.symm (w_ne ha hq_8))).trans ((wup_n (w_ne ((wup_n (Ne.symm (w_ne ha hq_8))).trans ((wup_n (w_ne ((wup_n (Ne.symm (w_ne ha hq_8))).trans (wup_s _ _ _)) hq_17)).trans ((wup_n (Ne.symm (w_ne ha hq_8))).trans (wup_s _ _ _)))) hq_26)).trans ((wup_n (Ne.symm (w_ne ha hq_8))).trans ((wup_n (w_ne ((wup_n (Ne.symm (w_ne ha hq_8))).trans (wup_s _ _ _)) hq_17)).trans ((wup_n (Ne.symm (w_ne ha hq_8))).trans (wup_s _ _ _)))))))))))) hq_59)
  have n_q_17_q_59 : q_17 ≠ q_59 := (w_ne ((wup_n (Ne.symm (w_ne (wup_s _ _ _) hq_17))).trans ((wup_n (w_ne ((wup_n (Ne.symm (w_ne (wup_s _ _ _) hq_17))).trans ((wup_n (w_ne ((wup_n (Ne.symm (w_ne (wup_s _ _ _) hq_17))).trans ((wup_n (w_ne ((wup_n (Ne.symm (w_ne (wup_s _ _ _) hq_17))).trans ((wup_n (w_ne ((wup_n (Ne.symm (w_ne (wup_s _ _ _) hq_17))).trans (wup_s _ _ _)) hq_26)).trans ((wup_n (Ne.symm (w_ne (wup_s _ _ _) hq_17))).trans (wup_s _ _ _)))) hq_35)).trans ((wup_n (Ne.symm (w_ne (wup_s _ _ _) hq_17))).trans ((wup_n (w_ne ((wup_n (Ne.symm (w_ne (wup_s _ _ _) hq_17))).trans (wup_s _ _ _)) hq_26)).trans ((wup_n (Ne.symm (w_ne (wup_s _ _ _) hq_17))).trans (wup_s _ _ _)))))) hq_44)).trans ((wup_n (Ne.symm (w_ne (wup_s _ _ _) hq_17))).trans ((wup_n (w_ne ((wup_n (Ne.symm (w_ne (wup_s _ _ _) hq_17))).trans ((wup_n (w_ne ((wup_n (Ne.symm (w_ne (wup_s _ _ _) hq_17))).trans (wup_s _ _ _)) hq_26)).trans ((wup_n (Ne.symm (w_ne (wup_s _ _ _) hq_17))).trans (wup_s _ _ _)))) hq_35)).trans ((wup_n (Ne.symm (w_ne (wup_s _ _ _) hq_17))).trans ((wup_n (w_ne ((wup_n (Ne.symm (w_ne (wup_s _ _ _) hq_17))).trans (wup_s _ _ _)) hq_26)).trans ((wup_n (Ne.symm (w_ne (wup_s _ _ _) hq_17))).trans (wup_s _ _ _)))))))) hq_53)).trans ((wup_n (Ne.symm (w_ne (wup_s _ _ _) hq_17))).trans ((wup_n (w_ne ((wup_n (Ne.symm (w_ne (wup_s _ _ _) hq_17))).trans ((wup_n (w_ne ((wup_n (Ne.symm (w_ne (wup_s _ _ _) hq_17))).trans ((wup_n (w_ne ((wup_n (Ne.symm (w_ne (wup_s _ _ _) hq_17))).trans (wup_s _ _ _)) hq_26)).trans ((wup_n (Ne.symm (w_ne (wup_s _ _ _) hq_17))).trans (wup_s _ _ _)))) hq_35)).trans ((wup_n (Ne.symm (w_ne (wup_s _ _ _) hq_17))).trans ((wup_n (w_ne ((wup_n (Ne.symm (w_ne (wup_s _ _ _) hq_17))).trans (wup_s _ _ _)) hq_26)).trans ((wup_n (Ne.symm (w_ne (wup_s _ _ _) hq_17))).trans (wup_s _ _ _)))))) hq_44)).trans ((wup_n (Ne.symm (w_ne (wup_s _ _ _) hq_17))).trans ((wup_n (w_ne ((wup_n (Ne.symm (w_ne (wup_s _ _ _) hq_17))).trans ((wup_n (w_ne ((wup_n (Ne.symm (w_ne (wup_s _ _ _) hq_17))).trans (wup_s _ _ _)) hq_26)).trans ((wup_n (Ne.symm (w_ne (wup_s _ _ _) hq_17))).trans (wup_s _ _ _)))) hq_35)).trans ((wup_n (Ne.symm (w_ne (wup_s _ _ _) hq_17))).trans ((wup_n (w_ne ((wup_n (Ne.symm (w_ne (wup_s _ _ _) hq_17))).trans (wup_s _ _ _)) hq_26)).trans ((wup_n (Ne.symm (w_ne (wup_s _ _ _) hq_17))).trans (wup_s _ _ _)))))))))) hq_59)
  have n_q_26_q_59 : q_26 ≠ q_59 := (w_ne ((wup_n (Ne.symm (w_ne (wup_s _ _ _) hq_26))).trans ((wup_n (w_ne ((wup_n (Ne.symm (w_ne (wup_s _ _ _) hq_26))).trans ((wup_n (w_ne ((wup_n (Ne.symm (w_ne (wup_s _ _ _) hq_26))).trans ((wup_n (w_ne ((wup_n (Ne.symm (w_ne (wup_s _ _ _) hq_26))).trans (wup_s _ _ _)) hq_35)).trans ((wup_n (Ne.symm (w_ne (wup_s _ _ _) hq_26))).trans (wup_s _ _ _)))) hq_44)).trans ((wup_n (Ne.symm (w_ne (wup_s _ _ _) hq_26))).trans ((wup_n (w_ne ((wup_n (Ne.symm (w_ne (wup_s _ _ _) hq_26))).trans (wup_s _ _ _)) hq_35)).trans ((wup_n (Ne.symm (w_ne (wup_s _ _ _) hq_26))).trans (wup_s _ _ _)))))) hq_53)).trans ((wup_n (Ne.symm (w_ne (wup_s _ _ _) hq_26))).trans ((wup_n (w_ne ((wup_n (Ne.symm (w_ne (wup_s _ _ _) hq_26))).trans ((wup_n (w_ne ((wup_n (Ne.symm (w_ne (wup_s _ _ _) hq_26))).trans (wup_s _ _ _)) hq_35)).trans ((wup_n (Ne.symm (w_ne (wup_s _ _ _) hq_26))).trans (wup_s _ _ _)))) hq_44)).trans ((wup_n (Ne.symm (w_ne (wup_s _ _ _) hq_26))).trans ((wup_n (w_ne ((wup_n (Ne.symm (w_ne (wup_s _ _ _) hq_26))).trans (wup_s _ _ _)) hq_35)).trans ((wup_n (Ne.symm (w_ne (wup_s _ _ _) hq_26))).trans (wup_s _ _ _)))))))) hq_59)
  have n_q_35_q_59 : q_35 ≠ q_59 := (w_ne ((wup_n (Ne.symm (w_ne (wup_s _ _ _) hq_35))).trans ((wup_n (w_ne ((wup_n (Ne.symm (w_ne (wup_s _ _ _) hq_35))).trans ((wup_n (w_ne ((wup_n (Ne.symm (w_ne (wup_s _ _ _) hq_35))).trans (wup_s _ _ _)) hq_44)).trans ((wup_n (Ne.symm (w_ne (wup_s _ _ _) hq_35))).trans (wup_s _ _ _)))) hq_53)).trans ((wup_n (Ne.symm (w_ne (wup_s _ _ _) hq_35))).trans ((wup_n (w_ne ((wup_n (Ne.symm (w_ne (wup_s _ _ _) hq_35))).trans (wup_s _ _ _)) hq_44)).trans ((wup_n (Ne.symm (w_ne (wup_s _ _ _) hq_35))).trans (wup_s _ _ _)))))) hq_59)
  have n_q_44_q_59 : q_44 ≠ q_59 := (w_ne ((wup_n (Ne.symm (w_ne (wup_s _ _ _) hq_44))).trans ((wup_n (w_ne ((wup_n (Ne.symm (w_ne (wup_s _ _ _) hq_44))).trans (wup_s _ _ _)) hq_53)).trans ((wup_n (Ne.symm (w_ne (wup_s _ _ _) hq_44))).trans (wup_s _ _ _)))) hq_59)
  have n_q_53_q_59 : q_53 ≠ q_59 := (w_ne ((wup_n (Ne.symm (w_ne (wup_s _ _ _) hq_53))).trans (wup_s _ _ _)) hq_59)
  have hfr : ∀ p e, p ≠ a → ω p = some e → w9 p = some e := fun p e hp he => by
    rw [hw9]
    repeat (first | exact he | refine (wup_n (by first | exact hp | exact w_ne he z_q_8 | exact w_ne he z_q_17 | exact w_ne he z_q_26 | exact w_ne he z_q_35 | exact w_ne he z_q_44 | exact w_ne he z_q_53 | exact w_ne he z_q_59)).trans ?_)
  have hN : [q_8, q_17, q_26, q_35, q_44, q_53, q_59].Nodup := by simp [n_q_8_q_17, n_q_8_q_26, n_q_17_q_26, n_q_8_q_35, n_q_17_q_35, n_q_26_q_35, n_q_8_q_44, n_q_17_q_44, n_q_26_q_44, n_q_35_q_44, n_q_8_q_53, n_q_17_q_53, n_q_26_q_53, n_q_35_q_53, n_q_44_q_53, n_q_8_q_59, n_q_17_q_59, n_q_26_q_59, n_q_35_q_59, n_q_44_q_59, n_q_53_q_59]
  clear hw9
  have hna : a ≠ q_26 := w_ne ha z_q_26
  refine s_iconst hC (v := 0) dX7_init_69 rfl (by decide) ?_
  refine s_istore_n hC (L' := [(1, _), (0, _)]) dX7_init_70 rfl rfl (le_b rfl) rfl ?_
  refine WP.sub (L' := [(0, _), (1, _)]) [1, 0] rfl ?_
  refine wp_loop (σ := Int32 × Wd × Nat) (I := fun (i, W, j) => j ≤ 200 ∧ i = nI j ∧ W = wup w9 q_26 (.inl (g.2.1 0, 200, .inl (fillN (fun _ => 0) 0 j 20)))) (ωf := fun (i, W, j) => W) (Lf := fun (i, W, j) => [(0, .ref a), (1, .int i)]) (μ := fun (i, W, j) => 200 - j) (x0 := (_, _, 0)) ?_ ?_
  · exact ⟨Nat.zero_le _, rfl, by rw [fillN_0]; exact (wup_self f_q_26).symm⟩
  · rintro ⟨i, W, j⟩ hI ih
    dsimp only at hI ih ⊢
    obtain ⟨hj, rfl, rfl⟩ := hI
    have hin9 : ¬ nI 200 ≤ nI j → j < 200 := nI_ltc (by decide) hj
    refine s_iload_n hC dX7_init_71 rfl rfl 1 rfl ?_
    refine s_aload_n hC dX7_init_72 rfl rfl 0 rfl ?_
    refine s_getf hC cs_X7 2 tw_88 (le_b rfl) ((wup_n hna).trans f_a) rfl dX7_init_73 rfl ?_
    refine s_alenI hC (Or.inl (wup_s _ _ _)) dX7_init_76 rfl ?_
    refine z_icmp_ge hC (tgt := 94) dX7_init_77 rfl (by decide) (fun c_1 => ?_) (fun c_1 => ?_)
    · refine s_vret hC hr dX7_init_94 (le_b rfl) (le_b rfl) ?_
      obtain rfl : j = 200 := nI_lec (by decide) hj c_1
      exact ⟨q_8, q_17, q_26, q_35, q_44, q_53, q_59, hN, none_cons z_q_8 (none_cons z_q_17 (none_cons z_q_26 (none_cons z_q_35 (none_cons z_q_44 (none_cons z_q_53 (none_cons z_q_59 none_nil)))))), rfl, (wup_n hna).trans f_a, (wup_n n_q_8_q_26).trans f_q_8, (wup_n n_q_17_q_26).trans f_q_17, wup_s _ _ _, (wup_n (Ne.symm n_q_26_q_35)).trans f_q_35, (wup_n (Ne.symm n_q_26_q_44)).trans f_q_44, (wup_n (Ne.symm n_q_26_q_53)).trans f_q_53, (wup_n (Ne.symm n_q_26_q_59)).trans f_q_59, fun p e hp he => (wup_n (w_ne he z_q_26)).trans (hfr p e hp he)⟩
    · refine s_aload_n hC dX7_init_80 rfl rfl 0 rfl ?_
      refine s_getf hC cs_X7 2 tw_88 (le_b rfl) ((wup_n hna).trans f_a) rfl dX7_init_81 rfl ?_
      refine s_iload_n hC dX7_init_84 rfl rfl 1 rfl ?_
      refine s_bipush hC (v := 20) dX7_init_85 rfl (by decide) ?_
      refine s_iast hC (wup_s _ _ _) (vp_in_nI (hin9 c_1) (by decide)) dX7_init_87 rfl ?_
      refine s_iinc hC (v := _ + 1) (j9 := 1) (L' := [(1, _), (0, _)]) dX7_init_88 rfl rfl rfl (le_b rfl) rfl ?_
      refine s_goto hC (tgt := 71) dX7_init_91 (by decide) ?_
      refine WP.sub (L' := [(0, _), (1, _)]) [1, 0] rfl ?_
      refine ih (_, (wup _ _ _), j + 1) ?_ ?_
      · dsimp only
        have h9 := hin9 c_1
        refine ⟨by omega, nI_1 j, ?_⟩
        rw [wup_wup, nI_clamp (by omega), ← fillN_up, Nat.zero_add]
      · dsimp only
        have h9 := hin9 c_1; omega
theorem nodup2 {a b : Nat} (h : a ≠ b) : [a, b].Nodup := by simp [h]
def pmOK (pm : List Nat) : Bool := (List.range 20).all fun i => decide (pm.getD i 0 < 20) && (List.range 20).all fun j => decide (pm.getD i 0 = pm.getD j 0 → i = j)
theorem nd_inj {K : List Nat} (hN : K.Nodup) : ∀ a b, a < K.length → b < K.length → K.getD a 0 = K.getD b 0 → a = b := by
  intro a b ha hb he
  have hP := List.pairwise_iff_getElem.mp hN
  rw [List.getD_eq_getElem?_getD, List.getD_eq_getElem?_getD, List.getElem?_eq_getElem ha, List.getElem?_eq_getElem hb] at he
  rcases Nat.lt_trichotomy a b with h | h | h
  · exact absurd he (hP _ _ ha hb h)
  · exact h
  · exact absurd he.symm (hP _ _ hb ha h)
theorem pm_inj {K pm : List Nat} (hN : K.Nodup) (hK : K.length = 20) (hp : pmOK pm = true) : ∀ i j, i < 20 → j < 20 → K.getD (pm.getD i 0) 0 = K.getD (pm.getD j 0) 0 → i = j := by
  intro i j hi hj he
  simp only [pmOK, List.all_eq_true, List.mem_range, Bool.and_eq_true, decide_eq_true_eq] at hp
  obtain ⟨h1, h2⟩ := hp i hi
  obtain ⟨h3, -⟩ := hp j hj
  exact h2 j hj (nd_inj hN _ _ (by omega) (by omega) he)
def adP (K pm : List Nat) (z : Nat) : Ix → Nat
  | .inl i => if i < 20 then K.getD (pm.getD i 0) 0 else z
  | .inr _ => z
def s00 : St := (fun _ => 0, fun _ => 0, dp0, fun _ => 0, fun _ => 0, fun _ => 0, fun _ => 0, stF [103, 112, 99, 115, 109, 119, 104], fun _ => 0, 0, 0, 0, 0, 0, false, 0, 0, 0, 0, 0, 0, 0, 0, 0, 0, fun _ => (0, 0, 0, 0, false, 0, 0, 0, 0, 0, false, false, 0, 0), 0, fun _ => (0, 0, 0, 0, 0, false, 0), 0, fun _ => (0, 0))
def x00 : Ex := (0, 0, 0, 0, 0, 0, 0, 0, 0, 0, fun _ => none, fun _ => none, fun _ => none)
theorem rep0 {g : Gl} {K pm : List Nat} {w : Wd} (hN : K.Nodup) (hK : K.length = 20) (hp : pmOK pm = true) (hg : g.2.1 3 ≠ g.2.1 0) (hc : ∀ i, i < 20 → w (adP K pm (g.2.2.1 19) (.inl i)) = some (skC g (adP K pm (g.2.2.1 19)) x00 s00 i)) : RepC g (adP K pm (g.2.2.1 19)) x00 s00 w := by
  have hk : ∀ k, VC x00 s00 k → ∃ i, k = .inl i ∧ i < 20 := by
    intro k hk
    rcases k with a | i | i | i
    · by_cases ha : a < 20
      · exact ⟨a, rfl, ha⟩
      · rcases a with _ | _ | _ | _ | _ | _ | _ | _ | _ | _ | _ | _ | _ | _ | _ | _ | _ | _ | _ | _ | _ | _ | _ | a9 <;> first | (exfalso; omega) | exact absurd rfl hk | exact absurd hk (fun z9 => z9)
    · exact absurd hk (Nat.not_lt_zero _)
    · exact absurd hk (Nat.not_lt_zero _)
    · exact absurd hk (Nat.not_lt_zero _)
  refine ⟨?_, ?_, ⟨by decide, Nat.le_refl _, fun _ => rfl, fun i hi => absurd hi (Nat.not_lt_zero _)⟩, ⟨by decide, Nat.le_refl _, fun _ => rfl, fun i hi => absurd hi (Nat.not_lt_zero _)⟩, ⟨by decide, Nat.le_refl _, fun _ => rfl, fun i hi => absurd hi (Nat.not_lt_zero _)⟩, hg⟩
  · intro k h
    obtain ⟨i, rfl, hi⟩ := hk k h
    exact hc i hi
  · intro k k' h h' he
    obtain ⟨i, rfl, hi⟩ := hk k h
    obtain ⟨j, rfl, hj⟩ := hk k' h'
    have he2 : K.getD (pm.getD i 0) 0 = K.getD (pm.getD j 0) 0 := by
      have h9 : (if i < 20 then K.getD (pm.getD i 0) 0 else g.2.2.1 19) = (if j < 20 then K.getD (pm.getD j 0) 0 else g.2.2.1 19) := he
      rwa [if_pos hi, if_pos hj] at h9
    rw [pm_inj hN hK hp i j hi hj he2]
set_option maxHeartbeats 4000000 in
set_option maxRecDepth 100000 in
theorem ct_X9_init (l : Launch) (g : Gl) (ω : Wd) (m9 : Nat) (hm : ω m9 = some (.inr (14, [.null, .null, .null, .null, .null, .null, .null, .null, .null]))) (hg : g.2.1 3 ≠ g.2.1 0) : CT l g yX9_init cX9_init 1 none 5 101 19 1256 [.ref m9] ω (fun r w => ∃ ad, r = none ∧ RepC g ad x00 s00 w ∧ ad .main = m9 ∧ ∀ p e, p ≠ m9 → ω p = some e → w p = some e) (nox) := by
  refine CT.of (own := "Boringhead") rfl rfl (le_b rfl) rfl ?_
  intro p e s m args below meth c sz0 hC hr htab hin
  refine s_aload_n hC dX9_init_0 rfl rfl 0 rfl ?_
  refine s_objInit hC tw_45 ⟨le_b rfl, le_b rfl⟩ dX9_init_1 rfl ?_
  have hN_0 : [m9].Nodup := by simp
  have hL_0 : ∀ q ∈ [m9], ω q ≠ none := live_cons hm live_nil
  have hfr_0 : ∀ p e, p ≠ m9 → ω p = some e → ω p = some e := fun _ _ _ h => h
  refine s_aload_n hC dX9_init_4 rfl rfl 0 rfl ?_
  refine s_new hC cs_X7 (fs := [.null, .null, .null, .null, .null, .null, .null]) tw_48 tw_49 tw_2 (fun j hj => by rcases (show j = 0 ∨ j = 1 ∨ j = 2 ∨ j = 3 ∨ j = 4 ∨ j = 5 ∨ j = 6 by omega) with rfl | rfl | rfl | rfl | rfl | rfl | rfl <;> rfl) (le_b rfl) (le_b rfl) dX9_init_5 rfl (fun q_5 hq_5 => ?_)
  refine s_dup hC dX9_init_8 rfl rfl ?_
  refine s_callI hC (ct_X7_init l g _ _ (wup_s _ _ _)) ce_X7_init tw_50 rfl rfl ⟨⟨le_b rfl, le_b rfl⟩, le_b rfl, le_b rfl⟩ (le_b rfl) dX9_init_9 rfl (fun r w h9 => ?_) nokx
  obtain ⟨k1, k2, k3, k4, k5, k6, k7, hN5, hJ5, rfl, ha5, ek1, ek2, ek3, ek4, ek5, ek6, ek7, hf5⟩ := h9
  have hk1 := hJ5 k1 (by simp)
  have hk2 := hJ5 k2 (by simp)
  have hk3 := hJ5 k3 (by simp)
  have hk4 := hJ5 k4 (by simp)
  have hk5 := hJ5 k5 (by simp)
  have hk6 := hJ5 k6 (by simp)
  have hk7 := hJ5 k7 (by simp)
  refine s_putF hC hin cs_X9 0 tw_237 (le_b rfl) rfl rfl rfl rfl (hf5 _ _ (w_ne hm hq_5) ((wup_n (w_ne hm hq_5)).trans hm)) (le_b rfl) dX9_init_12 rfl ?_
  refine WP.seal (fun w_1 hw9 => ?_)
  have f1_k1 : w_1 k1 = some _ := (congrFun hw9 _).trans ((wup_n (Ne.symm (w_ne ((wup_n (w_ne hm hq_5)).trans hm) hk1))).trans ek1)
  have f1_k2 : w_1 k2 = some _ := (congrFun hw9 _).trans ((wup_n (Ne.symm (w_ne ((wup_n (w_ne hm hq_5)).trans hm) hk2))).trans ek2)
  have f1_k3 : w_1 k3 = some _ := (congrFun hw9 _).trans ((wup_n (Ne.symm (w_ne ((wup_n (w_ne hm hq_5)).trans hm) hk3))).trans ek3)
  have f1_k4 : w_1 k4 = some _ := (congrFun hw9 _).trans ((wup_n (Ne.symm (w_ne ((wup_n (w_ne hm hq_5)).trans hm) hk4))).trans ek4)
  have f1_k5 : w_1 k5 = some _ := (congrFun hw9 _).trans ((wup_n (Ne.symm (w_ne ((wup_n (w_ne hm hq_5)).trans hm) hk5))).trans ek5)
  have f1_k6 : w_1 k6 = some _ := (congrFun hw9 _).trans ((wup_n (Ne.symm (w_ne ((wup_n (w_ne hm hq_5)).trans hm) hk6))).trans ek6)
  have f1_k7 : w_1 k7 = some _ := (congrFun hw9 _).trans ((wup_n (Ne.symm (w_ne ((wup_n (w_ne hm hq_5)).trans hm) hk7))).trans ek7)
  have f1_q_5 : w_1 q_5 = some _ := (congrFun hw9 _).trans ((wup_n (Ne.symm (w_ne hm hq_5))).trans ha5)
  have f1_m9 : w_1 m9 = some _ := (congrFun hw9 _).trans (wup_s _ _ _)
  have hN_1 : [k1, k2, k3, k4, k5, k6, k7, q_5, m9].Nodup := nodup_app (nodup_new hN_0 hL_0 hq_5) (live_new hL_0) hN5 hJ5
  have hL_1 : ∀ q ∈ [k1, k2, k3, k4, k5, k6, k7, q_5, m9], w_1 q ≠ none := (live_cons f1_k1 (live_cons f1_k2 (live_cons f1_k3 (live_cons f1_k4 (live_cons f1_k5 (live_cons f1_k6 (live_cons f1_k7 (live_cons f1_q_5 (live_cons f1_m9 live_nil)))))))))
  have hfr_1 : ∀ p e, p ≠ m9 → ω p = some e → w_1 p = some e := fun p e hp he0 => by
    have he := hfr_0 p e hp he0
    have pq := w_ne he hq_5
    have b := (wup_n (e := (.inr (12, [.null, .null, .null, .null, .null, .null, .null]))) pq).trans he
    exact (congrFun hw9 p).trans ((wup_n hp).trans (hf5 p e pq b))
  clear hw9
  refine s_aload_n hC dX9_init_15 rfl rfl 0 rfl ?_
  refine s_new hC cs_X6 (fs := [.null, .int 0, .int 0, .int 0, .int 0]) tw_113 tw_114 tw_6 (fun j hj => by rcases (show j = 0 ∨ j = 1 ∨ j = 2 ∨ j = 3 ∨ j = 4 by omega) with rfl | rfl | rfl | rfl | rfl <;> rfl) (le_b rfl) (le_b rfl) dX9_init_16 rfl (fun q_16 hq_16 => ?_)
  refine s_dup hC dX9_init_19 rfl rfl ?_
  refine s_callIN hC (ct_X6_init l g _ _ (wup_s _ _ _)) ce_X6_init tw_115 rfl rfl ⟨⟨le_b rfl, le_b rfl⟩, le_b rfl, le_b rfl⟩ (le_b rfl) dX9_init_20 rfl (fun r w h9 => ?_) nokx
  obtain ⟨v16, hv16, rfl, rfl⟩ := h9
  refine s_putF hC hin cs_X9 1 tw_238 (le_b rfl) rfl rfl rfl rfl ((wup_n (w_ne f1_m9 hq_16)).trans ((wup_n (w_ne ((wup_n (w_ne f1_m9 hq_16)).trans f1_m9) hv16)).trans ((wup_n (w_ne f1_m9 hq_16)).trans f1_m9))) (le_b rfl) dX9_init_23 rfl ?_
  refine WP.seal (fun w_2 hw9 => ?_)
  have f2_v16 : w_2 v16 = some _ := (congrFun hw9 _).trans ((wup_n (Ne.symm (w_ne ((wup_n (w_ne f1_m9 hq_16)).trans f1_m9) hv16))).trans ((wup_n (Ne.symm (w_ne (wup_s _ _ _) hv16))).trans (wup_s _ _ _)))
  have f2_q_16 : w_2 q_16 = some _ := (congrFun hw9 _).trans ((wup_n (Ne.symm (w_ne f1_m9 hq_16))).trans (wup_s _ _ _))
  have f2_k1 : w_2 k1 = some _ := (congrFun hw9 _).trans ((wup_n (Ne.symm (w_ne ((wup_n (w_ne hm hq_5)).trans hm) hk1))).trans ((wup_n (w_ne f1_k1 hq_16)).trans ((wup_n (w_ne ((wup_n (w_ne f1_k1 hq_16)).trans f1_k1) hv16)).trans ((wup_n (w_ne f1_k1 hq_16)).trans f1_k1))))
  have f2_k2 : w_2 k2 = some _ := (congrFun hw9 _).trans ((wup_n (Ne.symm (w_ne ((wup_n (w_ne hm hq_5)).trans hm) hk2))).trans ((wup_n (w_ne f1_k2 hq_16)).trans ((wup_n (w_ne ((wup_n (w_ne f1_k2 hq_16)).trans f1_k2) hv16)).trans ((wup_n (w_ne f1_k2 hq_16)).trans f1_k2))))
  have f2_k3 : w_2 k3 = some _ := (congrFun hw9 _).trans ((wup_n (Ne.symm (w_ne ((wup_n (w_ne hm hq_5)).trans hm) hk3))).trans ((wup_n (w_ne f1_k3 hq_16)).trans ((wup_n (w_ne ((wup_n (w_ne f1_k3 hq_16)).trans f1_k3) hv16)).trans ((wup_n (w_ne f1_k3 hq_16)).trans f1_k3))))
  have f2_k4 : w_2 k4 = some _ := (congrFun hw9 _).trans ((wup_n (Ne.symm (w_ne ((wup_n (w_ne hm hq_5)).trans hm) hk4))).trans ((wup_n (w_ne f1_k4 hq_16)).trans ((wup_n (w_ne ((wup_n (w_ne f1_k4 hq_16)).trans f1_k4) hv16)).trans ((wup_n (w_ne f1_k4 hq_16)).trans f1_k4))))
  have f2_k5 : w_2 k5 = some _ := (congrFun hw9 _).trans ((wup_n (Ne.symm (w_ne ((wup_n (w_ne hm hq_5)).trans hm) hk5))).trans ((wup_n (w_ne f1_k5 hq_16)).trans ((wup_n (w_ne ((wup_n (w_ne f1_k5 hq_16)).trans f1_k5) hv16)).trans ((wup_n (w_ne f1_k5 hq_16)).trans f1_k5))))
  have f2_k6 : w_2 k6 = some _ := (congrFun hw9 _).trans ((wup_n (Ne.symm (w_ne ((wup_n (w_ne hm hq_5)).trans hm) hk6))).trans ((wup_n (w_ne f1_k6 hq_16)).trans ((wup_n (w_ne ((wup_n (w_ne f1_k6 hq_16)).trans f1_k6) hv16)).trans ((wup_n (w_ne f1_k6 hq_16)).trans f1_k6))))
  have f2_k7 : w_2 k7 = some _ := (congrFun hw9 _).trans ((wup_n (Ne.symm (w_ne ((wup_n (w_ne hm hq_5)).trans hm) hk7))).trans ((wup_n (w_ne f1_k7 hq_16)).trans ((wup_n (w_ne ((wup_n (w_ne f1_k7 hq_16)).trans f1_k7) hv16)).trans ((wup_n (w_ne f1_k7 hq_16)).trans f1_k7))))
  have f2_q_5 : w_2 q_5 = some _ := (congrFun hw9 _).trans ((wup_n (Ne.symm (w_ne hm hq_5))).trans ((wup_n (w_ne f1_q_5 hq_16)).trans ((wup_n (w_ne ((wup_n (w_ne f1_q_5 hq_16)).trans f1_q_5) hv16)).trans ((wup_n (w_ne f1_q_5 hq_16)).trans f1_q_5))))
  have f2_m9 : w_2 m9 = some _ := (congrFun hw9 _).trans (wup_s _ _ _)
  have hN_2 : [v16, q_16, k1, k2, k3, k4, k5, k6, k7, q_5, m9].Nodup := nodup_new (nodup_new hN_1 hL_1 hq_16) (live_new hL_1) hv16
  have hL_2 : ∀ q ∈ [v16, q_16, k1, k2, k3, k4, k5, k6, k7, q_5, m9], w_2 q ≠ none := (live_cons f2_v16 (live_cons f2_q_16 (live_cons f2_k1 (live_cons f2_k2 (live_cons f2_k3 (live_cons f2_k4 (live_cons f2_k5 (live_cons f2_k6 (live_cons f2_k7 (live_cons f2_q_5 (live_cons f2_m9 live_nil)))))))))))
  have hfr_2 : ∀ p e, p ≠ m9 → ω p = some e → w_2 p = some e := fun p e hp he0 => by
    have he := hfr_1 p e hp he0
    have pq := w_ne he hq_16
    have b := (wup_n (e := (.inr (11, [.null, .int 0, .int 0, .int 0, .int 0]))) pq).trans he
    exact (congrFun hw9 p).trans ((wup_n hp).trans ((wup_n pq).trans ((wup_n (w_ne b hv16)).trans b)))
  clear hw9
  refine s_aload_n hC dX9_init_26 rfl rfl 0 rfl ?_
  refine s_new hC cs_X3 (fs := [.int 0, .int 0, .int 0, .int 0]) tw_143 tw_144 tw_7 (fun j hj => by rcases (show j = 0 ∨ j = 1 ∨ j = 2 ∨ j = 3 by omega) with rfl | rfl | rfl | rfl <;> rfl) (le_b rfl) (le_b rfl) dX9_init_27 rfl (fun q_27 hq_27 => ?_)
  refine s_dup hC dX9_init_30 rfl rfl ?_
  refine s_callIN hC (ct_X3_init l g _ _ (wup_s _ _ _)) ce_X3_init tw_145 rfl rfl ⟨⟨le_b rfl, le_b rfl⟩, le_b rfl, le_b rfl⟩ (le_b rfl) dX9_init_31 rfl (dvk0 ?_) nokx
  refine s_putF hC hin cs_X9 2 tw_239 (le_b rfl) rfl rfl rfl rfl ((wup_n (w_ne f2_m9 hq_27)).trans ((wup_n (w_ne f2_m9 hq_27)).trans f2_m9)) (le_b rfl) dX9_init_34 rfl ?_
  refine WP.seal (fun w_3 hw9 => ?_)
  have f3_q_27 : w_3 q_27 = some _ := (congrFun hw9 _).trans ((wup_n (Ne.symm (w_ne f2_m9 hq_27))).trans (wup_s _ _ _))
  have f3_v16 : w_3 v16 = some _ := (congrFun hw9 _).trans ((wup_n (Ne.symm (w_ne ((wup_n (w_ne f1_m9 hq_16)).trans f1_m9) hv16))).trans ((wup_n (w_ne f2_v16 hq_27)).trans ((wup_n (w_ne f2_v16 hq_27)).trans f2_v16)))
  have f3_q_16 : w_3 q_16 = some _ := (congrFun hw9 _).trans ((wup_n (Ne.symm (w_ne f1_m9 hq_16))).trans ((wup_n (w_ne f2_q_16 hq_27)).trans ((wup_n (w_ne f2_q_16 hq_27)).trans f2_q_16)))
  have f3_k1 : w_3 k1 = some _ := (congrFun hw9 _).trans ((wup_n (Ne.symm (w_ne ((wup_n (w_ne hm hq_5)).trans hm) hk1))).trans ((wup_n (w_ne f2_k1 hq_27)).trans ((wup_n (w_ne f2_k1 hq_27)).trans f2_k1)))
  have f3_k2 : w_3 k2 = some _ := (congrFun hw9 _).trans ((wup_n (Ne.symm (w_ne ((wup_n (w_ne hm hq_5)).trans hm) hk2))).trans ((wup_n (w_ne f2_k2 hq_27)).trans ((wup_n (w_ne f2_k2 hq_27)).trans f2_k2)))
  have f3_k3 : w_3 k3 = some _ := (congrFun hw9 _).trans ((wup_n (Ne.symm (w_ne ((wup_n (w_ne hm hq_5)).trans hm) hk3))).trans ((wup_n (w_ne f2_k3 hq_27)).trans ((wup_n (w_ne f2_k3 hq_27)).trans f2_k3)))
  have f3_k4 : w_3 k4 = some _ := (congrFun hw9 _).trans ((wup_n (Ne.symm (w_ne ((wup_n (w_ne hm hq_5)).trans hm) hk4))).trans ((wup_n (w_ne f2_k4 hq_27)).trans ((wup_n (w_ne f2_k4 hq_27)).trans f2_k4)))
  have f3_k5 : w_3 k5 = some _ := (congrFun hw9 _).trans ((wup_n (Ne.symm (w_ne ((wup_n (w_ne hm hq_5)).trans hm) hk5))).trans ((wup_n (w_ne f2_k5 hq_27)).trans ((wup_n (w_ne f2_k5 hq_27)).trans f2_k5)))
  have f3_k6 : w_3 k6 = some _ := (congrFun hw9 _).trans ((wup_n (Ne.symm (w_ne ((wup_n (w_ne hm hq_5)).trans hm) hk6))).trans ((wup_n (w_ne f2_k6 hq_27)).trans ((wup_n (w_ne f2_k6 hq_27)).trans f2_k6)))
  have f3_k7 : w_3 k7 = some _ := (congrFun hw9 _).trans ((wup_n (Ne.symm (w_ne ((wup_n (w_ne hm hq_5)).trans hm) hk7))).trans ((wup_n (w_ne f2_k7 hq_27)).trans ((wup_n (w_ne f2_k7 hq_27)).trans f2_k7)))
  have f3_q_5 : w_3 q_5 = some _ := (congrFun hw9 _).trans ((wup_n (Ne.symm (w_ne hm hq_5))).trans ((wup_n (w_ne f2_q_5 hq_27)).trans ((wup_n (w_ne f2_q_5 hq_27)).trans f2_q_5)))
  have f3_m9 : w_3 m9 = some _ := (congrFun hw9 _).trans (wup_s _ _ _)
  have hN_3 : [q_27, v16, q_16, k1, k2, k3, k4, k5, k6, k7, q_5, m9].Nodup := nodup_new hN_2 hL_2 hq_27
  have hL_3 : ∀ q ∈ [q_27, v16, q_16, k1, k2, k3, k4, k5, k6, k7, q_5, m9], w_3 q ≠ none := (live_cons f3_q_27 (live_cons f3_v16 (live_cons f3_q_16 (live_cons f3_k1 (live_cons f3_k2 (live_cons f3_k3 (live_cons f3_k4 (live_cons f3_k5 (live_cons f3_k6 (live_cons f3_k7 (live_cons f3_q_5 (live_cons f3_m9 live_nil))))))))))))
  have hfr_3 : ∀ p e, p ≠ m9 → ω p = some e → w_3 p = some e := fun p e hp he0 => by
    have he := hfr_2 p e hp he0
    have pq := w_ne he hq_27
    have b := (wup_n (e := (.inr (8, [.int 0, .int 0, .int 0, .int 0]))) pq).trans he
    exact (congrFun hw9 p).trans ((wup_n hp).trans ((wup_n pq).trans b))
  clear hw9
  refine s_aload_n hC dX9_init_37 rfl rfl 0 rfl ?_
  refine s_new hC cs_X3 (fs := [.int 0, .int 0, .int 0, .int 0]) tw_143 tw_144 tw_7 (fun j hj => by rcases (show j = 0 ∨ j = 1 ∨ j = 2 ∨ j = 3 by omega) with rfl | rfl | rfl | rfl <;> rfl) (le_b rfl) (le_b rfl) dX9_init_38 rfl (fun q_38 hq_38 => ?_)
  refine s_dup hC dX9_init_41 rfl rfl ?_
  refine s_callIN hC (ct_X3_init l g _ _ (wup_s _ _ _)) ce_X3_init tw_145 rfl rfl ⟨⟨le_b rfl, le_b rfl⟩, le_b rfl, le_b rfl⟩ (le_b rfl) dX9_init_42 rfl (dvk0 ?_) nokx
  refine s_putF hC hin cs_X9 3 tw_240 (le_b rfl) rfl rfl rfl rfl ((wup_n (w_ne f3_m9 hq_38)).trans ((wup_n (w_ne f3_m9 hq_38)).trans f3_m9)) (le_b rfl) dX9_init_45 rfl ?_
  refine WP.seal (fun w_4 hw9 => ?_)
  have f4_q_38 : w_4 q_38 = some _ := (congrFun hw9 _).trans ((wup_n (Ne.symm (w_ne f3_m9 hq_38))).trans (wup_s _ _ _))
  have f4_q_27 : w_4 q_27 = some _ := (congrFun hw9 _).trans ((wup_n (Ne.symm (w_ne f2_m9 hq_27))).trans ((wup_n (w_ne f3_q_27 hq_38)).trans ((wup_n (w_ne f3_q_27 hq_38)).trans f3_q_27)))
  have f4_v16 : w_4 v16 = some _ := (congrFun hw9 _).trans ((wup_n (Ne.symm (w_ne ((wup_n (w_ne f1_m9 hq_16)).trans f1_m9) hv16))).trans ((wup_n (w_ne f3_v16 hq_38)).trans ((wup_n (w_ne f3_v16 hq_38)).trans f3_v16)))
  have f4_q_16 : w_4 q_16 = some _ := (congrFun hw9 _).trans ((wup_n (Ne.symm (w_ne f1_m9 hq_16))).trans ((wup_n (w_ne f3_q_16 hq_38)).trans ((wup_n (w_ne f3_q_16 hq_38)).trans f3_q_16)))
  have f4_k1 : w_4 k1 = some _ := (congrFun hw9 _).trans ((wup_n (Ne.symm (w_ne ((wup_n (w_ne hm hq_5)).trans hm) hk1))).trans ((wup_n (w_ne f3_k1 hq_38)).trans ((wup_n (w_ne f3_k1 hq_38)).trans f3_k1)))
  have f4_k2 : w_4 k2 = some _ := (congrFun hw9 _).trans ((wup_n (Ne.symm (w_ne ((wup_n (w_ne hm hq_5)).trans hm) hk2))).trans ((wup_n (w_ne f3_k2 hq_38)).trans ((wup_n (w_ne f3_k2 hq_38)).trans f3_k2)))
  have f4_k3 : w_4 k3 = some _ := (congrFun hw9 _).trans ((wup_n (Ne.symm (w_ne ((wup_n (w_ne hm hq_5)).trans hm) hk3))).trans ((wup_n (w_ne f3_k3 hq_38)).trans ((wup_n (w_ne f3_k3 hq_38)).trans f3_k3)))
  have f4_k4 : w_4 k4 = some _ := (congrFun hw9 _).trans ((wup_n (Ne.symm (w_ne ((wup_n (w_ne hm hq_5)).trans hm) hk4))).trans ((wup_n (w_ne f3_k4 hq_38)).trans ((wup_n (w_ne f3_k4 hq_38)).trans f3_k4)))
  have f4_k5 : w_4 k5 = some _ := (congrFun hw9 _).trans ((wup_n (Ne.symm (w_ne ((wup_n (w_ne hm hq_5)).trans hm) hk5))).trans ((wup_n (w_ne f3_k5 hq_38)).trans ((wup_n (w_ne f3_k5 hq_38)).trans f3_k5)))
  have f4_k6 : w_4 k6 = some _ := (congrFun hw9 _).trans ((wup_n (Ne.symm (w_ne ((wup_n (w_ne hm hq_5)).trans hm) hk6))).trans ((wup_n (w_ne f3_k6 hq_38)).trans ((wup_n (w_ne f3_k6 hq_38)).trans f3_k6)))
  have f4_k7 : w_4 k7 = some _ := (congrFun hw9 _).trans ((wup_n (Ne.symm (w_ne ((wup_n (w_ne hm hq_5)).trans hm) hk7))).trans ((wup_n (w_ne f3_k7 hq_38)).trans ((wup_n (w_ne f3_k7 hq_38)).trans f3_k7)))
  have f4_q_5 : w_4 q_5 = some _ := (congrFun hw9 _).trans ((wup_n (Ne.symm (w_ne hm hq_5))).trans ((wup_n (w_ne f3_q_5 hq_38)).trans ((wup_n (w_ne f3_q_5 hq_38)).trans f3_q_5)))
  have f4_m9 : w_4 m9 = some _ := (congrFun hw9 _).trans (wup_s _ _ _)
  have hN_4 : [q_38, q_27, v16, q_16, k1, k2, k3, k4, k5, k6, k7, q_5, m9].Nodup := nodup_new hN_3 hL_3 hq_38
  have hL_4 : ∀ q ∈ [q_38, q_27, v16, q_16, k1, k2, k3, k4, k5, k6, k7, q_5, m9], w_4 q ≠ none := (live_cons f4_q_38 (live_cons f4_q_27 (live_cons f4_v16 (live_cons f4_q_16 (live_cons f4_k1 (live_cons f4_k2 (live_cons f4_k3 (live_cons f4_k4 (live_cons f4_k5 (live_cons f4_k6 (live_cons f4_k7 (live_cons f4_q_5 (live_cons f4_m9 live_nil)))))))))))))
  have hfr_4 : ∀ p e, p ≠ m9 → ω p = some e → w_4 p = some e := fun p e hp he0 => by
    have he := hfr_3 p e hp he0
    have pq := w_ne he hq_38
    have b := (wup_n (e := (.inr (8, [.int 0, .int 0, .int 0, .int 0]))) pq).trans he
    exact (congrFun hw9 p).trans ((wup_n hp).trans ((wup_n pq).trans b))
  clear hw9
  refine s_aload_n hC dX9_init_48 rfl rfl 0 rfl ?_
  refine s_new hC cs_X8 (fs := [.int 0, .int 0, .int 0]) tw_166 tw_167 tw_8 (fun j hj => by rcases (show j = 0 ∨ j = 1 ∨ j = 2 by omega) with rfl | rfl | rfl <;> rfl) (le_b rfl) (le_b rfl) dX9_init_49 rfl (fun q_49 hq_49 => ?_)
  refine s_dup hC dX9_init_52 rfl rfl ?_
  refine s_callIN hC (ct_X8_init l g _ _ (wup_s _ _ _)) ce_X8_init tw_168 rfl rfl ⟨⟨le_b rfl, le_b rfl⟩, le_b rfl, le_b rfl⟩ (le_b rfl) dX9_init_53 rfl (dvk0 ?_) nokx
  refine s_putF hC hin cs_X9 4 tw_241 (le_b rfl) rfl rfl rfl rfl ((wup_n (w_ne f4_m9 hq_49)).trans ((wup_n (w_ne f4_m9 hq_49)).trans f4_m9)) (le_b rfl) dX9_init_56 rfl ?_
  refine WP.seal (fun w_5 hw9 => ?_)
  have f5_q_49 : w_5 q_49 = some _ := (congrFun hw9 _).trans ((wup_n (Ne.symm (w_ne f4_m9 hq_49))).trans (wup_s _ _ _))
  have f5_q_38 : w_5 q_38 = some _ := (congrFun hw9 _).trans ((wup_n (Ne.symm (w_ne f3_m9 hq_38))).trans ((wup_n (w_ne f4_q_38 hq_49)).trans ((wup_n (w_ne f4_q_38 hq_49)).trans f4_q_38)))
  have f5_q_27 : w_5 q_27 = some _ := (congrFun hw9 _).trans ((wup_n (Ne.symm (w_ne f2_m9 hq_27))).trans ((wup_n (w_ne f4_q_27 hq_49)).trans ((wup_n (w_ne f4_q_27 hq_49)).trans f4_q_27)))
  have f5_v16 : w_5 v16 = some _ := (congrFun hw9 _).trans ((wup_n (Ne.symm (w_ne ((wup_n (w_ne f1_m9 hq_16)).trans f1_m9) hv16))).trans ((wup_n (w_ne f4_v16 hq_49)).trans ((wup_n (w_ne f4_v16 hq_49)).trans f4_v16)))
  have f5_q_16 : w_5 q_16 = some _ := (congrFun hw9 _).trans ((wup_n (Ne.symm (w_ne f1_m9 hq_16))).trans ((wup_n (w_ne f4_q_16 hq_49)).trans ((wup_n (w_ne f4_q_16 hq_49)).trans f4_q_16)))
  have f5_k1 : w_5 k1 = some _ := (congrFun hw9 _).trans ((wup_n (Ne.symm (w_ne ((wup_n (w_ne hm hq_5)).trans hm) hk1))).trans ((wup_n (w_ne f4_k1 hq_49)).trans ((wup_n (w_ne f4_k1 hq_49)).trans f4_k1)))
  have f5_k2 : w_5 k2 = some _ := (congrFun hw9 _).trans ((wup_n (Ne.symm (w_ne ((wup_n (w_ne hm hq_5)).trans hm) hk2))).trans ((wup_n (w_ne f4_k2 hq_49)).trans ((wup_n (w_ne f4_k2 hq_49)).trans f4_k2)))
  have f5_k3 : w_5 k3 = some _ := (congrFun hw9 _).trans ((wup_n (Ne.symm (w_ne ((wup_n (w_ne hm hq_5)).trans hm) hk3))).trans ((wup_n (w_ne f4_k3 hq_49)).trans ((wup_n (w_ne f4_k3 hq_49)).trans f4_k3)))
  have f5_k4 : w_5 k4 = some _ := (congrFun hw9 _).trans ((wup_n (Ne.symm (w_ne ((wup_n (w_ne hm hq_5)).trans hm) hk4))).trans ((wup_n (w_ne f4_k4 hq_49)).trans ((wup_n (w_ne f4_k4 hq_49)).trans f4_k4)))
  have f5_k5 : w_5 k5 = some _ := (congrFun hw9 _).trans ((wup_n (Ne.symm (w_ne ((wup_n (w_ne hm hq_5)).trans hm) hk5))).trans ((wup_n (w_ne f4_k5 hq_49)).trans ((wup_n (w_ne f4_k5 hq_49)).trans f4_k5)))
  have f5_k6 : w_5 k6 = some _ := (congrFun hw9 _).trans ((wup_n (Ne.symm (w_ne ((wup_n (w_ne hm hq_5)).trans hm) hk6))).trans ((wup_n (w_ne f4_k6 hq_49)).trans ((wup_n (w_ne f4_k6 hq_49)).trans f4_k6)))
  have f5_k7 : w_5 k7 = some _ := (congrFun hw9 _).trans ((wup_n (Ne.symm (w_ne ((wup_n (w_ne hm hq_5)).trans hm) hk7))).trans ((wup_n (w_ne f4_k7 hq_49)).trans ((wup_n (w_ne f4_k7 hq_49)).trans f4_k7)))
  have f5_q_5 : w_5 q_5 = some _ := (congrFun hw9 _).trans ((wup_n (Ne.symm (w_ne hm hq_5))).trans ((wup_n (w_ne f4_q_5 hq_49)).trans ((wup_n (w_ne f4_q_5 hq_49)).trans f4_q_5)))
  have f5_m9 : w_5 m9 = some _ := (congrFun hw9 _).trans (wup_s _ _ _)
  have hN_5 : [q_49, q_38, q_27, v16, q_16, k1, k2, k3, k4, k5, k6, k7, q_5, m9].Nodup := nodup_new hN_4 hL_4 hq_49
  have hL_5 : ∀ q ∈ [q_49, q_38, q_27, v16, q_16, k1, k2, k3, k4, k5, k6, k7, q_5, m9], w_5 q ≠ none := (live_cons f5_q_49 (live_cons f5_q_38 (live_cons f5_q_27 (live_cons f5_v16 (live_cons f5_q_16 (live_cons f5_k1 (live_cons f5_k2 (live_cons f5_k3 (live_cons f5_k4 (live_cons f5_k5 (live_cons f5_k6 (live_cons f5_k7 (live_cons f5_q_5 (live_cons f5_m9 live_nil))))))))))))))
  have hfr_5 : ∀ p e, p ≠ m9 → ω p = some e → w_5 p = some e := fun p e hp he0 => by
    have he := hfr_4 p e hp he0
    have pq := w_ne he hq_49
    have b := (wup_n (e := (.inr (13, [.int 0, .int 0, .int 0]))) pq).trans he
    exact (congrFun hw9 p).trans ((wup_n hp).trans ((wup_n pq).trans b))
  clear hw9
  refine s_aload_n hC dX9_init_59 rfl rfl 0 rfl ?_
  refine s_new hC cs_X1 (fs := [.int 0, .int 0, .int 0, .int 0]) tw_185 tw_186 tw_9 (fun j hj => by rcases (show j = 0 ∨ j = 1 ∨ j = 2 ∨ j = 3 by omega) with rfl | rfl | rfl | rfl <;> rfl) (le_b rfl) (le_b rfl) dX9_init_60 rfl (fun q_60 hq_60 => ?_)
  refine s_dup hC dX9_init_63 rfl rfl ?_
  refine s_callIN hC (ct_X1_init l g _ _ (wup_s _ _ _)) ce_X1_init tw_187 rfl rfl ⟨⟨le_b rfl, le_b rfl⟩, le_b rfl, le_b rfl⟩ (le_b rfl) dX9_init_64 rfl (dvk0 ?_) nokx
  refine s_putF hC hin cs_X9 5 tw_242 (le_b rfl) rfl rfl rfl rfl ((wup_n (w_ne f5_m9 hq_60)).trans ((wup_n (w_ne f5_m9 hq_60)).trans f5_m9)) (le_b rfl) dX9_init_67 rfl ?_
  refine WP.seal (fun w_6 hw9 => ?_)
  have f6_q_60 : w_6 q_60 = some _ := (congrFun hw9 _).trans ((wup_n (Ne.symm (w_ne f5_m9 hq_60))).trans (wup_s _ _ _))
  have f6_q_49 : w_6 q_49 = some _ := (congrFun hw9 _).trans ((wup_n (Ne.symm (w_ne f4_m9 hq_49))).trans ((wup_n (w_ne f5_q_49 hq_60)).trans ((wup_n (w_ne f5_q_49 hq_60)).trans f5_q_49)))
  have f6_q_38 : w_6 q_38 = some _ := (congrFun hw9 _).trans ((wup_n (Ne.symm (w_ne f3_m9 hq_38))).trans ((wup_n (w_ne f5_q_38 hq_60)).trans ((wup_n (w_ne f5_q_38 hq_60)).trans f5_q_38)))
  have f6_q_27 : w_6 q_27 = some _ := (congrFun hw9 _).trans ((wup_n (Ne.symm (w_ne f2_m9 hq_27))).trans ((wup_n (w_ne f5_q_27 hq_60)).trans ((wup_n (w_ne f5_q_27 hq_60)).trans f5_q_27)))
  have f6_v16 : w_6 v16 = some _ := (congrFun hw9 _).trans ((wup_n (Ne.symm (w_ne ((wup_n (w_ne f1_m9 hq_16)).trans f1_m9) hv16))).trans ((wup_n (w_ne f5_v16 hq_60)).trans ((wup_n (w_ne f5_v16 hq_60)).trans f5_v16)))
  have f6_q_16 : w_6 q_16 = some _ := (congrFun hw9 _).trans ((wup_n (Ne.symm (w_ne f1_m9 hq_16))).trans ((wup_n (w_ne f5_q_16 hq_60)).trans ((wup_n (w_ne f5_q_16 hq_60)).trans f5_q_16)))
  have f6_k1 : w_6 k1 = some _ := (congrFun hw9 _).trans ((wup_n (Ne.symm (w_ne ((wup_n (w_ne hm hq_5)).trans hm) hk1))).trans ((wup_n (w_ne f5_k1 hq_60)).trans ((wup_n (w_ne f5_k1 hq_60)).trans f5_k1)))
  have f6_k2 : w_6 k2 = some _ := (congrFun hw9 _).trans ((wup_n (Ne.symm (w_ne ((wup_n (w_ne hm hq_5)).trans hm) hk2))).trans ((wup_n (w_ne f5_k2 hq_60)).trans ((wup_n (w_ne f5_k2 hq_60)).trans f5_k2)))
  have f6_k3 : w_6 k3 = some _ := (congrFun hw9 _).trans ((wup_n (Ne.symm (w_ne ((wup_n (w_ne hm hq_5)).trans hm) hk3))).trans ((wup_n (w_ne f5_k3 hq_60)).trans ((wup_n (w_ne f5_k3 hq_60)).trans f5_k3)))
  have f6_k4 : w_6 k4 = some _ := (congrFun hw9 _).trans ((wup_n (Ne.symm (w_ne ((wup_n (w_ne hm hq_5)).trans hm) hk4))).trans ((wup_n (w_ne f5_k4 hq_60)).trans ((wup_n (w_ne f5_k4 hq_60)).trans f5_k4)))
  have f6_k5 : w_6 k5 = some _ := (congrFun hw9 _).trans ((wup_n (Ne.symm (w_ne ((wup_n (w_ne hm hq_5)).trans hm) hk5))).trans ((wup_n (w_ne f5_k5 hq_60)).trans ((wup_n (w_ne f5_k5 hq_60)).trans f5_k5)))
  have f6_k6 : w_6 k6 = some _ := (congrFun hw9 _).trans ((wup_n (Ne.symm (w_ne ((wup_n (w_ne hm hq_5)).trans hm) hk6))).trans ((wup_n (w_ne f5_k6 hq_60)).trans ((wup_n (w_ne f5_k6 hq_60)).trans f5_k6)))
  have f6_k7 : w_6 k7 = some _ := (congrFun hw9 _).trans ((wup_n (Ne.symm (w_ne ((wup_n (w_ne hm hq_5)).trans hm) hk7))).trans ((wup_n (w_ne f5_k7 hq_60)).trans ((wup_n (w_ne f5_k7 hq_60)).trans f5_k7)))
  have f6_q_5 : w_6 q_5 = some _ := (congrFun hw9 _).trans ((wup_n (Ne.symm (w_ne hm hq_5))).trans ((wup_n (w_ne f5_q_5 hq_60)).trans ((wup_n (w_ne f5_q_5 hq_60)).trans f5_q_5)))
  have f6_m9 : w_6 m9 = some _ := (congrFun hw9 _).trans (wup_s _ _ _)
  have hN_6 : [q_60, q_49, q_38, q_27, v16, q_16, k1, k2, k3, k4, k5, k6, k7, q_5, m9].Nodup := nodup_new hN_5 hL_5 hq_60
  have hL_6 : ∀ q ∈ [q_60, q_49, q_38, q_27, v16, q_16, k1, k2, k3, k4, k5, k6, k7, q_5, m9], w_6 q ≠ none := (live_cons f6_q_60 (live_cons f6_q_49 (live_cons f6_q_38 (live_cons f6_q_27 (live_cons f6_v16 (live_cons f6_q_16 (live_cons f6_k1 (live_cons f6_k2 (live_cons f6_k3 (live_cons f6_k4 (live_cons f6_k5 (live_cons f6_k6 (live_cons f6_k7 (live_cons f6_q_5 (live_cons f6_m9 live_nil)))))))))))))))
  have hfr_6 : ∀ p e, p ≠ m9 → ω p = some e → w_6 p = some e := fun p e hp he0 => by
    have he := hfr_5 p e hp he0
    have pq := w_ne he hq_60
    have b := (wup_n (e := (.inr (6, [.int 0, .int 0, .int 0, .int 0]))) pq).trans he
    exact (congrFun hw9 p).trans ((wup_n hp).trans ((wup_n pq).trans b))
  clear hw9
  refine s_aload_n hC dX9_init_70 rfl rfl 0 rfl ?_
  refine s_new hC cs_X2 (fs := [.null, .null]) tw_208 tw_209 tw_10 (fun j hj => by rcases (show j = 0 ∨ j = 1 by omega) with rfl | rfl <;> rfl) (le_b rfl) (le_b rfl) dX9_init_71 rfl (fun q_71 hq_71 => ?_)
  refine s_dup hC dX9_init_74 rfl rfl ?_
  refine s_callIN hC (ct_X2_init l g _ _ (wup_s _ _ _)) ce_X2_init tw_210 rfl rfl ⟨⟨le_b rfl, le_b rfl⟩, le_b rfl, le_b rfl⟩ (le_b rfl) dX9_init_75 rfl (fun r w h9 => ?_) nokx
  obtain ⟨o71, v71, ho71, hv71, hov, rfl, rfl⟩ := h9
  refine s_putF hC hin cs_X9 6 tw_243 (le_b rfl) rfl rfl rfl rfl ((wup_n (w_ne f6_m9 hq_71)).trans ((wup_n (w_ne ((wup_n (w_ne f6_m9 hq_71)).trans f6_m9) hv71)).trans ((wup_n (w_ne ((wup_n (w_ne f6_m9 hq_71)).trans f6_m9) ho71)).trans ((wup_n (w_ne f6_m9 hq_71)).trans f6_m9)))) (le_b rfl) dX9_init_78 rfl ?_
  refine WP.seal (fun w_7 hw9 => ?_)
  have f7_o71 : w_7 o71 = some _ := (congrFun hw9 _).trans ((wup_n (Ne.symm (w_ne ((wup_n (w_ne f6_m9 hq_71)).trans f6_m9) ho71))).trans ((wup_n (Ne.symm (w_ne (wup_s _ _ _) ho71))).trans ((wup_n hov).trans (wup_s _ _ _))))
  have f7_v71 : w_7 v71 = some _ := (congrFun hw9 _).trans ((wup_n (Ne.symm (w_ne ((wup_n (w_ne f6_m9 hq_71)).trans f6_m9) hv71))).trans ((wup_n (Ne.symm (w_ne (wup_s _ _ _) hv71))).trans (wup_s _ _ _)))
  have f7_q_71 : w_7 q_71 = some _ := (congrFun hw9 _).trans ((wup_n (Ne.symm (w_ne f6_m9 hq_71))).trans (wup_s _ _ _))
  have f7_q_60 : w_7 q_60 = some _ := (congrFun hw9 _).trans ((wup_n (Ne.symm (w_ne f5_m9 hq_60))).trans ((wup_n (w_ne f6_q_60 hq_71)).trans ((wup_n (w_ne ((wup_n (w_ne f6_q_60 hq_71)).trans f6_q_60) hv71)).trans ((wup_n (w_ne ((wup_n (w_ne f6_q_60 hq_71)).trans f6_q_60) ho71)).trans ((wup_n (w_ne f6_q_60 hq_71)).trans f6_q_60)))))
  have f7_q_49 : w_7 q_49 = some _ := (congrFun hw9 _).trans ((wup_n (Ne.symm (w_ne f4_m9 hq_49))).trans ((wup_n (w_ne f6_q_49 hq_71)).trans ((wup_n (w_ne ((wup_n (w_ne f6_q_49 hq_71)).trans f6_q_49) hv71)).trans ((wup_n (w_ne ((wup_n (w_ne f6_q_49 hq_71)).trans f6_q_49) ho71)).trans ((wup_n (w_ne f6_q_49 hq_71)).trans f6_q_49)))))
  have f7_q_38 : w_7 q_38 = some _ := (congrFun hw9 _).trans ((wup_n (Ne.symm (w_ne f3_m9 hq_38))).trans ((wup_n (w_ne f6_q_38 hq_71)).trans ((wup_n (w_ne ((wup_n (w_ne f6_q_38 hq_71)).trans f6_q_38) hv71)).trans ((wup_n (w_ne ((wup_n (w_ne f6_q_38 hq_71)).trans f6_q_38) ho71)).trans ((wup_n (w_ne f6_q_38 hq_71)).trans f6_q_38)))))
  have f7_q_27 : w_7 q_27 = some _ := (congrFun hw9 _).trans ((wup_n (Ne.symm (w_ne f2_m9 hq_27))).trans ((wup_n (w_ne f6_q_27 hq_71)).trans ((wup_n (w_ne ((wup_n (w_ne f6_q_27 hq_71)).trans f6_q_27) hv71)).trans ((wup_n (w_ne ((wup_n (w_ne f6_q_27 hq_71)).trans f6_q_27) ho71)).trans ((wup_n (w_ne f6_q_27 hq_71)).trans f6_q_27)))))
  have f7_v16 : w_7 v16 = some _ := (congrFun hw9 _).trans ((wup_n (Ne.symm (w_ne ((wup_n (w_ne f1_m9 hq_16)).trans f1_m9) hv16))).trans ((wup_n (w_ne f6_v16 hq_71)).trans ((wup_n (w_ne ((wup_n (w_ne f6_v16 hq_71)).trans f6_v16) hv71)).trans ((wup_n (w_ne ((wup_n (w_ne f6_v16 hq_71)).trans f6_v16) ho71)).trans ((wup_n (w_ne f6_v16 hq_71)).trans f6_v16)))))
  have f7_q_16 : w_7 q_16 = some _ := (congrFun hw9 _).trans ((wup_n (Ne.symm (w_ne f1_m9 hq_16))).trans ((wup_n (w_ne f6_q_16 hq_71)).trans ((wup_n (w_ne ((wup_n (w_ne f6_q_16 hq_71)).trans f6_q_16) hv71)).trans ((wup_n (w_ne ((wup_n (w_ne f6_q_16 hq_71)).trans f6_q_16) ho71)).trans ((wup_n (w_ne f6_q_16 hq_71)).trans f6_q_16)))))
  have f7_k1 : w_7 k1 = some _ := (congrFun hw9 _).trans ((wup_n (Ne.symm (w_ne ((wup_n (w_ne hm hq_5)).trans hm) hk1))).trans ((wup_n (w_ne f6_k1 hq_71)).trans ((wup_n (w_ne ((wup_n (w_ne f6_k1 hq_71)).trans f6_k1) hv71)).trans ((wup_n (w_ne ((wup_n (w_ne f6_k1 hq_71)).trans f6_k1) ho71)).trans ((wup_n (w_ne f6_k1 hq_71)).trans f6_k1)))))
  have f7_k2 : w_7 k2 = some _ := (congrFun hw9 _).trans ((wup_n (Ne.symm (w_ne ((wup_n (w_ne hm hq_5)).trans hm) hk2))).trans ((wup_n (w_ne f6_k2 hq_71)).trans ((wup_n (w_ne ((wup_n (w_ne f6_k2 hq_71)).trans f6_k2) hv71)).trans ((wup_n (w_ne ((wup_n (w_ne f6_k2 hq_71)).trans f6_k2) ho71)).trans ((wup_n (w_ne f6_k2 hq_71)).trans f6_k2)))))
  have f7_k3 : w_7 k3 = some _ := (congrFun hw9 _).trans ((wup_n (Ne.symm (w_ne ((wup_n (w_ne hm hq_5)).trans hm) hk3))).trans ((wup_n (w_ne f6_k3 hq_71)).trans ((wup_n (w_ne ((wup_n (w_ne f6_k3 hq_71)).trans f6_k3) hv71)).trans ((wup_n (w_ne ((wup_n (w_ne f6_k3 hq_71)).trans f6_k3) ho71)).trans ((wup_n (w_ne f6_k3 hq_71)).trans f6_k3)))))
  have f7_k4 : w_7 k4 = some _ := (congrFun hw9 _).trans ((wup_n (Ne.symm (w_ne ((wup_n (w_ne hm hq_5)).trans hm) hk4))).trans ((wup_n (w_ne f6_k4 hq_71)).trans ((wup_n (w_ne ((wup_n (w_ne f6_k4 hq_71)).trans f6_k4) hv71)).trans ((wup_n (w_ne ((wup_n (w_ne f6_k4 hq_71)).trans f6_k4) ho71)).trans ((wup_n (w_ne f6_k4 hq_71)).trans f6_k4)))))
  have f7_k5 : w_7 k5 = some _ := (congrFun hw9 _).trans ((wup_n (Ne.symm (w_ne ((wup_n (w_ne hm hq_5)).trans hm) hk5))).trans ((wup_n (w_ne f6_k5 hq_71)).trans ((wup_n (w_ne ((wup_n (w_ne f6_k5 hq_71)).trans f6_k5) hv71)).trans ((wup_n (w_ne ((wup_n (w_ne f6_k5 hq_71)).trans f6_k5) ho71)).trans ((wup_n (w_ne f6_k5 hq_71)).trans f6_k5)))))
  have f7_k6 : w_7 k6 = some _ := (congrFun hw9 _).trans ((wup_n (Ne.symm (w_ne ((wup_n (w_ne hm hq_5)).trans hm) hk6))).trans ((wup_n (w_ne f6_k6 hq_71)).trans ((wup_n (w_ne ((wup_n (w_ne f6_k6 hq_71)).trans f6_k6) hv71)).trans ((wup_n (w_ne ((wup_n (w_ne f6_k6 hq_71)).trans f6_k6) ho71)).trans ((wup_n (w_ne f6_k6 hq_71)).trans f6_k6)))))
  have f7_k7 : w_7 k7 = some _ := (congrFun hw9 _).trans ((wup_n (Ne.symm (w_ne ((wup_n (w_ne hm hq_5)).trans hm) hk7))).trans ((wup_n (w_ne f6_k7 hq_71)).trans ((wup_n (w_ne ((wup_n (w_ne f6_k7 hq_71)).trans f6_k7) hv71)).trans ((wup_n (w_ne ((wup_n (w_ne f6_k7 hq_71)).trans f6_k7) ho71)).trans ((wup_n (w_ne f6_k7 hq_71)).trans f6_k7)))))
  have f7_q_5 : w_7 q_5 = some _ := (congrFun hw9 _).trans ((wup_n (Ne.symm (w_ne hm hq_5))).trans ((wup_n (w_ne f6_q_5 hq_71)).trans ((wup_n (w_ne ((wup_n (w_ne f6_q_5 hq_71)).trans f6_q_5) hv71)).trans ((wup_n (w_ne ((wup_n (w_ne f6_q_5 hq_71)).trans f6_q_5) ho71)).trans ((wup_n (w_ne f6_q_5 hq_71)).trans f6_q_5)))))
  have f7_m9 : w_7 m9 = some _ := (congrFun hw9 _).trans (wup_s _ _ _)
  have hN_7 : [o71, v71, q_71, q_60, q_49, q_38, q_27, v16, q_16, k1, k2, k3, k4, k5, k6, k7, q_5, m9].Nodup := nodup_app (J := [o71, v71]) (nodup_new hN_6 hL_6 hq_71) (live_new hL_6) (nodup2 hov) (none_cons ho71 (none_cons hv71 none_nil))
  have hL_7 : ∀ q ∈ [o71, v71, q_71, q_60, q_49, q_38, q_27, v16, q_16, k1, k2, k3, k4, k5, k6, k7, q_5, m9], w_7 q ≠ none := (live_cons f7_o71 (live_cons f7_v71 (live_cons f7_q_71 (live_cons f7_q_60 (live_cons f7_q_49 (live_cons f7_q_38 (live_cons f7_q_27 (live_cons f7_v16 (live_cons f7_q_16 (live_cons f7_k1 (live_cons f7_k2 (live_cons f7_k3 (live_cons f7_k4 (live_cons f7_k5 (live_cons f7_k6 (live_cons f7_k7 (live_cons f7_q_5 (live_cons f7_m9 live_nil))))))))))))))))))
  have hfr_7 : ∀ p e, p ≠ m9 → ω p = some e → w_7 p = some e := fun p e hp he0 => by
    have he := hfr_6 p e hp he0
    have pq := w_ne he hq_71
    have b := (wup_n (e := (.inr (7, [.null, .null]))) pq).trans he
    exact (congrFun hw9 p).trans ((wup_n hp).trans ((wup_n pq).trans ((wup_n (w_ne b hv71)).trans ((wup_n (w_ne b ho71)).trans b))))
  clear hw9
  refine s_aload_n hC dX9_init_81 rfl rfl 0 rfl ?_
  refine s_new hC cs_Jx4a65c (fs := [.int 0, .null, .int 0]) tw_235 tw_55 tw_5 (fun j hj => by rcases (show j = 0 ∨ j = 1 ∨ j = 2 by omega) with rfl | rfl | rfl <;> rfl) (le_b rfl) (le_b rfl) dX9_init_82 rfl (fun q_82 hq_82 => ?_)
  refine s_dup hC dX9_init_85 rfl rfl ?_
  refine s_callI hC (ct_Jx4a65c_init_da8c8 l g _ _ (wup_s _ _ _)) ce_Jx4a65c_init_da8c8 tw_236 rfl rfl ⟨⟨le_b rfl, le_b rfl⟩, le_b rfl, le_b rfl⟩ (le_b rfl) dX9_init_86 rfl (dvk0 ?_) nokx
  refine s_putF hC hin cs_X9 7 tw_244 (le_b rfl) rfl rfl rfl rfl ((wup_n (w_ne f7_m9 hq_82)).trans ((wup_n (w_ne f7_m9 hq_82)).trans f7_m9)) (le_b rfl) dX9_init_89 rfl ?_
  refine WP.seal (fun w_8 hw9 => ?_)
  have f8_q_82 : w_8 q_82 = some _ := (congrFun hw9 _).trans ((wup_n (Ne.symm (w_ne f7_m9 hq_82))).trans (wup_s _ _ _))
  have f8_o71 : w_8 o71 = some _ := (congrFun hw9 _).trans ((wup_n (Ne.symm (w_ne ((wup_n (w_ne f6_m9 hq_71)).trans f6_m9) ho71))).trans ((wup_n (w_ne f7_o71 hq_82)).trans ((wup_n (w_ne f7_o71 hq_82)).trans f7_o71)))
  have f8_v71 : w_8 v71 = some _ := (congrFun hw9 _).trans ((wup_n (Ne.symm (w_ne ((wup_n (w_ne f6_m9 hq_71)).trans f6_m9) hv71))).trans ((wup_n (w_ne f7_v71 hq_82)).trans ((wup_n (w_ne f7_v71 hq_82)).trans f7_v71)))
  have f8_q_71 : w_8 q_71 = some _ := (congrFun hw9 _).trans ((wup_n (Ne.symm (w_ne f6_m9 hq_71))).trans ((wup_n (w_ne f7_q_71 hq_82)).trans ((wup_n (w_ne f7_q_71 hq_82)).trans f7_q_71)))
  have f8_q_60 : w_8 q_60 = some _ := (congrFun hw9 _).trans ((wup_n (Ne.symm (w_ne f5_m9 hq_60))).trans ((wup_n (w_ne f7_q_60 hq_82)).trans ((wup_n (w_ne f7_q_60 hq_82)).trans f7_q_60)))
  have f8_q_49 : w_8 q_49 = some _ := (congrFun hw9 _).trans ((wup_n (Ne.symm (w_ne f4_m9 hq_49))).trans ((wup_n (w_ne f7_q_49 hq_82)).trans ((wup_n (w_ne f7_q_49 hq_82)).trans f7_q_49)))
  have f8_q_38 : w_8 q_38 = some _ := (congrFun hw9 _).trans ((wup_n (Ne.symm (w_ne f3_m9 hq_38))).trans ((wup_n (w_ne f7_q_38 hq_82)).trans ((wup_n (w_ne f7_q_38 hq_82)).trans f7_q_38)))
  have f8_q_27 : w_8 q_27 = some _ := (congrFun hw9 _).trans ((wup_n (Ne.symm (w_ne f2_m9 hq_27))).trans ((wup_n (w_ne f7_q_27 hq_82)).trans ((wup_n (w_ne f7_q_27 hq_82)).trans f7_q_27)))
  have f8_v16 : w_8 v16 = some _ := (congrFun hw9 _).trans ((wup_n (Ne.symm (w_ne ((wup_n (w_ne f1_m9 hq_16)).trans f1_m9) hv16))).trans ((wup_n (w_ne f7_v16 hq_82)).trans ((wup_n (w_ne f7_v16 hq_82)).trans f7_v16)))
  have f8_q_16 : w_8 q_16 = some _ := (congrFun hw9 _).trans ((wup_n (Ne.symm (w_ne f1_m9 hq_16))).trans ((wup_n (w_ne f7_q_16 hq_82)).trans ((wup_n (w_ne f7_q_16 hq_82)).trans f7_q_16)))
  have f8_k1 : w_8 k1 = some _ := (congrFun hw9 _).trans ((wup_n (Ne.symm (w_ne ((wup_n (w_ne hm hq_5)).trans hm) hk1))).trans ((wup_n (w_ne f7_k1 hq_82)).trans ((wup_n (w_ne f7_k1 hq_82)).trans f7_k1)))
  have f8_k2 : w_8 k2 = some _ := (congrFun hw9 _).trans ((wup_n (Ne.symm (w_ne ((wup_n (w_ne hm hq_5)).trans hm) hk2))).trans ((wup_n (w_ne f7_k2 hq_82)).trans ((wup_n (w_ne f7_k2 hq_82)).trans f7_k2)))
  have f8_k3 : w_8 k3 = some _ := (congrFun hw9 _).trans ((wup_n (Ne.symm (w_ne ((wup_n (w_ne hm hq_5)).trans hm) hk3))).trans ((wup_n (w_ne f7_k3 hq_82)).trans ((wup_n (w_ne f7_k3 hq_82)).trans f7_k3)))
  have f8_k4 : w_8 k4 = some _ := (congrFun hw9 _).trans ((wup_n (Ne.symm (w_ne ((wup_n (w_ne hm hq_5)).trans hm) hk4))).trans ((wup_n (w_ne f7_k4 hq_82)).trans ((wup_n (w_ne f7_k4 hq_82)).trans f7_k4)))
  have f8_k5 : w_8 k5 = some _ := (congrFun hw9 _).trans ((wup_n (Ne.symm (w_ne ((wup_n (w_ne hm hq_5)).trans hm) hk5))).trans ((wup_n (w_ne f7_k5 hq_82)).trans ((wup_n (w_ne f7_k5 hq_82)).trans f7_k5)))
  have f8_k6 : w_8 k6 = some _ := (congrFun hw9 _).trans ((wup_n (Ne.symm (w_ne ((wup_n (w_ne hm hq_5)).trans hm) hk6))).trans ((wup_n (w_ne f7_k6 hq_82)).trans ((wup_n (w_ne f7_k6 hq_82)).trans f7_k6)))
  have f8_k7 : w_8 k7 = some _ := (congrFun hw9 _).trans ((wup_n (Ne.symm (w_ne ((wup_n (w_ne hm hq_5)).trans hm) hk7))).trans ((wup_n (w_ne f7_k7 hq_82)).trans ((wup_n (w_ne f7_k7 hq_82)).trans f7_k7)))
  have f8_q_5 : w_8 q_5 = some _ := (congrFun hw9 _).trans ((wup_n (Ne.symm (w_ne hm hq_5))).trans ((wup_n (w_ne f7_q_5 hq_82)).trans ((wup_n (w_ne f7_q_5 hq_82)).trans f7_q_5)))
  have f8_m9 : w_8 m9 = some _ := (congrFun hw9 _).trans (wup_s _ _ _)
  have hN_8 : [q_82, o71, v71, q_71, q_60, q_49, q_38, q_27, v16, q_16, k1, k2, k3, k4, k5, k6, k7, q_5, m9].Nodup := nodup_new hN_7 hL_7 hq_82
  have hL_8 : ∀ q ∈ [q_82, o71, v71, q_71, q_60, q_49, q_38, q_27, v16, q_16, k1, k2, k3, k4, k5, k6, k7, q_5, m9], w_8 q ≠ none := (live_cons f8_q_82 (live_cons f8_o71 (live_cons f8_v71 (live_cons f8_q_71 (live_cons f8_q_60 (live_cons f8_q_49 (live_cons f8_q_38 (live_cons f8_q_27 (live_cons f8_v16 (live_cons f8_q_16 (live_cons f8_k1 (live_cons f8_k2 (live_cons f8_k3 (live_cons f8_k4 (live_cons f8_k5 (live_cons f8_k6 (live_cons f8_k7 (live_cons f8_q_5 (live_cons f8_m9 live_nil)))))))))))))))))))
  have hfr_8 : ∀ p e, p ≠ m9 → ω p = some e → w_8 p = some e := fun p e hp he0 => by
    have he := hfr_7 p e hp he0
    have pq := w_ne he hq_82
    have b := (wup_n (e := (.inr (4, [.int 0, .null, .int 0]))) pq).trans he
    exact (congrFun hw9 p).trans ((wup_n hp).trans ((wup_n pq).trans b))
  clear hw9
  refine s_aload_n hC dX9_init_92 rfl rfl 0 rfl ?_
  refine s_new hC cs_Jx4a65c (fs := [.int 0, .null, .int 0]) tw_235 tw_55 tw_5 (fun j hj => by rcases (show j = 0 ∨ j = 1 ∨ j = 2 by omega) with rfl | rfl | rfl <;> rfl) (le_b rfl) (le_b rfl) dX9_init_93 rfl (fun q_93 hq_93 => ?_)
  refine s_dup hC dX9_init_96 rfl rfl ?_
  refine s_callI hC (ct_Jx4a65c_init_da8c8 l g _ _ (wup_s _ _ _)) ce_Jx4a65c_init_da8c8 tw_236 rfl rfl ⟨⟨le_b rfl, le_b rfl⟩, le_b rfl, le_b rfl⟩ (le_b rfl) dX9_init_97 rfl (dvk0 ?_) nokx
  refine s_putF hC hin cs_X9 8 tw_245 (le_b rfl) rfl rfl rfl rfl ((wup_n (w_ne f8_m9 hq_93)).trans ((wup_n (w_ne f8_m9 hq_93)).trans f8_m9)) (le_b rfl) dX9_init_100 rfl ?_
  refine WP.seal (fun w_9 hw9 => ?_)
  have f9_q_93 : w_9 q_93 = some _ := (congrFun hw9 _).trans ((wup_n (Ne.symm (w_ne f8_m9 hq_93))).trans (wup_s _ _ _))
  have f9_q_82 : w_9 q_82 = some _ := (congrFun hw9 _).trans ((wup_n (Ne.symm (w_ne f7_m9 hq_82))).trans ((wup_n (w_ne f8_q_82 hq_93)).trans ((wup_n (w_ne f8_q_82 hq_93)).trans f8_q_82)))
  have f9_o71 : w_9 o71 = some _ := (congrFun hw9 _).trans ((wup_n (Ne.symm (w_ne ((wup_n (w_ne f6_m9 hq_71)).trans f6_m9) ho71))).trans ((wup_n (w_ne f8_o71 hq_93)).trans ((wup_n (w_ne f8_o71 hq_93)).trans f8_o71)))
  have f9_v71 : w_9 v71 = some _ := (congrFun hw9 _).trans ((wup_n (Ne.symm (w_ne ((wup_n (w_ne f6_m9 hq_71)).trans f6_m9) hv71))).trans ((wup_n (w_ne f8_v71 hq_93)).trans ((wup_n (w_ne f8_v71 hq_93)).trans f8_v71)))
  have f9_q_71 : w_9 q_71 = some _ := (congrFun hw9 _).trans ((wup_n (Ne.symm (w_ne f6_m9 hq_71))).trans ((wup_n (w_ne f8_q_71 hq_93)).trans ((wup_n (w_ne f8_q_71 hq_93)).trans f8_q_71)))
  have f9_q_60 : w_9 q_60 = some _ := (congrFun hw9 _).trans ((wup_n (Ne.symm (w_ne f5_m9 hq_60))).trans ((wup_n (w_ne f8_q_60 hq_93)).trans ((wup_n (w_ne f8_q_60 hq_93)).trans f8_q_60)))
  have f9_q_49 : w_9 q_49 = some _ := (congrFun hw9 _).trans ((wup_n (Ne.symm (w_ne f4_m9 hq_49))).trans ((wup_n (w_ne f8_q_49 hq_93)).trans ((wup_n (w_ne f8_q_49 hq_93)).trans f8_q_49)))
  have f9_q_38 : w_9 q_38 = some _ := (congrFun hw9 _).trans ((wup_n (Ne.symm (w_ne f3_m9 hq_38))).trans ((wup_n (w_ne f8_q_38 hq_93)).trans ((wup_n (w_ne f8_q_38 hq_93)).trans f8_q_38)))
  have f9_q_27 : w_9 q_27 = some _ := (congrFun hw9 _).trans ((wup_n (Ne.symm (w_ne f2_m9 hq_27))).trans ((wup_n (w_ne f8_q_27 hq_93)).trans ((wup_n (w_ne f8_q_27 hq_93)).trans f8_q_27)))
  have f9_v16 : w_9 v16 = some _ := (congrFun hw9 _).trans ((wup_n (Ne.symm (w_ne ((wup_n (w_ne f1_m9 hq_16)).trans f1_m9) hv16))).trans ((wup_n (w_ne f8_v16 hq_93)).trans ((wup_n (w_ne f8_v16 hq_93)).trans f8_v16)))
  have f9_q_16 : w_9 q_16 = some _ := (congrFun hw9 _).trans ((wup_n (Ne.symm (w_ne f1_m9 hq_16))).trans ((wup_n (w_ne f8_q_16 hq_93)).trans ((wup_n (w_ne f8_q_16 hq_93)).trans f8_q_16)))
  have f9_k1 : w_9 k1 = some _ := (congrFun hw9 _).trans ((wup_n (Ne.symm (w_ne ((wup_n (w_ne hm hq_5)).trans hm) hk1))).trans ((wup_n (w_ne f8_k1 hq_93)).trans ((wup_n (w_ne f8_k1 hq_93)).trans f8_k1)))
  have f9_k2 : w_9 k2 = some _ := (congrFun hw9 _).trans ((wup_n (Ne.symm (w_ne ((wup_n (w_ne hm hq_5)).trans hm) hk2))).trans ((wup_n (w_ne f8_k2 hq_93)).trans ((wup_n (w_ne f8_k2 hq_93)).trans f8_k2)))
  have f9_k3 : w_9 k3 = some _ := (congrFun hw9 _).trans ((wup_n (Ne.symm (w_ne ((wup_n (w_ne hm hq_5)).trans hm) hk3))).trans ((wup_n (w_ne f8_k3 hq_93)).trans ((wup_n (w_ne f8_k3 hq_93)).trans f8_k3)))
  have f9_k4 : w_9 k4 = some _ := (congrFun hw9 _).trans ((wup_n (Ne.symm (w_ne ((wup_n (w_ne hm hq_5)).trans hm) hk4))).trans ((wup_n (w_ne f8_k4 hq_93)).trans ((wup_n (w_ne f8_k4 hq_93)).trans f8_k4)))
  have f9_k5 : w_9 k5 = some _ := (congrFun hw9 _).trans ((wup_n (Ne.symm (w_ne ((wup_n (w_ne hm hq_5)).trans hm) hk5))).trans ((wup_n (w_ne f8_k5 hq_93)).trans ((wup_n (w_ne f8_k5 hq_93)).trans f8_k5)))
  have f9_k6 : w_9 k6 = some _ := (congrFun hw9 _).trans ((wup_n (Ne.symm (w_ne ((wup_n (w_ne hm hq_5)).trans hm) hk6))).trans ((wup_n (w_ne f8_k6 hq_93)).trans ((wup_n (w_ne f8_k6 hq_93)).trans f8_k6)))
  have f9_k7 : w_9 k7 = some _ := (congrFun hw9 _).trans ((wup_n (Ne.symm (w_ne ((wup_n (w_ne hm hq_5)).trans hm) hk7))).trans ((wup_n (w_ne f8_k7 hq_93)).trans ((wup_n (w_ne f8_k7 hq_93)).trans f8_k7)))
  have f9_q_5 : w_9 q_5 = some _ := (congrFun hw9 _).trans ((wup_n (Ne.symm (w_ne hm hq_5))).trans ((wup_n (w_ne f8_q_5 hq_93)).trans ((wup_n (w_ne f8_q_5 hq_93)).trans f8_q_5)))
  have f9_m9 : w_9 m9 = some _ := (congrFun hw9 _).trans (wup_s _ _ _)
  have hN_9 : [q_93, q_82, o71, v71, q_71, q_60, q_49, q_38, q_27, v16, q_16, k1, k2, k3, k4, k5, k6, k7, q_5, m9].Nodup := nodup_new hN_8 hL_8 hq_93
  have hL_9 : ∀ q ∈ [q_93, q_82, o71, v71, q_71, q_60, q_49, q_38, q_27, v16, q_16, k1, k2, k3, k4, k5, k6, k7, q_5, m9], w_9 q ≠ none := (live_cons f9_q_93 (live_cons f9_q_82 (live_cons f9_o71 (live_cons f9_v71 (live_cons f9_q_71 (live_cons f9_q_60 (live_cons f9_q_49 (live_cons f9_q_38 (live_cons f9_q_27 (live_cons f9_v16 (live_cons f9_q_16 (live_cons f9_k1 (live_cons f9_k2 (live_cons f9_k3 (live_cons f9_k4 (live_cons f9_k5 (live_cons f9_k6 (live_cons f9_k7 (live_cons f9_q_5 (live_cons f9_m9 live_nil))))))))))))))))))))
  have hfr_9 : ∀ p e, p ≠ m9 → ω p = some e → w_9 p = some e := fun p e hp he0 => by
    have he := hfr_8 p e hp he0
    have pq := w_ne he hq_93
    have b := (wup_n (e := (.inr (4, [.int 0, .null, .int 0]))) pq).trans he
    exact (congrFun hw9 p).trans ((wup_n hp).trans ((wup_n pq).trans b))
  clear hw9
  refine s_vret hC hr dX9_init_103 (le_b rfl) (le_b rfl) ?_
  refine ⟨adP [q_93, q_82, o71, v71, q_71, q_60, q_49, q_38, q_27, v16, q_16, k1, k2, k3, k4, k5, k6, k7, q_5, m9] [19, 18, 10, 8, 7, 6, 5, 4, 1, 0, 17, 11, 12, 13, 14, 15, 16, 9, 2, 3] (g.2.2.1 19), rfl, ?_, rfl, hfr_9⟩
  exact rep0 hN_9 rfl (by decide +kernel) hg (fun i hi => by
    rcases i with _ | _ | _ | _ | _ | _ | _ | _ | _ | _ | _ | _ | _ | _ | _ | _ | _ | _ | _ | _ | i
    · exact f9_m9
    · exact f9_q_5
    · exact f9_q_16
    · exact f9_q_27
    · exact f9_q_38
    · exact f9_q_49
    · exact f9_q_60
    · exact f9_q_71
    · exact f9_q_82
    · exact f9_q_93
    · exact f9_k7
    · exact f9_k1
    · exact f9_k2
    · exact f9_k3
    · exact f9_k4
    · exact f9_k5
    · exact f9_k6
    · exact f9_v16
    · exact f9_o71
    · exact f9_v71
    · omega)
def adM (K pm : List Nat) (a z : Nat) : Iy → Nat
  | .inl 12 => a
  | .inl i => if i < 12 then K.getD (pm.getD i 0) 0 else z
  | .inr _ => z
def y00 : Ey := (0, 0, 0, 0, 0, false, false, 0, 0, 0, fun _ => none, fun _ => none, fun _ => none, fun _ => 0)
def pmOK2 (pm : List Nat) : Bool := (List.range 12).all fun i => decide (pm.getD i 0 < 12) && (List.range 12).all fun j => decide (pm.getD i 0 = pm.getD j 0 → i = j)
theorem adM_l {K pm : List Nat} {a z i : Nat} (hi : i < 12) : adM K pm a z (.inl i) = K.getD (pm.getD i 0) 0 := by
  have h : adM K pm a z (.inl i) = (if i < 12 then K.getD (pm.getD i 0) 0 else z) := by
    rcases i with _ | _ | _ | _ | _ | _ | _ | _ | _ | _ | _ | _ | i <;> first | rfl | (exfalso; omega)
  rw [h, if_pos hi]
theorem repM0 {g : Gl} {K pm : List Nat} {w : Wd} (hN : K.Nodup) (hK : K.length = 12) (hp : pmOK2 pm = true) (hg : g.2.1 3 ≠ g.2.1 0) (hc : ∀ i, i < 12 → w (adM K pm (adS g 31) (g.2.2.1 19) (.inl i)) = some (skM g (adM K pm (adS g 31) (g.2.2.1 19)) y00 s00 i)) : RepM g (adM K pm (adS g 31) (g.2.2.1 19)) y00 s00 w := by
  have hk : ∀ k, VM y00 s00 k → ∃ i, k = .inl i ∧ i < 12 := by
    intro k hk
    rcases k with a | i | i | i
    · by_cases ha : a < 12
      · exact ⟨a, rfl, ha⟩
      · rcases a with _ | _ | _ | _ | _ | _ | _ | _ | _ | _ | _ | _ | _ | _ | _ | _ | _ | a9 <;> first | (exfalso; omega) | exact absurd rfl hk | exact absurd hk Bool.false_ne_true | exact absurd hk (fun z9 => z9)
    · exact absurd hk (Nat.not_lt_zero _)
    · exact absurd hk (Nat.not_lt_zero _)
    · exact absurd hk (Nat.not_lt_zero _)
  refine ⟨?_, ?_, ⟨by decide, Nat.le_refl _, fun _ => rfl, fun i hi => absurd hi (Nat.not_lt_zero _)⟩, ⟨by decide, Nat.le_refl _, fun _ => rfl, fun i hi => absurd hi (Nat.not_lt_zero _)⟩, ⟨by decide, Nat.le_refl _, fun _ => rfl, fun i hi => absurd hi (Nat.not_lt_zero _)⟩, hg, fun _ => ⟨rfl, fun _ _ => rfl⟩⟩
  · intro k h
    obtain ⟨i, rfl, hi⟩ := hk k h
    exact hc i hi
  · intro k k' h h' he
    obtain ⟨i, rfl, hi⟩ := hk k h
    obtain ⟨j, rfl, hj⟩ := hk k' h'
    rw [adM_l hi, adM_l hj] at he
    simp only [pmOK2, List.all_eq_true, List.mem_range, Bool.and_eq_true, decide_eq_true_eq] at hp
    obtain ⟨h1, h2⟩ := hp i hi
    obtain ⟨h3, -⟩ := hp j hj
    rw [h2 j hj (nd_inj hN _ _ (by omega) (by omega) he)]
set_option maxHeartbeats 4000000 in
set_option maxRecDepth 100000 in
theorem ct_X11_init (l : Launch) (g : Gl) (ω : Wd) (m9 : Nat) (hm : ω m9 = some (.inr (16, [.int 0, .null, .null, .null, .null, .null, .null, .null, .null, .null, .null, .int 0, .int 0, .int 0, .int 0, .int 0, .int 0, .int 0, .int 0, .int 0, .null, .null]))) (hg : g.2.1 3 ≠ g.2.1 0) : CT l g yX11_init cX11_init 2 none 4 80 11 1220 [.ref m9] ω (fun r w => ∃ ad, r = none ∧ RepM g ad y00 s00 w ∧ ad .main = m9 ∧ ∀ p e, p ≠ m9 → ω p = some e → w p = some e) (nox) := by
  refine CT.of (own := "BoringheadModel") rfl rfl (le_b rfl) rfl ?_
  intro p e s m args below meth c sz0 hC hr htab hin
  refine s_aload_n hC dX11_init_0 rfl rfl 0 rfl ?_
  refine s_objInit hC tw_1245 ⟨le_b rfl, le_b rfl⟩ dX11_init_1 rfl ?_
  refine s_aload_n hC dX11_init_4 rfl rfl 0 rfl ?_
  refine s_sipush hC (v := 200) dX11_init_5 rfl (by decide) ?_
  refine s_newa hC 0 (at0 := .int) (ty := .int) (N' := 200) (a0 := (200, .inl (fun _ => 0))) rfl rfl tw_83 (fun _ => rfl) (by decide) (by decide) (by decide) (le_b rfl) (le_b rfl) dX11_init_8 rfl (fun q_8 hq_8 => ?_)
  refine s_putF hC hin cs_X11 1 tw_1250 (le_b rfl) rfl rfl rfl rfl ((wup_n (w_ne hm hq_8)).trans hm) (le_b rfl) dX11_init_10 rfl ?_
  refine s_aload_n hC dX11_init_13 rfl rfl 0 rfl ?_
  refine s_sipush hC (v := 200) dX11_init_14 rfl (by decide) ?_
  refine s_newa hC 0 (at0 := .int) (ty := .int) (N' := 200) (a0 := (200, .inl (fun _ => 0))) rfl rfl tw_83 (fun _ => rfl) (by decide) (by decide) (by decide) (le_b rfl) (le_b rfl) dX11_init_17 rfl (fun q_17 hq_17 => ?_)
  refine s_putF hC hin cs_X11 2 tw_1251 (le_b rfl) rfl rfl rfl rfl ((wup_n (w_ne (wup_s _ _ _) hq_17)).trans (wup_s _ _ _)) (le_b rfl) dX11_init_19 rfl ?_
  refine WP.seal (fun v_22 hv_22 => ?_)
  have f22_m9 : v_22 m9 = some _ := (congrFun hv_22 _).trans (wup_s _ _ _)
  have f22_q_8 : v_22 q_8 = some _ := (congrFun hv_22 _).trans ((wup_n (Ne.symm (w_ne hm hq_8))).trans ((wup_n (w_ne ((wup_n (Ne.symm (w_ne hm hq_8))).trans (wup_s _ _ _)) hq_17)).trans ((wup_n (Ne.symm (w_ne hm hq_8))).trans (wup_s _ _ _))))
  have f22_q_17 : v_22 q_17 = some _ := (congrFun hv_22 _).trans ((wup_n (Ne.symm (w_ne (wup_s _ _ _) hq_17))).trans (wup_s _ _ _))
  refine s_aload_n hC dX11_init_22 rfl rfl 0 rfl ?_
  refine s_sipush hC (v := 200) dX11_init_23 rfl (by decide) ?_
  refine s_newa hC 0 (at0 := .int) (ty := .int) (N' := 200) (a0 := (200, .inl (fun _ => 0))) rfl rfl tw_83 (fun _ => rfl) (by decide) (by decide) (by decide) (le_b rfl) (le_b rfl) dX11_init_26 rfl (fun q_26 hq_26 => ?_)
  refine s_putF hC hin cs_X11 3 tw_1252 (le_b rfl) rfl rfl rfl rfl ((wup_n (w_ne f22_m9 hq_26)).trans f22_m9) (le_b rfl) dX11_init_28 rfl ?_
  refine s_aload_n hC dX11_init_31 rfl rfl 0 rfl ?_
  refine s_sipush hC (v := 200) dX11_init_32 rfl (by decide) ?_
  refine s_newa hC 0 (at0 := .int) (ty := .int) (N' := 200) (a0 := (200, .inl (fun _ => 0))) rfl rfl tw_83 (fun _ => rfl) (by decide) (by decide) (by decide) (le_b rfl) (le_b rfl) dX11_init_35 rfl (fun q_35 hq_35 => ?_)
  refine s_putF hC hin cs_X11 4 tw_1253 (le_b rfl) rfl rfl rfl rfl ((wup_n (w_ne (wup_s _ _ _) hq_35)).trans (wup_s _ _ _)) (le_b rfl) dX11_init_37 rfl ?_
  refine WP.seal (fun v_40 hv_40 => ?_)
  have f40_m9 : v_40 m9 = some _ := (congrFun hv_40 _).trans (wup_s _ _ _)
  have f40_q_8 : v_40 q_8 = some _ := (congrFun hv_40 _).trans ((wup_n (Ne.symm (w_ne hm hq_8))).trans ((wup_n (w_ne ((wup_n (Ne.symm (w_ne hm hq_8))).trans ((wup_n (w_ne f22_q_8 hq_26)).trans f22_q_8)) hq_35)).trans ((wup_n (Ne.symm (w_ne hm hq_8))).trans ((wup_n (w_ne f22_q_8 hq_26)).trans f22_q_8))))
  have f40_q_17 : v_40 q_17 = some _ := (congrFun hv_40 _).trans ((wup_n (Ne.symm (w_ne (wup_s _ _ _) hq_17))).trans ((wup_n (w_ne ((wup_n (Ne.symm (w_ne (wup_s _ _ _) hq_17))).trans ((wup_n (w_ne f22_q_17 hq_26)).trans f22_q_17)) hq_35)).trans ((wup_n (Ne.symm (w_ne (wup_s _ _ _) hq_17))).trans ((wup_n (w_ne f22_q_17 hq_26)).trans f22_q_17))))
  have f40_q_26 : v_40 q_26 = some _ := (congrFun hv_40 _).trans ((wup_n (Ne.symm (w_ne f22_m9 hq_26))).trans ((wup_n (w_ne ((wup_n (Ne.symm (w_ne f22_m9 hq_26))).trans (wup_s _ _ _)) hq_35)).trans ((wup_n (Ne.symm (w_ne f22_m9 hq_26))).trans (wup_s _ _ _))))
  have f40_q_35 : v_40 q_35 = some _ := (congrFun hv_40 _).trans ((wup_n (Ne.symm (w_ne (wup_s _ _ _) hq_35))).trans (wup_s _ _ _))
  refine s_aload_n hC dX11_init_40 rfl rfl 0 rfl ?_
  refine s_sipush hC (v := 200) dX11_init_41 rfl (by decide) ?_
  refine s_newa hC 0 (at0 := .int) (ty := .int) (N' := 200) (a0 := (200, .inl (fun _ => 0))) rfl rfl tw_83 (fun _ => rfl) (by decide) (by decide) (by decide) (le_b rfl) (le_b rfl) dX11_init_44 rfl (fun q_44 hq_44 => ?_)
  refine s_putF hC hin cs_X11 5 tw_1254 (le_b rfl) rfl rfl rfl rfl ((wup_n (w_ne f40_m9 hq_44)).trans f40_m9) (le_b rfl) dX11_init_46 rfl ?_
  refine s_aload_n hC dX11_init_49 rfl rfl 0 rfl ?_
  refine s_sipush hC (v := 200) dX11_init_50 rfl (by decide) ?_
  refine s_newa hC 0 (at0 := .int) (ty := .int) (N' := 200) (a0 := (200, .inl (fun _ => 0))) rfl rfl tw_83 (fun _ => rfl) (by decide) (by decide) (by decide) (le_b rfl) (le_b rfl) dX11_init_53 rfl (fun q_53 hq_53 => ?_)
  refine s_putF hC hin cs_X11 6 tw_1255 (le_b rfl) rfl rfl rfl rfl ((wup_n (w_ne (wup_s _ _ _) hq_53)).trans (wup_s _ _ _)) (le_b rfl) dX11_init_55 rfl ?_
  refine WP.seal (fun v_58 hv_58 => ?_)
  have f58_m9 : v_58 m9 = some _ := (congrFun hv_58 _).trans (wup_s _ _ _)
  have f58_q_8 : v_58 q_8 = some _ := (congrFun hv_58 _).trans ((wup_n (Ne.symm (w_ne hm hq_8))).trans ((wup_n (w_ne ((wup_n (Ne.symm (w_ne hm hq_8))).trans ((wup_n (w_ne f40_q_8 hq_44)).trans f40_q_8)) hq_53)).trans ((wup_n (Ne.symm (w_ne hm hq_8))).trans ((wup_n (w_ne f40_q_8 hq_44)).trans f40_q_8))))
  have f58_q_17 : v_58 q_17 = some _ := (congrFun hv_58 _).trans ((wup_n (Ne.symm (w_ne (wup_s _ _ _) hq_17))).trans ((wup_n (w_ne ((wup_n (Ne.symm (w_ne (wup_s _ _ _) hq_17))).trans ((wup_n (w_ne f40_q_17 hq_44)).trans f40_q_17)) hq_53)).trans ((wup_n (Ne.symm (w_ne (wup_s _ _ _) hq_17))).trans ((wup_n (w_ne f40_q_17 hq_44)).trans f40_q_17))))
  have f58_q_26 : v_58 q_26 = some _ := (congrFun hv_58 _).trans ((wup_n (Ne.symm (w_ne f22_m9 hq_26))).trans ((wup_n (w_ne ((wup_n (Ne.symm (w_ne f22_m9 hq_26))).trans ((wup_n (w_ne f40_q_26 hq_44)).trans f40_q_26)) hq_53)).trans ((wup_n (Ne.symm (w_ne f22_m9 hq_26))).trans ((wup_n (w_ne f40_q_26 hq_44)).trans f40_q_26))))
  have f58_q_35 : v_58 q_35 = some _ := (congrFun hv_58 _).trans ((wup_n (Ne.symm (w_ne (wup_s _ _ _) hq_35))).trans ((wup_n (w_ne ((wup_n (Ne.symm (w_ne (wup_s _ _ _) hq_35))).trans ((wup_n (w_ne f40_q_35 hq_44)).trans f40_q_35)) hq_53)).trans ((wup_n (Ne.symm (w_ne (wup_s _ _ _) hq_35))).trans ((wup_n (w_ne f40_q_35 hq_44)).trans f40_q_35))))
  have f58_q_44 : v_58 q_44 = some _ := (congrFun hv_58 _).trans ((wup_n (Ne.symm (w_ne f40_m9 hq_44))).trans ((wup_n (w_ne ((wup_n (Ne.symm (w_ne f40_m9 hq_44))).trans (wup_s _ _ _)) hq_53)).trans ((wup_n (Ne.symm (w_ne f40_m9 hq_44))).trans (wup_s _ _ _))))
  have f58_q_53 : v_58 q_53 = some _ := (congrFun hv_58 _).trans ((wup_n (Ne.symm (w_ne (wup_s _ _ _) hq_53))).trans (wup_s _ _ _))
  refine s_aload_n hC dX11_init_58 rfl rfl 0 rfl ?_
  refine s_new hC cs_Jx4a65c (fs := [.int 0, .null, .int 0]) tw_1246 tw_55 tw_5 (fun j hj => by rcases (show j = 0 ∨ j = 1 ∨ j = 2 by omega) with rfl | rfl | rfl <;> rfl) (le_b rfl) (le_b rfl) dX11_init_59 rfl (fun q_59 hq_59 => ?_)
  refine s_dup hC dX11_init_62 rfl rfl ?_
  refine s_callI hC (ct_Jx4a65c_init_da8c8 l g _ _ (wup_s _ _ _)) ce_Jx4a65c_init_da8c8 tw_1247 rfl rfl ⟨⟨le_b rfl, le_b rfl⟩, le_b rfl, le_b rfl⟩ (le_b rfl) dX11_init_63 rfl (dvk0 ?_) nokx
  refine s_putF hC hin cs_X11 7 tw_1256 (le_b rfl) rfl rfl rfl rfl ((wup_n (w_ne f58_m9 hq_59)).trans ((wup_n (w_ne f58_m9 hq_59)).trans f58_m9)) (le_b rfl) dX11_init_66 rfl ?_
  refine WP.seal (fun v_69 hv_69 => ?_)
  have f69_m9 : v_69 m9 = some _ := (congrFun hv_69 _).trans (wup_s _ _ _)
  have f69_q_8 : v_69 q_8 = some _ := (congrFun hv_69 _).trans ((wup_n (Ne.symm (w_ne hm hq_8))).trans ((wup_n (w_ne f58_q_8 hq_59)).trans ((wup_n (w_ne f58_q_8 hq_59)).trans f58_q_8)))
  have f69_q_17 : v_69 q_17 = some _ := (congrFun hv_69 _).trans ((wup_n (Ne.symm (w_ne (wup_s _ _ _) hq_17))).trans ((wup_n (w_ne f58_q_17 hq_59)).trans ((wup_n (w_ne f58_q_17 hq_59)).trans f58_q_17)))
  have f69_q_26 : v_69 q_26 = some _ := (congrFun hv_69 _).trans ((wup_n (Ne.symm (w_ne f22_m9 hq_26))).trans ((wup_n (w_ne f58_q_26 hq_59)).trans ((wup_n (w_ne f58_q_26 hq_59)).trans f58_q_26)))
  have f69_q_35 : v_69 q_35 = some _ := (congrFun hv_69 _).trans ((wup_n (Ne.symm (w_ne (wup_s _ _ _) hq_35))).trans ((wup_n (w_ne f58_q_35 hq_59)).trans ((wup_n (w_ne f58_q_35 hq_59)).trans f58_q_35)))
  have f69_q_44 : v_69 q_44 = some _ := (congrFun hv_69 _).trans ((wup_n (Ne.symm (w_ne f40_m9 hq_44))).trans ((wup_n (w_ne f58_q_44 hq_59)).trans ((wup_n (w_ne f58_q_44 hq_59)).trans f58_q_44)))
  have f69_q_53 : v_69 q_53 = some _ := (congrFun hv_69 _).trans ((wup_n (Ne.symm (w_ne (wup_s _ _ _) hq_53))).trans ((wup_n (w_ne f58_q_53 hq_59)).trans ((wup_n (w_ne f58_q_53 hq_59)).trans f58_q_53)))
  have f69_q_59 : v_69 q_59 = some _ := (congrFun hv_69 _).trans ((wup_n (Ne.symm (w_ne f58_m9 hq_59))).trans (wup_s _ _ _))
  refine s_aload_n hC dX11_init_69 rfl rfl 0 rfl ?_
  refine s_new hC cs_Jx4a65c (fs := [.int 0, .null, .int 0]) tw_1246 tw_55 tw_5 (fun j hj => by rcases (show j = 0 ∨ j = 1 ∨ j = 2 by omega) with rfl | rfl | rfl <;> rfl) (le_b rfl) (le_b rfl) dX11_init_70 rfl (fun q_70 hq_70 => ?_)
  refine s_dup hC dX11_init_73 rfl rfl ?_
  refine s_callI hC (ct_Jx4a65c_init_da8c8 l g _ _ (wup_s _ _ _)) ce_Jx4a65c_init_da8c8 tw_1247 rfl rfl ⟨⟨le_b rfl, le_b rfl⟩, le_b rfl, le_b rfl⟩ (le_b rfl) dX11_init_74 rfl (dvk0 ?_) nokx
  refine s_putF hC hin cs_X11 8 tw_1257 (le_b rfl) rfl rfl rfl rfl ((wup_n (w_ne f69_m9 hq_70)).trans ((wup_n (w_ne f69_m9 hq_70)).trans f69_m9)) (le_b rfl) dX11_init_77 rfl ?_
  refine WP.seal (fun v_80 hv_80 => ?_)
  have f80_m9 : v_80 m9 = some _ := (congrFun hv_80 _).trans (wup_s _ _ _)
  have f80_q_8 : v_80 q_8 = some _ := (congrFun hv_80 _).trans ((wup_n (Ne.symm (w_ne hm hq_8))).trans ((wup_n (w_ne f69_q_8 hq_70)).trans ((wup_n (w_ne f69_q_8 hq_70)).trans f69_q_8)))
  have f80_q_17 : v_80 q_17 = some _ := (congrFun hv_80 _).trans ((wup_n (Ne.symm (w_ne (wup_s _ _ _) hq_17))).trans ((wup_n (w_ne f69_q_17 hq_70)).trans ((wup_n (w_ne f69_q_17 hq_70)).trans f69_q_17)))
  have f80_q_26 : v_80 q_26 = some _ := (congrFun hv_80 _).trans ((wup_n (Ne.symm (w_ne f22_m9 hq_26))).trans ((wup_n (w_ne f69_q_26 hq_70)).trans ((wup_n (w_ne f69_q_26 hq_70)).trans f69_q_26)))
  have f80_q_35 : v_80 q_35 = some _ := (congrFun hv_80 _).trans ((wup_n (Ne.symm (w_ne (wup_s _ _ _) hq_35))).trans ((wup_n (w_ne f69_q_35 hq_70)).trans ((wup_n (w_ne f69_q_35 hq_70)).trans f69_q_35)))
  have f80_q_44 : v_80 q_44 = some _ := (congrFun hv_80 _).trans ((wup_n (Ne.symm (w_ne f40_m9 hq_44))).trans ((wup_n (w_ne f69_q_44 hq_70)).trans ((wup_n (w_ne f69_q_44 hq_70)).trans f69_q_44)))
  have f80_q_53 : v_80 q_53 = some _ := (congrFun hv_80 _).trans ((wup_n (Ne.symm (w_ne (wup_s _ _ _) hq_53))).trans ((wup_n (w_ne f69_q_53 hq_70)).trans ((wup_n (w_ne f69_q_53 hq_70)).trans f69_q_53)))
  have f80_q_59 : v_80 q_59 = some _ := (congrFun hv_80 _).trans ((wup_n (Ne.symm (w_ne f58_m9 hq_59))).trans ((wup_n (w_ne f69_q_59 hq_70)).trans ((wup_n (w_ne f69_q_59 hq_70)).trans f69_q_59)))
  have f80_q_70 : v_80 q_70 = some _ := (congrFun hv_80 _).trans ((wup_n (Ne.symm (w_ne f69_m9 hq_70))).trans (wup_s _ _ _))
  refine s_aload_n hC dX11_init_80 rfl rfl 0 rfl ?_
  refine s_bipush hC (v := 8) dX11_init_81 rfl (by decide) ?_
  refine s_newa hC 0 (at0 := .int) (ty := .int) (N' := 8) (a0 := (8, .inl (fun _ => 0))) rfl rfl tw_83 (fun _ => rfl) (by decide) (by decide) (by decide) (le_b rfl) (le_b rfl) dX11_init_83 rfl (fun q_83 hq_83 => ?_)
  refine s_putF hC hin cs_X11 9 tw_1258 (le_b rfl) rfl rfl rfl rfl ((wup_n (w_ne f80_m9 hq_83)).trans f80_m9) (le_b rfl) dX11_init_85 rfl ?_
  refine WP.seal (fun v_88 hv_88 => ?_)
  have f88_m9 : v_88 m9 = some _ := (congrFun hv_88 _).trans (wup_s _ _ _)
  have f88_q_8 : v_88 q_8 = some _ := (congrFun hv_88 _).trans ((wup_n (Ne.symm (w_ne hm hq_8))).trans ((wup_n (w_ne f80_q_8 hq_83)).trans f80_q_8))
  have f88_q_17 : v_88 q_17 = some _ := (congrFun hv_88 _).trans ((wup_n (Ne.symm (w_ne (wup_s _ _ _) hq_17))).trans ((wup_n (w_ne f80_q_17 hq_83)).trans f80_q_17))
  have f88_q_26 : v_88 q_26 = some _ := (congrFun hv_88 _).trans ((wup_n (Ne.symm (w_ne f22_m9 hq_26))).trans ((wup_n (w_ne f80_q_26 hq_83)).trans f80_q_26))
  have f88_q_35 : v_88 q_35 = some _ := (congrFun hv_88 _).trans ((wup_n (Ne.symm (w_ne (wup_s _ _ _) hq_35))).trans ((wup_n (w_ne f80_q_35 hq_83)).trans f80_q_35))
  have f88_q_44 : v_88 q_44 = some _ := (congrFun hv_88 _).trans ((wup_n (Ne.symm (w_ne f40_m9 hq_44))).trans ((wup_n (w_ne f80_q_44 hq_83)).trans f80_q_44))
  have f88_q_53 : v_88 q_53 = some _ := (congrFun hv_88 _).trans ((wup_n (Ne.symm (w_ne (wup_s _ _ _) hq_53))).trans ((wup_n (w_ne f80_q_53 hq_83)).trans f80_q_53))
  have f88_q_59 : v_88 q_59 = some _ := (congrFun hv_88 _).trans ((wup_n (Ne.symm (w_ne f58_m9 hq_59))).trans ((wup_n (w_ne f80_q_59 hq_83)).trans f80_q_59))
  have f88_q_70 : v_88 q_70 = some _ := (congrFun hv_88 _).trans ((wup_n (Ne.symm (w_ne f69_m9 hq_70))).trans ((wup_n (w_ne f80_q_70 hq_83)).trans f80_q_70))
  have f88_q_83 : v_88 q_83 = some _ := (congrFun hv_88 _).trans ((wup_n (Ne.symm (w_ne f80_m9 hq_83))).trans (wup_s _ _ _))
  refine s_aload_n hC dX11_init_88 rfl rfl 0 rfl ?_
  refine s_new hC cs_Jx4a65c (fs := [.int 0, .null, .int 0]) tw_1246 tw_55 tw_5 (fun j hj => by rcases (show j = 0 ∨ j = 1 ∨ j = 2 by omega) with rfl | rfl | rfl <;> rfl) (le_b rfl) (le_b rfl) dX11_init_89 rfl (fun q_89 hq_89 => ?_)
  refine s_dup hC dX11_init_92 rfl rfl ?_
  refine s_callI hC (ct_Jx4a65c_init_da8c8 l g _ _ (wup_s _ _ _)) ce_Jx4a65c_init_da8c8 tw_1247 rfl rfl ⟨⟨le_b rfl, le_b rfl⟩, le_b rfl, le_b rfl⟩ (le_b rfl) dX11_init_93 rfl (dvk0 ?_) nokx
  refine s_putF hC hin cs_X11 10 tw_1259 (le_b rfl) rfl rfl rfl rfl ((wup_n (w_ne f88_m9 hq_89)).trans ((wup_n (w_ne f88_m9 hq_89)).trans f88_m9)) (le_b rfl) dX11_init_96 rfl ?_
  refine WP.seal (fun v_99 hv_99 => ?_)
  have f99_m9 : v_99 m9 = some _ := (congrFun hv_99 _).trans (wup_s _ _ _)
  have f99_q_8 : v_99 q_8 = some _ := (congrFun hv_99 _).trans ((wup_n (Ne.symm (w_ne hm hq_8))).trans ((wup_n (w_ne f88_q_8 hq_89)).trans ((wup_n (w_ne f88_q_8 hq_89)).trans f88_q_8)))
  have f99_q_17 : v_99 q_17 = some _ := (congrFun hv_99 _).trans ((wup_n (Ne.symm (w_ne (wup_s _ _ _) hq_17))).trans ((wup_n (w_ne f88_q_17 hq_89)).trans ((wup_n (w_ne f88_q_17 hq_89)).trans f88_q_17)))
  have f99_q_26 : v_99 q_26 = some _ := (congrFun hv_99 _).trans ((wup_n (Ne.symm (w_ne f22_m9 hq_26))).trans ((wup_n (w_ne f88_q_26 hq_89)).trans ((wup_n (w_ne f88_q_26 hq_89)).trans f88_q_26)))
  have f99_q_35 : v_99 q_35 = some _ := (congrFun hv_99 _).trans ((wup_n (Ne.symm (w_ne (wup_s _ _ _) hq_35))).trans ((wup_n (w_ne f88_q_35 hq_89)).trans ((wup_n (w_ne f88_q_35 hq_89)).trans f88_q_35)))
  have f99_q_44 : v_99 q_44 = some _ := (congrFun hv_99 _).trans ((wup_n (Ne.symm (w_ne f40_m9 hq_44))).trans ((wup_n (w_ne f88_q_44 hq_89)).trans ((wup_n (w_ne f88_q_44 hq_89)).trans f88_q_44)))
  have f99_q_53 : v_99 q_53 = some _ := (congrFun hv_99 _).trans ((wup_n (Ne.symm (w_ne (wup_s _ _ _) hq_53))).trans ((wup_n (w_ne f88_q_53 hq_89)).trans ((wup_n (w_ne f88_q_53 hq_89)).trans f88_q_53)))
  have f99_q_59 : v_99 q_59 = some _ := (congrFun hv_99 _).trans ((wup_n (Ne.symm (w_ne f58_m9 hq_59))).trans ((wup_n (w_ne f88_q_59 hq_89)).trans ((wup_n (w_ne f88_q_59 hq_89)).trans f88_q_59)))
  have f99_q_70 : v_99 q_70 = some _ := (congrFun hv_99 _).trans ((wup_n (Ne.symm (w_ne f69_m9 hq_70))).trans ((wup_n (w_ne f88_q_70 hq_89)).trans ((wup_n (w_ne f88_q_70 hq_89)).trans f88_q_70)))
  have f99_q_83 : v_99 q_83 = some _ := (congrFun hv_99 _).trans ((wup_n (Ne.symm (w_ne f80_m9 hq_83))).trans ((wup_n (w_ne f88_q_83 hq_89)).trans ((wup_n (w_ne f88_q_83 hq_89)).trans f88_q_83)))
  have f99_q_89 : v_99 q_89 = some _ := (congrFun hv_99 _).trans ((wup_n (Ne.symm (w_ne f88_m9 hq_89))).trans (wup_s _ _ _))
  refine s_aload_n hC dX11_init_99 rfl rfl 0 rfl ?_
  refine s_ldcS hC 31 rfl dX11_init_100 rfl ?_
  refine s_putf hC cs_X11 20 tw_1269 (le_b rfl) rfl rfl rfl f99_m9 (le_b rfl) dX11_init_102 rfl ?_
  refine s_aload_n hC dX11_init_105 rfl rfl 0 rfl ?_
  refine s_iconst hC (v := 3) dX11_init_106 rfl (by decide) ?_
  refine s_newa hC 0 (at0 := .int) (ty := .int) (N' := 3) (a0 := (3, .inl (fun _ => 0))) rfl rfl tw_83 (fun _ => rfl) (by decide) (by decide) (by decide) (le_b rfl) (le_b rfl) dX11_init_107 rfl (fun q_107 hq_107 => ?_)
  refine s_putF hC hin cs_X11 21 tw_1270 (le_b rfl) rfl rfl rfl rfl ((wup_n (w_ne (wup_s _ _ _) hq_107)).trans (wup_s _ _ _)) (le_b rfl) dX11_init_109 rfl ?_
  refine WP.seal (fun w9 hw9 => ?_)
  have f_m9 : w9 m9 = some _ := (congrFun hw9 _).trans (wup_s _ _ _)
  have f_q_8 : w9 q_8 = some _ := (congrFun hw9 _).trans ((wup_n (Ne.symm (w_ne hm hq_8))).trans ((wup_n (w_ne ((wup_n (Ne.symm (w_ne hm hq_8))).trans f99_q_8) hq_107)).trans ((wup_n (Ne.symm (w_ne hm hq_8))).trans f99_q_8)))
  have f_q_17 : w9 q_17 = some _ := (congrFun hw9 _).trans ((wup_n (Ne.symm (w_ne (wup_s _ _ _) hq_17))).trans ((wup_n (w_ne ((wup_n (Ne.symm (w_ne (wup_s _ _ _) hq_17))).trans f99_q_17) hq_107)).trans ((wup_n (Ne.symm (w_ne (wup_s _ _ _) hq_17))).trans f99_q_17)))
  have f_q_26 : w9 q_26 = some _ := (congrFun hw9 _).trans ((wup_n (Ne.symm (w_ne f22_m9 hq_26))).trans ((wup_n (w_ne ((wup_n (Ne.symm (w_ne f22_m9 hq_26))).trans f99_q_26) hq_107)).trans ((wup_n (Ne.symm (w_ne f22_m9 hq_26))).trans f99_q_26)))
  have f_q_35 : w9 q_35 = some _ := (congrFun hw9 _).trans ((wup_n (Ne.symm (w_ne (wup_s _ _ _) hq_35))).trans ((wup_n (w_ne ((wup_n (Ne.symm (w_ne (wup_s _ _ _) hq_35))).trans f99_q_35) hq_107)).trans ((wup_n (Ne.symm (w_ne (wup_s _ _ _) hq_35))).trans f99_q_35)))
  have f_q_44 : w9 q_44 = some _ := (congrFun hw9 _).trans ((wup_n (Ne.symm (w_ne f40_m9 hq_44))).trans ((wup_n (w_ne ((wup_n (Ne.symm (w_ne f40_m9 hq_44))).trans f99_q_44) hq_107)).trans ((wup_n (Ne.symm (w_ne f40_m9 hq_44))).trans f99_q_44)))
  have f_q_53 : w9 q_53 = some _ := (congrFun hw9 _).trans ((wup_n (Ne.symm (w_ne (wup_s _ _ _) hq_53))).trans ((wup_n (w_ne ((wup_n (Ne.symm (w_ne (wup_s _ _ _) hq_53))).trans f99_q_53) hq_107)).trans ((wup_n (Ne.symm (w_ne (wup_s _ _ _) hq_53))).trans f99_q_53)))
  have f_q_59 : w9 q_59 = some _ := (congrFun hw9 _).trans ((wup_n (Ne.symm (w_ne f58_m9 hq_59))).trans ((wup_n (w_ne ((wup_n (Ne.symm (w_ne f58_m9 hq_59))).trans f99_q_59) hq_107)).trans ((wup_n (Ne.symm (w_ne f58_m9 hq_59))).trans f99_q_59)))
  have f_q_70 : w9 q_70 = some _ := (congrFun hw9 _).trans ((wup_n (Ne.symm (w_ne f69_m9 hq_70))).trans ((wup_n (w_ne ((wup_n (Ne.symm (w_ne f69_m9 hq_70))).trans f99_q_70) hq_107)).trans ((wup_n (Ne.symm (w_ne f69_m9 hq_70))).trans f99_q_70)))
  have f_q_83 : w9 q_83 = some _ := (congrFun hw9 _).trans ((wup_n (Ne.symm (w_ne f80_m9 hq_83))).trans ((wup_n (w_ne ((wup_n (Ne.symm (w_ne f80_m9 hq_83))).trans f99_q_83) hq_107)).trans ((wup_n (Ne.symm (w_ne f80_m9 hq_83))).trans f99_q_83)))
  have f_q_89 : w9 q_89 = some _ := (congrFun hw9 _).trans ((wup_n (Ne.symm (w_ne f88_m9 hq_89))).trans ((wup_n (w_ne ((wup_n (Ne.symm (w_ne f88_m9 hq_89))).trans f99_q_89) hq_107)).trans ((wup_n (Ne.symm (w_ne f88_m9 hq_89))).trans f99_q_89)))
  have f_q_107 : w9 q_107 = some _ := (congrFun hw9 _).trans ((wup_n (Ne.symm (w_ne (wup_s _ _ _) hq_107))).trans (wup_s _ _ _))
  have z_q_8 : ω q_8 = none := by
    have h9 := hq_8
    repeat (first | exact h9 | replace h9 := no_up h9 | rw [hv_22] at h9 | rw [hv_40] at h9 | rw [hv_58] at h9 | rw [hv_69] at h9 | rw [hv_80] at h9 | rw [hv_88] at h9 | rw [hv_99] at h9)
  have z_q_17 : ω q_17 = none := by
    have h9 := hq_17
    repeat (first | exact h9 | replace h9 := no_up h9 | rw [hv_22] at h9 | rw [hv_40] at h9 | rw [hv_58] at h9 | rw [hv_69] at h9 | rw [hv_80] at h9 | rw [hv_88] at h9 | rw [hv_99] at h9)
  have z_q_26 : ω q_26 = none := by
    have h9 := hq_26
    repeat (first | exact h9 | replace h9 := no_up h9 | rw [hv_22] at h9 | rw [hv_40] at h9 | rw [hv_58] at h9 | rw [hv_69] at h9 | rw [hv_80] at h9 | rw [hv_88] at h9 | rw [hv_99] at h9)
  have z_q_35 : ω q_35 = none := by
    have h9 := hq_35
    repeat (first | exact h9 | replace h9 := no_up h9 | rw [hv_22] at h9 | rw [hv_40] at h9 | rw [hv_58] at h9 | rw [hv_69] at h9 | rw [hv_80] at h9 | rw [hv_88] at h9 | rw [hv_99] at h9)
  have z_q_44 : ω q_44 = none := by
    have h9 := hq_44
    repeat (first | exact h9 | replace h9 := no_up h9 | rw [hv_22] at h9 | rw [hv_40] at h9 | rw [hv_58] at h9 | rw [hv_69] at h9 | rw [hv_80] at h9 | rw [hv_88] at h9 | rw [hv_99] at h9)
  have z_q_53 : ω q_53 = none := by
    have h9 := hq_53
    repeat (first | exact h9 | replace h9 := no_up h9 | rw [hv_22] at h9 | rw [hv_40] at h9 | rw [hv_58] at h9 | rw [hv_69] at h9 | rw [hv_80] at h9 | rw [hv_88] at h9 | rw [hv_99] at h9)
  have z_q_59 : ω q_59 = none := by
    have h9 := hq_59
    repeat (first | exact h9 | replace h9 := no_up h9 | rw [hv_22] at h9 | rw [hv_40] at h9 | rw [hv_58] at h9 | rw [hv_69] at h9 | rw [hv_80] at h9 | rw [hv_88] at h9 | rw [hv_99] at h9)
  have z_q_70 : ω q_70 = none := by
    have h9 := hq_70
    repeat (first | exact h9 | replace h9 := no_up h9 | rw [hv_22] at h9 | rw [hv_40] at h9 | rw [hv_58] at h9 | rw [hv_69] at h9 | rw [hv_80] at h9 | rw [hv_88] at h9 | rw [hv_99] at h9)
  have z_q_83 : ω q_83 = none := by
    have h9 := hq_83
    repeat (first | exact h9 | replace h9 := no_up h9 | rw [hv_22] at h9 | rw [hv_40] at h9 | rw [hv_58] at h9 | rw [hv_69] at h9 | rw [hv_80] at h9 | rw [hv_88] at h9 | rw [hv_99] at h9)
  have z_q_89 : ω q_89 = none := by
    have h9 := hq_89
    repeat (first | exact h9 | replace h9 := no_up h9 | rw [hv_22] at h9 | rw [hv_40] at h9 | rw [hv_58] at h9 | rw [hv_69] at h9 | rw [hv_80] at h9 | rw [hv_88] at h9 | rw [hv_99] at h9)
  have z_q_107 : ω q_107 = none := by
    have h9 := hq_107
    repeat (first | exact h9 | replace h9 := no_up h9 | rw [hv_22] at h9 | rw [hv_40] at h9 | rw [hv_58] at h9 | rw [hv_69] at h9 | rw [hv_80] at h9 | rw [hv_88] at h9 | rw [hv_99] at h9)
  have n_q_8_q_17 : q_8 ≠ q_17 := (w_ne ((wup_n (Ne.symm (w_ne hm hq_8))).trans (wup_s _ _ _)) hq_17)
  have n_q_8_q_26 : q_8 ≠ q_26 := (w_ne f22_q_8 hq_26)
  have n_q_17_q_26 : q_17 ≠ q_26 := (w_ne f22_q_17 hq_26)
  have n_q_8_q_35 : q_8 ≠ q_35 := (w_ne ((wup_n (Ne.symm (w_ne hm hq_8))).trans ((wup_n (w_ne f22_q_8 hq_26)).trans f22_q_8)) hq_35)
  have n_q_17_q_35 : q_17 ≠ q_35 := (w_ne ((wup_n (Ne.symm (w_ne (wup_s _ _ _) hq_17))).trans ((wup_n (w_ne f22_q_17 hq_26)).trans f22_q_17)) hq_35)
  have n_q_26_q_35 : q_26 ≠ q_35 := (w_ne ((wup_n (Ne.symm (w_ne f22_m9 hq_26))).trans (wup_s _ _ _)) hq_35)
  have n_q_8_q_44 : q_8 ≠ q_44 := (w_ne f40_q_8 hq_44)
  have n_q_17_q_44 : q_17 ≠ q_44 := (w_ne f40_q_17 hq_44)
  have n_q_26_q_44 : q_26 ≠ q_44 := (w_ne f40_q_26 hq_44)
  have n_q_35_q_44 : q_35 ≠ q_44 := (w_ne f40_q_35 hq_44)
  have n_q_8_q_53 : q_8 ≠ q_53 := (w_ne ((wup_n (Ne.symm (w_ne hm hq_8))).trans ((wup_n (w_ne f40_q_8 hq_44)).trans f40_q_8)) hq_53)
  have n_q_17_q_53 : q_17 ≠ q_53 := (w_ne ((wup_n (Ne.symm (w_ne (wup_s _ _ _) hq_17))).trans ((wup_n (w_ne f40_q_17 hq_44)).trans f40_q_17)) hq_53)
  have n_q_26_q_53 : q_26 ≠ q_53 := (w_ne ((wup_n (Ne.symm (w_ne f22_m9 hq_26))).trans ((wup_n (w_ne f40_q_26 hq_44)).trans f40_q_26)) hq_53)
  have n_q_35_q_53 : q_35 ≠ q_53 := (w_ne ((wup_n (Ne.symm (w_ne (wup_s _ _ _) hq_35))).trans ((wup_n (w_ne f40_q_35 hq_44)).trans f40_q_35)) hq_53)
  have n_q_44_q_53 : q_44 ≠ q_53 := (w_ne ((wup_n (Ne.symm (w_ne f40_m9 hq_44))).trans (wup_s _ _ _)) hq_53)
  have n_q_8_q_59 : q_8 ≠ q_59 := (w_ne f58_q_8 hq_59)
  have n_q_17_q_59 : q_17 ≠ q_59 := (w_ne f58_q_17 hq_59)
  have n_q_26_q_59 : q_26 ≠ q_59 := (w_ne f58_q_26 hq_59)
  have n_q_35_q_59 : q_35 ≠ q_59 := (w_ne f58_q_35 hq_59)
  have n_q_44_q_59 : q_44 ≠ q_59 := (w_ne f58_q_44 hq_59)
  have n_q_53_q_59 : q_53 ≠ q_59 := (w_ne f58_q_53 hq_59)
  have n_q_8_q_70 : q_8 ≠ q_70 := (w_ne f69_q_8 hq_70)
  have n_q_17_q_70 : q_17 ≠ q_70 := (w_ne f69_q_17 hq_70)
  have n_q_26_q_70 : q_26 ≠ q_70 := (w_ne f69_q_26 hq_70)
  have n_q_35_q_70 : q_35 ≠ q_70 := (w_ne f69_q_35 hq_70)
  have n_q_44_q_70 : q_44 ≠ q_70 := (w_ne f69_q_44 hq_70)
  have n_q_53_q_70 : q_53 ≠ q_70 := (w_ne f69_q_53 hq_70)
  have n_q_59_q_70 : q_59 ≠ q_70 := (w_ne f69_q_59 hq_70)
  have n_q_8_q_83 : q_8 ≠ q_83 := (w_ne f80_q_8 hq_83)
  have n_q_17_q_83 : q_17 ≠ q_83 := (w_ne f80_q_17 hq_83)
  have n_q_26_q_83 : q_26 ≠ q_83 := (w_ne f80_q_26 hq_83)
  have n_q_35_q_83 : q_35 ≠ q_83 := (w_ne f80_q_35 hq_83)
  have n_q_44_q_83 : q_44 ≠ q_83 := (w_ne f80_q_44 hq_83)
  have n_q_53_q_83 : q_53 ≠ q_83 := (w_ne f80_q_53 hq_83)
  have n_q_59_q_83 : q_59 ≠ q_83 := (w_ne f80_q_59 hq_83)
  have n_q_70_q_83 : q_70 ≠ q_83 := (w_ne f80_q_70 hq_83)
  have n_q_8_q_89 : q_8 ≠ q_89 := (w_ne f88_q_8 hq_89)
  have n_q_17_q_89 : q_17 ≠ q_89 := (w_ne f88_q_17 hq_89)
  have n_q_26_q_89 : q_26 ≠ q_89 := (w_ne f88_q_26 hq_89)
  have n_q_35_q_89 : q_35 ≠ q_89 := (w_ne f88_q_35 hq_89)
  have n_q_44_q_89 : q_44 ≠ q_89 := (w_ne f88_q_44 hq_89)
  have n_q_53_q_89 : q_53 ≠ q_89 := (w_ne f88_q_53 hq_89)
  have n_q_59_q_89 : q_59 ≠ q_89 := (w_ne f88_q_59 hq_89)
  have n_q_70_q_89 : q_70 ≠ q_89 := (w_ne f88_q_70 hq_89)
  have n_q_83_q_89 : q_83 ≠ q_89 := (w_ne f88_q_83 hq_89)
  have n_q_8_q_107 : q_8 ≠ q_107 := (w_ne ((wup_n (Ne.symm (w_ne hm hq_8))).trans f99_q_8) hq_107)
  have n_q_17_q_107 : q_17 ≠ q_107 := (w_ne ((wup_n (Ne.symm (w_ne (wup_s _ _ _) hq_17))).trans f99_q_17) hq_107)
  have n_q_26_q_107 : q_26 ≠ q_107 := (w_ne ((wup_n (Ne.symm (w_ne f22_m9 hq_26))).trans f99_q_26) hq_107)
  have n_q_35_q_107 : q_35 ≠ q_107 := (w_ne ((wup_n (Ne.symm (w_ne (wup_s _ _ _) hq_35))).trans f99_q_35) hq_107)
  have n_q_44_q_107 : q_44 ≠ q_107 := (w_ne ((wup_n (Ne.symm (w_ne f40_m9 hq_44))).trans f99_q_44) hq_107)
  have n_q_53_q_107 : q_53 ≠ q_107 := (w_ne ((wup_n (Ne.symm (w_ne (wup_s _ _ _) hq_53))).trans f99_q_53) hq_107)
  have n_q_59_q_107 : q_59 ≠ q_107 := (w_ne ((wup_n (Ne.symm (w_ne f58_m9 hq_59))).trans f99_q_59) hq_107)
  have n_q_70_q_107 : q_70 ≠ q_107 := (w_ne ((wup_n (Ne.symm (w_ne f69_m9 hq_70))).trans f99_q_70) hq_107)
  have n_q_83_q_107 : q_83 ≠ q_107 := (w_ne ((wup_n (Ne.symm (w_ne f80_m9 hq_83))).trans f99_q_83) hq_107)
  have n_q_89_q_107 : q_89 ≠ q_107 := (w_ne ((wup_n (Ne.symm (w_ne f88_m9 hq_89))).trans f99_q_89) hq_107)
  have n_m9_q_8 : m9 ≠ q_8 := w_ne hm z_q_8
  have n_m9_q_17 : m9 ≠ q_17 := w_ne hm z_q_17
  have n_m9_q_26 : m9 ≠ q_26 := w_ne hm z_q_26
  have n_m9_q_35 : m9 ≠ q_35 := w_ne hm z_q_35
  have n_m9_q_44 : m9 ≠ q_44 := w_ne hm z_q_44
  have n_m9_q_53 : m9 ≠ q_53 := w_ne hm z_q_53
  have n_m9_q_59 : m9 ≠ q_59 := w_ne hm z_q_59
  have n_m9_q_70 : m9 ≠ q_70 := w_ne hm z_q_70
  have n_m9_q_83 : m9 ≠ q_83 := w_ne hm z_q_83
  have n_m9_q_89 : m9 ≠ q_89 := w_ne hm z_q_89
  have n_m9_q_107 : m9 ≠ q_107 := w_ne hm z_q_107
  have hfr : ∀ p e, p ≠ m9 → ω p = some e → w9 p = some e := fun p e hp he => by
    rw [hw9]
    repeat (first | exact he | rw [hv_22] | rw [hv_40] | rw [hv_58] | rw [hv_69] | rw [hv_80] | rw [hv_88] | rw [hv_99] | refine (wup_n (by first | exact hp | exact w_ne he z_q_8 | exact w_ne he z_q_17 | exact w_ne he z_q_26 | exact w_ne he z_q_35 | exact w_ne he z_q_44 | exact w_ne he z_q_53 | exact w_ne he z_q_59 | exact w_ne he z_q_70 | exact w_ne he z_q_83 | exact w_ne he z_q_89 | exact w_ne he z_q_107)).trans ?_)
  have hN : [m9, q_8, q_17, q_26, q_35, q_44, q_53, q_59, q_70, q_83, q_89, q_107].Nodup := by simp [n_m9_q_8, n_m9_q_17, n_m9_q_26, n_m9_q_35, n_m9_q_44, n_m9_q_53, n_m9_q_59, n_m9_q_70, n_m9_q_83, n_m9_q_89, n_m9_q_107, n_q_8_q_17, n_q_8_q_26, n_q_17_q_26, n_q_8_q_35, n_q_17_q_35, n_q_26_q_35, n_q_8_q_44, n_q_17_q_44, n_q_26_q_44, n_q_35_q_44, n_q_8_q_53, n_q_17_q_53, n_q_26_q_53, n_q_35_q_53, n_q_44_q_53, n_q_8_q_59, n_q_17_q_59, n_q_26_q_59, n_q_35_q_59, n_q_44_q_59, n_q_53_q_59, n_q_8_q_70, n_q_17_q_70, n_q_26_q_70, n_q_35_q_70, n_q_44_q_70, n_q_53_q_70, n_q_59_q_70, n_q_8_q_83, n_q_17_q_83, n_q_26_q_83, n_q_35_q_83, n_q_44_q_83, n_q_53_q_83, n_q_59_q_83, n_q_70_q_83, n_q_8_q_89, n_q_17_q_89, n_q_26_q_89, n_q_35_q_89, n_q_44_q_89, n_q_53_q_89, n_q_59_q_89, n_q_70_q_89, n_q_83_q_89, n_q_8_q_107, n_q_17_q_107, n_q_26_q_107, n_q_35_q_107, n_q_44_q_107, n_q_53_q_107, n_q_59_q_107, n_q_70_q_107, n_q_83_q_107, n_q_89_q_107]
  clear hw9
  refine s_iconst hC (v := 0) dX11_init_112 rfl (by decide) ?_
  refine s_istore_n hC (L' := [(1, _), (0, _)]) dX11_init_113 rfl rfl (le_b rfl) rfl ?_
  refine WP.sub (L' := [(0, _), (1, _)]) [1, 0] rfl ?_
  refine wp_loop (σ := Int32 × Wd × Nat) (I := fun (i, W, j) => j ≤ 200 ∧ i = nI j ∧ W = wup w9 q_26 (.inl (g.2.1 0, 200, .inl (fillN (fun _ => 0) 0 j 20)))) (ωf := fun (i, W, j) => W) (Lf := fun (i, W, j) => [(0, .ref m9), (1, .int i)]) (μ := fun (i, W, j) => 200 - j) (x0 := (_, _, 0)) ?_ ?_
  · exact ⟨Nat.zero_le _, rfl, by rw [fillN_0]; exact (wup_self f_q_26).symm⟩
  · rintro ⟨i, W, j⟩ hI ih
    dsimp only at hI ih ⊢
    obtain ⟨hj, rfl, rfl⟩ := hI
    have hin9 : ¬ nI 200 ≤ nI j → j < 200 := nI_ltc (by decide) hj
    refine s_iload_n hC dX11_init_114 rfl rfl 1 rfl ?_
    refine s_sipush hC (v := 200) dX11_init_115 rfl (by decide) ?_
    refine z_icmp_ge hC (tgt := 135) dX11_init_118 rfl (by decide) (fun c_1 => ?_) (fun c_1 => ?_)
    · refine s_vret hC hr dX11_init_135 (le_b rfl) (le_b rfl) ?_
      obtain rfl : j = 200 := nI_lec (by decide) hj c_1
      refine ⟨adM [m9, q_8, q_17, q_26, q_35, q_44, q_53, q_59, q_70, q_83, q_89, q_107] [0, 8, 10, 7, 1, 2, 3, 4, 5, 6, 9, 11] (adS g 31) (g.2.2.1 19), rfl, ?_, rfl, fun p e hp he => (wup_n (w_ne he z_q_26)).trans (hfr p e hp he)⟩
      exact repM0 hN rfl (by decide +kernel) hg (fun i hi => by
        rcases i with _ | _ | _ | _ | _ | _ | _ | _ | _ | _ | _ | _ | i
        · exact (wup_n n_m9_q_26).trans f_m9
        · exact (wup_n (Ne.symm n_q_26_q_70)).trans f_q_70
        · exact (wup_n (Ne.symm n_q_26_q_89)).trans f_q_89
        · exact (wup_n (Ne.symm n_q_26_q_59)).trans f_q_59
        · exact (wup_n n_q_8_q_26).trans f_q_8
        · exact (wup_n n_q_17_q_26).trans f_q_17
        · exact wup_s _ _ _
        · exact (wup_n (Ne.symm n_q_26_q_35)).trans f_q_35
        · exact (wup_n (Ne.symm n_q_26_q_44)).trans f_q_44
        · exact (wup_n (Ne.symm n_q_26_q_53)).trans f_q_53
        · exact (wup_n (Ne.symm n_q_26_q_83)).trans f_q_83
        · exact (wup_n (Ne.symm n_q_26_q_107)).trans f_q_107
        · omega)
    · refine s_aload_n hC dX11_init_121 rfl rfl 0 rfl ?_
      refine s_getf hC cs_X11 3 tw_1252 (le_b rfl) ((wup_n n_m9_q_26).trans f_m9) rfl dX11_init_122 rfl ?_
      refine s_iload_n hC dX11_init_125 rfl rfl 1 rfl ?_
      refine s_bipush hC (v := 20) dX11_init_126 rfl (by decide) ?_
      refine s_iast hC (wup_s _ _ _) (vp_in_nI (hin9 c_1) (by decide)) dX11_init_128 rfl ?_
      refine s_iinc hC (v := _ + 1) (j9 := 1) (L' := [(1, _), (0, _)]) dX11_init_129 rfl rfl rfl (le_b rfl) rfl ?_
      refine s_goto hC (tgt := 114) dX11_init_132 (by decide) ?_
      refine WP.sub (L' := [(0, _), (1, _)]) [1, 0] rfl ?_
      refine ih (_, (wup _ _ _), j + 1) ?_ ?_
      · dsimp only
        have h9 := hin9 c_1
        refine ⟨by omega, nI_1 j, ?_⟩
        rw [wup_wup, nI_clamp (by omega), ← fillN_up, Nat.zero_add]
      · dsimp only
        have h9 := hin9 c_1; omega
