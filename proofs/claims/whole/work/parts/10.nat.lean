/-- what may lie in a row of objects -/
def elt (g : Gl) (ω : Wd) (v : Nat) : Prop := (∃ (ci : Nat) (fs : List Value) (C : String) (T : u_T) (N : Nat), ω v = some (.inr (ci, fs)) ∧ vwCl[ci]? = some (C, T, N) ∧ Cond.castable C "java/lang/Object" ∈ lw_tbl) ∨ ∃ x : vp_A, ω v = some (.inl (g.2.1 0, x))
theorem elt_any {g : Gl} {A : Nat → Prop} {ω : Wd} {H : Heap} {s : State} (hw : wh g A ω H) (hG : Gd g s s.heap) {v : Nat} (h : elt g ω v) : va_Any "java/lang/Object" s H v := by
  rcases h with ⟨ci, fs, C, T, N, he, hc, hcast⟩ | ⟨x, he⟩
  · obtain ⟨cell, h1, h2, h3⟩ := va_recv hG.1 (wh_one hw he) hc (q0 := 0) rfl
    obtain ⟨kC, hkC, -⟩ := Vm.findClass_spec h3
    obtain ⟨c3, c4, hc3, hc4, hasg⟩ := Cond.castable_spec (NW.use (A := #[]) hG.2.1 hcast rfl)
    cases Option.some.inj (hc3.symm.trans h3)
    exact ⟨cell, h1, h2, ⟨kC, hkC⟩, fun comp hcomp => by cases Option.some.inj (hc4.symm.trans hcomp); exact hasg⟩
  · have h1 : H[v]? = some (vp_cell (g.2.1 0) x) := (wh_at hw he).1
    have hvm0 : (vp_cell (g.2.1 0) x).vm = .none := by
      obtain ⟨n, f | f | f | f | f⟩ := x <;> rfl
    have hcl0 : (vp_cell (g.2.1 0) x).cls = g.2.1 0 := by
      obtain ⟨n, f | f | f | f | f⟩ := x <;> rfl
    have hnm : s.vm.findClass "[I" = some (g.2.1 0) := (hG.1.2 0 (g.2.1 0, .int) rfl).2
    obtain ⟨kC, hkC, -⟩ := Vm.findClass_spec hnm
    obtain ⟨c3, c4, hc3, hc4, hasg⟩ := Cond.castable_spec (NW.use (A := #[]) hG.2.1 tw_2123 rfl)
    cases Option.some.inj (hc3.symm.trans hnm)
    exact ⟨_, h1, by rw [hvm0]; rfl, ⟨kC, by rw [hcl0]; exact hkC⟩, fun comp hcomp => by cases Option.some.inj (hc4.symm.trans hcomp); rw [hcl0]; exact hasg⟩
section NAT
variable {p : Program} {l : Launch} {e : Env} {R : Room} {s : State} {m : MethodId} {args : Array Value} {below : List Frame} {meth : Method} {c : Code} {cc : ByteArray} {nL : Nat} {own : String} {g : Gl} {ω0 : Wd} {sz0 : Nat} {Q : State → Prop} {ω : Wd} {k n pc pc' : Nat} {L : List (Nat × Value)} {rest : List Value} {a N : Nat} {i : Int32}
theorem s_aast (hC : Cx p l e R s m args below meth c cc nL own g ω0 sz0) {fq : Nat → Option Nat} {v : Nat} (ha : ω a = some (.inl (g.2.1 3, N, .inr (.inr (.inr (.inr fq)))))) (hv : elt g ω v) (hin : vp_in i N) (hdg : decode cc pc = .ok (.aastore, 1)) (hp : pc + 1 = pc')
    (kk : WP p l e R s m args below meth c g ω0 sz0 Q nL (wup ω a (.inl (g.2.1 3, N, .inr (.inr (.inr (.inr (va_up fq i.toNatClampNeg (some v)))))))) k n pc' L rest) : WP p l e R s m args below meth c g ω0 sz0 Q nL ω k n pc L (.ref v :: .int i :: .ref a :: rest) := fun H locs ls hw hk hS hl => by
  subst hp
  obtain ⟨ws, hP, hD, h1, h2, -⟩ := wh_all hw
  obtain ⟨q0, hq0⟩ := h1 a _ ha
  exact va_astqM hC.1 hC.2.1 hC.2.2.2.2.2.1.1 hP hD hS q0 3 hq0 rfl (elt_any hw hC.2.2.2.2.2.1 hv) hin hdg (fun H1 locs1 hP1 hD1 hS1 => kk H1 locs1 ls (h2 q0 a _ _ H1 hq0 hP1 hD1) (kp_up hk _ _) hS1 hl)
theorem s_copyA (hC : Cx p l e R s m args below meth c cc nL own g ω0 sz0) {index a0 n0 n1 : Nat} {f h : Nat → Option Nat} {sp dp z : Int32} (ha0 : ω a0 = some (.inl (g.2.1 3, n0, .inr (.inr (.inr (.inr f)))))) (ha1 : ω a = some (.inl (g.2.1 3, n1, .inr (.inr (.inr (.inr h)))))) (h1 : ¬ sp < 0) (h2 : ¬ dp < 0) (h3 : ¬ z < 0) (h4 : sp.toNatClampNeg + z.toNatClampNeg ≤ n0) (h5 : dp.toNatClampNeg + z.toNatClampNeg ≤ n1) (hel : ∀ i : Nat, i < z.toNatClampNeg → ∀ y : Nat, f (sp.toNatClampNeg + i) = some y → elt g ω y)
    (hlink : Cond.methodLink own index arraycopyName ∈ lw_tbl) (hR : 1 ≤ R.frames ∧ (rest.map fun v => v.category).sum + (nativeFrameWords "java/lang/System" "arraycopy" 5 + 11) ≤ R.locals) (hdg : decode cc pc = .ok (.invokestatic index, 3)) (hp : pc + 3 = pc')
    (kk : WP p l e R s m args below meth c g ω0 sz0 Q nL (wup ω a (.inl (g.2.1 3, n1, .inr (.inr (.inr (.inr (va_cpy f h sp.toNatClampNeg dp.toNatClampNeg z.toNatClampNeg))))))) k n pc' L rest) : WP p l e R s m args below meth c g ω0 sz0 Q nL ω k n pc L (.int z :: .int dp :: .ref a :: .int sp :: .ref a0 :: rest) := fun H locs ls hw hk hS hl => by
  subst hp
  obtain ⟨ws, hP, hD, g1, g2, -⟩ := wh_all hw
  obtain ⟨q0, hq0⟩ := g1 a0 _ ha0
  obtain ⟨q1, hq1⟩ := g1 a _ ha1
  exact va_copyM hC.1 hC.2.1 (by rw [hC.2.2.1]; exact hl.1.symm) hC.2.2.2.1 (hC.w hlink rfl) (hC.w (w := .native arraycopyName) tw_683 rfl) (hC.w (w := .static arraycopyName) tw_682 rfl) (hC.w (w := .initialized "java/lang/System") tw_27 rfl) hC.2.2.2.2.2.1.1 hP hD hS q0 q1 3 3 hq0 hq1 rfl rfl h1 h2 h3 h4 h5 (fun i hi y hy => elt_any hw hC.2.2.2.2.2.1 (hel i hi y hy)) hR.1 hR.2 hdg (fun H1 locs1 hP1 hD1 hS1 => kk H1 locs1 ls (g2 q1 a _ _ H1 hq1 hP1 hD1) (kp_up hk _ _) hS1 hl)
theorem s_newq (hC : Cx p l e R s m args below meth c cc nL own g ω0 sz0) {index : Nat} (hcl : Cond.classLink own index "java/lang/Object" ∈ lw_tbl) (hn9 : ¬ i < 0) (hN : i.toNatClampNeg = N) (hb : N * 4 ≤ 536870912) (hcells : k + 1 ≤ R.cells) (hslots : n + N ≤ R.slots) (hdg : decode cc pc = .ok (.anewarray index, 3)) (hp : pc + 3 = pc')
    (kk : ∀ q, ω q = none → WP p l e R s m args below meth c g ω0 sz0 Q nL (wup ω q (.inl (g.2.1 3, N, .inr (.inr (.inr (.inr (fun _ => none))))))) (k + 1) (n + N) pc' L (.ref q :: rest)) : WP p l e R s m args below meth c g ω0 sz0 Q nL ω k n pc L (.int i :: rest) := fun H locs ls hw hk hS hl => by
  subst hp
  obtain ⟨ws, hP, hD, -, -, h3⟩ := wh_all hw
  have hAO : va_AO "java/lang/Object" s := hC.2.2.2.2.2.1.2.2.2.2.2.2.2.2.2.2
  refine va_newq hC.1 hC.2.1 hC.2.2.2.1 (hC.w hcl rfl) hAO hC.2.2.2.2.2.1.1 hP hD hS hC.A hn9 hN hb hcells hslots hdg (fun q cB H1 hK1 hP1 hD1 hS1 => ?_)
  obtain rfl := cy_eq (j := 3) hC.2.2.2.2.2.1.1 rfl hK1
  exact kk q (h3 q _ H1 hP1 hD1).1 H1 locs ls (h3 q _ H1 hP1 hD1).2 (kp_up hk _ _) hS1 hl
/-- the row that fresh lists share -/
theorem s_getsE (hC : Cx p l e R s m args below meth c cc nL own g ω0 sz0) {index : Nat} (hlink : Cond.fieldLink own index "java/util/ArrayList" "DEFAULTCAPACITY_EMPTY_ELEMENTDATA" "[Ljava/lang/Object;" ∈ lw_tbl) (hdg : decode cc pc = .ok (.getstatic index, 3)) (hp : pc + 3 = pc')
    (kk : WP p l e R s m args below meth c g ω0 sz0 Q nL ω k n pc' L (.ref (g.2.2.1 19) :: rest)) : WP p l e R s m args below meth c g ω0 sz0 Q nL ω k n pc L rest := fun H locs ls hw hk hS hl => by
  subst hp
  exact va_gets hC.1 hC.2.1 hC.2.2.2.2.2.1.2.2.2.1.1 (hC.S0 hS) hC.2.2.2.1 (hC.w hlink rfl) (fun _ h9 => h9) hdg (kk H locs ls hw hk hS hl)
/-- the class object of Object[] -/
theorem s_ldcM (hC : Cx p l e R s m args below meth c cc nL own g ω0 sz0) {index : Nat} (hlink : Cond.classLink own index "[Ljava/lang/Object;" ∈ lw_tbl) (hdg : decode cc pc = .ok (.ldc index, 2)) (hp : pc + 2 = pc')
    (kk : WP p l e R s m args below meth c g ω0 sz0 Q nL ω k n pc' L (.ref (g.2.2.1 21) :: rest)) : WP p l e R s m args below meth c g ω0 sz0 Q nL ω k n pc L rest := fun H locs ls hw hk hS hl => by
  subst hp
  exact va_ldcM hC.1 hC.2.1 hC.2.2.2.1 (hC.w hlink rfl) hC.2.2.2.2.2.1.2.2.2.2.2.2.2.2.1 hdg (kk H locs ls hw hk hS hl)
theorem s_getC (hC : Cx p l e R s m args below meth c cc nL own g ω0 sz0) {index : Nat} {fq : Nat → Option Nat} (ha : ω a = some (.inl (g.2.1 3, N, .inr (.inr (.inr (.inr fq)))))) (hlink : Cond.methodLink own index ⟨"java/lang/Object", "getClass", "()Ljava/lang/Class;"⟩ ∈ lw_tbl) (hR : 1 ≤ R.frames ∧ (rest.map fun v => v.category).sum + 14 ≤ R.locals) (hdg : decode cc pc = .ok (.invokevirtual index, 3)) (hp : pc + 3 = pc')
    (kk : WP p l e R s m args below meth c g ω0 sz0 Q nL ω k n pc' L (.ref (g.2.2.1 21) :: rest)) : WP p l e R s m args below meth c g ω0 sz0 Q nL ω k n pc L (.ref a :: rest) := fun H locs ls hw hk hS hl => by
  subst hp
  have hnm : s.vm.findClass "[Ljava/lang/Object;" = some (g.2.1 3) := va_nmO (hC.2.2.2.2.2.1.1.2 3 (g.2.1 3, .object "java/lang/Object") rfl).2 rfl
  exact va_getC hC.1 hC.2.1 (by rw [hC.2.2.1]; exact hl.1.symm) hC.2.2.2.1 (hC.w hlink rfl) (hC.n (w := .declares ⟨"java/lang/Object", "getClass", "()Ljava/lang/Class;"⟩) tw_2122 rfl) (hC.w (w := .selects "[Ljava/lang/Object;" ⟨"java/lang/Object", "getClass", "()Ljava/lang/Class;"⟩ ⟨"java/lang/Object", "getClass", "()Ljava/lang/Class;"⟩) tw_2121 rfl) (hC.w (w := .instanceMethod ⟨"java/lang/Object", "getClass", "()Ljava/lang/Class;"⟩) tw_647 rfl) (hC.w (w := .native ⟨"java/lang/Object", "getClass", "()Ljava/lang/Class;"⟩) tw_671 rfl) hC.2.2.2.2.2.1.2.2.2.2.2.2.2.2.1 ⟨_, (wh_at hw ha).1, rfl, hnm⟩ hR.1 hR.2 hdg (kk H locs ls hw hk hS hl)
theorem z_acmpR_eq (hC : Cx p l e R s m args below meth c cc nL own g ω0 sz0) {x y : Nat} {off : Int} {tgt : Nat} (hdg : decode cc pc = .ok (.if_acmp .eq off, 3)) (hp : pc + 3 = pc') (ht : (pc : Int) + off = (tgt : Int)) (kt : x = y → WP p l e R s m args below meth c g ω0 sz0 Q nL ω k n tgt L rest) (kf : ¬ x = y → WP p l e R s m args below meth c g ω0 sz0 Q nL ω k n pc' L rest) : WP p l e R s m args below meth c g ω0 sz0 Q nL ω k n pc L (.ref y :: .ref x :: rest) :=
  z_acmp_eq (rx := some x) (ry := some y) hC hdg hp ht (fun h => kt (Option.some.inj h)) (fun h => kf (fun h2 => h (by rw [h2])))
theorem z_acmpR_ne (hC : Cx p l e R s m args below meth c cc nL own g ω0 sz0) {x y : Nat} {off : Int} {tgt : Nat} (hdg : decode cc pc = .ok (.if_acmp .ne off, 3)) (hp : pc + 3 = pc') (ht : (pc : Int) + off = (tgt : Int)) (kt : ¬ x = y → WP p l e R s m args below meth c g ω0 sz0 Q nL ω k n tgt L rest) (kf : x = y → WP p l e R s m args below meth c g ω0 sz0 Q nL ω k n pc' L rest) : WP p l e R s m args below meth c g ω0 sz0 Q nL ω k n pc L (.ref y :: .ref x :: rest) :=
  z_acmp_ne (rx := some x) (ry := some y) hC hdg hp ht (fun h => kt (fun h2 => h (by rw [h2]))) (fun h => kf (Option.some.inj h))
theorem wh_lt {A : Nat → Prop} {H : Heap} (h : wh g A ω H) {e9 : va_E} (ha : ω a = some e9) : a < H.size := (wh_at h ha).2.2
/-- what isn't in the world isn't new either: a static row's address is no cell of the world -/
theorem w_static (hC : Cx p l e R s m args below meth c cc nL own g ω0 sz0) (j : Nat) (hT : ∃ (ty : FieldType) (N9 : Nat) (f9 : Nat → Value), va_T ty j N9 f9 (A0 g) s s.heap) {e9 : va_E} (ha : ω a = some e9) {A : Nat → Prop} {H : Heap} {locs : List Loc} (hw : wh g (frA ω0 sz0) ω H) : a ≠ j := by
  obtain ⟨ty, N9, f9, cell, h1, h2, h3, h4, h5, h6, h7⟩ := hT
  intro z
  exact h7 (by rw [← z]; exact hC.up (wh_at hw ha).2.1)
end NAT
