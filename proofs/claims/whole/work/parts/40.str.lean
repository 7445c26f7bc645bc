/-! texts of one byte a letter: of the tables, or of the world -/
def bvI (g : Gl) (ω : Wd) (a N : Nat) (f : Nat → Int32) : Prop := ω a = some (.inl (g.2.1 2, N, .inl f)) ∨ ∃ (i : Nat) (x : Nat × List Int32), stB[i]? = some x ∧ a = adV g x.1 ∧ N = x.2.length ∧ f = stF x.2
def strV (g : Gl) (ω : Wd) (a v N : Nat) (f : Nat → Int32) : Prop := (∃ h z, ω a = some (.inr (0, [.ref v, .int 0, .int h, .int z])) ∧ ω v = some (.inl (g.2.1 2, N, .inl f))) ∨ ∃ (i : Nat) (x : Nat × List Int32), stB[i]? = some x ∧ a = adS g x.1 ∧ v = adV g x.1 ∧ N = x.2.length ∧ f = stF x.2
theorem strV.b {g : Gl} {ω : Wd} {a v N : Nat} {f : Nat → Int32} (h : strV g ω a v N f) : bvI g ω v N f := by
  rcases h with ⟨h, z, h1, h2⟩ | ⟨i, x, h0, h1, h2, h3, h4⟩
  · exact Or.inl h2
  · exact Or.inr ⟨i, x, h0, h2, h3, h4⟩
theorem strK (g : Gl) (ω : Wd) {i : Nat} {x : Nat × List Int32} (h : stB[i]? = some x) : strV g ω (adS g x.1) (adV g x.1) x.2.length (stF x.2) := Or.inr ⟨i, x, h, rfl, rfl, rfl, rfl⟩
theorem bvI_up {g : Gl} {ω : Wd} {a N q : Nat} {f : Nat → Int32} (h : bvI g ω a N f) (e : va_E) (hq : ω q = none) : bvI g (wup ω q e) a N f := by
  rcases h with h | h
  · exact Or.inl ((wup_n (w_ne h hq)).trans h)
  · exact Or.inr h
theorem strV_up {g : Gl} {ω : Wd} {a v N q : Nat} {f : Nat → Int32} (h : strV g ω a v N f) (e : va_E) (hq : ω q = none) : strV g (wup ω q e) a v N f := by
  rcases h with ⟨h, z, h1, h2⟩ | h
  · exact Or.inl ⟨h, z, (wup_n (w_ne h1 hq)).trans h1, (wup_n (w_ne h2 hq)).trans h2⟩
  · exact Or.inr h
/-- letters below 128 -/
def latF (f : Nat → Int32) (N : Nat) : Prop := ∀ k, k < N → ∃ b, b < 128 ∧ f k = nI b
theorem lat_fit {f : Nat → Int32} {N k : Nat} (h : latF f N) (hk : k < N) : fits .byte (.int (f k)) = true := by
  obtain ⟨b, hb, he⟩ := h k hk
  rw [he]
  have : ∀ b, b < 128 → fits .byte (.int (nI b)) = true := by decide +kernel
  exact this b hb
section STR
variable {p : Program} {l : Launch} {e : Env} {R : Room} {s : State} {m : MethodId} {args : Array Value} {below : List Frame} {meth : Method} {c : Code} {cc : ByteArray} {nL : Nat} {own : String} {g : Gl} {ω0 : Wd} {sz0 : Nat} {Q : State → Prop} {ω : Wd} {k n pc pc' : Nat} {L : List (Nat × Value)} {rest : List Value} {a v N : Nat} {f : Nat → Int32} {i : Int32}
theorem s_getz (hC : Cx p l e R s m args below meth c cc nL own g ω0 sz0) {index : Nat} (hlink : Cond.fieldLink own index "java/lang/String" "COMPACT_STRINGS" "Z" ∈ lw_tbl) (hdg : decode cc pc = .ok (.getstatic index, 3)) (hp : pc + 3 = pc')
    (kk : WP p l e R s m args below meth c g ω0 sz0 Q nL ω k n pc' L (.int 1 :: rest)) : WP p l e R s m args below meth c g ω0 sz0 Q nL ω k n pc L rest := fun H locs ls hw hk hS hl => by
  subst hp
  exact va_gets hC.1 hC.2.1 hC.2.2.2.2.2.1.2.2.2.2.1.1 (hC.S0 hS) hC.2.2.2.1 (hC.w hlink rfl) (fun _ h9 => h9) hdg (kk H locs ls hw hk hS hl)
theorem s_getF (hC : Cx p l e R s m args below meth c cc nL own g ω0 sz0) {index : Nat} (hlink : Cond.fieldLink own index "jdk/internal/util/Preconditions" "SIOOBE_FORMATTER" "Ljava/util/function/BiFunction;" ∈ lw_tbl) (hdg : decode cc pc = .ok (.getstatic index, 3)) (hp : pc + 3 = pc')
    (k0 : WP p l e R s m args below meth c g ω0 sz0 Q nL ω k n pc' L (.null :: rest)) (k1 : ∀ t, WP p l e R s m args below meth c g ω0 sz0 Q nL ω k n pc' L (.ref t :: rest)) : WP p l e R s m args below meth c g ω0 sz0 Q nL ω k n pc L rest := fun H locs ls hw hk hS hl => by
  subst hp
  rcases hC.2.2.2.2.2.1.2.2.2.2.1.2.1.1 with h | ⟨t, h⟩
  · exact va_gets hC.1 hC.2.1 h (hC.S0 hS) hC.2.2.2.1 (hC.w hlink rfl) (fun _ h9 => h9) hdg (k0 H locs ls hw hk hS hl)
  · exact va_gets hC.1 hC.2.1 h (hC.S0 hS) hC.2.2.2.1 (hC.w hlink rfl) (fun _ h9 => h9) hdg (k1 t H locs ls hw hk hS hl)
theorem s_strV (hC : Cx p l e R s m args below meth c cc nL own g ω0 sz0) {index : Nat} (hs : strV g ω a v N f) (hlink : Cond.fieldLink own index "java/lang/String" "value" "[B" ∈ lw_tbl) (hdg : decode cc pc = .ok (.getfield index, 3)) (hp : pc + 3 = pc')
    (kk : WP p l e R s m args below meth c g ω0 sz0 Q nL ω k n pc' L (.ref v :: rest)) : WP p l e R s m args below meth c g ω0 sz0 Q nL ω k n pc L (.ref a :: rest) := by
  rcases hs with ⟨h, z, h1, h2⟩ | ⟨i, x, h0, rfl, rfl, rfl, rfl⟩
  · exact s_getf hC cs_J0 0 hlink (le_b rfl) h1 rfl hdg hp kk
  · subst hp
    exact fun H locs ls hw hk hS hl => vk_getf hC.1 hC.2.1 (hC.2.2.2.2.2.1.2.2.2.2.2.2.1 i _ h0).2.2.1 (hC.S0 hS) hC.2.2.2.1 (hC.w hlink rfl) (fun _ h9 => h9) hdg (kk H locs ls hw hk hS hl)
theorem s_strC (hC : Cx p l e R s m args below meth c cc nL own g ω0 sz0) {index : Nat} (hs : strV g ω a v N f) (hlink : Cond.fieldLink own index "java/lang/String" "coder" "B" ∈ lw_tbl) (hdg : decode cc pc = .ok (.getfield index, 3)) (hp : pc + 3 = pc')
    (kk : WP p l e R s m args below meth c g ω0 sz0 Q nL ω k n pc' L (.int 0 :: rest)) : WP p l e R s m args below meth c g ω0 sz0 Q nL ω k n pc L (.ref a :: rest) := by
  rcases hs with ⟨h, z, h1, h2⟩ | ⟨i, x, h0, rfl, rfl, rfl, rfl⟩
  · exact s_getf hC cs_J0 1 hlink (le_b rfl) h1 rfl hdg hp kk
  · subst hp
    exact fun H locs ls hw hk hS hl => vk_getf hC.1 hC.2.1 (hC.2.2.2.2.2.1.2.2.2.2.2.2.1 i _ h0).2.1 (hC.S0 hS) hC.2.2.2.1 (hC.w hlink rfl) (fun _ h9 => h9) hdg (kk H locs ls hw hk hS hl)
theorem s_alenV (hC : Cx p l e R s m args below meth c cc nL own g ω0 sz0) (hb : bvI g ω a N f) (hdg : decode cc pc = .ok (.arraylength, 1)) (hp : pc + 1 = pc')
    (kk : WP p l e R s m args below meth c g ω0 sz0 Q nL ω k n pc' L (.int (nI N) :: rest)) : WP p l e R s m args below meth c g ω0 sz0 Q nL ω k n pc L (.ref a :: rest) := fun H locs ls hw hk hS hl => by
  subst hp
  rcases hb with h | ⟨i, x, h0, rfl, rfl, rfl⟩
  · exact va_alen hC.1 hC.2.1 hC.2.2.2.2.2.1.1 (wh_one hw h) 0 2 rfl (ty := .byte) rfl rfl hdg (kk H locs ls hw hk hS hl)
  · exact va_tlen hC.1 hC.2.1 (hC.2.2.2.2.2.1.2.2.2.2.2.2.1 i _ h0).2.2.2 (hC.S0 hS) rfl hdg (kk H locs ls hw hk hS hl)
theorem s_baldB (hC : Cx p l e R s m args below meth c cc nL own g ω0 sz0) (hb : bvI g ω a N f) (hin : vp_in i N) (hdg : decode cc pc = .ok (.baload, 1)) (hp : pc + 1 = pc')
    (kk : WP p l e R s m args below meth c g ω0 sz0 Q nL ω k n pc' L (.int (f i.toNatClampNeg) :: rest)) : WP p l e R s m args below meth c g ω0 sz0 Q nL ω k n pc L (.int i :: .ref a :: rest) := by
  rcases hb with h | ⟨i0, x, h0, rfl, rfl, rfl⟩
  · exact s_bald hC h hin hdg hp kk
  · subst hp
    exact fun H locs ls hw hk hS hl => va_tb hC.1 hC.2.1 (hC.2.2.2.2.2.1.2.2.2.2.2.2.1 i0 _ h0).2.2.2 (hC.S0 hS) hin rfl hdg (kk H locs ls hw hk hS hl)
theorem str_recv (hC : Cx p l e R s m args below meth c cc nL own g ω0 sz0) {H : Heap} {locs : List Loc} (hw : wh g (frA ω0 sz0) ω H) (hS : va_S (frA ω0 sz0) s.heap H locs) (hs : strV g ω a v N f) : ∃ cell : Cell, H[a]? = some cell ∧ cell.vm.isStatics = false ∧ s.vm.findClass "java/lang/String" = some cell.cls := by
  rcases hs with ⟨h, z, h1, h2⟩ | ⟨i, x, h0, rfl, rfl, rfl, rfl⟩
  · exact va_recv hC.2.2.2.2.2.1.1 (wh_one hw h1) cs_J0.1 (q0 := 0) rfl
  · exact va_Orecv (hC.2.2.2.2.2.1.2.2.2.2.2.2.1 i _ h0).1 (hC.S0 hS)
theorem s_callVs {y : MethodName} {bytes : ByteArray} {maxL index nA fr1 lo1 mc1 ms1 : Nat} {ret : Option FieldType} {As : List Value} {post1 : Option Value → Wd → Prop} {xp1 : String → Wd → Prop} (hC : Cx p l e R s m args below meth c cc nL own g ω0 sz0) (ct : CT l g y bytes maxL ret fr1 lo1 mc1 ms1 (.ref a :: As) ω post1 xp1) (ce : CeV y bytes maxL ret nA) (hy : y.cls = "java/lang/String") (hs : strV g ω a v N f) (hlink : Cond.methodLink own index y ∈ lw_tbl) {st : List Value} (hst : st = As.reverse ++ .ref a :: rest) (hnA : As.length = nA) (hR : (fr1 + 1 ≤ R.frames ∧ 8 + (maxL + 11) + lo1 ≤ R.locals) ∧ k + mc1 ≤ R.cells ∧ n + ms1 ≤ R.slots) (hrest : (rest.map fun v => v.category).sum ≤ 8) (hdg : decode cc pc = .ok (.invokevirtual index, 3)) (hp : pc + 3 = pc')
    (kk : ∀ r ω', post1 r ω' → WP p l e R s m args below meth c g ω0 sz0 Q nL ω' (k + mc1) (n + ms1) pc' L (r.toList ++ rest))
    (kx : ∀ E ω', xp1 E ω' → WX p l e R s m args below meth c g ω0 sz0 Q nL ω' (k + mc1) (n + ms1) pc L rest E) : WP p l e R s m args below meth c g ω0 sz0 Q nL ω k n pc L st := fun H locs ls hw hk hS hl =>
  wp_go hC hw hk hS hl (vx_runV (C := y.cls) (As := As) (rest := rest) ⟨hC.1, hC.2.1, hC.2.2.1, hC.2.2.2.1, hC.2.2.2.2.1⟩ (ct H.size) ⟨callB0 hC ce.1 ce.2.2.1 ce.2.2.2 hlink hR.1, hC.w ce.2.1.1 rfl, hC.w ce.2.1.2 rfl⟩ ⟨Pcs_blind _ _, by rw [hy]; exact str_recv hC hw hS hs, Pcs_pre hC hw hS _⟩ rfl hnA hl.1 hst (lv_room hrest) hdg hR.2) hp kk kx
/-- the cell of a row of bytes -/
theorem bv_cell (hC : Cx p l e R s m args below meth c cc nL own g ω0 sz0) {H : Heap} {locs : List Loc} (hw : wh g (frA ω0 sz0) ω H) (hS : va_S (frA ω0 sz0) s.heap H locs) (hb : bvI g ω a N f) : ∃ z : Cell, H[a]? = some z ∧ s.isArrayOf z .byte ∧ z.vm ≠ .unknown ∧ N ≤ z.slots.size ∧ ∀ j, j < N → z.slots[j]? = some (.int (f j)) := by
  rcases hb with h | ⟨i, x, h0, rfl, rfl, rfl⟩
  · refine ⟨_, (wh_at hw h).1, (hC.2.2.2.2.2.1.1.2 2 (g.2.1 2, .byte) rfl).1 N (fun j => .int (f j)), (fun h9 => by cases h9), ?_, fun j hj => arrV_read _ _ hj⟩
    exact Nat.le_of_eq (arrV_size _ _ _).symm
  · obtain ⟨z, h1, h2, h3, h4, -, h5, -⟩ := (hC.2.2.2.2.2.1.2.2.2.2.2.2.1 i _ h0).2.2.2.kept (hC.S0 hS).2.1
    exact ⟨z, h1, h2, h3, h4, h5⟩
theorem s_copyB (hC : Cx p l e R s m args below meth c cc nL own g ω0 sz0) {index b n1 : Nat} {h : Nat → Int32} {sp dp z : Int32} (hb : bvI g ω a N f) (hd : ω b = some (.inl (g.2.1 2, n1, .inl h))) (h1 : ¬ sp < 0) (h2 : ¬ dp < 0) (h3 : ¬ z < 0) (h4 : sp.toNatClampNeg + z.toNatClampNeg ≤ N) (h5 : dp.toNatClampNeg + z.toNatClampNeg ≤ n1) (hfit : ∀ i : Nat, i < z.toNatClampNeg → fits .byte (.int (f (sp.toNatClampNeg + i))) = true)
    (hlink : Cond.methodLink own index arraycopyName ∈ lw_tbl) (hR : 1 ≤ R.frames ∧ (rest.map fun v => v.category).sum + (nativeFrameWords "java/lang/System" "arraycopy" 5 + 11) ≤ R.locals) (hdg : decode cc pc = .ok (.invokestatic index, 3)) (hp : pc + 3 = pc')
    (kk : WP p l e R s m args below meth c g ω0 sz0 Q nL (wup ω b (.inl (g.2.1 2, n1, .inl (va_cpy f h sp.toNatClampNeg dp.toNatClampNeg z.toNatClampNeg)))) k n pc' L rest) : WP p l e R s m args below meth c g ω0 sz0 Q nL ω k n pc L (.int z :: .int dp :: .ref b :: .int sp :: .ref a :: rest) := fun H locs ls hw hk hS hl => by
  subst hp
  obtain ⟨x, e1, e2, e3, e4, e5⟩ := bv_cell hC hw hS hb
  obtain ⟨ws, hP, hD, g1, g2, -⟩ := wh_all hw
  obtain ⟨q1, hq1⟩ := g1 b _ hd
  have hc1 : H[b]? = some (vp_cell (g.2.1 2) (n1, .inl h)) := hP q1 _ hq1
  have nn : ∀ w : Int32, ¬ w < 0 → w.toInt = (w.toNatClampNeg : Int) := fun w hw9 => by
    have h9 := Int32.le_iff_toInt_le.mp (Int32.not_lt.mp hw9)
    have hz : (0 : Int32).toInt = 0 := rfl
    show w.toInt = ((w.toInt.toNat : Nat) : Int)
    omega
  obtain ⟨f1, k0, f2, c2, f3⟩ := e2
  obtain ⟨-, k1, f4, c4, f5⟩ := (hC.2.2.2.2.2.1.1.2 2 (g.2.1 2, .byte) rfl).1 n1 (fun j => .int (h j))
  intro T hT X
  obtain ⟨vm', X', step⟩ := X.arraycopy hC.1 hC.2.2.2.1 (hC.w hlink rfl) (hC.w (w := .native arraycopyName) tw_683 rfl) (hC.w (w := .static arraycopyName) tw_682 rfl) (hC.w (w := .initialized "java/lang/System") tw_27 rfl) (src := a) (dst := b) (cs := x) (cd := vp_cell (g.2.1 2) (n1, .inl h)) (srcPos := sp) (destPos := dp) (n := z) (by rw [hT]; exact e1) (by rw [hT]; exact hc1)
    f1 (fun _ h9 => by cases h9) e3 (fun h9 => by cases h9) f2 f4 f3 f5 (by simp [refKind]) h1 h2 h3
    (by rw [nn sp h1, nn z h3]; omega)
    (by rw [nn dp h2, nn z h3]; show ¬ _ > ((arrV (g.2.1 2) n1 (fun j => .int (h j))).slots.size : Int); rw [arrV_size]; omega)
    (fun _ _ i hi => by
      have e9 : x.slots.getD (sp.toNatClampNeg + i) .null = .int (f (sp.toNatClampNeg + i)) := by
        rw [Array.getD_eq_getD_getElem?, e5 _ (by omega)]
        rfl
      rw [e9]
      exact ⟨hfit i hi, trivial⟩)
    (g := F0 m pc ls (.int z :: .int dp :: .ref b :: .int sp :: .ref a :: rest)) rfl (by rw [hC.2.2.1]; exact hl.1) (rest := rest) rfl (by rw [hC.2.1]; exact hdg) hR.1 (by show 2 * 0 + _ + _ ≤ _; omega)
  rw [show copied x (vp_cell (g.2.1 2) (n1, .inl h)) sp dp z = vp_cell (g.2.1 2) (n1, .inl (va_cpy f h sp.toNatClampNeg dp.toNatClampNeg z.toNatClampNeg)) from va_copiedX (fun w => .int w) x (g.2.1 2) f h e5 h4] at X' step
  generalize hE : vp_cell (g.2.1 2) (n1, .inl (va_cpy f h sp.toNatClampNeg dp.toNatClampNeg z.toNatClampNeg)) = E at X' step
  have hl1 : b < H.size := (Array.getElem?_eq_some_iff.mp hc1).1
  have oq : ∀ q : Nat, q ≠ b → (H.setIfInBounds b E)[q]? = H[q]? := fun q hq => by simp [Array.getElem?_setIfInBounds, Ne.symm hq]
  obtain ⟨t, a1, b1⟩ := kk (H.setIfInBounds b E) _ ls (g2 q1 b _ (.inl (g.2.1 2, n1, .inl (va_cpy f h sp.toNatClampNeg dp.toNatClampNeg z.toNatClampNeg))) _ hq1 (hP.set hD hq1 (show (H.setIfInBounds b E)[b]? = some (vp_cell (g.2.1 2) (n1, .inl (va_cpy f h sp.toNatClampNeg dp.toNatClampNeg z.toNatClampNeg))) by rw [hE]; simp [Array.getElem?_setIfInBounds, hl1]) oq) (hD.set hq1)) (kp_up hk _ _) ⟨by simp; exact hS.1, fun q j1 j2 => by
      rw [oq q (fun e9 => j2 (by rw [e9]; exact hD.2 q1 _ hq1))]
      exact hS.2.1 q j1 j2, fun q hq => by
      rcases List.mem_append.mp hq with h9 | h9
      · exact hS.2.2 q h9
      · obtain ⟨w, -, hz⟩ := List.mem_map.mp h9
        rw [← hz]
        exact hD.2 q1 _ hq1⟩ hl ((T.setVm vm').setCell b E) (by rw [← hT]; rfl) X'
  exact ⟨t, step t a1, b1⟩
end STR
