/-! worlds as maps from addresses to cells; what every method is told; contracts -/
abbrev Gl : Type := va_G × (Nat → ClassId) × (Nat → Nat) × Nat
abbrev Wd : Type := Nat → Option va_E
def wup (ω : Wd) (a : Nat) (e : va_E) : Wd := fun q => if q = a then some e else ω q
theorem wup_s (ω : Wd) (a : Nat) (e : va_E) : wup ω a e a = some e := if_pos rfl
theorem wup_n {ω : Wd} {a : Nat} {e : va_E} {b : Nat} (h : b ≠ a) : wup ω a e b = ω b := if_neg h
def w_e0 : va_E := .inr (0, [])
def w_f (ω : Wd) : Nat → va_E := fun a => (ω a).getD w_e0
def okL (Ls : List Nat) (ω : Wd) : Prop := ∀ a, a ∈ Ls ↔ ω a ≠ none
def wh (g : Gl) (A : Nat → Prop) (ω : Wd) (H : Heap) : Prop := ∃ Ls, okL Ls ω ∧ va_P g.1 vwCl (va_pl Ls (w_f ω)) H ∧ va_D A (va_pl Ls (w_f ω))
theorem w_f_up (ω : Wd) (a : Nat) (e : va_E) : va_up (w_f ω) a e = w_f (wup ω a e) := by
  funext q
  by_cases h : q = a <;> simp [va_up, w_f, wup, h]
theorem wh_all {g : Gl} {A : Nat → Prop} {ω : Wd} {H : Heap} (h : wh g A ω H) : ∃ ws : va_W, va_P g.1 vwCl ws H ∧ va_D A ws ∧ (∀ a e, ω a = some e → ∃ k : Nat, ws[k]? = some (a, e)) ∧
    (∀ (k a : Nat) (e0 e : va_E) (H1 : Heap), ws[k]? = some (a, e0) → va_P g.1 vwCl (ws.set k (a, e)) H1 → va_D A (ws.set k (a, e)) → wh g A (wup ω a e) H1) ∧
    (∀ (a : Nat) (e : va_E) (H1 : Heap), va_P g.1 vwCl (ws ++ [(a, e)]) H1 → va_D A (ws ++ [(a, e)]) → ω a = none ∧ wh g A (wup ω a e) H1) := by
  obtain ⟨Ls, hL, hP, hD⟩ := h
  refine ⟨va_pl Ls (w_f ω), hP, hD, ?_, ?_, ?_⟩
  · intro a e he
    have ha : a ∈ Ls := (hL a).mpr (by rw [he]; simp)
    obtain ⟨k, hk⟩ := va_pl_get (X := []) (f := w_f ω) ha
    have e1 : w_f ω a = e := by simp [w_f, he]
    rw [e1] at hk
    exact ⟨k, hk⟩
  · intro k a e0 e H1 hk hP1 hD1
    obtain ⟨b, hb, hbe⟩ := List.mem_map.mp (List.mem_of_getElem? hk)
    cases hbe
    have hs : (va_pl Ls (w_f ω)).set k (a, e) = va_pl Ls (va_up (w_f ω) a e) := va_pl_set (X := []) (e := e) hD hb hk
    rw [w_f_up] at hs
    rw [hs] at hP1 hD1
    refine ⟨Ls, fun q => ?_, hP1, hD1⟩
    by_cases hq : q = a
    · subst hq
      simp [wup_s, hb]
    · rw [wup_n hq]
      exact hL q
  · intro a e H1 hP1 hD1
    have ha : a ∉ Ls := by
      intro hm
      obtain ⟨k, hk⟩ := va_pl_get (X := []) (f := w_f ω) hm
      have hk : (va_pl Ls (w_f ω))[k]? = some (a, w_f ω a) := hk
      have hl := (List.getElem?_eq_some_iff.mp hk).1
      have h1 : (va_pl Ls (w_f ω) ++ [(a, e)])[k]? = some (a, w_f ω a) := by rw [List.getElem?_append_left hl]; exact hk
      have h2 : (va_pl Ls (w_f ω) ++ [(a, e)])[(va_pl Ls (w_f ω)).length]? = some (a, e) := by simp
      have := hD1.1 _ _ _ _ h1 h2 rfl
      omega
    rw [va_pl_push ha, w_f_up] at hP1 hD1
    refine ⟨Classical.byContradiction fun h => ha ((hL a).mpr h), Ls ++ [a], fun q => ?_, hP1, hD1⟩
    by_cases hq : q = a
    · subst hq
      simp [wup_s]
    · rw [wup_n hq, List.mem_append, List.mem_singleton]
      exact ⟨fun h => (hL q).mp (h.resolve_right hq), fun h => Or.inl ((hL q).mpr h)⟩
theorem wh_at {g : Gl} {A : Nat → Prop} {ω : Wd} {H : Heap} (h : wh g A ω H) {a : Nat} {e : va_E} (ha : ω a = some e) : va_at g.1 vwCl (a, e) H ∧ A a ∧ a < H.size := by
  obtain ⟨ws, hP, hD, h1, -⟩ := wh_all h
  obtain ⟨k, hk⟩ := h1 a e ha
  exact ⟨hP k _ hk, hD.2 k _ hk, (hP k _ hk).lt⟩
theorem wh_one {g : Gl} {A : Nat → Prop} {ω : Wd} {H : Heap} (h : wh g A ω H) {a : Nat} {e : va_E} (ha : ω a = some e) : va_P g.1 vwCl [(a, e)] H := by
  intro k q hk
  match k, hk with
  | 0, hk => cases hk; exact (wh_at h ha).1
  | k + 1, hk => simp at hk
theorem wh_two {g : Gl} {A : Nat → Prop} {ω : Wd} {H : Heap} (h : wh g A ω H) {a b : Nat} {e f : va_E} (ha : ω a = some e) (hb : ω b = some f) : va_P g.1 vwCl [(a, e), (b, f)] H := by
  intro k q hk
  match k, hk with
  | 0, hk => cases hk; exact (wh_at h ha).1
  | 1, hk => cases hk; exact (wh_at h hb).1
  | k + 2, hk => simp at hk
theorem wh_weak {g : Gl} {A B : Nat → Prop} {ω : Wd} {H : Heap} (h : wh g A ω H) (hAB : ∀ a, ω a ≠ none → A a → B a) : wh g B ω H := by
  obtain ⟨Ls, hL, hP, hD⟩ := h
  refine ⟨Ls, hL, hP, hD.weaken fun k q hk hA => hAB q.1 ?_ hA⟩
  obtain ⟨b, hb, hbe⟩ := List.mem_map.mp (List.mem_of_getElem? hk)
  cases hbe
  exact (hL b).mp hb
theorem wh_kept {g : Gl} {A : Nat → Prop} {ω : Wd} {H H1 : Heap} (h : wh g A ω H) (hq : ∀ a, ω a ≠ none → H1[a]? = H[a]?) : wh g A ω H1 := by
  obtain ⟨Ls, hL, hP, hD⟩ := h
  refine ⟨Ls, hL, hP.kept fun k q hk => ?_, hD⟩
  obtain ⟨b, hb, hbe⟩ := List.mem_map.mp (List.mem_of_getElem? hk)
  cases hbe
  exact hq b ((hL b).mp hb)
def frA (ω0 : Wd) (sz0 : Nat) : Nat → Prop := fun q => ω0 q ≠ none ∨ sz0 ≤ q
def kp (ω0 ω : Wd) : Prop := ∀ a, ω0 a ≠ none → ω a ≠ none
theorem kp_up {ω0 ω : Wd} (h : kp ω0 ω) (a : Nat) (e : va_E) : kp ω0 (wup ω a e) := by
  intro q hq
  by_cases hqa : q = a
  · rw [hqa, wup_s]; simp
  · rw [wup_n hqa]; exact h q hq
theorem kp_rf (ω : Wd) : kp ω ω := fun _ h => h
theorem kp_tr {a b c : Wd} (h : kp a b) (h2 : kp b c) : kp a c := fun q hq => h2 q (h q hq)
/-- the array classes: int, char, byte, Object, long, double -/
def tys (g : Gl) : List (ClassId × FieldType) := [(g.2.1 0, .int), (g.2.1 1, .char), (g.2.1 2, .byte), (g.2.1 3, .object "java/lang/Object"), (g.2.1 4, .long), (g.2.1 5, .double)]
/-- the words that no reader of steady words carries -/
def nwk : Cond → Bool
  | .fieldLinkNest .. => true
  | .methodLinkNest .. => true
  | .castable .. => true
  | .declares .. => true
  | .privateMethod .. => true
  | _ => false
def NW (U : State) : Prop := ∀ w ∈ lw_tbl, nwk w = true → w.before #[] U = true
theorem nwk_tab {w : Cond} (h : nwk w = true) : w.onTables = true := by
  cases w <;> first | rfl | (simp [nwk] at h)
theorem va_Nw.warmD' {x : MethodName} {s U : State} (hW : s.WarmedH U.vm) (hZ : va_Nw (.declares x) s) : va_Nw (.declares x) U := va_tabs rfl (rfl : (s.setVm U.vm).vm = U.vm) (by rw [Cond.declares_setVm hW.alike]; exact hZ)
theorem va_Nw.warmP' {x : MethodName} {s U : State} (hW : s.WarmedH U.vm) (hZ : va_Nw (.privateMethod x) s) : va_Nw (.privateMethod x) U := va_tabs rfl (rfl : (s.setVm U.vm).vm = U.vm) (by rw [Cond.privateMethod_setVm hW.alike]; exact hZ)
theorem NW.warm {s U : State} (hW : s.WarmedH U.vm) (h : NW s) : NW U := by
  intro w hw hn
  have h1 := h w hw hn
  cases w <;> first | exact va_Nw.warmF hW h1 | exact va_Nw.warmM hW h1 | exact va_Nw.warmC hW h1 | exact va_Nw.warmD' hW h1 | exact va_Nw.warmP' hW h1 | (simp [nwk] at hn)
theorem NW.use {U : State} (h : NW U) {w : Cond} (hw : w ∈ lw_tbl) (hn : nwk w = true) {A : Array Value} : w.before A U = true := va_Nw.use (nwk_tab hn) (h w hw hn)
def A0 (g : Gl) : Nat → Prop := fun q => g.2.2.2 ≤ q
/-- static arrays of numbers: class, field, descriptor, component, contents -/
def stT : List (String × String × String × FieldType × List Int32) := [
  ("Boringhead", "KINDS", "[C", .char, [99, 115, 114, 98]), ("Boringhead", "EARTH", "[I", .int, [2, 4, 0, 3]), ("Boringhead", "STRENGTH", "[I", .int, [8, 5, 20, 7]), ("Boringhead", "WEAR", "[I", .int, [1, 4, 12, 20]), ("Boringhead", "BULK", "[I", .int, [130, 120, 160, 140]), ("Boringhead", "MINUTES", "[I", .int, [30, 40, 90, 70]), ("Boringhead", "OVERCUT", "[I", .int, [2, 5, 1, 4]),
  ("Boringhead", "TURN_RIGHT", "[I", .int, [0, 7, 10, 7, 0, -7, -10, -7]), ("Boringhead", "TURN_UP", "[I", .int, [10, 7, 0, -7, -10, -7, 0, 7]), ("Boringhead", "CAUSES", "[C", .char, [103, 112, 99, 115, 109, 119, 104]), ("Boringhead", "OWNERS", "[C", .char, [98, 107, 110]),
  ("BoringheadModel", "EARTH", "[I", .int, [2, 4, 0, 3]), ("BoringheadModel", "STRENGTH", "[I", .int, [8, 5, 20, 7]), ("BoringheadModel", "WEAR", "[I", .int, [1, 4, 12, 20]), ("BoringheadModel", "BULK", "[I", .int, [130, 120, 160, 140]), ("BoringheadModel", "MINUTES", "[I", .int, [30, 40, 90, 70]), ("BoringheadModel", "OVERCUT", "[I", .int, [2, 5, 1, 4]),
  ("BoringheadModel", "RIGHT", "[I", .int, [0, 7, 10, 7, 0, -7, -10, -7]), ("BoringheadModel", "UP", "[I", .int, [10, 7, 0, -7, -10, -7, 0, 7])]
def stF (xs : List Int32) : Nat → Int32 := fun j => xs.getD j 0
/-- string constants: class, entry, text -/
def stS : List (String × Nat × String) := [("Boringhead", 462, "no such places, or no such kind"), ("Boringhead", 453, "a ring stands there"), ("Boringhead", 464, "no such places, or a number out of range"), ("Boringhead", 95, "no such places, or no such bend"), ("Boringhead", 126, "no such place, or no such kind"), ("Boringhead", 137, "there are 20 boreholes"), ("Boringhead", 149, "no such place"), ("Boringhead", 170, "no such pressure"), ("Boringhead", 192, "no such cutter"), ("Boringhead", 200, "the cutter is not worn at all"), ("Boringhead", 456, "the clock would go beyond its end"), ("Boringhead", 219, "the jacks can't push so"), ("Boringhead", 227, "no such rotation"), ("Boringhead", 233, "the next ring is barred"), ("Boringhead", 458, "no such ring"), ("Boringhead", 262, "no plan for so many rings"), ("Boringhead", 283, "no such amount"), ("Boringhead", 291, "it doesn't fit, or the grout has set"), ("Boringhead", 302, "no such places, or no such offset"), ("Boringhead", 304, "there are 8 houses"), ("Boringhead", 460, "no such house"), ("Boringhead", 347, "no such number of segments"), ("Boringhead", 352, "there is no room for all"), ("Boringhead", 357, "no such number of lorries"), ("Boringhead", 362, "no lorries go, or the pit is empty"), ("Boringhead", 376, "no such minutes, or no such causes"), ("Boringhead", 385, "no such cause"), ("Boringhead", 393, "no such letter"), ("Boringhead", 404, "it is no event, or a notice was given"), ("Boringhead", 415, "no such kind"), ("Boringhead", 425, "there are no rings"), ("BoringheadModel", 58, "gpcsmwh"), ("BoringheadModel", 80, "csrb"), ("java/lang/StringLatin1", 151, ""), ("java/util/Arrays", 337, " > "), ("java/lang/StringUTF16", 295, ""), ("BoringheadModel", 326, "bkn")]
/-- calls through an interface -/
def stI : List (String × MethodName × MethodName) := [("java/util/ArrayList", ⟨"java/util/List", "size", "()I"⟩, yJx4a65c_size_8abf5), ("java/util/ArrayList", ⟨"java/util/List", "add", "(Ljava/lang/Object;)Z"⟩, yJx4a65c_add_9ea2d), ("java/util/ArrayList", ⟨"java/util/List", "iterator", "()Ljava/util/Iterator;"⟩, yJx4a65c_iterator_32c93), ("java/util/ArrayList", ⟨"java/util/List", "get", "(I)Ljava/lang/Object;"⟩, yJx4a65c_get_915e3), ("java/util/ArrayList", ⟨"java/util/List", "isEmpty", "()Z"⟩, yJx4a65c_isEmpty_aae02), ("java/util/ArrayList$Itr", ⟨"java/util/Iterator", "hasNext", "()Z"⟩, yJx35411_hasNext_aae02), ("java/util/ArrayList$Itr", ⟨"java/util/Iterator", "next", "()Ljava/lang/Object;"⟩, yJx35411_next_0502b)]
/-- the texts whose letters are read: place in stS, letters -/
def stB : List (Nat × List Int32) := [(31, [103, 112, 99, 115, 109, 119, 104]), (32, [99, 115, 114, 98]), (33, []), (36, [98, 107, 110])]
def adS (g : Gl) (i : Nat) : Nat := g.2.2.1 (100 + i)
def adV (g : Gl) (i : Nat) : Nat := g.2.2.1 (200 + i)
/-- the row of causes, whole: it is cloned -/
def CLc (g : Gl) (H : Heap) : Prop := ∃ cell : Cell, H[g.2.2.1 9]? = some cell ∧ cell.vm.isStatics = false ∧ cell.vm ≠ .unknown ∧ cell.cls = g.2.1 1 ∧ ({ cls := cell.cls, slots := cell.slots } : Cell) = vp_cell (g.2.1 1) (7, .inl (stF [103, 112, 99, 115, 109, 119, 104])) ∧ ¬ A0 g (g.2.2.1 9)
theorem CLc.kept {g : Gl} {H H1 : Heap} (h : CLc g H) (hq : ∀ a : Nat, a < H.size → ¬ A0 g a → H1[a]? = H[a]?) : CLc g H1 := by
  obtain ⟨cell, h1, h2, h3, h4, h5, h6⟩ := h
  exact ⟨cell, by rw [hq _ (Array.getElem?_eq_some_iff.mp h1).1 h6]; exact h1, h2, h3, h4, h5, h6⟩
def RO (g : Gl) (U : State) (H : Heap) : Prop :=
  (∀ (i : Nat) (x : String × String × String × FieldType × List Int32), stT[i]? = some x → va_Z x.1 x.2.1 x.2.2.1 (.ref (g.2.2.1 i)) (A0 g) U H ∧ va_T x.2.2.2.1 (g.2.2.1 i) x.2.2.2.2.length (fun j => .int (stF x.2.2.2.2 j)) (A0 g) U H) ∧
  (va_Z "java/util/ArrayList" "DEFAULTCAPACITY_EMPTY_ELEMENTDATA" "[Ljava/lang/Object;" (.ref (g.2.2.1 19)) (A0 g) U H ∧ va_T (.object "java/lang/Object") (g.2.2.1 19) 0 (fun _ => .null) (A0 g) U H) ∧
  (va_Z "java/lang/String" "COMPACT_STRINGS" "Z" (.int 1) (A0 g) U H ∧ vx_Zq "jdk/internal/util/Preconditions" "SIOOBE_FORMATTER" "Ljava/util/function/BiFunction;" (A0 g) U H ∧ CLc g H) ∧
  (∀ (i : Nat) (x : String × Nat × String), stS[i]? = some x → vk_R x.1 x.2.1 x.2.2 (adS g i) U) ∧
  (∀ (i : Nat) (x : Nat × List Int32), stB[i]? = some x → va_O "java/lang/String" (adS g x.1) (A0 g) U H ∧ va_OF "java/lang/String" "coder" "B" (.int 0) (adS g x.1) (A0 g) U H ∧ va_OF "java/lang/String" "value" "[B" (.ref (adV g x.1)) (adS g x.1) (A0 g) U H ∧ va_T .byte (adV g x.1) x.2.length (fun j => .int (stF x.2 j)) (A0 g) U H) ∧
  (vx_Zq Bundle.tN "UNASSIGNED_STACK" Bundle.steD (A0 g) U H ∧ vx_Zq Bundle.tN "SUPPRESSED_SENTINEL" Bundle.listD (A0 g) U H) ∧
  va_Mi "[Ljava/lang/Object;" (g.2.2.1 21) U ∧
  (∀ (i : Nat) (x : String × MethodName × MethodName), stI[i]? = some x → va_Fw x.1 x.2.1 x.2.2 U) ∧
  va_AO "java/lang/Object" U
theorem stI_ok : ∀ (i : Nat) (x : String × MethodName × MethodName), stI[i]? = some x → x.2.1.cls ≠ "java/lang/invoke/MethodHandle" ∧ x.2.1.cls ≠ "java/lang/invoke/VarHandle" := by
  intro i x h
  have hm := List.mem_of_getElem? h
  have : ∀ y ∈ stI, y.2.1.cls ≠ "java/lang/invoke/MethodHandle" ∧ y.2.1.cls ≠ "java/lang/invoke/VarHandle" := by decide +kernel
  exact this x hm
theorem RO.warm {g : Gl} {s U : State} {H : Heap} (hW : s.WarmedH U.vm) (h : RO g s H) : RO g U H := by
  obtain ⟨h1, h2, h3, h4, h5, h6, h7, h8, h9⟩ := h
  have ha := hW.alike
  exact ⟨fun i x hx => ⟨(h1 i x hx).1.moved ha, (h1 i x hx).2.moved ha⟩, ⟨h2.1.moved ha, h2.2.moved ha⟩, ⟨h3.1.moved ha, h3.2.1.moved ha, h3.2.2⟩, fun i x hx => vk_R.warm hW (h4 i x hx),
    fun i x hx => ⟨(h5 i x hx).1.moved ha, (h5 i x hx).2.1.moved ha, (h5 i x hx).2.2.1.moved ha, (h5 i x hx).2.2.2.moved ha⟩, ⟨h6.1.moved ha, h6.2.moved ha⟩, h7.moved ha, fun i x hx => va_Fw.moved (stI_ok i x hx) ha (h8 i x hx), h9.moved ha⟩
theorem RO.kept {g : Gl} {U : State} {H H1 : Heap} (h : RO g U H) (hq : ∀ a : Nat, a < H.size → ¬ A0 g a → H1[a]? = H[a]?) : RO g U H1 := by
  obtain ⟨h1, h2, h3, h4, h5, h6, h7, h8, h9⟩ := h
  exact ⟨fun i x hx => ⟨(h1 i x hx).1.kept hq, (h1 i x hx).2.kept hq⟩, ⟨h2.1.kept hq, h2.2.kept hq⟩, ⟨h3.1.kept hq, h3.2.1.kept hq, h3.2.2.kept hq⟩, h4,
    fun i x hx => ⟨(h5 i x hx).1.kept hq, (h5 i x hx).2.1.kept hq, (h5 i x hx).2.2.1.kept hq, (h5 i x hx).2.2.2.kept hq⟩, ⟨h6.1.kept hq, h6.2.kept hq⟩, h7, h8, h9⟩
/-- what stands of the machine's state U, the heap being H -/
def Gd (g : Gl) (U : State) (H : Heap) : Prop := va_K g.1 vwCl (tys g) U ∧ NW U ∧ RO g U H
theorem Gd.warm {g : Gl} {s U : State} {H : Heap} (hW : s.WarmedH U.vm) (h : Gd g s H) : Gd g U H := ⟨va_K.moved hW.alike h.1, h.2.1.warm hW, h.2.2.warm hW⟩
def W0 : List Cond := lw_tbl.filter goodWord
theorem W0_in {w : Cond} (h : w ∈ lw_tbl) (hg : goodWord w = true) : w ∈ W0 := List.mem_filter.mpr ⟨h, hg⟩
theorem W0_good : ∀ w ∈ W0, w ∈ W0 ∧ ((w.onTables && w.keeps) = true ∨ ∃ ty, w = .arrayClass ty) := fun w h => ⟨h, good_of_word (List.mem_filter.mp h).2⟩
/-- a contract's start, its end, what it throws -/
def Pcs (g : Gl) (As : List Value) (ω : Wd) (sz : Nat) : Array Value → State → Prop := va_Pc As (fun U => U.heap.size = sz ∧ wh g (fun _ => True) ω U.heap ∧ Gd g U U.heap ∧ g.2.2.2 ≤ sz ∧ ∀ a, ω a ≠ none → g.2.2.2 ≤ a)
def Qs (g : Gl) (ω : Wd) (sz : Nat) (post : Option Value → Wd → Prop) : Array Value → State → Outcome → State → Prop := fun _ st o t => ∃ r ω', o = .returned r ∧ post r ω' ∧ wh g (frA ω sz) ω' t.heap ∧ kp ω ω' ∧ va_F (frA ω sz) st t
def Xs (g : Gl) (ω : Wd) (sz : Nat) (xp : String → Wd → Prop) : String → State → State → Prop := fun E st t => ∃ ω', xp E ω' ∧ wh g (frA ω sz) ω' t.heap ∧ kp ω ω' ∧ va_F (frA ω sz) st t
def CT (l : Launch) (g : Gl) (y : MethodName) (cc : ByteArray) (mL : Nat) (rt : Option FieldType) (fr lo mc ms : Nat) (As : List Value) (ω : Wd) (post : Option Value → Wd → Prop) (xp : String → Wd → Prop) : Prop :=
  ∀ sz, vx_Met l y (Cond.code y cc mL rt :: W0) { frames := fr, cells := mc, slots := ms, locals := lo } (Pcs g As ω sz) (Qs g ω sz post) (Xs g ω sz xp) mc ms (frA ω sz)
/-- no exception -/
def nox : String → Wd → Prop := fun _ _ => False
/-- a known answer, the world as it was -/
def rv (v : Value) (ω : Wd) : Option Value → Wd → Prop := fun r ω' => r = some v ∧ ω' = ω
/-- what the body of a method knows -/
def Cx (p : Program) (l : Launch) (e : Env) (R : Room) (s : State) (m : MethodId) (args : Array Value) (below : List Frame) (meth : Method) (c : Code) (cc : ByteArray) (nL : Nat) (own : String) (g : Gl) (ω0 : Wd) (sz0 : Nat) : Prop :=
  p.tables.exec = Jvm.exec ∧ c.code = cc ∧ c.maxLocals = nL ∧ s.vm.findClass own = some m.cls ∧ (∀ w ∈ W0, w.before args s = true) ∧ Gd g s s.heap ∧ meth.locks = false ∧ s.heap.size = sz0 ∧ g.2.2.2 ≤ sz0 ∧ ∀ a, ω0 a ≠ none → g.2.2.2 ≤ a
def WP (p : Program) (l : Launch) (e : Env) (R : Room) (s : State) (m : MethodId) (args : Array Value) (below : List Frame) (meth : Method) (c : Code) (g : Gl) (ω0 : Wd) (sz0 : Nat) (Q : State → Prop) (nL : Nat) (ω : Wd) (k n pc : Nat) (L : List (Nat × Value)) (st : List Value) : Prop :=
  ∀ (H : Heap) (locs : List Loc) (ls : Array Slot), wh g (frA ω0 sz0) ω H → kp ω0 ω → va_S (frA ω0 sz0) s.heap H locs → lv_has ls nL L → W p l e R s m args below meth c H locs k n Q (F0 m pc ls st)
def WX (p : Program) (l : Launch) (e : Env) (R : Room) (s : State) (m : MethodId) (args : Array Value) (below : List Frame) (meth : Method) (c : Code) (g : Gl) (ω0 : Wd) (sz0 : Nat) (Q : State → Prop) (nL : Nat) (ω : Wd) (k n pc : Nat) (L : List (Nat × Value)) (st : List Value) (E : String) : Prop :=
  ∀ (H : Heap) (locs : List Loc) (ls : Array Slot) (q : Addr) (ce : Cell), wh g (frA ω0 sz0) ω H → kp ω0 ω → va_S (frA ω0 sz0) s.heap H locs → lv_has ls nL L → H[q]? = some ce → ce.vm = .none → s.vm.findClass E = some ce.cls → vx_W p l e R s m args below meth c H locs k n Q (F0 m pc ls st) q
/-- the goal of a method's body -/
def Qm (below : List Frame) (args : Array Value) (s : State) (g : Gl) (ω0 : Wd) (sz0 : Nat) (post : Option Value → Wd → Prop) (xp : String → Wd → Prop) (mc ms : Nat) : State → Prop := vx_MQ below (Qs g ω0 sz0 post) (Xs g ω0 sz0 xp) args s mc ms (frA ω0 sz0)
theorem frA_up {g : Gl} {ω0 : Wd} {sz0 : Nat} (h1 : g.2.2.2 ≤ sz0) (h2 : ∀ a, ω0 a ≠ none → g.2.2.2 ≤ a) {q : Nat} (h : frA ω0 sz0 q) : A0 g q := h.elim (h2 q) (Nat.le_trans h1)
section CXL
variable {p : Program} {l : Launch} {e : Env} {R : Room} {s : State} {m : MethodId} {args : Array Value} {below : List Frame} {meth : Method} {c : Code} {cc : ByteArray} {nL : Nat} {own : String} {g : Gl} {ω0 : Wd} {sz0 : Nat}
theorem Cx.w (h : Cx p l e R s m args below meth c cc nL own g ω0 sz0) {w : Cond} (hw : w ∈ lw_tbl) (hg : goodWord w = true) : w.before args s = true := h.2.2.2.2.1 w (W0_in hw hg)
theorem Cx.n (h : Cx p l e R s m args below meth c cc nL own g ω0 sz0) {w : Cond} (hw : w ∈ lw_tbl) (hg : nwk w = true) : w.before args s = true := NW.use h.2.2.2.2.2.1.2.1 hw hg
theorem Cx.A (h : Cx p l e R s m args below meth c cc nL own g ω0 sz0) : ∀ q : Nat, s.heap.size ≤ q → frA ω0 sz0 q := fun q hq => Or.inr (by rw [← h.2.2.2.2.2.2.2.1]; exact hq)
theorem Cx.up (h : Cx p l e R s m args below meth c cc nL own g ω0 sz0) {q : Nat} (hq : frA ω0 sz0 q) : A0 g q := frA_up h.2.2.2.2.2.2.2.2.1 h.2.2.2.2.2.2.2.2.2 hq
theorem Cx.S0 (h : Cx p l e R s m args below meth c cc nL own g ω0 sz0) {H : Heap} {locs : List Loc} (hS : va_S (frA ω0 sz0) s.heap H locs) : va_S (A0 g) s.heap H locs := ⟨hS.1, fun q h1 h2 => hS.2.1 q h1 (fun z => h2 (h.up z)), fun q hq => h.up (hS.2.2 q hq)⟩
end CXL
