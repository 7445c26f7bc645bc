/-! two worlds side by side: what a method over one of them leaves of the other -/
def wjn (ω1 ω2 : Wd) : Wd := fun a => match ω1 a with
  | some e => some e
  | none => ω2 a
theorem wjn_l {ω1 ω2 : Wd} {a : Nat} {e : va_E} (h : ω1 a = some e) : wjn ω1 ω2 a = some e := by
  unfold wjn
  rw [h]
theorem wjn_r {ω1 ω2 : Wd} {a : Nat} (h : ω1 a = none) : wjn ω1 ω2 a = ω2 a := by
  unfold wjn
  rw [h]
theorem wjn_ne {ω1 ω2 : Wd} {a : Nat} : wjn ω1 ω2 a ≠ none ↔ ω1 a ≠ none ∨ ω2 a ≠ none := by
  cases h : ω1 a with
  | none => rw [wjn_r h]; exact ⟨Or.inr, fun h9 => h9.elim (fun z => absurd rfl z) id⟩
  | some e => rw [wjn_l h]; exact ⟨fun _ => Or.inl (fun z => by cases z), fun _ z => by cases z⟩
def djn (ω1 ω2 : Wd) : Prop := ∀ a, ω1 a = none ∨ ω2 a = none
theorem wh_intro {g : Gl} {A : Nat → Prop} {ω : Wd} {H : Heap} {Ls : List Nat} (hL : okL Ls ω) (hN : Ls.Nodup) (hat : ∀ a e, ω a = some e → va_at g.1 vwCl (a, e) H) (hA : ∀ a, ω a ≠ none → A a) : wh g A ω H := by
  refine ⟨Ls, hL, fun k q hk => ?_, fun i j p q hi hj he => ?_, fun k q hk => ?_⟩
  · obtain ⟨b, hb, hbe⟩ := List.mem_map.mp (List.mem_of_getElem? hk)
    cases hbe
    obtain ⟨e9, he9⟩ := Option.ne_none_iff_exists'.mp ((hL b).mp hb)
    have e1 : w_f ω b = e9 := by simp [w_f, he9]
    rw [e1]
    exact hat b e9 he9
  · have key : ∀ (i : Nat) (p : Nat × va_E), (va_pl Ls (w_f ω))[i]? = some p → i < Ls.length ∧ Ls.getD i 0 = p.1 := by
      intro i p hi
      have hi2 : (Ls.map (fun a => (a, w_f ω a)))[i]? = some p := hi
      have hlt : i < Ls.length := by
        have := (List.getElem?_eq_some_iff.mp hi2).1
        rwa [List.length_map] at this
      rw [List.getElem?_map, List.getElem?_eq_getElem hlt] at hi2
      cases hi2
      exact ⟨hlt, by rw [List.getD_eq_getElem?_getD, List.getElem?_eq_getElem hlt]; rfl⟩
    obtain ⟨i1, i2⟩ := key i p hi
    obtain ⟨j1, j2⟩ := key j q hj
    exact nd_inj hN i j i1 j1 (by rw [i2, j2]; exact he)
  · obtain ⟨b, hb, hbe⟩ := List.mem_map.mp (List.mem_of_getElem? hk)
    cases hbe
    exact hA b ((hL b).mp hb)
theorem wh_elim {g : Gl} {A : Nat → Prop} {ω : Wd} {H : Heap} (h : wh g A ω H) : ∃ Ls : List Nat, okL Ls ω ∧ Ls.Nodup := by
  obtain ⟨Ls, hL, -, hD⟩ := h
  refine ⟨Ls, hL, List.pairwise_iff_getElem.mpr fun i j hi hj hij he => ?_⟩
  have key : ∀ (i : Nat) (hi : i < Ls.length), (va_pl Ls (w_f ω))[i]? = some (Ls[i], w_f ω Ls[i]) := fun i hi => by
    show (Ls.map (fun a => (a, w_f ω a)))[i]? = _
    rw [List.getElem?_map, List.getElem?_eq_getElem hi]
    rfl
  exact Nat.ne_of_lt hij (hD.1 i j _ _ (key i hi) (key j hj) he)
theorem okL_filter {ω ω' : Wd} {Ls : List Nat} (hL : okL Ls ω) (h : ∀ a, ω' a ≠ none → ω a ≠ none) : okL (Ls.filter (fun a => (ω' a).isSome)) ω' := fun a => by
  rw [List.mem_filter]
  cases h1 : ω' a with
  | none => exact ⟨fun z => by simp at z, fun z => absurd rfl z⟩
  | some e => exact ⟨fun _ => (fun z => by cases z), fun _ => ⟨(hL a).mpr (h a (by rw [h1]; exact fun z => by cases z)), rfl⟩⟩
theorem wh_left {g : Gl} {A : Nat → Prop} {ω1 ω2 : Wd} {H : Heap} (h : wh g A (wjn ω1 ω2) H) : wh g (fun _ => True) ω1 H := by
  obtain ⟨Ls, hL, hN⟩ := wh_elim h
  exact wh_intro (okL_filter hL (fun a ha => wjn_ne.mpr (Or.inl ha))) (hN.filter _) (fun a e he => (wh_at h (wjn_l he)).1) (fun _ _ => trivial)
/-- the world of a method's end, beside the cells that it hadn't -/
theorem wh_join {g : Gl} {A : Nat → Prop} {ω1 ω2 w1 : Wd} {H H' : Heap} (hd : djn ω1 ω2) (h : wh g A (wjn ω1 ω2) H) (h1 : wh g (frA ω1 H.size) w1 H') (hz : H.size ≤ H'.size) (hq : ∀ q : Nat, q < H.size → ¬ frA ω1 H.size q → H'[q]? = H[q]?) :
    djn w1 ω2 ∧ wh g (frA (wjn ω1 ω2) H.size) (wjn w1 ω2) H' := by
  have hnf : ∀ a e, ω2 a = some e → a < H.size ∧ ω1 a = none ∧ ¬ frA ω1 H.size a ∧ va_at g.1 vwCl (a, e) H := fun a e he => by
    have hn : ω1 a = none := (hd a).elim id (fun z => by rw [he] at z; cases z)
    have ha := wh_at h ((wjn_r hn).trans he)
    exact ⟨ha.2.2, hn, fun z => z.elim (fun y => y hn) (fun y => by omega), ha.1⟩
  have hdj : djn w1 ω2 := fun a => by
    cases h2 : ω2 a with
    | none => exact Or.inr rfl
    | some e2 =>
      refine Or.inl ?_
      cases h3 : w1 a with
      | none => rfl
      | some e1 => exact absurd (wh_at h1 h3).2.1 (hnf a e2 h2).2.2.1
  refine ⟨hdj, ?_⟩
  obtain ⟨Ls, hL, hN⟩ := wh_elim h
  obtain ⟨L1, hL1, hN1⟩ := wh_elim h1
  have hL2 := okL_filter (ω' := ω2) hL (fun a ha => wjn_ne.mpr (Or.inr ha))
  refine wh_intro (Ls := L1 ++ Ls.filter (fun a => (ω2 a).isSome)) (fun a => ?_) (List.nodup_append.mpr ⟨hN1, hN.filter _, fun a ha b hb he => ?_⟩) (fun a e he => ?_) (fun a ha => ?_)
  · rw [List.mem_append, hL1 a, hL2 a]
    exact wjn_ne.symm
  · subst he
    rcases hdj a with z | z
    · exact (hL1 a).mp ha z
    · exact (hL2 a).mp hb z
  · cases h3 : w1 a with
    | some e1 =>
      rw [wjn_l h3] at he
      cases he
      exact (wh_at h1 h3).1
    | none =>
      rw [wjn_r h3] at he
      obtain ⟨b1, b2, b3, b4⟩ := hnf a e he
      exact va_at.kept b4 (hq a b1 b3)
  · rcases wjn_ne.mp ha with z | z
    · obtain ⟨e1, h3⟩ := Option.ne_none_iff_exists'.mp z
      rcases (wh_at h1 h3).2.1 with y | y
      · exact Or.inl (wjn_ne.mpr (Or.inl y))
      · exact Or.inr y
    · exact Or.inl (wjn_ne.mpr (Or.inr z))
theorem kp_join {ω1 ω2 w1 : Wd} (h : kp ω1 w1) : kp (wjn ω1 ω2) (wjn w1 ω2) := fun a ha => wjn_ne.mpr ((wjn_ne.mp ha).imp (h a) id)
theorem va_F_join {ω1 ω2 : Wd} {sz : Nat} {st t : State} (h : va_F (frA ω1 sz) st t) : va_F (frA (wjn ω1 ω2) sz) st t := ⟨h.1, fun q h1 h2 => h.2 q h1 (fun z => h2 (z.imp (fun y => wjn_ne.mpr (Or.inl y)) id))⟩
theorem CT.frame {l : Launch} {g : Gl} {y : MethodName} {cc : ByteArray} {mL : Nat} {rt : Option FieldType} {fr lo mc ms : Nat} {As : List Value} {ω1 ω2 : Wd} {post : Option Value → Wd → Prop} {xp : String → Wd → Prop} (ct : CT l g y cc mL rt fr lo mc ms As ω1 post xp) (hd : djn ω1 ω2) :
    CT l g y cc mL rt fr lo mc ms As (wjn ω1 ω2) (fun r w => ∃ w1, post r w1 ∧ w = wjn w1 ω2 ∧ djn w1 ω2) (fun E w => ∃ w1, xp E w1 ∧ w = wjn w1 ω2 ∧ djn w1 ω2) := by
  intro sz
  refine Free.MetFree.mono (ct sz) (fun a s h => ?_) (fun _ _ _ _ _ h => h) (fun a s o t hp hQ => ?_)
  · obtain ⟨h1, h2, h3, h4, h5, h6⟩ := h
    exact ⟨h1, h2, wh_left h3, h4, h5, fun a ha => h6 a (wjn_ne.mpr (Or.inl ha))⟩
  · obtain ⟨-, hsz, hw, -⟩ := hp
    have hfr : ∀ q, frA ω1 sz q → frA (wjn ω1 ω2) sz q := fun q z => z.imp (fun y => wjn_ne.mpr (Or.inl y)) id
    rcases hQ with ⟨⟨r, w1, h1, h2, h3, h4, h5⟩, L, h6, h7⟩ | ⟨q, ho, E, ce, L, ⟨w1, h2, h3, h4, h5⟩, h6, h7, h8, h9, h10, h11⟩
    · subst hsz
      obtain ⟨j1, j2⟩ := wh_join hd hw h3 h5.1 h5.2
      exact Or.inl ⟨⟨r, wjn w1 ω2, h1, ⟨w1, h2, rfl, j1⟩, j2, kp_join h4, va_F_join h5⟩, L, h6, fun q hq => hfr _ (h7 q hq)⟩
    · subst hsz
      obtain ⟨j1, j2⟩ := wh_join hd hw h3 h5.1 h5.2
      exact Or.inr ⟨q, ho, E, ce, L, ⟨wjn w1 ω2, ⟨w1, h2, rfl, j1⟩, j2, kp_join h4, va_F_join h5⟩, h6, h7, h8, h9, h10, fun z hz => hfr _ (h11 z hz)⟩
