/-! joins of worlds: who stands where doesn't matter -/
theorem djn_sym {a b : Wd} (h : djn a b) : djn b a := fun q => (h q).symm
theorem wjn_comm {a b : Wd} (h : djn a b) : wjn a b = wjn b a := by
  funext q
  rcases h q with z | z
  · rw [wjn_r z]
    cases h1 : b q with
    | none => rw [wjn_r h1, z]
    | some e => rw [wjn_l h1]
  · rw [wjn_r z]
    cases h1 : a q with
    | none => rw [wjn_r h1, z]
    | some e => rw [wjn_l h1]
theorem wjn_assoc (a b c : Wd) : wjn (wjn a b) c = wjn a (wjn b c) := by
  funext q
  cases h : a q with
  | some e => rw [wjn_l h, wjn_l (wjn_l h)]
  | none =>
    rw [wjn_r h]
    cases h2 : b q with
    | some e => rw [wjn_l h2, wjn_l ((wjn_r h).trans h2)]
    | none => rw [wjn_r h2, wjn_r ((wjn_r h).trans h2)]
theorem wjn_swap {a b : Wd} (c : Wd) (h : djn a b) : wjn a (wjn b c) = wjn b (wjn a c) := by
  rw [← wjn_assoc, ← wjn_assoc, wjn_comm h]
theorem wjn_none {a b : Wd} {q : Nat} : wjn a b q = none ↔ a q = none ∧ b q = none := by
  cases h : a q with
  | none => rw [wjn_r h]; exact ⟨fun z => ⟨rfl, z⟩, fun z => z.2⟩
  | some e => rw [wjn_l h]; exact ⟨fun z => absurd z (fun y => by cases y), fun z => absurd z.1 (fun y => by cases y)⟩
theorem djn_join {a b c : Wd} (h1 : djn a b) (h2 : djn a c) : djn a (wjn b c) := fun q => by
  rcases h1 q with z | z
  · exact Or.inl z
  · rcases h2 q with z2 | z2
    · exact Or.inl z2
    · exact Or.inr (wjn_none.mpr ⟨z, z2⟩)
theorem djn_l {a b c : Wd} (h : djn a (wjn b c)) : djn a b := fun q => (h q).imp id (fun z => (wjn_none.mp z).1)
theorem djn_r {a b c : Wd} (h : djn a (wjn b c)) : djn a c := fun q => (h q).imp id (fun z => (wjn_none.mp z).2)
/-- a method over the second of three worlds -/
theorem CT.mid {l : Launch} {g : Gl} {y : MethodName} {cc : ByteArray} {mL : Nat} {rt : Option FieldType} {fr lo mc ms : Nat} {As : List Value} {ωc ωm ωo : Wd} {post : Option Value → Wd → Prop} {xp : String → Wd → Prop} (ct : CT l g y cc mL rt fr lo mc ms As ωm post xp) (h1 : djn ωc (wjn ωm ωo)) (h2 : djn ωm ωo) :
    CT l g y cc mL rt fr lo mc ms As (wjn ωc (wjn ωm ωo)) (fun r w => ∃ w1, post r w1 ∧ w = wjn ωc (wjn w1 ωo) ∧ djn ωc (wjn w1 ωo) ∧ djn w1 ωo) (fun E w => ∃ w1, xp E w1 ∧ w = wjn ωc (wjn w1 ωo) ∧ djn ωc (wjn w1 ωo) ∧ djn w1 ωo) := by
  have hd : djn ωm (wjn ωc ωo) := djn_join (djn_sym (djn_l h1)) h2
  have key : ∀ w1, djn w1 (wjn ωc ωo) → wjn w1 (wjn ωc ωo) = wjn ωc (wjn w1 ωo) ∧ djn ωc (wjn w1 ωo) ∧ djn w1 ωo := fun w1 hw => ⟨wjn_swap ωo (djn_l hw), djn_join (djn_sym (djn_l hw)) (djn_r h1), djn_r hw⟩
  rw [wjn_swap ωo (djn_l h1)]
  intro sz
  refine Free.MetFree.mono (ct.frame hd sz) (fun a s h => h) (fun _ _ _ _ _ h => h) (fun a s o t hp hQ => ?_)
  rcases hQ with ⟨⟨r, w, q1, ⟨w1, q2, q3, q4⟩, q5⟩, q6⟩ | ⟨q, q0, E, ce, L, ⟨w, ⟨w1, q2, q3, q4⟩, q5⟩, q6⟩
  · exact Or.inl ⟨⟨r, w, q1, ⟨w1, q2, q3.trans (key w1 q4).1, (key w1 q4).2⟩, q5⟩, q6⟩
  · exact Or.inr ⟨q, q0, E, ce, L, ⟨w, ⟨w1, q2, q3.trans (key w1 q4).1, (key w1 q4).2⟩, q5⟩, q6⟩
