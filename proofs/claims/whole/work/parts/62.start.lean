theorem an_l {a b : Cond} {A : Array Value} {s : State} (h : (Cond.and a b).before A s = true) : a.before A s = true := by
  rw [Cond.before_and, Bool.and_eq_true] at h
  exact h.1
theorem an_r {a b : Cond} {A : Array Value} {s : State} (h : (Cond.and a b).before A s = true) : b.before A s = true := by
  rw [Cond.before_and, Bool.and_eq_true] at h
  exact h.2
theorem va_OFof {args : Array Value} {s : State} {t : Term} {o n d : String} {v : Value} {a : Nat} {A : Nat → Prop} (ht : t.eval args s none [] s = some (.ref a)) (hv : (Term.field t o n d).eval args s none [] s = some v) (hA : ∀ a : Nat, a < s.heap.size → ¬ A a) : va_OF o n d v a A s s.heap := by
  cases hfo : s.fieldFound? o n d with
  | none =>
    rw [va_fe ht] at hv
    simp [State.fieldOf?, State.fieldNamed?, hfo] at hv
  | some x =>
    obtain ⟨cf, k, fi, f⟩ := x
    obtain ⟨g1, cell, g2, g3, -, -, g6⟩ := Term.field_spec hfo ht hv
    exact ⟨cf, k, fi, f, cell, hfo, g1, g2, g3, g6, hA _ (Array.getElem?_eq_some_iff.mp g2).1⟩
theorem len_ex {args : Array Value} {s : State} {t : Term} {N : Nat} (hN : N < 2 ^ 31) (h : (Term.length t).eval args s none [] s = some (.int (Int32.ofNat N))) : ∃ (a : Nat) (cell : Cell), t.eval args s none [] s = some (.ref a) ∧ s.arrayAt? a = some cell ∧ cell.slots.size = N := by
  simp only [Term.eval, Option.bind_eq_bind] at h
  cases ht : t.eval args s none [] s with
  | none => simp [ht] at h
  | some x =>
    cases x <;> simp [ht] at h
    case ref a =>
      obtain ⟨cell, hcell, h⟩ := Option.bind_eq_some_iff.mp h
      by_cases hn : cell.slots.size < 2147483648
      · rw [if_pos hn] at h
        have h1 : cell.slots.size.toInt32 = Int32.ofNat N := Value.int.inj (Option.some.inj h)
        refine ⟨a, cell, rfl, hcell, ?_⟩
        have h2 : nI cell.slots.size = nI N := h1
        exact (nI_eq (by omega) hN).mp h2
      · rw [if_neg hn] at h
        cases h
theorem nb_0 {A : Array Value} {s : State} (h : (Cond.and given_1 narrow_1).before A s = true) : (Jvm.Cond.eq (Jvm.Term.elem (Jvm.Term.static "Boringhead" "KINDS" "[C") (Jvm.Term.int (0 : Int32))) (Jvm.Term.int (99 : Int32))).before A s = true := an_l (an_l (an_r (an_r (an_l (an_r (an_l (an_l (an_l (an_l (an_r h))))))))))
theorem nb_1 {A : Array Value} {s : State} (h : (Cond.and given_1 narrow_1).before A s = true) : (Jvm.Cond.eq (Jvm.Term.elem (Jvm.Term.static "Boringhead" "KINDS" "[C") (Jvm.Term.int (1 : Int32))) (Jvm.Term.int (115 : Int32))).before A s = true := an_l (an_r (an_l (an_r (an_r (an_l (an_r (an_l (an_l (an_l (an_l (an_r h)))))))))))
theorem nb_2 {A : Array Value} {s : State} (h : (Cond.and given_1 narrow_1).before A s = true) : (Jvm.Cond.eq (Jvm.Term.elem (Jvm.Term.static "Boringhead" "KINDS" "[C") (Jvm.Term.int (2 : Int32))) (Jvm.Term.int (114 : Int32))).before A s = true := an_r (an_r (an_l (an_r (an_r (an_l (an_r (an_l (an_l (an_l (an_l (an_r h)))))))))))
theorem nb_3 {A : Array Value} {s : State} (h : (Cond.and given_1 narrow_1).before A s = true) : (Jvm.Cond.eq (Jvm.Term.elem (Jvm.Term.static "Boringhead" "KINDS" "[C") (Jvm.Term.int (3 : Int32))) (Jvm.Term.int (98 : Int32))).before A s = true := an_l (an_l (an_r (an_r (an_r (an_l (an_r (an_l (an_l (an_l (an_l (an_r h)))))))))))
theorem nb_4 {A : Array Value} {s : State} (h : (Cond.and given_1 narrow_1).before A s = true) : (Jvm.Cond.arrayOf (Jvm.Term.static "Boringhead" "KINDS" "[C") Jvm.ClassFile.FieldType.char).before A s = true := an_l (an_r (an_r (an_l (an_r (an_l (an_r (an_l (an_l (an_l (an_l (an_r h)))))))))))
theorem nb_5 {A : Array Value} {s : State} (h : (Cond.and given_1 narrow_1).before A s = true) : (Jvm.Cond.eq (Jvm.Term.length (Jvm.Term.static "Boringhead" "KINDS" "[C")) (Jvm.Term.int (4 : Int32))).before A s = true := an_r (an_r (an_r (an_l (an_r (an_l (an_r (an_l (an_l (an_l (an_l (an_r h)))))))))))
theorem sa_0 {b : Nat} {s : State} (hts : ∀ w ∈ lw_tbl, w.before #[Value.ref b] s = true) (hgv : (Cond.and given_1 narrow_1).before #[Value.ref b] s = true) (hA : ∀ a : Nat, a < s.heap.size → ¬ s.heap.size ≤ a) : ∃ t : Nat, (Jvm.Term.static "Boringhead" "KINDS" "[C").eval #[Value.ref b] s none [] s = some (.ref t) ∧ va_Z "Boringhead" "KINDS" "[C" (.ref t) (fun q => s.heap.size ≤ q) s s.heap ∧ va_T .char t 4 (fun j => .int (stF [99, 115, 114, 98] j)) (fun q => s.heap.size ≤ q) s s.heap := by
  have el : ∀ j : Nat, j < 4 → (Term.elem (Jvm.Term.static "Boringhead" "KINDS" "[C") (.int (Int32.ofNat j))).eval #[Value.ref b] s none [] s = some (.int (stF [99, 115, 114, 98] j)) := by
    intro j hj
    rcases j with _ | _ | _ | _ | j
    · exact va_eqt (nb_0 hgv)
    · exact va_eqt (nb_1 hgv)
    · exact va_eqt (nb_2 hgv)
    · exact va_eqt (nb_3 hgv)
    · exact absurd hj (by omega)
  obtain ⟨t, ht, hT⟩ := va_Tof (A := fun q => s.heap.size ≤ q) (tm := (Jvm.Term.static "Boringhead" "KINDS" "[C")) (ty := .char) (N := 4) (f := fun j => .int (stF [99, 115, 114, 98] j)) (by decide) (nb_4 hgv) (va_eqt (nb_5 hgv)) el hA
  exact ⟨t, ht, va_Zref (hts _ tw_437) (hts _ tw_1) ht hA, hT⟩
theorem nb_6 {A : Array Value} {s : State} (h : (Cond.and given_1 narrow_1).before A s = true) : (Jvm.Cond.eq (Jvm.Term.elem (Jvm.Term.static "Boringhead" "EARTH" "[I") (Jvm.Term.int (0 : Int32))) (Jvm.Term.int (2 : Int32))).before A s = true := an_r (an_r (an_l (an_l (an_l (an_r (an_r (an_l (an_l (an_l (an_l (an_r h)))))))))))
theorem nb_7 {A : Array Value} {s : State} (h : (Cond.and given_1 narrow_1).before A s = true) : (Jvm.Cond.eq (Jvm.Term.elem (Jvm.Term.static "Boringhead" "EARTH" "[I") (Jvm.Term.int (1 : Int32))) (Jvm.Term.int (4 : Int32))).before A s = true := an_l (an_r (an_l (an_l (an_r (an_r (an_l (an_l (an_l (an_l (an_r h))))))))))
theorem nb_8 {A : Array Value} {s : State} (h : (Cond.and given_1 narrow_1).before A s = true) : (Jvm.Cond.eq (Jvm.Term.elem (Jvm.Term.static "Boringhead" "EARTH" "[I") (Jvm.Term.int (2 : Int32))) (Jvm.Term.int (0 : Int32))).before A s = true := an_l (an_r (an_r (an_l (an_l (an_r (an_r (an_l (an_l (an_l (an_l (an_r h)))))))))))
theorem nb_9 {A : Array Value} {s : State} (h : (Cond.and given_1 narrow_1).before A s = true) : (Jvm.Cond.eq (Jvm.Term.elem (Jvm.Term.static "Boringhead" "EARTH" "[I") (Jvm.Term.int (3 : Int32))) (Jvm.Term.int (3 : Int32))).before A s = true := an_r (an_r (an_r (an_l (an_l (an_r (an_r (an_l (an_l (an_l (an_l (an_r h)))))))))))
theorem nb_10 {A : Array Value} {s : State} (h : (Cond.and given_1 narrow_1).before A s = true) : (Jvm.Cond.arrayOf (Jvm.Term.static "Boringhead" "EARTH" "[I") Jvm.ClassFile.FieldType.int).before A s = true := an_l (an_l (an_l (an_l (an_r (an_r (an_l (an_l (an_l (an_l (an_r h))))))))))
theorem nb_11 {A : Array Value} {s : State} (h : (Cond.and given_1 narrow_1).before A s = true) : (Jvm.Cond.eq (Jvm.Term.length (Jvm.Term.static "Boringhead" "EARTH" "[I")) (Jvm.Term.int (4 : Int32))).before A s = true := an_l (an_r (an_l (an_l (an_l (an_r (an_r (an_l (an_l (an_l (an_l (an_r h)))))))))))
theorem sa_1 {b : Nat} {s : State} (hts : ∀ w ∈ lw_tbl, w.before #[Value.ref b] s = true) (hgv : (Cond.and given_1 narrow_1).before #[Value.ref b] s = true) (hA : ∀ a : Nat, a < s.heap.size → ¬ s.heap.size ≤ a) : ∃ t : Nat, (Jvm.Term.static "Boringhead" "EARTH" "[I").eval #[Value.ref b] s none [] s = some (.ref t) ∧ va_Z "Boringhead" "EARTH" "[I" (.ref t) (fun q => s.heap.size ≤ q) s s.heap ∧ va_T .int t 4 (fun j => .int (stF [2, 4, 0, 3] j)) (fun q => s.heap.size ≤ q) s s.heap := by
  have el : ∀ j : Nat, j < 4 → (Term.elem (Jvm.Term.static "Boringhead" "EARTH" "[I") (.int (Int32.ofNat j))).eval #[Value.ref b] s none [] s = some (.int (stF [2, 4, 0, 3] j)) := by
    intro j hj
    rcases j with _ | _ | _ | _ | j
    · exact va_eqt (nb_6 hgv)
    · exact va_eqt (nb_7 hgv)
    · exact va_eqt (nb_8 hgv)
    · exact va_eqt (nb_9 hgv)
    · exact absurd hj (by omega)
  obtain ⟨t, ht, hT⟩ := va_Tof (A := fun q => s.heap.size ≤ q) (tm := (Jvm.Term.static "Boringhead" "EARTH" "[I")) (ty := .int) (N := 4) (f := fun j => .int (stF [2, 4, 0, 3] j)) (by decide) (nb_10 hgv) (va_eqt (nb_11 hgv)) el hA
  exact ⟨t, ht, va_Zref (hts _ tw_738) (hts _ tw_1) ht hA, hT⟩
theorem nb_12 {A : Array Value} {s : State} (h : (Cond.and given_1 narrow_1).before A s = true) : (Jvm.Cond.eq (Jvm.Term.elem (Jvm.Term.static "Boringhead" "STRENGTH" "[I") (Jvm.Term.int (0 : Int32))) (Jvm.Term.int (8 : Int32))).before A s = true := an_l (an_r (an_r (an_l (an_r (an_r (an_l (an_l (an_l (an_l (an_r h))))))))))
theorem nb_13 {A : Array Value} {s : State} (h : (Cond.and given_1 narrow_1).before A s = true) : (Jvm.Cond.eq (Jvm.Term.elem (Jvm.Term.static "Boringhead" "STRENGTH" "[I") (Jvm.Term.int (1 : Int32))) (Jvm.Term.int (5 : Int32))).before A s = true := an_l (an_r (an_r (an_r (an_l (an_r (an_r (an_l (an_l (an_l (an_l (an_r h)))))))))))
theorem nb_14 {A : Array Value} {s : State} (h : (Cond.and given_1 narrow_1).before A s = true) : (Jvm.Cond.eq (Jvm.Term.elem (Jvm.Term.static "Boringhead" "STRENGTH" "[I") (Jvm.Term.int (2 : Int32))) (Jvm.Term.int (20 : Int32))).before A s = true := an_r (an_r (an_r (an_r (an_l (an_r (an_r (an_l (an_l (an_l (an_l (an_r h)))))))))))
theorem nb_15 {A : Array Value} {s : State} (h : (Cond.and given_1 narrow_1).before A s = true) : (Jvm.Cond.eq (Jvm.Term.elem (Jvm.Term.static "Boringhead" "STRENGTH" "[I") (Jvm.Term.int (3 : Int32))) (Jvm.Term.int (7 : Int32))).before A s = true := an_l (an_l (an_l (an_r (an_r (an_r (an_l (an_l (an_l (an_l (an_r h))))))))))
theorem nb_16 {A : Array Value} {s : State} (h : (Cond.and given_1 narrow_1).before A s = true) : (Jvm.Cond.arrayOf (Jvm.Term.static "Boringhead" "STRENGTH" "[I") Jvm.ClassFile.FieldType.int).before A s = true := an_l (an_r (an_l (an_r (an_l (an_r (an_r (an_l (an_l (an_l (an_l (an_r h)))))))))))
theorem nb_17 {A : Array Value} {s : State} (h : (Cond.and given_1 narrow_1).before A s = true) : (Jvm.Cond.eq (Jvm.Term.length (Jvm.Term.static "Boringhead" "STRENGTH" "[I")) (Jvm.Term.int (4 : Int32))).before A s = true := an_r (an_r (an_l (an_r (an_l (an_r (an_r (an_l (an_l (an_l (an_l (an_r h)))))))))))
theorem sa_2 {b : Nat} {s : State} (hts : ∀ w ∈ lw_tbl, w.before #[Value.ref b] s = true) (hgv : (Cond.and given_1 narrow_1).before #[Value.ref b] s = true) (hA : ∀ a : Nat, a < s.heap.size → ¬ s.heap.size ≤ a) : ∃ t : Nat, (Jvm.Term.static "Boringhead" "STRENGTH" "[I").eval #[Value.ref b] s none [] s = some (.ref t) ∧ va_Z "Boringhead" "STRENGTH" "[I" (.ref t) (fun q => s.heap.size ≤ q) s s.heap ∧ va_T .int t 4 (fun j => .int (stF [8, 5, 20, 7] j)) (fun q => s.heap.size ≤ q) s s.heap := by
  have el : ∀ j : Nat, j < 4 → (Term.elem (Jvm.Term.static "Boringhead" "STRENGTH" "[I") (.int (Int32.ofNat j))).eval #[Value.ref b] s none [] s = some (.int (stF [8, 5, 20, 7] j)) := by
    intro j hj
    rcases j with _ | _ | _ | _ | j
    · exact va_eqt (nb_12 hgv)
    · exact va_eqt (nb_13 hgv)
    · exact va_eqt (nb_14 hgv)
    · exact va_eqt (nb_15 hgv)
    · exact absurd hj (by omega)
  obtain ⟨t, ht, hT⟩ := va_Tof (A := fun q => s.heap.size ≤ q) (tm := (Jvm.Term.static "Boringhead" "STRENGTH" "[I")) (ty := .int) (N := 4) (f := fun j => .int (stF [8, 5, 20, 7] j)) (by decide) (nb_16 hgv) (va_eqt (nb_17 hgv)) el hA
  exact ⟨t, ht, va_Zref (hts _ tw_751) (hts _ tw_1) ht hA, hT⟩
theorem nb_18 {A : Array Value} {s : State} (h : (Cond.and given_1 narrow_1).before A s = true) : (Jvm.Cond.eq (Jvm.Term.elem (Jvm.Term.static "Boringhead" "WEAR" "[I") (Jvm.Term.int (0 : Int32))) (Jvm.Term.int (1 : Int32))).before A s = true := an_l (an_r (an_r (an_l (an_r (an_r (an_r (an_l (an_l (an_l (an_l (an_r h)))))))))))
theorem nb_19 {A : Array Value} {s : State} (h : (Cond.and given_1 narrow_1).before A s = true) : (Jvm.Cond.eq (Jvm.Term.elem (Jvm.Term.static "Boringhead" "WEAR" "[I") (Jvm.Term.int (1 : Int32))) (Jvm.Term.int (4 : Int32))).before A s = true := an_r (an_r (an_r (an_l (an_r (an_r (an_r (an_l (an_l (an_l (an_l (an_r h)))))))))))
theorem nb_20 {A : Array Value} {s : State} (h : (Cond.and given_1 narrow_1).before A s = true) : (Jvm.Cond.eq (Jvm.Term.elem (Jvm.Term.static "Boringhead" "WEAR" "[I") (Jvm.Term.int (2 : Int32))) (Jvm.Term.int (12 : Int32))).before A s = true := an_l (an_l (an_r (an_r (an_r (an_r (an_l (an_l (an_l (an_l (an_r h))))))))))
theorem nb_21 {A : Array Value} {s : State} (h : (Cond.and given_1 narrow_1).before A s = true) : (Jvm.Cond.eq (Jvm.Term.elem (Jvm.Term.static "Boringhead" "WEAR" "[I") (Jvm.Term.int (3 : Int32))) (Jvm.Term.int (20 : Int32))).before A s = true := an_l (an_r (an_l (an_r (an_r (an_r (an_r (an_l (an_l (an_l (an_l (an_r h)))))))))))
theorem nb_22 {A : Array Value} {s : State} (h : (Cond.and given_1 narrow_1).before A s = true) : (Jvm.Cond.arrayOf (Jvm.Term.static "Boringhead" "WEAR" "[I") Jvm.ClassFile.FieldType.int).before A s = true := an_r (an_r (an_l (an_l (an_r (an_r (an_r (an_l (an_l (an_l (an_l (an_r h)))))))))))
theorem nb_23 {A : Array Value} {s : State} (h : (Cond.and given_1 narrow_1).before A s = true) : (Jvm.Cond.eq (Jvm.Term.length (Jvm.Term.static "Boringhead" "WEAR" "[I")) (Jvm.Term.int (4 : Int32))).before A s = true := an_l (an_r (an_l (an_r (an_r (an_r (an_l (an_l (an_l (an_l (an_r h))))))))))
theorem sa_3 {b : Nat} {s : State} (hts : ∀ w ∈ lw_tbl, w.before #[Value.ref b] s = true) (hgv : (Cond.and given_1 narrow_1).before #[Value.ref b] s = true) (hA : ∀ a : Nat, a < s.heap.size → ¬ s.heap.size ≤ a) : ∃ t : Nat, (Jvm.Term.static "Boringhead" "WEAR" "[I").eval #[Value.ref b] s none [] s = some (.ref t) ∧ va_Z "Boringhead" "WEAR" "[I" (.ref t) (fun q => s.heap.size ≤ q) s s.heap ∧ va_T .int t 4 (fun j => .int (stF [1, 4, 12, 20] j)) (fun q => s.heap.size ≤ q) s s.heap := by
  have el : ∀ j : Nat, j < 4 → (Term.elem (Jvm.Term.static "Boringhead" "WEAR" "[I") (.int (Int32.ofNat j))).eval #[Value.ref b] s none [] s = some (.int (stF [1, 4, 12, 20] j)) := by
    intro j hj
    rcases j with _ | _ | _ | _ | j
    · exact va_eqt (nb_18 hgv)
    · exact va_eqt (nb_19 hgv)
    · exact va_eqt (nb_20 hgv)
    · exact va_eqt (nb_21 hgv)
    · exact absurd hj (by omega)
  obtain ⟨t, ht, hT⟩ := va_Tof (A := fun q => s.heap.size ≤ q) (tm := (Jvm.Term.static "Boringhead" "WEAR" "[I")) (ty := .int) (N := 4) (f := fun j => .int (stF [1, 4, 12, 20] j)) (by decide) (nb_22 hgv) (va_eqt (nb_23 hgv)) el hA
  exact ⟨t, ht, va_Zref (hts _ tw_947) (hts _ tw_1) ht hA, hT⟩
theorem nb_24 {A : Array Value} {s : State} (h : (Cond.and given_1 narrow_1).before A s = true) : (Jvm.Cond.eq (Jvm.Term.elem (Jvm.Term.static "Boringhead" "BULK" "[I") (Jvm.Term.int (0 : Int32))) (Jvm.Term.int (130 : Int32))).before A s = true := an_l (an_r (an_r (an_l (an_l (an_l (an_r (an_l (an_l (an_l (an_l (an_r h)))))))))))
theorem nb_25 {A : Array Value} {s : State} (h : (Cond.and given_1 narrow_1).before A s = true) : (Jvm.Cond.eq (Jvm.Term.elem (Jvm.Term.static "Boringhead" "BULK" "[I") (Jvm.Term.int (1 : Int32))) (Jvm.Term.int (120 : Int32))).before A s = true := an_r (an_r (an_r (an_l (an_l (an_l (an_r (an_l (an_l (an_l (an_l (an_r h)))))))))))
theorem nb_26 {A : Array Value} {s : State} (h : (Cond.and given_1 narrow_1).before A s = true) : (Jvm.Cond.eq (Jvm.Term.elem (Jvm.Term.static "Boringhead" "BULK" "[I") (Jvm.Term.int (2 : Int32))) (Jvm.Term.int (160 : Int32))).before A s = true := an_l (an_l (an_r (an_l (an_l (an_r (an_l (an_l (an_l (an_l (an_r h))))))))))
theorem nb_27 {A : Array Value} {s : State} (h : (Cond.and given_1 narrow_1).before A s = true) : (Jvm.Cond.eq (Jvm.Term.elem (Jvm.Term.static "Boringhead" "BULK" "[I") (Jvm.Term.int (3 : Int32))) (Jvm.Term.int (140 : Int32))).before A s = true := an_l (an_r (an_l (an_r (an_l (an_l (an_r (an_l (an_l (an_l (an_l (an_r h)))))))))))
theorem nb_28 {A : Array Value} {s : State} (h : (Cond.and given_1 narrow_1).before A s = true) : (Jvm.Cond.arrayOf (Jvm.Term.static "Boringhead" "BULK" "[I") Jvm.ClassFile.FieldType.int).before A s = true := an_r (an_r (an_l (an_l (an_l (an_l (an_r (an_l (an_l (an_l (an_l (an_r h)))))))))))
theorem nb_29 {A : Array Value} {s : State} (h : (Cond.and given_1 narrow_1).before A s = true) : (Jvm.Cond.eq (Jvm.Term.length (Jvm.Term.static "Boringhead" "BULK" "[I")) (Jvm.Term.int (4 : Int32))).before A s = true := an_l (an_r (an_l (an_l (an_l (an_r (an_l (an_l (an_l (an_l (an_r h))))))))))
theorem sa_4 {b : Nat} {s : State} (hts : ∀ w ∈ lw_tbl, w.before #[Value.ref b] s = true) (hgv : (Cond.and given_1 narrow_1).before #[Value.ref b] s = true) (hA : ∀ a : Nat, a < s.heap.size → ¬ s.heap.size ≤ a) : ∃ t : Nat, (Jvm.Term.static "Boringhead" "BULK" "[I").eval #[Value.ref b] s none [] s = some (.ref t) ∧ va_Z "Boringhead" "BULK" "[I" (.ref t) (fun q => s.heap.size ≤ q) s s.heap ∧ va_T .int t 4 (fun j => .int (stF [130, 120, 160, 140] j)) (fun q => s.heap.size ≤ q) s s.heap := by
  have el : ∀ j : Nat, j < 4 → (Term.elem (Jvm.Term.static "Boringhead" "BULK" "[I") (.int (Int32.ofNat j))).eval #[Value.ref b] s none [] s = some (.int (stF [130, 120, 160, 140] j)) := by
    intro j hj
    rcases j with _ | _ | _ | _ | j
    · exact va_eqt (nb_24 hgv)
    · exact va_eqt (nb_25 hgv)
    · exact va_eqt (nb_26 hgv)
    · exact va_eqt (nb_27 hgv)
    · exact absurd hj (by omega)
  obtain ⟨t, ht, hT⟩ := va_Tof (A := fun q => s.heap.size ≤ q) (tm := (Jvm.Term.static "Boringhead" "BULK" "[I")) (ty := .int) (N := 4) (f := fun j => .int (stF [130, 120, 160, 140] j)) (by decide) (nb_28 hgv) (va_eqt (nb_29 hgv)) el hA
  exact ⟨t, ht, va_Zref (hts _ tw_386) (hts _ tw_1) ht hA, hT⟩
theorem nb_30 {A : Array Value} {s : State} (h : (Cond.and given_1 narrow_1).before A s = true) : (Jvm.Cond.eq (Jvm.Term.elem (Jvm.Term.static "Boringhead" "MINUTES" "[I") (Jvm.Term.int (0 : Int32))) (Jvm.Term.int (30 : Int32))).before A s = true := an_r (an_r (an_r (an_r (an_l (an_l (an_r (an_l (an_l (an_l (an_l (an_r h)))))))))))
theorem nb_31 {A : Array Value} {s : State} (h : (Cond.and given_1 narrow_1).before A s = true) : (Jvm.Cond.eq (Jvm.Term.elem (Jvm.Term.static "Boringhead" "MINUTES" "[I") (Jvm.Term.int (1 : Int32))) (Jvm.Term.int (40 : Int32))).before A s = true := an_l (an_l (an_l (an_r (an_l (an_r (an_l (an_l (an_l (an_l (an_r h))))))))))
theorem nb_32 {A : Array Value} {s : State} (h : (Cond.and given_1 narrow_1).before A s = true) : (Jvm.Cond.eq (Jvm.Term.elem (Jvm.Term.static "Boringhead" "MINUTES" "[I") (Jvm.Term.int (2 : Int32))) (Jvm.Term.int (90 : Int32))).before A s = true := an_l (an_r (an_l (an_l (an_r (an_l (an_r (an_l (an_l (an_l (an_l (an_r h)))))))))))
theorem nb_33 {A : Array Value} {s : State} (h : (Cond.and given_1 narrow_1).before A s = true) : (Jvm.Cond.eq (Jvm.Term.elem (Jvm.Term.static "Boringhead" "MINUTES" "[I") (Jvm.Term.int (3 : Int32))) (Jvm.Term.int (70 : Int32))).before A s = true := an_r (an_r (an_l (an_l (an_r (an_l (an_r (an_l (an_l (an_l (an_l (an_r h)))))))))))
theorem nb_34 {A : Array Value} {s : State} (h : (Cond.and given_1 narrow_1).before A s = true) : (Jvm.Cond.arrayOf (Jvm.Term.static "Boringhead" "MINUTES" "[I") Jvm.ClassFile.FieldType.int).before A s = true := an_l (an_r (an_r (an_l (an_l (an_r (an_l (an_l (an_l (an_l (an_r h))))))))))
theorem nb_35 {A : Array Value} {s : State} (h : (Cond.and given_1 narrow_1).before A s = true) : (Jvm.Cond.eq (Jvm.Term.length (Jvm.Term.static "Boringhead" "MINUTES" "[I")) (Jvm.Term.int (4 : Int32))).before A s = true := an_l (an_r (an_r (an_r (an_l (an_l (an_r (an_l (an_l (an_l (an_l (an_r h)))))))))))
theorem sa_5 {b : Nat} {s : State} (hts : ∀ w ∈ lw_tbl, w.before #[Value.ref b] s = true) (hgv : (Cond.and given_1 narrow_1).before #[Value.ref b] s = true) (hA : ∀ a : Nat, a < s.heap.size → ¬ s.heap.size ≤ a) : ∃ t : Nat, (Jvm.Term.static "Boringhead" "MINUTES" "[I").eval #[Value.ref b] s none [] s = some (.ref t) ∧ va_Z "Boringhead" "MINUTES" "[I" (.ref t) (fun q => s.heap.size ≤ q) s s.heap ∧ va_T .int t 4 (fun j => .int (stF [30, 40, 90, 70] j)) (fun q => s.heap.size ≤ q) s s.heap := by
  have el : ∀ j : Nat, j < 4 → (Term.elem (Jvm.Term.static "Boringhead" "MINUTES" "[I") (.int (Int32.ofNat j))).eval #[Value.ref b] s none [] s = some (.int (stF [30, 40, 90, 70] j)) := by
    intro j hj
    rcases j with _ | _ | _ | _ | j
    · exact va_eqt (nb_30 hgv)
    · exact va_eqt (nb_31 hgv)
    · exact va_eqt (nb_32 hgv)
    · exact va_eqt (nb_33 hgv)
    · exact absurd hj (by omega)
  obtain ⟨t, ht, hT⟩ := va_Tof (A := fun q => s.heap.size ≤ q) (tm := (Jvm.Term.static "Boringhead" "MINUTES" "[I")) (ty := .int) (N := 4) (f := fun j => .int (stF [30, 40, 90, 70] j)) (by decide) (nb_34 hgv) (va_eqt (nb_35 hgv)) el hA
  exact ⟨t, ht, va_Zref (hts _ tw_396) (hts _ tw_1) ht hA, hT⟩
theorem nb_36 {A : Array Value} {s : State} (h : (Cond.and given_1 narrow_1).before A s = true) : (Jvm.Cond.eq (Jvm.Term.elem (Jvm.Term.static "Boringhead" "OVERCUT" "[I") (Jvm.Term.int (0 : Int32))) (Jvm.Term.int (2 : Int32))).before A s = true := an_l (an_l (an_l (an_l (an_r (an_l (an_l (an_l (an_l (an_l (an_r h))))))))))
theorem nb_37 {A : Array Value} {s : State} (h : (Cond.and given_1 narrow_1).before A s = true) : (Jvm.Cond.eq (Jvm.Term.elem (Jvm.Term.static "Boringhead" "OVERCUT" "[I") (Jvm.Term.int (1 : Int32))) (Jvm.Term.int (5 : Int32))).before A s = true := an_l (an_r (an_l (an_l (an_l (an_r (an_l (an_l (an_l (an_l (an_l (an_r h)))))))))))
theorem nb_38 {A : Array Value} {s : State} (h : (Cond.and given_1 narrow_1).before A s = true) : (Jvm.Cond.eq (Jvm.Term.elem (Jvm.Term.static "Boringhead" "OVERCUT" "[I") (Jvm.Term.int (2 : Int32))) (Jvm.Term.int (1 : Int32))).before A s = true := an_r (an_r (an_l (an_l (an_l (an_r (an_l (an_l (an_l (an_l (an_l (an_r h)))))))))))
theorem nb_39 {A : Array Value} {s : State} (h : (Cond.and given_1 narrow_1).before A s = true) : (Jvm.Cond.eq (Jvm.Term.elem (Jvm.Term.static "Boringhead" "OVERCUT" "[I") (Jvm.Term.int (3 : Int32))) (Jvm.Term.int (4 : Int32))).before A s = true := an_l (an_r (an_l (an_l (an_r (an_l (an_l (an_l (an_l (an_l (an_r h))))))))))
theorem nb_40 {A : Array Value} {s : State} (h : (Cond.and given_1 narrow_1).before A s = true) : (Jvm.Cond.arrayOf (Jvm.Term.static "Boringhead" "OVERCUT" "[I") Jvm.ClassFile.FieldType.int).before A s = true := an_l (an_r (an_r (an_r (an_r (an_l (an_l (an_l (an_l (an_l (an_l (an_r h)))))))))))
theorem nb_41 {A : Array Value} {s : State} (h : (Cond.and given_1 narrow_1).before A s = true) : (Jvm.Cond.eq (Jvm.Term.length (Jvm.Term.static "Boringhead" "OVERCUT" "[I")) (Jvm.Term.int (4 : Int32))).before A s = true := an_r (an_r (an_r (an_r (an_r (an_l (an_l (an_l (an_l (an_l (an_l (an_r h)))))))))))
theorem sa_6 {b : Nat} {s : State} (hts : ∀ w ∈ lw_tbl, w.before #[Value.ref b] s = true) (hgv : (Cond.and given_1 narrow_1).before #[Value.ref b] s = true) (hA : ∀ a : Nat, a < s.heap.size → ¬ s.heap.size ≤ a) : ∃ t : Nat, (Jvm.Term.static "Boringhead" "OVERCUT" "[I").eval #[Value.ref b] s none [] s = some (.ref t) ∧ va_Z "Boringhead" "OVERCUT" "[I" (.ref t) (fun q => s.heap.size ≤ q) s s.heap ∧ va_T .int t 4 (fun j => .int (stF [2, 5, 1, 4] j)) (fun q => s.heap.size ≤ q) s s.heap := by
  have el : ∀ j : Nat, j < 4 → (Term.elem (Jvm.Term.static "Boringhead" "OVERCUT" "[I") (.int (Int32.ofNat j))).eval #[Value.ref b] s none [] s = some (.int (stF [2, 5, 1, 4] j)) := by
    intro j hj
    rcases j with _ | _ | _ | _ | j
    · exact va_eqt (nb_36 hgv)
    · exact va_eqt (nb_37 hgv)
    · exact va_eqt (nb_38 hgv)
    · exact va_eqt (nb_39 hgv)
    · exact absurd hj (by omega)
  obtain ⟨t, ht, hT⟩ := va_Tof (A := fun q => s.heap.size ≤ q) (tm := (Jvm.Term.static "Boringhead" "OVERCUT" "[I")) (ty := .int) (N := 4) (f := fun j => .int (stF [2, 5, 1, 4] j)) (by decide) (nb_40 hgv) (va_eqt (nb_41 hgv)) el hA
  exact ⟨t, ht, va_Zref (hts _ tw_342) (hts _ tw_1) ht hA, hT⟩
theorem nb_42 {A : Array Value} {s : State} (h : (Cond.and given_1 narrow_1).before A s = true) : (Jvm.Cond.eq (Jvm.Term.elem (Jvm.Term.static "Boringhead" "TURN_RIGHT" "[I") (Jvm.Term.int (0 : Int32))) (Jvm.Term.int (0 : Int32))).before A s = true := an_l (an_r (an_l (an_r (an_l (an_r (an_l (an_l (an_l (an_l (an_l (an_r h)))))))))))
theorem nb_43 {A : Array Value} {s : State} (h : (Cond.and given_1 narrow_1).before A s = true) : (Jvm.Cond.eq (Jvm.Term.elem (Jvm.Term.static "Boringhead" "TURN_RIGHT" "[I") (Jvm.Term.int (1 : Int32))) (Jvm.Term.int (7 : Int32))).before A s = true := an_r (an_r (an_l (an_r (an_l (an_r (an_l (an_l (an_l (an_l (an_l (an_r h)))))))))))
theorem nb_44 {A : Array Value} {s : State} (h : (Cond.and given_1 narrow_1).before A s = true) : (Jvm.Cond.eq (Jvm.Term.elem (Jvm.Term.static "Boringhead" "TURN_RIGHT" "[I") (Jvm.Term.int (2 : Int32))) (Jvm.Term.int (10 : Int32))).before A s = true := an_l (an_r (an_r (an_l (an_r (an_l (an_l (an_l (an_l (an_l (an_r h))))))))))
theorem nb_45 {A : Array Value} {s : State} (h : (Cond.and given_1 narrow_1).before A s = true) : (Jvm.Cond.eq (Jvm.Term.elem (Jvm.Term.static "Boringhead" "TURN_RIGHT" "[I") (Jvm.Term.int (3 : Int32))) (Jvm.Term.int (7 : Int32))).before A s = true := an_l (an_r (an_r (an_r (an_l (an_r (an_l (an_l (an_l (an_l (an_l (an_r h)))))))))))
theorem nb_46 {A : Array Value} {s : State} (h : (Cond.and given_1 narrow_1).before A s = true) : (Jvm.Cond.eq (Jvm.Term.elem (Jvm.Term.static "Boringhead" "TURN_RIGHT" "[I") (Jvm.Term.int (4 : Int32))) (Jvm.Term.int (0 : Int32))).before A s = true := an_r (an_r (an_r (an_r (an_l (an_r (an_l (an_l (an_l (an_l (an_l (an_r h)))))))))))
theorem nb_47 {A : Array Value} {s : State} (h : (Cond.and given_1 narrow_1).before A s = true) : (Jvm.Cond.eq (Jvm.Term.elem (Jvm.Term.static "Boringhead" "TURN_RIGHT" "[I") (Jvm.Term.int (5 : Int32))) (Jvm.Term.int (-7 : Int32))).before A s = true := an_l (an_l (an_l (an_r (an_r (an_l (an_l (an_l (an_l (an_l (an_r h))))))))))
theorem nb_48 {A : Array Value} {s : State} (h : (Cond.and given_1 narrow_1).before A s = true) : (Jvm.Cond.eq (Jvm.Term.elem (Jvm.Term.static "Boringhead" "TURN_RIGHT" "[I") (Jvm.Term.int (6 : Int32))) (Jvm.Term.int (-10 : Int32))).before A s = true := an_l (an_r (an_l (an_l (an_r (an_r (an_l (an_l (an_l (an_l (an_l (an_r h)))))))))))
theorem nb_49 {A : Array Value} {s : State} (h : (Cond.and given_1 narrow_1).before A s = true) : (Jvm.Cond.eq (Jvm.Term.elem (Jvm.Term.static "Boringhead" "TURN_RIGHT" "[I") (Jvm.Term.int (7 : Int32))) (Jvm.Term.int (-7 : Int32))).before A s = true := an_r (an_r (an_l (an_l (an_r (an_r (an_l (an_l (an_l (an_l (an_l (an_r h)))))))))))
theorem nb_50 {A : Array Value} {s : State} (h : (Cond.and given_1 narrow_1).before A s = true) : (Jvm.Cond.arrayOf (Jvm.Term.static "Boringhead" "TURN_RIGHT" "[I") Jvm.ClassFile.FieldType.int).before A s = true := an_r (an_r (an_r (an_l (an_l (an_r (an_l (an_l (an_l (an_l (an_l (an_r h)))))))))))
theorem nb_51 {A : Array Value} {s : State} (h : (Cond.and given_1 narrow_1).before A s = true) : (Jvm.Cond.eq (Jvm.Term.length (Jvm.Term.static "Boringhead" "TURN_RIGHT" "[I")) (Jvm.Term.int (8 : Int32))).before A s = true := an_l (an_l (an_r (an_l (an_r (an_l (an_l (an_l (an_l (an_l (an_r h))))))))))
theorem sa_7 {b : Nat} {s : State} (hts : ∀ w ∈ lw_tbl, w.before #[Value.ref b] s = true) (hgv : (Cond.and given_1 narrow_1).before #[Value.ref b] s = true) (hA : ∀ a : Nat, a < s.heap.size → ¬ s.heap.size ≤ a) : ∃ t : Nat, (Jvm.Term.static "Boringhead" "TURN_RIGHT" "[I").eval #[Value.ref b] s none [] s = some (.ref t) ∧ va_Z "Boringhead" "TURN_RIGHT" "[I" (.ref t) (fun q => s.heap.size ≤ q) s s.heap ∧ va_T .int t 8 (fun j => .int (stF [0, 7, 10, 7, 0, -7, -10, -7] j)) (fun q => s.heap.size ≤ q) s s.heap := by
  have el : ∀ j : Nat, j < 8 → (Term.elem (Jvm.Term.static "Boringhead" "TURN_RIGHT" "[I") (.int (Int32.ofNat j))).eval #[Value.ref b] s none [] s = some (.int (stF [0, 7, 10, 7, 0, -7, -10, -7] j)) := by
    intro j hj
    rcases j with _ | _ | _ | _ | _ | _ | _ | _ | j
    · exact va_eqt (nb_42 hgv)
    · exact va_eqt (nb_43 hgv)
    · exact va_eqt (nb_44 hgv)
    · exact va_eqt (nb_45 hgv)
    · exact va_eqt (nb_46 hgv)
    · exact va_eqt (nb_47 hgv)
    · exact va_eqt (nb_48 hgv)
    · exact va_eqt (nb_49 hgv)
    · exact absurd hj (by omega)
  obtain ⟨t, ht, hT⟩ := va_Tof (A := fun q => s.heap.size ≤ q) (tm := (Jvm.Term.static "Boringhead" "TURN_RIGHT" "[I")) (ty := .int) (N := 8) (f := fun j => .int (stF [0, 7, 10, 7, 0, -7, -10, -7] j)) (by decide) (nb_50 hgv) (va_eqt (nb_51 hgv)) el hA
  exact ⟨t, ht, va_Zref (hts _ tw_366) (hts _ tw_1) ht hA, hT⟩
theorem nb_52 {A : Array Value} {s : State} (h : (Cond.and given_1 narrow_1).before A s = true) : (Jvm.Cond.eq (Jvm.Term.elem (Jvm.Term.static "Boringhead" "TURN_UP" "[I") (Jvm.Term.int (0 : Int32))) (Jvm.Term.int (10 : Int32))).before A s = true := an_l (an_l (an_r (an_r (an_r (an_l (an_l (an_l (an_l (an_l (an_r h))))))))))
theorem nb_53 {A : Array Value} {s : State} (h : (Cond.and given_1 narrow_1).before A s = true) : (Jvm.Cond.eq (Jvm.Term.elem (Jvm.Term.static "Boringhead" "TURN_UP" "[I") (Jvm.Term.int (1 : Int32))) (Jvm.Term.int (7 : Int32))).before A s = true := an_l (an_r (an_l (an_r (an_r (an_r (an_l (an_l (an_l (an_l (an_l (an_r h)))))))))))
theorem nb_54 {A : Array Value} {s : State} (h : (Cond.and given_1 narrow_1).before A s = true) : (Jvm.Cond.eq (Jvm.Term.elem (Jvm.Term.static "Boringhead" "TURN_UP" "[I") (Jvm.Term.int (2 : Int32))) (Jvm.Term.int (0 : Int32))).before A s = true := an_r (an_r (an_l (an_r (an_r (an_r (an_l (an_l (an_l (an_l (an_l (an_r h)))))))))))
theorem nb_55 {A : Array Value} {s : State} (h : (Cond.and given_1 narrow_1).before A s = true) : (Jvm.Cond.eq (Jvm.Term.elem (Jvm.Term.static "Boringhead" "TURN_UP" "[I") (Jvm.Term.int (3 : Int32))) (Jvm.Term.int (-7 : Int32))).before A s = true := an_l (an_l (an_r (an_r (an_r (an_r (an_l (an_l (an_l (an_l (an_l (an_r h)))))))))))
theorem nb_56 {A : Array Value} {s : State} (h : (Cond.and given_1 narrow_1).before A s = true) : (Jvm.Cond.eq (Jvm.Term.elem (Jvm.Term.static "Boringhead" "TURN_UP" "[I") (Jvm.Term.int (4 : Int32))) (Jvm.Term.int (-10 : Int32))).before A s = true := an_r (an_l (an_r (an_r (an_r (an_r (an_l (an_l (an_l (an_l (an_l (an_r h)))))))))))
theorem nb_57 {A : Array Value} {s : State} (h : (Cond.and given_1 narrow_1).before A s = true) : (Jvm.Cond.eq (Jvm.Term.elem (Jvm.Term.static "Boringhead" "TURN_UP" "[I") (Jvm.Term.int (5 : Int32))) (Jvm.Term.int (-7 : Int32))).before A s = true := an_l (an_r (an_r (an_r (an_r (an_r (an_l (an_l (an_l (an_l (an_l (an_r h)))))))))))
theorem nb_58 {A : Array Value} {s : State} (h : (Cond.and given_1 narrow_1).before A s = true) : (Jvm.Cond.eq (Jvm.Term.elem (Jvm.Term.static "Boringhead" "TURN_UP" "[I") (Jvm.Term.int (6 : Int32))) (Jvm.Term.int (0 : Int32))).before A s = true := an_r (an_r (an_r (an_r (an_r (an_r (an_l (an_l (an_l (an_l (an_l (an_r h)))))))))))
theorem nb_59 {A : Array Value} {s : State} (h : (Cond.and given_1 narrow_1).before A s = true) : (Jvm.Cond.eq (Jvm.Term.elem (Jvm.Term.static "Boringhead" "TURN_UP" "[I") (Jvm.Term.int (7 : Int32))) (Jvm.Term.int (7 : Int32))).before A s = true := an_l (an_l (an_l (an_l (an_l (an_r (an_l (an_l (an_l (an_l (an_r h))))))))))
theorem nb_60 {A : Array Value} {s : State} (h : (Cond.and given_1 narrow_1).before A s = true) : (Jvm.Cond.arrayOf (Jvm.Term.static "Boringhead" "TURN_UP" "[I") Jvm.ClassFile.FieldType.int).before A s = true := an_l (an_r (an_r (an_l (an_r (an_r (an_l (an_l (an_l (an_l (an_l (an_r h)))))))))))
theorem nb_61 {A : Array Value} {s : State} (h : (Cond.and given_1 narrow_1).before A s = true) : (Jvm.Cond.eq (Jvm.Term.length (Jvm.Term.static "Boringhead" "TURN_UP" "[I")) (Jvm.Term.int (8 : Int32))).before A s = true := an_r (an_r (an_r (an_l (an_r (an_r (an_l (an_l (an_l (an_l (an_l (an_r h)))))))))))
theorem sa_8 {b : Nat} {s : State} (hts : ∀ w ∈ lw_tbl, w.before #[Value.ref b] s = true) (hgv : (Cond.and given_1 narrow_1).before #[Value.ref b] s = true) (hA : ∀ a : Nat, a < s.heap.size → ¬ s.heap.size ≤ a) : ∃ t : Nat, (Jvm.Term.static "Boringhead" "TURN_UP" "[I").eval #[Value.ref b] s none [] s = some (.ref t) ∧ va_Z "Boringhead" "TURN_UP" "[I" (.ref t) (fun q => s.heap.size ≤ q) s s.heap ∧ va_T .int t 8 (fun j => .int (stF [10, 7, 0, -7, -10, -7, 0, 7] j)) (fun q => s.heap.size ≤ q) s s.heap := by
  have el : ∀ j : Nat, j < 8 → (Term.elem (Jvm.Term.static "Boringhead" "TURN_UP" "[I") (.int (Int32.ofNat j))).eval #[Value.ref b] s none [] s = some (.int (stF [10, 7, 0, -7, -10, -7, 0, 7] j)) := by
    intro j hj
    rcases j with _ | _ | _ | _ | _ | _ | _ | _ | j
    · exact va_eqt (nb_52 hgv)
    · exact va_eqt (nb_53 hgv)
    · exact va_eqt (nb_54 hgv)
    · exact va_eqt (nb_55 hgv)
    · exact va_eqt (nb_56 hgv)
    · exact va_eqt (nb_57 hgv)
    · exact va_eqt (nb_58 hgv)
    · exact va_eqt (nb_59 hgv)
    · exact absurd hj (by omega)
  obtain ⟨t, ht, hT⟩ := va_Tof (A := fun q => s.heap.size ≤ q) (tm := (Jvm.Term.static "Boringhead" "TURN_UP" "[I")) (ty := .int) (N := 8) (f := fun j => .int (stF [10, 7, 0, -7, -10, -7, 0, 7] j)) (by decide) (nb_60 hgv) (va_eqt (nb_61 hgv)) el hA
  exact ⟨t, ht, va_Zref (hts _ tw_369) (hts _ tw_1) ht hA, hT⟩
theorem nb_62 {A : Array Value} {s : State} (h : (Cond.and given_1 narrow_1).before A s = true) : (Jvm.Cond.eq (Jvm.Term.elem (Jvm.Term.static "Boringhead" "CAUSES" "[C") (Jvm.Term.int (0 : Int32))) (Jvm.Term.int (103 : Int32))).before A s = true := an_l (an_r (an_r (an_l (an_l (an_l (an_l (an_l (an_l (an_l (an_r h))))))))))
theorem nb_63 {A : Array Value} {s : State} (h : (Cond.and given_1 narrow_1).before A s = true) : (Jvm.Cond.eq (Jvm.Term.elem (Jvm.Term.static "Boringhead" "CAUSES" "[C") (Jvm.Term.int (1 : Int32))) (Jvm.Term.int (112 : Int32))).before A s = true := an_l (an_r (an_r (an_r (an_l (an_l (an_l (an_l (an_l (an_l (an_l (an_r h)))))))))))
theorem nb_64 {A : Array Value} {s : State} (h : (Cond.and given_1 narrow_1).before A s = true) : (Jvm.Cond.eq (Jvm.Term.elem (Jvm.Term.static "Boringhead" "CAUSES" "[C") (Jvm.Term.int (2 : Int32))) (Jvm.Term.int (99 : Int32))).before A s = true := an_r (an_r (an_r (an_r (an_l (an_l (an_l (an_l (an_l (an_l (an_l (an_r h)))))))))))
theorem nb_65 {A : Array Value} {s : State} (h : (Cond.and given_1 narrow_1).before A s = true) : (Jvm.Cond.eq (Jvm.Term.elem (Jvm.Term.static "Boringhead" "CAUSES" "[C") (Jvm.Term.int (3 : Int32))) (Jvm.Term.int (115 : Int32))).before A s = true := an_l (an_l (an_l (an_r (an_l (an_l (an_l (an_l (an_l (an_l (an_r h))))))))))
theorem nb_66 {A : Array Value} {s : State} (h : (Cond.and given_1 narrow_1).before A s = true) : (Jvm.Cond.eq (Jvm.Term.elem (Jvm.Term.static "Boringhead" "CAUSES" "[C") (Jvm.Term.int (4 : Int32))) (Jvm.Term.int (109 : Int32))).before A s = true := an_l (an_r (an_l (an_l (an_r (an_l (an_l (an_l (an_l (an_l (an_l (an_r h)))))))))))
theorem nb_67 {A : Array Value} {s : State} (h : (Cond.and given_1 narrow_1).before A s = true) : (Jvm.Cond.eq (Jvm.Term.elem (Jvm.Term.static "Boringhead" "CAUSES" "[C") (Jvm.Term.int (5 : Int32))) (Jvm.Term.int (119 : Int32))).before A s = true := an_r (an_r (an_l (an_l (an_r (an_l (an_l (an_l (an_l (an_l (an_l (an_r h)))))))))))
theorem nb_68 {A : Array Value} {s : State} (h : (Cond.and given_1 narrow_1).before A s = true) : (Jvm.Cond.eq (Jvm.Term.elem (Jvm.Term.static "Boringhead" "CAUSES" "[C") (Jvm.Term.int (6 : Int32))) (Jvm.Term.int (104 : Int32))).before A s = true := an_l (an_r (an_l (an_r (an_l (an_l (an_l (an_l (an_l (an_l (an_r h))))))))))
theorem nb_69 {A : Array Value} {s : State} (h : (Cond.and given_1 narrow_1).before A s = true) : (Jvm.Cond.arrayOf (Jvm.Term.static "Boringhead" "CAUSES" "[C") Jvm.ClassFile.FieldType.char).before A s = true := an_l (an_r (an_l (an_r (an_l (an_l (an_l (an_l (an_l (an_l (an_l (an_r h)))))))))))
theorem nb_70 {A : Array Value} {s : State} (h : (Cond.and given_1 narrow_1).before A s = true) : (Jvm.Cond.eq (Jvm.Term.length (Jvm.Term.static "Boringhead" "CAUSES" "[C")) (Jvm.Term.int (7 : Int32))).before A s = true := an_r (an_r (an_l (an_r (an_l (an_l (an_l (an_l (an_l (an_l (an_l (an_r h)))))))))))
theorem sa_9 {b : Nat} {s : State} (hts : ∀ w ∈ lw_tbl, w.before #[Value.ref b] s = true) (hgv : (Cond.and given_1 narrow_1).before #[Value.ref b] s = true) (hA : ∀ a : Nat, a < s.heap.size → ¬ s.heap.size ≤ a) : ∃ t : Nat, (Jvm.Term.static "Boringhead" "CAUSES" "[C").eval #[Value.ref b] s none [] s = some (.ref t) ∧ va_Z "Boringhead" "CAUSES" "[C" (.ref t) (fun q => s.heap.size ≤ q) s s.heap ∧ va_T .char t 7 (fun j => .int (stF [103, 112, 99, 115, 109, 119, 104] j)) (fun q => s.heap.size ≤ q) s s.heap := by
  have el : ∀ j : Nat, j < 7 → (Term.elem (Jvm.Term.static "Boringhead" "CAUSES" "[C") (.int (Int32.ofNat j))).eval #[Value.ref b] s none [] s = some (.int (stF [103, 112, 99, 115, 109, 119, 104] j)) := by
    intro j hj
    rcases j with _ | _ | _ | _ | _ | _ | _ | j
    · exact va_eqt (nb_62 hgv)
    · exact va_eqt (nb_63 hgv)
    · exact va_eqt (nb_64 hgv)
    · exact va_eqt (nb_65 hgv)
    · exact va_eqt (nb_66 hgv)
    · exact va_eqt (nb_67 hgv)
    · exact va_eqt (nb_68 hgv)
    · exact absurd hj (by omega)
  obtain ⟨t, ht, hT⟩ := va_Tof (A := fun q => s.heap.size ≤ q) (tm := (Jvm.Term.static "Boringhead" "CAUSES" "[C")) (ty := .char) (N := 7) (f := fun j => .int (stF [103, 112, 99, 115, 109, 119, 104] j)) (by decide) (nb_69 hgv) (va_eqt (nb_70 hgv)) el hA
  exact ⟨t, ht, va_Zref (hts _ tw_215) (hts _ tw_1) ht hA, hT⟩
theorem nb_71 {A : Array Value} {s : State} (h : (Cond.and given_1 narrow_1).before A s = true) : (Jvm.Cond.eq (Jvm.Term.elem (Jvm.Term.static "Boringhead" "OWNERS" "[C") (Jvm.Term.int (0 : Int32))) (Jvm.Term.int (98 : Int32))).before A s = true := an_l (an_r (an_l (an_r (an_r (an_l (an_l (an_l (an_l (an_l (an_l (an_r h)))))))))))
theorem nb_72 {A : Array Value} {s : State} (h : (Cond.and given_1 narrow_1).before A s = true) : (Jvm.Cond.eq (Jvm.Term.elem (Jvm.Term.static "Boringhead" "OWNERS" "[C") (Jvm.Term.int (1 : Int32))) (Jvm.Term.int (107 : Int32))).before A s = true := an_r (an_r (an_l (an_r (an_r (an_l (an_l (an_l (an_l (an_l (an_l (an_r h)))))))))))
theorem nb_73 {A : Array Value} {s : State} (h : (Cond.and given_1 narrow_1).before A s = true) : (Jvm.Cond.eq (Jvm.Term.elem (Jvm.Term.static "Boringhead" "OWNERS" "[C") (Jvm.Term.int (2 : Int32))) (Jvm.Term.int (110 : Int32))).before A s = true := an_l (an_l (an_r (an_r (an_r (an_l (an_l (an_l (an_l (an_l (an_l (an_r h)))))))))))
theorem nb_74 {A : Array Value} {s : State} (h : (Cond.and given_1 narrow_1).before A s = true) : (Jvm.Cond.arrayOf (Jvm.Term.static "Boringhead" "OWNERS" "[C") Jvm.ClassFile.FieldType.char).before A s = true := an_r (an_r (an_r (an_l (an_r (an_l (an_l (an_l (an_l (an_l (an_l (an_r h)))))))))))
theorem nb_75 {A : Array Value} {s : State} (h : (Cond.and given_1 narrow_1).before A s = true) : (Jvm.Cond.eq (Jvm.Term.length (Jvm.Term.static "Boringhead" "OWNERS" "[C")) (Jvm.Term.int (3 : Int32))).before A s = true := an_l (an_l (an_r (an_r (an_l (an_l (an_l (an_l (an_l (an_l (an_r h))))))))))
theorem sa_10 {b : Nat} {s : State} (hts : ∀ w ∈ lw_tbl, w.before #[Value.ref b] s = true) (hgv : (Cond.and given_1 narrow_1).before #[Value.ref b] s = true) (hA : ∀ a : Nat, a < s.heap.size → ¬ s.heap.size ≤ a) : ∃ t : Nat, (Jvm.Term.static "Boringhead" "OWNERS" "[C").eval #[Value.ref b] s none [] s = some (.ref t) ∧ va_Z "Boringhead" "OWNERS" "[C" (.ref t) (fun q => s.heap.size ≤ q) s s.heap ∧ va_T .char t 3 (fun j => .int (stF [98, 107, 110] j)) (fun q => s.heap.size ≤ q) s s.heap := by
  have el : ∀ j : Nat, j < 3 → (Term.elem (Jvm.Term.static "Boringhead" "OWNERS" "[C") (.int (Int32.ofNat j))).eval #[Value.ref b] s none [] s = some (.int (stF [98, 107, 110] j)) := by
    intro j hj
    rcases j with _ | _ | _ | j
    · exact va_eqt (nb_71 hgv)
    · exact va_eqt (nb_72 hgv)
    · exact va_eqt (nb_73 hgv)
    · exact absurd hj (by omega)
  obtain ⟨t, ht, hT⟩ := va_Tof (A := fun q => s.heap.size ≤ q) (tm := (Jvm.Term.static "Boringhead" "OWNERS" "[C")) (ty := .char) (N := 3) (f := fun j => .int (stF [98, 107, 110] j)) (by decide) (nb_74 hgv) (va_eqt (nb_75 hgv)) el hA
  exact ⟨t, ht, va_Zref (hts _ tw_224) (hts _ tw_1) ht hA, hT⟩
theorem nb_76 {A : Array Value} {s : State} (h : (Cond.and given_1 narrow_1).before A s = true) : (Jvm.Cond.eq (Jvm.Term.elem (Jvm.Term.static "BoringheadModel" "EARTH" "[I") (Jvm.Term.int (0 : Int32))) (Jvm.Term.int (2 : Int32))).before A s = true := an_l (an_r (an_l (an_l (an_l (an_l (an_r (an_l (an_l (an_l (an_r h))))))))))
theorem nb_77 {A : Array Value} {s : State} (h : (Cond.and given_1 narrow_1).before A s = true) : (Jvm.Cond.eq (Jvm.Term.elem (Jvm.Term.static "BoringheadModel" "EARTH" "[I") (Jvm.Term.int (1 : Int32))) (Jvm.Term.int (4 : Int32))).before A s = true := an_l (an_r (an_r (an_l (an_l (an_l (an_l (an_r (an_l (an_l (an_l (an_r h)))))))))))
theorem nb_78 {A : Array Value} {s : State} (h : (Cond.and given_1 narrow_1).before A s = true) : (Jvm.Cond.eq (Jvm.Term.elem (Jvm.Term.static "BoringheadModel" "EARTH" "[I") (Jvm.Term.int (2 : Int32))) (Jvm.Term.int (0 : Int32))).before A s = true := an_r (an_r (an_r (an_l (an_l (an_l (an_l (an_r (an_l (an_l (an_l (an_r h)))))))))))
theorem nb_79 {A : Array Value} {s : State} (h : (Cond.and given_1 narrow_1).before A s = true) : (Jvm.Cond.eq (Jvm.Term.elem (Jvm.Term.static "BoringheadModel" "EARTH" "[I") (Jvm.Term.int (3 : Int32))) (Jvm.Term.int (3 : Int32))).before A s = true := an_l (an_l (an_r (an_l (an_l (an_l (an_r (an_l (an_l (an_l (an_r h))))))))))
theorem nb_80 {A : Array Value} {s : State} (h : (Cond.and given_1 narrow_1).before A s = true) : (Jvm.Cond.arrayOf (Jvm.Term.static "BoringheadModel" "EARTH" "[I") Jvm.ClassFile.FieldType.int).before A s = true := an_l (an_r (an_l (an_l (an_l (an_l (an_l (an_r (an_l (an_l (an_l (an_r h)))))))))))
theorem nb_81 {A : Array Value} {s : State} (h : (Cond.and given_1 narrow_1).before A s = true) : (Jvm.Cond.eq (Jvm.Term.length (Jvm.Term.static "BoringheadModel" "EARTH" "[I")) (Jvm.Term.int (4 : Int32))).before A s = true := an_r (an_r (an_l (an_l (an_l (an_l (an_l (an_r (an_l (an_l (an_l (an_r h)))))))))))
theorem sa_11 {b : Nat} {s : State} (hts : ∀ w ∈ lw_tbl, w.before #[Value.ref b] s = true) (hgv : (Cond.and given_1 narrow_1).before #[Value.ref b] s = true) (hA : ∀ a : Nat, a < s.heap.size → ¬ s.heap.size ≤ a) : ∃ t : Nat, (Jvm.Term.static "BoringheadModel" "EARTH" "[I").eval #[Value.ref b] s none [] s = some (.ref t) ∧ va_Z "BoringheadModel" "EARTH" "[I" (.ref t) (fun q => s.heap.size ≤ q) s s.heap ∧ va_T .int t 4 (fun j => .int (stF [2, 4, 0, 3] j)) (fun q => s.heap.size ≤ q) s s.heap := by
  have el : ∀ j : Nat, j < 4 → (Term.elem (Jvm.Term.static "BoringheadModel" "EARTH" "[I") (.int (Int32.ofNat j))).eval #[Value.ref b] s none [] s = some (.int (stF [2, 4, 0, 3] j)) := by
    intro j hj
    rcases j with _ | _ | _ | _ | j
    · exact va_eqt (nb_76 hgv)
    · exact va_eqt (nb_77 hgv)
    · exact va_eqt (nb_78 hgv)
    · exact va_eqt (nb_79 hgv)
    · exact absurd hj (by omega)
  obtain ⟨t, ht, hT⟩ := va_Tof (A := fun q => s.heap.size ≤ q) (tm := (Jvm.Term.static "BoringheadModel" "EARTH" "[I")) (ty := .int) (N := 4) (f := fun j => .int (stF [2, 4, 0, 3] j)) (by decide) (nb_80 hgv) (va_eqt (nb_81 hgv)) el hA
  exact ⟨t, ht, va_Zref (hts _ tw_1564) (hts _ tw_11) ht hA, hT⟩
theorem nb_82 {A : Array Value} {s : State} (h : (Cond.and given_1 narrow_1).before A s = true) : (Jvm.Cond.eq (Jvm.Term.elem (Jvm.Term.static "BoringheadModel" "STRENGTH" "[I") (Jvm.Term.int (0 : Int32))) (Jvm.Term.int (8 : Int32))).before A s = true := an_l (an_r (an_r (an_r (an_l (an_l (an_l (an_r (an_l (an_l (an_l (an_r h)))))))))))
theorem nb_83 {A : Array Value} {s : State} (h : (Cond.and given_1 narrow_1).before A s = true) : (Jvm.Cond.eq (Jvm.Term.elem (Jvm.Term.static "BoringheadModel" "STRENGTH" "[I") (Jvm.Term.int (1 : Int32))) (Jvm.Term.int (5 : Int32))).before A s = true := an_r (an_r (an_r (an_r (an_l (an_l (an_l (an_r (an_l (an_l (an_l (an_r h)))))))))))
theorem nb_84 {A : Array Value} {s : State} (h : (Cond.and given_1 narrow_1).before A s = true) : (Jvm.Cond.eq (Jvm.Term.elem (Jvm.Term.static "BoringheadModel" "STRENGTH" "[I") (Jvm.Term.int (2 : Int32))) (Jvm.Term.int (20 : Int32))).before A s = true := an_l (an_l (an_l (an_r (an_l (an_l (an_r (an_l (an_l (an_l (an_r h))))))))))
theorem nb_85 {A : Array Value} {s : State} (h : (Cond.and given_1 narrow_1).before A s = true) : (Jvm.Cond.eq (Jvm.Term.elem (Jvm.Term.static "BoringheadModel" "STRENGTH" "[I") (Jvm.Term.int (3 : Int32))) (Jvm.Term.int (7 : Int32))).before A s = true := an_l (an_r (an_l (an_l (an_r (an_l (an_l (an_r (an_l (an_l (an_l (an_r h)))))))))))
theorem nb_86 {A : Array Value} {s : State} (h : (Cond.and given_1 narrow_1).before A s = true) : (Jvm.Cond.arrayOf (Jvm.Term.static "BoringheadModel" "STRENGTH" "[I") Jvm.ClassFile.FieldType.int).before A s = true := an_r (an_r (an_l (an_r (an_l (an_l (an_l (an_r (an_l (an_l (an_l (an_r h)))))))))))
theorem nb_87 {A : Array Value} {s : State} (h : (Cond.and given_1 narrow_1).before A s = true) : (Jvm.Cond.eq (Jvm.Term.length (Jvm.Term.static "BoringheadModel" "STRENGTH" "[I")) (Jvm.Term.int (4 : Int32))).before A s = true := an_l (an_r (an_r (an_l (an_l (an_l (an_r (an_l (an_l (an_l (an_r h))))))))))
theorem sa_12 {b : Nat} {s : State} (hts : ∀ w ∈ lw_tbl, w.before #[Value.ref b] s = true) (hgv : (Cond.and given_1 narrow_1).before #[Value.ref b] s = true) (hA : ∀ a : Nat, a < s.heap.size → ¬ s.heap.size ≤ a) : ∃ t : Nat, (Jvm.Term.static "BoringheadModel" "STRENGTH" "[I").eval #[Value.ref b] s none [] s = some (.ref t) ∧ va_Z "BoringheadModel" "STRENGTH" "[I" (.ref t) (fun q => s.heap.size ≤ q) s s.heap ∧ va_T .int t 4 (fun j => .int (stF [8, 5, 20, 7] j)) (fun q => s.heap.size ≤ q) s s.heap := by
  have el : ∀ j : Nat, j < 4 → (Term.elem (Jvm.Term.static "BoringheadModel" "STRENGTH" "[I") (.int (Int32.ofNat j))).eval #[Value.ref b] s none [] s = some (.int (stF [8, 5, 20, 7] j)) := by
    intro j hj
    rcases j with _ | _ | _ | _ | j
    · exact va_eqt (nb_82 hgv)
    · exact va_eqt (nb_83 hgv)
    · exact va_eqt (nb_84 hgv)
    · exact va_eqt (nb_85 hgv)
    · exact absurd hj (by omega)
  obtain ⟨t, ht, hT⟩ := va_Tof (A := fun q => s.heap.size ≤ q) (tm := (Jvm.Term.static "BoringheadModel" "STRENGTH" "[I")) (ty := .int) (N := 4) (f := fun j => .int (stF [8, 5, 20, 7] j)) (by decide) (nb_86 hgv) (va_eqt (nb_87 hgv)) el hA
  exact ⟨t, ht, va_Zref (hts _ tw_1574) (hts _ tw_11) ht hA, hT⟩
theorem nb_88 {A : Array Value} {s : State} (h : (Cond.and given_1 narrow_1).before A s = true) : (Jvm.Cond.eq (Jvm.Term.elem (Jvm.Term.static "BoringheadModel" "WEAR" "[I") (Jvm.Term.int (0 : Int32))) (Jvm.Term.int (1 : Int32))).before A s = true := an_l (an_l (an_r (an_l (an_r (an_l (an_r (an_l (an_l (an_l (an_r h))))))))))
theorem nb_89 {A : Array Value} {s : State} (h : (Cond.and given_1 narrow_1).before A s = true) : (Jvm.Cond.eq (Jvm.Term.elem (Jvm.Term.static "BoringheadModel" "WEAR" "[I") (Jvm.Term.int (1 : Int32))) (Jvm.Term.int (4 : Int32))).before A s = true := an_l (an_r (an_l (an_r (an_l (an_r (an_l (an_r (an_l (an_l (an_l (an_r h)))))))))))
theorem nb_90 {A : Array Value} {s : State} (h : (Cond.and given_1 narrow_1).before A s = true) : (Jvm.Cond.eq (Jvm.Term.elem (Jvm.Term.static "BoringheadModel" "WEAR" "[I") (Jvm.Term.int (2 : Int32))) (Jvm.Term.int (12 : Int32))).before A s = true := an_r (an_r (an_l (an_r (an_l (an_r (an_l (an_r (an_l (an_l (an_l (an_r h)))))))))))
theorem nb_91 {A : Array Value} {s : State} (h : (Cond.and given_1 narrow_1).before A s = true) : (Jvm.Cond.eq (Jvm.Term.elem (Jvm.Term.static "BoringheadModel" "WEAR" "[I") (Jvm.Term.int (3 : Int32))) (Jvm.Term.int (20 : Int32))).before A s = true := an_l (an_r (an_r (an_l (an_r (an_l (an_r (an_l (an_l (an_l (an_r h))))))))))
theorem nb_92 {A : Array Value} {s : State} (h : (Cond.and given_1 narrow_1).before A s = true) : (Jvm.Cond.arrayOf (Jvm.Term.static "BoringheadModel" "WEAR" "[I") Jvm.ClassFile.FieldType.int).before A s = true := an_l (an_r (an_r (an_l (an_l (an_r (an_l (an_r (an_l (an_l (an_l (an_r h)))))))))))
theorem nb_93 {A : Array Value} {s : State} (h : (Cond.and given_1 narrow_1).before A s = true) : (Jvm.Cond.eq (Jvm.Term.length (Jvm.Term.static "BoringheadModel" "WEAR" "[I")) (Jvm.Term.int (4 : Int32))).before A s = true := an_r (an_r (an_r (an_l (an_l (an_r (an_l (an_r (an_l (an_l (an_l (an_r h)))))))))))
theorem sa_13 {b : Nat} {s : State} (hts : ∀ w ∈ lw_tbl, w.before #[Value.ref b] s = true) (hgv : (Cond.and given_1 narrow_1).before #[Value.ref b] s = true) (hA : ∀ a : Nat, a < s.heap.size → ¬ s.heap.size ≤ a) : ∃ t : Nat, (Jvm.Term.static "BoringheadModel" "WEAR" "[I").eval #[Value.ref b] s none [] s = some (.ref t) ∧ va_Z "BoringheadModel" "WEAR" "[I" (.ref t) (fun q => s.heap.size ≤ q) s s.heap ∧ va_T .int t 4 (fun j => .int (stF [1, 4, 12, 20] j)) (fun q => s.heap.size ≤ q) s s.heap := by
  have el : ∀ j : Nat, j < 4 → (Term.elem (Jvm.Term.static "BoringheadModel" "WEAR" "[I") (.int (Int32.ofNat j))).eval #[Value.ref b] s none [] s = some (.int (stF [1, 4, 12, 20] j)) := by
    intro j hj
    rcases j with _ | _ | _ | _ | j
    · exact va_eqt (nb_88 hgv)
    · exact va_eqt (nb_89 hgv)
    · exact va_eqt (nb_90 hgv)
    · exact va_eqt (nb_91 hgv)
    · exact absurd hj (by omega)
  obtain ⟨t, ht, hT⟩ := va_Tof (A := fun q => s.heap.size ≤ q) (tm := (Jvm.Term.static "BoringheadModel" "WEAR" "[I")) (ty := .int) (N := 4) (f := fun j => .int (stF [1, 4, 12, 20] j)) (by decide) (nb_92 hgv) (va_eqt (nb_93 hgv)) el hA
  exact ⟨t, ht, va_Zref (hts _ tw_1628) (hts _ tw_11) ht hA, hT⟩
theorem nb_94 {A : Array Value} {s : State} (h : (Cond.and given_1 narrow_1).before A s = true) : (Jvm.Cond.eq (Jvm.Term.elem (Jvm.Term.static "BoringheadModel" "BULK" "[I") (Jvm.Term.int (0 : Int32))) (Jvm.Term.int (130 : Int32))).before A s = true := an_r (an_r (an_r (an_l (an_r (an_l (an_l (an_r (an_l (an_l (an_l (an_r h)))))))))))
theorem nb_95 {A : Array Value} {s : State} (h : (Cond.and given_1 narrow_1).before A s = true) : (Jvm.Cond.eq (Jvm.Term.elem (Jvm.Term.static "BoringheadModel" "BULK" "[I") (Jvm.Term.int (1 : Int32))) (Jvm.Term.int (120 : Int32))).before A s = true := an_l (an_l (an_r (an_r (an_l (an_l (an_r (an_l (an_l (an_l (an_r h))))))))))
theorem nb_96 {A : Array Value} {s : State} (h : (Cond.and given_1 narrow_1).before A s = true) : (Jvm.Cond.eq (Jvm.Term.elem (Jvm.Term.static "BoringheadModel" "BULK" "[I") (Jvm.Term.int (2 : Int32))) (Jvm.Term.int (160 : Int32))).before A s = true := an_l (an_r (an_l (an_r (an_r (an_l (an_l (an_r (an_l (an_l (an_l (an_r h)))))))))))
theorem nb_97 {A : Array Value} {s : State} (h : (Cond.and given_1 narrow_1).before A s = true) : (Jvm.Cond.eq (Jvm.Term.elem (Jvm.Term.static "BoringheadModel" "BULK" "[I") (Jvm.Term.int (3 : Int32))) (Jvm.Term.int (140 : Int32))).before A s = true := an_r (an_r (an_l (an_r (an_r (an_l (an_l (an_r (an_l (an_l (an_l (an_r h)))))))))))
theorem nb_98 {A : Array Value} {s : State} (h : (Cond.and given_1 narrow_1).before A s = true) : (Jvm.Cond.arrayOf (Jvm.Term.static "BoringheadModel" "BULK" "[I") Jvm.ClassFile.FieldType.int).before A s = true := an_l (an_r (an_l (an_r (an_l (an_l (an_r (an_l (an_l (an_l (an_r h))))))))))
theorem nb_99 {A : Array Value} {s : State} (h : (Cond.and given_1 narrow_1).before A s = true) : (Jvm.Cond.eq (Jvm.Term.length (Jvm.Term.static "BoringheadModel" "BULK" "[I")) (Jvm.Term.int (4 : Int32))).before A s = true := an_l (an_r (an_r (an_l (an_r (an_l (an_l (an_r (an_l (an_l (an_l (an_r h)))))))))))
theorem sa_14 {b : Nat} {s : State} (hts : ∀ w ∈ lw_tbl, w.before #[Value.ref b] s = true) (hgv : (Cond.and given_1 narrow_1).before #[Value.ref b] s = true) (hA : ∀ a : Nat, a < s.heap.size → ¬ s.heap.size ≤ a) : ∃ t : Nat, (Jvm.Term.static "BoringheadModel" "BULK" "[I").eval #[Value.ref b] s none [] s = some (.ref t) ∧ va_Z "BoringheadModel" "BULK" "[I" (.ref t) (fun q => s.heap.size ≤ q) s s.heap ∧ va_T .int t 4 (fun j => .int (stF [130, 120, 160, 140] j)) (fun q => s.heap.size ≤ q) s s.heap := by
  have el : ∀ j : Nat, j < 4 → (Term.elem (Jvm.Term.static "BoringheadModel" "BULK" "[I") (.int (Int32.ofNat j))).eval #[Value.ref b] s none [] s = some (.int (stF [130, 120, 160, 140] j)) := by
    intro j hj
    rcases j with _ | _ | _ | _ | j
    · exact va_eqt (nb_94 hgv)
    · exact va_eqt (nb_95 hgv)
    · exact va_eqt (nb_96 hgv)
    · exact va_eqt (nb_97 hgv)
    · exact absurd hj (by omega)
  obtain ⟨t, ht, hT⟩ := va_Tof (A := fun q => s.heap.size ≤ q) (tm := (Jvm.Term.static "BoringheadModel" "BULK" "[I")) (ty := .int) (N := 4) (f := fun j => .int (stF [130, 120, 160, 140] j)) (by decide) (nb_98 hgv) (va_eqt (nb_99 hgv)) el hA
  exact ⟨t, ht, va_Zref (hts _ tw_1619) (hts _ tw_11) ht hA, hT⟩
theorem nb_100 {A : Array Value} {s : State} (h : (Cond.and given_1 narrow_1).before A s = true) : (Jvm.Cond.eq (Jvm.Term.elem (Jvm.Term.static "BoringheadModel" "MINUTES" "[I") (Jvm.Term.int (0 : Int32))) (Jvm.Term.int (30 : Int32))).before A s = true := an_r (an_r (an_r (an_r (an_r (an_l (an_l (an_r (an_l (an_l (an_l (an_r h)))))))))))
theorem nb_101 {A : Array Value} {s : State} (h : (Cond.and given_1 narrow_1).before A s = true) : (Jvm.Cond.eq (Jvm.Term.elem (Jvm.Term.static "BoringheadModel" "MINUTES" "[I") (Jvm.Term.int (1 : Int32))) (Jvm.Term.int (40 : Int32))).before A s = true := an_l (an_l (an_l (an_l (an_r (an_l (an_r (an_l (an_l (an_l (an_r h))))))))))
theorem nb_102 {A : Array Value} {s : State} (h : (Cond.and given_1 narrow_1).before A s = true) : (Jvm.Cond.eq (Jvm.Term.elem (Jvm.Term.static "BoringheadModel" "MINUTES" "[I") (Jvm.Term.int (2 : Int32))) (Jvm.Term.int (90 : Int32))).before A s = true := an_l (an_r (an_l (an_l (an_l (an_r (an_l (an_r (an_l (an_l (an_l (an_r h)))))))))))
theorem nb_103 {A : Array Value} {s : State} (h : (Cond.and given_1 narrow_1).before A s = true) : (Jvm.Cond.eq (Jvm.Term.elem (Jvm.Term.static "BoringheadModel" "MINUTES" "[I") (Jvm.Term.int (3 : Int32))) (Jvm.Term.int (70 : Int32))).before A s = true := an_r (an_r (an_l (an_l (an_l (an_r (an_l (an_r (an_l (an_l (an_l (an_r h)))))))))))
theorem nb_104 {A : Array Value} {s : State} (h : (Cond.and given_1 narrow_1).before A s = true) : (Jvm.Cond.arrayOf (Jvm.Term.static "BoringheadModel" "MINUTES" "[I") Jvm.ClassFile.FieldType.int).before A s = true := an_r (an_l (an_r (an_r (an_r (an_l (an_l (an_r (an_l (an_l (an_l (an_r h)))))))))))
theorem nb_105 {A : Array Value} {s : State} (h : (Cond.and given_1 narrow_1).before A s = true) : (Jvm.Cond.eq (Jvm.Term.length (Jvm.Term.static "BoringheadModel" "MINUTES" "[I")) (Jvm.Term.int (4 : Int32))).before A s = true := an_l (an_r (an_r (an_r (an_r (an_l (an_l (an_r (an_l (an_l (an_l (an_r h)))))))))))
theorem sa_15 {b : Nat} {s : State} (hts : ∀ w ∈ lw_tbl, w.before #[Value.ref b] s = true) (hgv : (Cond.and given_1 narrow_1).before #[Value.ref b] s = true) (hA : ∀ a : Nat, a < s.heap.size → ¬ s.heap.size ≤ a) : ∃ t : Nat, (Jvm.Term.static "BoringheadModel" "MINUTES" "[I").eval #[Value.ref b] s none [] s = some (.ref t) ∧ va_Z "BoringheadModel" "MINUTES" "[I" (.ref t) (fun q => s.heap.size ≤ q) s s.heap ∧ va_T .int t 4 (fun j => .int (stF [30, 40, 90, 70] j)) (fun q => s.heap.size ≤ q) s s.heap := by
  have el : ∀ j : Nat, j < 4 → (Term.elem (Jvm.Term.static "BoringheadModel" "MINUTES" "[I") (.int (Int32.ofNat j))).eval #[Value.ref b] s none [] s = some (.int (stF [30, 40, 90, 70] j)) := by
    intro j hj
    rcases j with _ | _ | _ | _ | j
    · exact va_eqt (nb_100 hgv)
    · exact va_eqt (nb_101 hgv)
    · exact va_eqt (nb_102 hgv)
    · exact va_eqt (nb_103 hgv)
    · exact absurd hj (by omega)
  obtain ⟨t, ht, hT⟩ := va_Tof (A := fun q => s.heap.size ≤ q) (tm := (Jvm.Term.static "BoringheadModel" "MINUTES" "[I")) (ty := .int) (N := 4) (f := fun j => .int (stF [30, 40, 90, 70] j)) (by decide) (nb_104 hgv) (va_eqt (nb_105 hgv)) el hA
  exact ⟨t, ht, va_Zref (hts _ tw_1625) (hts _ tw_11) ht hA, hT⟩
theorem nb_106 {A : Array Value} {s : State} (h : (Cond.and given_1 narrow_1).before A s = true) : (Jvm.Cond.eq (Jvm.Term.elem (Jvm.Term.static "BoringheadModel" "OVERCUT" "[I") (Jvm.Term.int (0 : Int32))) (Jvm.Term.int (2 : Int32))).before A s = true := an_l (an_r (an_r (an_r (an_l (an_l (an_r (an_r (an_l (an_l (an_l (an_r h)))))))))))
theorem nb_107 {A : Array Value} {s : State} (h : (Cond.and given_1 narrow_1).before A s = true) : (Jvm.Cond.eq (Jvm.Term.elem (Jvm.Term.static "BoringheadModel" "OVERCUT" "[I") (Jvm.Term.int (1 : Int32))) (Jvm.Term.int (5 : Int32))).before A s = true := an_r (an_r (an_r (an_r (an_l (an_l (an_r (an_r (an_l (an_l (an_l (an_r h)))))))))))
theorem nb_108 {A : Array Value} {s : State} (h : (Cond.and given_1 narrow_1).before A s = true) : (Jvm.Cond.eq (Jvm.Term.elem (Jvm.Term.static "BoringheadModel" "OVERCUT" "[I") (Jvm.Term.int (2 : Int32))) (Jvm.Term.int (1 : Int32))).before A s = true := an_l (an_l (an_l (an_r (an_l (an_r (an_r (an_l (an_l (an_l (an_r h))))))))))
theorem nb_109 {A : Array Value} {s : State} (h : (Cond.and given_1 narrow_1).before A s = true) : (Jvm.Cond.eq (Jvm.Term.elem (Jvm.Term.static "BoringheadModel" "OVERCUT" "[I") (Jvm.Term.int (3 : Int32))) (Jvm.Term.int (4 : Int32))).before A s = true := an_l (an_r (an_l (an_l (an_r (an_l (an_r (an_r (an_l (an_l (an_l (an_r h)))))))))))
theorem nb_110 {A : Array Value} {s : State} (h : (Cond.and given_1 narrow_1).before A s = true) : (Jvm.Cond.arrayOf (Jvm.Term.static "BoringheadModel" "OVERCUT" "[I") Jvm.ClassFile.FieldType.int).before A s = true := an_r (an_r (an_l (an_r (an_l (an_l (an_r (an_r (an_l (an_l (an_l (an_r h)))))))))))
theorem nb_111 {A : Array Value} {s : State} (h : (Cond.and given_1 narrow_1).before A s = true) : (Jvm.Cond.eq (Jvm.Term.length (Jvm.Term.static "BoringheadModel" "OVERCUT" "[I")) (Jvm.Term.int (4 : Int32))).before A s = true := an_l (an_r (an_r (an_l (an_l (an_r (an_r (an_l (an_l (an_l (an_r h))))))))))
theorem sa_16 {b : Nat} {s : State} (hts : ∀ w ∈ lw_tbl, w.before #[Value.ref b] s = true) (hgv : (Cond.and given_1 narrow_1).before #[Value.ref b] s = true) (hA : ∀ a : Nat, a < s.heap.size → ¬ s.heap.size ≤ a) : ∃ t : Nat, (Jvm.Term.static "BoringheadModel" "OVERCUT" "[I").eval #[Value.ref b] s none [] s = some (.ref t) ∧ va_Z "BoringheadModel" "OVERCUT" "[I" (.ref t) (fun q => s.heap.size ≤ q) s s.heap ∧ va_T .int t 4 (fun j => .int (stF [2, 5, 1, 4] j)) (fun q => s.heap.size ≤ q) s s.heap := by
  have el : ∀ j : Nat, j < 4 → (Term.elem (Jvm.Term.static "BoringheadModel" "OVERCUT" "[I") (.int (Int32.ofNat j))).eval #[Value.ref b] s none [] s = some (.int (stF [2, 5, 1, 4] j)) := by
    intro j hj
    rcases j with _ | _ | _ | _ | j
    · exact va_eqt (nb_106 hgv)
    · exact va_eqt (nb_107 hgv)
    · exact va_eqt (nb_108 hgv)
    · exact va_eqt (nb_109 hgv)
    · exact absurd hj (by omega)
  obtain ⟨t, ht, hT⟩ := va_Tof (A := fun q => s.heap.size ≤ q) (tm := (Jvm.Term.static "BoringheadModel" "OVERCUT" "[I")) (ty := .int) (N := 4) (f := fun j => .int (stF [2, 5, 1, 4] j)) (by decide) (nb_110 hgv) (va_eqt (nb_111 hgv)) el hA
  exact ⟨t, ht, va_Zref (hts _ tw_1723) (hts _ tw_11) ht hA, hT⟩
theorem nb_112 {A : Array Value} {s : State} (h : (Cond.and given_1 narrow_1).before A s = true) : (Jvm.Cond.eq (Jvm.Term.elem (Jvm.Term.static "BoringheadModel" "RIGHT" "[I") (Jvm.Term.int (0 : Int32))) (Jvm.Term.int (0 : Int32))).before A s = true := an_l (an_r (an_l (an_l (an_r (an_r (an_l (an_r (an_l (an_l (an_l (an_r h)))))))))))
theorem nb_113 {A : Array Value} {s : State} (h : (Cond.and given_1 narrow_1).before A s = true) : (Jvm.Cond.eq (Jvm.Term.elem (Jvm.Term.static "BoringheadModel" "RIGHT" "[I") (Jvm.Term.int (1 : Int32))) (Jvm.Term.int (7 : Int32))).before A s = true := an_r (an_r (an_l (an_l (an_r (an_r (an_l (an_r (an_l (an_l (an_l (an_r h)))))))))))
theorem nb_114 {A : Array Value} {s : State} (h : (Cond.and given_1 narrow_1).before A s = true) : (Jvm.Cond.eq (Jvm.Term.elem (Jvm.Term.static "BoringheadModel" "RIGHT" "[I") (Jvm.Term.int (2 : Int32))) (Jvm.Term.int (10 : Int32))).before A s = true := an_l (an_r (an_l (an_r (an_r (an_l (an_r (an_l (an_l (an_l (an_r h))))))))))
theorem nb_115 {A : Array Value} {s : State} (h : (Cond.and given_1 narrow_1).before A s = true) : (Jvm.Cond.eq (Jvm.Term.elem (Jvm.Term.static "BoringheadModel" "RIGHT" "[I") (Jvm.Term.int (3 : Int32))) (Jvm.Term.int (7 : Int32))).before A s = true := an_l (an_r (an_r (an_l (an_r (an_r (an_l (an_r (an_l (an_l (an_l (an_r h)))))))))))
theorem nb_116 {A : Array Value} {s : State} (h : (Cond.and given_1 narrow_1).before A s = true) : (Jvm.Cond.eq (Jvm.Term.elem (Jvm.Term.static "BoringheadModel" "RIGHT" "[I") (Jvm.Term.int (4 : Int32))) (Jvm.Term.int (0 : Int32))).before A s = true := an_r (an_r (an_r (an_l (an_r (an_r (an_l (an_r (an_l (an_l (an_l (an_r h)))))))))))
theorem nb_117 {A : Array Value} {s : State} (h : (Cond.and given_1 narrow_1).before A s = true) : (Jvm.Cond.eq (Jvm.Term.elem (Jvm.Term.static "BoringheadModel" "RIGHT" "[I") (Jvm.Term.int (5 : Int32))) (Jvm.Term.int (-7 : Int32))).before A s = true := an_l (an_l (an_r (an_r (an_r (an_l (an_r (an_l (an_l (an_l (an_r h))))))))))
theorem nb_118 {A : Array Value} {s : State} (h : (Cond.and given_1 narrow_1).before A s = true) : (Jvm.Cond.eq (Jvm.Term.elem (Jvm.Term.static "BoringheadModel" "RIGHT" "[I") (Jvm.Term.int (6 : Int32))) (Jvm.Term.int (-10 : Int32))).before A s = true := an_l (an_r (an_l (an_r (an_r (an_r (an_l (an_r (an_l (an_l (an_l (an_r h)))))))))))
theorem nb_119 {A : Array Value} {s : State} (h : (Cond.and given_1 narrow_1).before A s = true) : (Jvm.Cond.eq (Jvm.Term.elem (Jvm.Term.static "BoringheadModel" "RIGHT" "[I") (Jvm.Term.int (7 : Int32))) (Jvm.Term.int (-7 : Int32))).before A s = true := an_r (an_r (an_l (an_r (an_r (an_r (an_l (an_r (an_l (an_l (an_l (an_r h)))))))))))
theorem nb_120 {A : Array Value} {s : State} (h : (Cond.and given_1 narrow_1).before A s = true) : (Jvm.Cond.arrayOf (Jvm.Term.static "BoringheadModel" "RIGHT" "[I") Jvm.ClassFile.FieldType.int).before A s = true := an_r (an_r (an_r (an_r (an_l (an_r (an_l (an_r (an_l (an_l (an_l (an_r h)))))))))))
theorem nb_121 {A : Array Value} {s : State} (h : (Cond.and given_1 narrow_1).before A s = true) : (Jvm.Cond.eq (Jvm.Term.length (Jvm.Term.static "BoringheadModel" "RIGHT" "[I")) (Jvm.Term.int (8 : Int32))).before A s = true := an_l (an_l (an_l (an_r (an_r (an_l (an_r (an_l (an_l (an_l (an_r h))))))))))
theorem sa_17 {b : Nat} {s : State} (hts : ∀ w ∈ lw_tbl, w.before #[Value.ref b] s = true) (hgv : (Cond.and given_1 narrow_1).before #[Value.ref b] s = true) (hA : ∀ a : Nat, a < s.heap.size → ¬ s.heap.size ≤ a) : ∃ t : Nat, (Jvm.Term.static "BoringheadModel" "RIGHT" "[I").eval #[Value.ref b] s none [] s = some (.ref t) ∧ va_Z "BoringheadModel" "RIGHT" "[I" (.ref t) (fun q => s.heap.size ≤ q) s s.heap ∧ va_T .int t 8 (fun j => .int (stF [0, 7, 10, 7, 0, -7, -10, -7] j)) (fun q => s.heap.size ≤ q) s s.heap := by
  have el : ∀ j : Nat, j < 8 → (Term.elem (Jvm.Term.static "BoringheadModel" "RIGHT" "[I") (.int (Int32.ofNat j))).eval #[Value.ref b] s none [] s = some (.int (stF [0, 7, 10, 7, 0, -7, -10, -7] j)) := by
    intro j hj
    rcases j with _ | _ | _ | _ | _ | _ | _ | _ | j
    · exact va_eqt (nb_112 hgv)
    · exact va_eqt (nb_113 hgv)
    · exact va_eqt (nb_114 hgv)
    · exact va_eqt (nb_115 hgv)
    · exact va_eqt (nb_116 hgv)
    · exact va_eqt (nb_117 hgv)
    · exact va_eqt (nb_118 hgv)
    · exact va_eqt (nb_119 hgv)
    · exact absurd hj (by omega)
  obtain ⟨t, ht, hT⟩ := va_Tof (A := fun q => s.heap.size ≤ q) (tm := (Jvm.Term.static "BoringheadModel" "RIGHT" "[I")) (ty := .int) (N := 8) (f := fun j => .int (stF [0, 7, 10, 7, 0, -7, -10, -7] j)) (by decide) (nb_120 hgv) (va_eqt (nb_121 hgv)) el hA
  exact ⟨t, ht, va_Zref (hts _ tw_1630) (hts _ tw_11) ht hA, hT⟩
theorem nb_122 {A : Array Value} {s : State} (h : (Cond.and given_1 narrow_1).before A s = true) : (Jvm.Cond.eq (Jvm.Term.elem (Jvm.Term.static "BoringheadModel" "UP" "[I") (Jvm.Term.int (0 : Int32))) (Jvm.Term.int (10 : Int32))).before A s = true := an_r (an_r (an_r (an_r (an_r (an_r (an_l (an_r (an_l (an_l (an_l (an_r h)))))))))))
theorem nb_123 {A : Array Value} {s : State} (h : (Cond.and given_1 narrow_1).before A s = true) : (Jvm.Cond.eq (Jvm.Term.elem (Jvm.Term.static "BoringheadModel" "UP" "[I") (Jvm.Term.int (1 : Int32))) (Jvm.Term.int (7 : Int32))).before A s = true := an_l (an_l (an_l (an_l (an_l (an_r (an_r (an_l (an_l (an_l (an_r h))))))))))
theorem nb_124 {A : Array Value} {s : State} (h : (Cond.and given_1 narrow_1).before A s = true) : (Jvm.Cond.eq (Jvm.Term.elem (Jvm.Term.static "BoringheadModel" "UP" "[I") (Jvm.Term.int (2 : Int32))) (Jvm.Term.int (0 : Int32))).before A s = true := an_l (an_r (an_l (an_l (an_l (an_l (an_r (an_r (an_l (an_l (an_l (an_r h)))))))))))
theorem nb_125 {A : Array Value} {s : State} (h : (Cond.and given_1 narrow_1).before A s = true) : (Jvm.Cond.eq (Jvm.Term.elem (Jvm.Term.static "BoringheadModel" "UP" "[I") (Jvm.Term.int (3 : Int32))) (Jvm.Term.int (-7 : Int32))).before A s = true := an_r (an_r (an_l (an_l (an_l (an_l (an_r (an_r (an_l (an_l (an_l (an_r h)))))))))))
theorem nb_126 {A : Array Value} {s : State} (h : (Cond.and given_1 narrow_1).before A s = true) : (Jvm.Cond.eq (Jvm.Term.elem (Jvm.Term.static "BoringheadModel" "UP" "[I") (Jvm.Term.int (4 : Int32))) (Jvm.Term.int (-10 : Int32))).before A s = true := an_l (an_r (an_l (an_l (an_l (an_r (an_r (an_l (an_l (an_l (an_r h))))))))))
theorem nb_127 {A : Array Value} {s : State} (h : (Cond.and given_1 narrow_1).before A s = true) : (Jvm.Cond.eq (Jvm.Term.elem (Jvm.Term.static "BoringheadModel" "UP" "[I") (Jvm.Term.int (5 : Int32))) (Jvm.Term.int (-7 : Int32))).before A s = true := an_l (an_r (an_r (an_l (an_l (an_l (an_r (an_r (an_l (an_l (an_l (an_r h)))))))))))
theorem nb_128 {A : Array Value} {s : State} (h : (Cond.and given_1 narrow_1).before A s = true) : (Jvm.Cond.eq (Jvm.Term.elem (Jvm.Term.static "BoringheadModel" "UP" "[I") (Jvm.Term.int (6 : Int32))) (Jvm.Term.int (0 : Int32))).before A s = true := an_r (an_r (an_r (an_l (an_l (an_l (an_r (an_r (an_l (an_l (an_l (an_r h)))))))))))
theorem nb_129 {A : Array Value} {s : State} (h : (Cond.and given_1 narrow_1).before A s = true) : (Jvm.Cond.eq (Jvm.Term.elem (Jvm.Term.static "BoringheadModel" "UP" "[I") (Jvm.Term.int (7 : Int32))) (Jvm.Term.int (7 : Int32))).before A s = true := an_l (an_l (an_r (an_l (an_l (an_r (an_r (an_l (an_l (an_l (an_r h))))))))))
theorem nb_130 {A : Array Value} {s : State} (h : (Cond.and given_1 narrow_1).before A s = true) : (Jvm.Cond.arrayOf (Jvm.Term.static "BoringheadModel" "UP" "[I") Jvm.ClassFile.FieldType.int).before A s = true := an_r (an_l (an_r (an_r (an_r (an_r (an_l (an_r (an_l (an_l (an_l (an_r h)))))))))))
theorem nb_131 {A : Array Value} {s : State} (h : (Cond.and given_1 narrow_1).before A s = true) : (Jvm.Cond.eq (Jvm.Term.length (Jvm.Term.static "BoringheadModel" "UP" "[I")) (Jvm.Term.int (8 : Int32))).before A s = true := an_l (an_r (an_r (an_r (an_r (an_r (an_l (an_r (an_l (an_l (an_l (an_r h)))))))))))
theorem sa_18 {b : Nat} {s : State} (hts : ∀ w ∈ lw_tbl, w.before #[Value.ref b] s = true) (hgv : (Cond.and given_1 narrow_1).before #[Value.ref b] s = true) (hA : ∀ a : Nat, a < s.heap.size → ¬ s.heap.size ≤ a) : ∃ t : Nat, (Jvm.Term.static "BoringheadModel" "UP" "[I").eval #[Value.ref b] s none [] s = some (.ref t) ∧ va_Z "BoringheadModel" "UP" "[I" (.ref t) (fun q => s.heap.size ≤ q) s s.heap ∧ va_T .int t 8 (fun j => .int (stF [10, 7, 0, -7, -10, -7, 0, 7] j)) (fun q => s.heap.size ≤ q) s s.heap := by
  have el : ∀ j : Nat, j < 8 → (Term.elem (Jvm.Term.static "BoringheadModel" "UP" "[I") (.int (Int32.ofNat j))).eval #[Value.ref b] s none [] s = some (.int (stF [10, 7, 0, -7, -10, -7, 0, 7] j)) := by
    intro j hj
    rcases j with _ | _ | _ | _ | _ | _ | _ | _ | j
    · exact va_eqt (nb_122 hgv)
    · exact va_eqt (nb_123 hgv)
    · exact va_eqt (nb_124 hgv)
    · exact va_eqt (nb_125 hgv)
    · exact va_eqt (nb_126 hgv)
    · exact va_eqt (nb_127 hgv)
    · exact va_eqt (nb_128 hgv)
    · exact va_eqt (nb_129 hgv)
    · exact absurd hj (by omega)
  obtain ⟨t, ht, hT⟩ := va_Tof (A := fun q => s.heap.size ≤ q) (tm := (Jvm.Term.static "BoringheadModel" "UP" "[I")) (ty := .int) (N := 8) (f := fun j => .int (stF [10, 7, 0, -7, -10, -7, 0, 7] j)) (by decide) (nb_130 hgv) (va_eqt (nb_131 hgv)) el hA
  exact ⟨t, ht, va_Zref (hts _ tw_1632) (hts _ tw_11) ht hA, hT⟩
theorem nb_132 {A : Array Value} {s : State} (h : (Cond.and given_1 narrow_1).before A s = true) : (Jvm.Cond.exactly (Jvm.Term.string "Boringhead" (462 : Nat)) "java/lang/String").before A s = true := an_l (an_l (an_l (an_l (an_r (an_r (an_l (an_l (an_r (an_l (an_r h))))))))))
theorem ss_0 {b : Nat} {s : State} (hts : ∀ w ∈ lw_tbl, w.before #[Value.ref b] s = true) (hgv : (Cond.and given_1 narrow_1).before #[Value.ref b] s = true) (hA : ∀ a : Nat, a < s.heap.size → ¬ s.heap.size ≤ a) : ∃ a v : Nat, vk_R "Boringhead" 462 "no such places, or no such kind" a s ∧ v = v := by
  obtain ⟨a, -, -, -, q1, -⟩ := Cond.exactly_spec (nb_132 hgv)
  exact ⟨a, 0, vk_R.of (hts _ tw_494) q1, rfl⟩
theorem nb_133 {A : Array Value} {s : State} (h : (Cond.and given_1 narrow_1).before A s = true) : (Jvm.Cond.exactly (Jvm.Term.string "Boringhead" (453 : Nat)) "java/lang/String").before A s = true := an_l (an_r (an_r (an_r (an_l (an_l (an_l (an_r (an_l (an_r (an_l (an_r h)))))))))))
theorem ss_1 {b : Nat} {s : State} (hts : ∀ w ∈ lw_tbl, w.before #[Value.ref b] s = true) (hgv : (Cond.and given_1 narrow_1).before #[Value.ref b] s = true) (hA : ∀ a : Nat, a < s.heap.size → ¬ s.heap.size ≤ a) : ∃ a v : Nat, vk_R "Boringhead" 453 "a ring stands there" a s ∧ v = v := by
  obtain ⟨a, -, -, -, q1, -⟩ := Cond.exactly_spec (nb_133 hgv)
  exact ⟨a, 0, vk_R.of (hts _ tw_534) q1, rfl⟩
theorem nb_134 {A : Array Value} {s : State} (h : (Cond.and given_1 narrow_1).before A s = true) : (Jvm.Cond.exactly (Jvm.Term.string "Boringhead" (464 : Nat)) "java/lang/String").before A s = true := an_r (an_r (an_l (an_r (an_l (an_r (an_l (an_r (an_l (an_r (an_l (an_r h)))))))))))
theorem ss_2 {b : Nat} {s : State} (hts : ∀ w ∈ lw_tbl, w.before #[Value.ref b] s = true) (hgv : (Cond.and given_1 narrow_1).before #[Value.ref b] s = true) (hA : ∀ a : Nat, a < s.heap.size → ¬ s.heap.size ≤ a) : ∃ a v : Nat, vk_R "Boringhead" 464 "no such places, or a number out of range" a s ∧ v = v := by
  obtain ⟨a, -, -, -, q1, -⟩ := Cond.exactly_spec (nb_134 hgv)
  exact ⟨a, 0, vk_R.of (hts _ tw_563) q1, rfl⟩
theorem nb_135 {A : Array Value} {s : State} (h : (Cond.and given_1 narrow_1).before A s = true) : (Jvm.Cond.exactly (Jvm.Term.string "Boringhead" (95 : Nat)) "java/lang/String").before A s = true := an_r (an_r (an_l (an_l (an_l (an_r (an_r (an_r (an_l (an_r (an_l (an_r h)))))))))))
theorem ss_3 {b : Nat} {s : State} (hts : ∀ w ∈ lw_tbl, w.before #[Value.ref b] s = true) (hgv : (Cond.and given_1 narrow_1).before #[Value.ref b] s = true) (hA : ∀ a : Nat, a < s.heap.size → ¬ s.heap.size ≤ a) : ∃ a v : Nat, vk_R "Boringhead" 95 "no such places, or no such bend" a s ∧ v = v := by
  obtain ⟨a, -, -, -, q1, -⟩ := Cond.exactly_spec (nb_135 hgv)
  exact ⟨a, 0, vk_R.of (hts _ tw_578) q1, rfl⟩
theorem nb_136 {A : Array Value} {s : State} (h : (Cond.and given_1 narrow_1).before A s = true) : (Jvm.Cond.exactly (Jvm.Term.string "Boringhead" (126 : Nat)) "java/lang/String").before A s = true := an_l (an_l (an_l (an_r (an_l (an_l (an_l (an_r (an_r (an_l (an_r h))))))))))
theorem ss_4 {b : Nat} {s : State} (hts : ∀ w ∈ lw_tbl, w.before #[Value.ref b] s = true) (hgv : (Cond.and given_1 narrow_1).before #[Value.ref b] s = true) (hA : ∀ a : Nat, a < s.heap.size → ¬ s.heap.size ≤ a) : ∃ a v : Nat, vk_R "Boringhead" 126 "no such place, or no such kind" a s ∧ v = v := by
  obtain ⟨a, -, -, -, q1, -⟩ := Cond.exactly_spec (nb_136 hgv)
  exact ⟨a, 0, vk_R.of (hts _ tw_587) q1, rfl⟩
theorem nb_137 {A : Array Value} {s : State} (h : (Cond.and given_1 narrow_1).before A s = true) : (Jvm.Cond.exactly (Jvm.Term.string "Boringhead" (137 : Nat)) "java/lang/String").before A s = true := an_l (an_l (an_r (an_r (an_r (an_r (an_l (an_l (an_r (an_r (an_l (an_r h)))))))))))
theorem ss_5 {b : Nat} {s : State} (hts : ∀ w ∈ lw_tbl, w.before #[Value.ref b] s = true) (hgv : (Cond.and given_1 narrow_1).before #[Value.ref b] s = true) (hA : ∀ a : Nat, a < s.heap.size → ¬ s.heap.size ≤ a) : ∃ a v : Nat, vk_R "Boringhead" 137 "there are 20 boreholes" a s ∧ v = v := by
  obtain ⟨a, -, -, -, q1, -⟩ := Cond.exactly_spec (nb_137 hgv)
  exact ⟨a, 0, vk_R.of (hts _ tw_597) q1, rfl⟩
theorem nb_138 {A : Array Value} {s : State} (h : (Cond.and given_1 narrow_1).before A s = true) : (Jvm.Cond.exactly (Jvm.Term.string "Boringhead" (149 : Nat)) "java/lang/String").before A s = true := an_r (an_l (an_r (an_r (an_r (an_l (an_r (an_l (an_r (an_r (an_l (an_r h)))))))))))
theorem ss_6 {b : Nat} {s : State} (hts : ∀ w ∈ lw_tbl, w.before #[Value.ref b] s = true) (hgv : (Cond.and given_1 narrow_1).before #[Value.ref b] s = true) (hA : ∀ a : Nat, a < s.heap.size → ¬ s.heap.size ≤ a) : ∃ a v : Nat, vk_R "Boringhead" 149 "no such place" a s ∧ v = v := by
  obtain ⟨a, -, -, -, q1, -⟩ := Cond.exactly_spec (nb_138 hgv)
  exact ⟨a, 0, vk_R.of (hts _ tw_693) q1, rfl⟩
theorem nb_139 {A : Array Value} {s : State} (h : (Cond.and given_1 narrow_1).before A s = true) : (Jvm.Cond.exactly (Jvm.Term.string "Boringhead" (170 : Nat)) "java/lang/String").before A s = true := an_r (an_r (an_l (an_l (an_r (an_r (an_r (an_l (an_r (an_r (an_l (an_r h)))))))))))
theorem ss_7 {b : Nat} {s : State} (hts : ∀ w ∈ lw_tbl, w.before #[Value.ref b] s = true) (hgv : (Cond.and given_1 narrow_1).before #[Value.ref b] s = true) (hA : ∀ a : Nat, a < s.heap.size → ¬ s.heap.size ≤ a) : ∃ a v : Nat, vk_R "Boringhead" 170 "no such pressure" a s ∧ v = v := by
  obtain ⟨a, -, -, -, q1, -⟩ := Cond.exactly_spec (nb_139 hgv)
  exact ⟨a, 0, vk_R.of (hts _ tw_729) q1, rfl⟩
theorem nb_140 {A : Array Value} {s : State} (h : (Cond.and given_1 narrow_1).before A s = true) : (Jvm.Cond.exactly (Jvm.Term.string "Boringhead" (192 : Nat)) "java/lang/String").before A s = true := an_l (an_r (an_r (an_l (an_l (an_l (an_r (an_r (an_r (an_l (an_r h))))))))))
theorem ss_8 {b : Nat} {s : State} (hts : ∀ w ∈ lw_tbl, w.before #[Value.ref b] s = true) (hgv : (Cond.and given_1 narrow_1).before #[Value.ref b] s = true) (hA : ∀ a : Nat, a < s.heap.size → ¬ s.heap.size ≤ a) : ∃ a v : Nat, vk_R "Boringhead" 192 "no such cutter" a s ∧ v = v := by
  obtain ⟨a, -, -, -, q1, -⟩ := Cond.exactly_spec (nb_140 hgv)
  exact ⟨a, 0, vk_R.of (hts _ tw_792) q1, rfl⟩
theorem nb_141 {A : Array Value} {s : State} (h : (Cond.and given_1 narrow_1).before A s = true) : (Jvm.Cond.exactly (Jvm.Term.string "Boringhead" (200 : Nat)) "java/lang/String").before A s = true := an_r (an_r (an_l (an_l (an_l (an_r (an_l (an_r (an_r (an_r (an_l (an_r h)))))))))))
theorem ss_9 {b : Nat} {s : State} (hts : ∀ w ∈ lw_tbl, w.before #[Value.ref b] s = true) (hgv : (Cond.and given_1 narrow_1).before #[Value.ref b] s = true) (hA : ∀ a : Nat, a < s.heap.size → ¬ s.heap.size ≤ a) : ∃ a v : Nat, vk_R "Boringhead" 200 "the cutter is not worn at all" a s ∧ v = v := by
  obtain ⟨a, -, -, -, q1, -⟩ := Cond.exactly_spec (nb_141 hgv)
  exact ⟨a, 0, vk_R.of (hts _ tw_803) q1, rfl⟩
theorem nb_142 {A : Array Value} {s : State} (h : (Cond.and given_1 narrow_1).before A s = true) : (Jvm.Cond.exactly (Jvm.Term.string "Boringhead" (456 : Nat)) "java/lang/String").before A s = true := an_l (an_r (an_r (an_r (an_l (an_l (an_r (an_r (an_r (an_r (an_l (an_r h)))))))))))
theorem ss_10 {b : Nat} {s : State} (hts : ∀ w ∈ lw_tbl, w.before #[Value.ref b] s = true) (hgv : (Cond.and given_1 narrow_1).before #[Value.ref b] s = true) (hA : ∀ a : Nat, a < s.heap.size → ¬ s.heap.size ≤ a) : ∃ a v : Nat, vk_R "Boringhead" 456 "the clock would go beyond its end" a s ∧ v = v := by
  obtain ⟨a, -, -, -, q1, -⟩ := Cond.exactly_spec (nb_142 hgv)
  exact ⟨a, 0, vk_R.of (hts _ tw_812) q1, rfl⟩
theorem nb_143 {A : Array Value} {s : State} (h : (Cond.and given_1 narrow_1).before A s = true) : (Jvm.Cond.exactly (Jvm.Term.string "Boringhead" (219 : Nat)) "java/lang/String").before A s = true := an_r (an_l (an_r (an_r (an_r (an_r (an_r (an_r (an_r (an_r (an_l (an_r h)))))))))))
theorem ss_11 {b : Nat} {s : State} (hts : ∀ w ∈ lw_tbl, w.before #[Value.ref b] s = true) (hgv : (Cond.and given_1 narrow_1).before #[Value.ref b] s = true) (hA : ∀ a : Nat, a < s.heap.size → ¬ s.heap.size ≤ a) : ∃ a v : Nat, vk_R "Boringhead" 219 "the jacks can't push so" a s ∧ v = v := by
  obtain ⟨a, -, -, -, q1, -⟩ := Cond.exactly_spec (nb_143 hgv)
  exact ⟨a, 0, vk_R.of (hts _ tw_823) q1, rfl⟩
theorem nb_144 {A : Array Value} {s : State} (h : (Cond.and given_1 narrow_1).before A s = true) : (Jvm.Cond.exactly (Jvm.Term.string "Boringhead" (227 : Nat)) "java/lang/String").before A s = true := an_r (an_r (an_r (an_r (an_r (an_l (an_l (an_l (an_l (an_l (an_r (an_r h)))))))))))
theorem ss_12 {b : Nat} {s : State} (hts : ∀ w ∈ lw_tbl, w.before #[Value.ref b] s = true) (hgv : (Cond.and given_1 narrow_1).before #[Value.ref b] s = true) (hA : ∀ a : Nat, a < s.heap.size → ¬ s.heap.size ≤ a) : ∃ a v : Nat, vk_R "Boringhead" 227 "no such rotation" a s ∧ v = v := by
  obtain ⟨a, -, -, -, q1, -⟩ := Cond.exactly_spec (nb_144 hgv)
  exact ⟨a, 0, vk_R.of (hts _ tw_831) q1, rfl⟩
theorem nb_145 {A : Array Value} {s : State} (h : (Cond.and given_1 narrow_1).before A s = true) : (Jvm.Cond.exactly (Jvm.Term.string "Boringhead" (233 : Nat)) "java/lang/String").before A s = true := an_l (an_r (an_l (an_r (an_r (an_r (an_l (an_l (an_l (an_l (an_r (an_r h)))))))))))
theorem ss_13 {b : Nat} {s : State} (hts : ∀ w ∈ lw_tbl, w.before #[Value.ref b] s = true) (hgv : (Cond.and given_1 narrow_1).before #[Value.ref b] s = true) (hA : ∀ a : Nat, a < s.heap.size → ¬ s.heap.size ≤ a) : ∃ a v : Nat, vk_R "Boringhead" 233 "the next ring is barred" a s ∧ v = v := by
  obtain ⟨a, -, -, -, q1, -⟩ := Cond.exactly_spec (nb_145 hgv)
  exact ⟨a, 0, vk_R.of (hts _ tw_869) q1, rfl⟩
theorem nb_146 {A : Array Value} {s : State} (h : (Cond.and given_1 narrow_1).before A s = true) : (Jvm.Cond.exactly (Jvm.Term.string "Boringhead" (458 : Nat)) "java/lang/String").before A s = true := an_l (an_l (an_r (an_r (an_r (an_l (an_r (an_l (an_l (an_l (an_r (an_r h)))))))))))
theorem ss_14 {b : Nat} {s : State} (hts : ∀ w ∈ lw_tbl, w.before #[Value.ref b] s = true) (hgv : (Cond.and given_1 narrow_1).before #[Value.ref b] s = true) (hA : ∀ a : Nat, a < s.heap.size → ¬ s.heap.size ≤ a) : ∃ a v : Nat, vk_R "Boringhead" 458 "no such ring" a s ∧ v = v := by
  obtain ⟨a, -, -, -, q1, -⟩ := Cond.exactly_spec (nb_146 hgv)
  exact ⟨a, 0, vk_R.of (hts _ tw_960) q1, rfl⟩
theorem nb_147 {A : Array Value} {s : State} (h : (Cond.and given_1 narrow_1).before A s = true) : (Jvm.Cond.exactly (Jvm.Term.string "Boringhead" (262 : Nat)) "java/lang/String").before A s = true := an_l (an_l (an_l (an_r (an_r (an_r (an_l (an_l (an_l (an_r (an_r h))))))))))
theorem ss_15 {b : Nat} {s : State} (hts : ∀ w ∈ lw_tbl, w.before #[Value.ref b] s = true) (hgv : (Cond.and given_1 narrow_1).before #[Value.ref b] s = true) (hA : ∀ a : Nat, a < s.heap.size → ¬ s.heap.size ≤ a) : ∃ a v : Nat, vk_R "Boringhead" 262 "no plan for so many rings" a s ∧ v = v := by
  obtain ⟨a, -, -, -, q1, -⟩ := Cond.exactly_spec (nb_147 hgv)
  exact ⟨a, 0, vk_R.of (hts _ tw_975) q1, rfl⟩
theorem nb_148 {A : Array Value} {s : State} (h : (Cond.and given_1 narrow_1).before A s = true) : (Jvm.Cond.exactly (Jvm.Term.string "Boringhead" (283 : Nat)) "java/lang/String").before A s = true := an_l (an_r (an_r (an_l (an_r (an_l (an_l (an_r (an_l (an_l (an_r (an_r h)))))))))))
theorem ss_16 {b : Nat} {s : State} (hts : ∀ w ∈ lw_tbl, w.before #[Value.ref b] s = true) (hgv : (Cond.and given_1 narrow_1).before #[Value.ref b] s = true) (hA : ∀ a : Nat, a < s.heap.size → ¬ s.heap.size ≤ a) : ∃ a v : Nat, vk_R "Boringhead" 283 "no such amount" a s ∧ v = v := by
  obtain ⟨a, -, -, -, q1, -⟩ := Cond.exactly_spec (nb_148 hgv)
  exact ⟨a, 0, vk_R.of (hts _ tw_1010) q1, rfl⟩
theorem nb_149 {A : Array Value} {s : State} (h : (Cond.and given_1 narrow_1).before A s = true) : (Jvm.Cond.exactly (Jvm.Term.string "Boringhead" (291 : Nat)) "java/lang/String").before A s = true := an_l (an_r (an_r (an_l (an_r (an_l (an_r (an_l (an_l (an_r (an_r h))))))))))
theorem ss_17 {b : Nat} {s : State} (hts : ∀ w ∈ lw_tbl, w.before #[Value.ref b] s = true) (hgv : (Cond.and given_1 narrow_1).before #[Value.ref b] s = true) (hA : ∀ a : Nat, a < s.heap.size → ¬ s.heap.size ≤ a) : ∃ a v : Nat, vk_R "Boringhead" 291 "it doesn't fit, or the grout has set" a s ∧ v = v := by
  obtain ⟨a, -, -, -, q1, -⟩ := Cond.exactly_spec (nb_149 hgv)
  exact ⟨a, 0, vk_R.of (hts _ tw_1015) q1, rfl⟩
theorem nb_150 {A : Array Value} {s : State} (h : (Cond.and given_1 narrow_1).before A s = true) : (Jvm.Cond.exactly (Jvm.Term.string "Boringhead" (302 : Nat)) "java/lang/String").before A s = true := an_r (an_r (an_r (an_r (an_r (an_l (an_r (an_r (an_l (an_l (an_r (an_r h)))))))))))
theorem ss_18 {b : Nat} {s : State} (hts : ∀ w ∈ lw_tbl, w.before #[Value.ref b] s = true) (hgv : (Cond.and given_1 narrow_1).before #[Value.ref b] s = true) (hA : ∀ a : Nat, a < s.heap.size → ¬ s.heap.size ≤ a) : ∃ a v : Nat, vk_R "Boringhead" 302 "no such places, or no such offset" a s ∧ v = v := by
  obtain ⟨a, -, -, -, q1, -⟩ := Cond.exactly_spec (nb_150 hgv)
  exact ⟨a, 0, vk_R.of (hts _ tw_1030) q1, rfl⟩
theorem nb_151 {A : Array Value} {s : State} (h : (Cond.and given_1 narrow_1).before A s = true) : (Jvm.Cond.exactly (Jvm.Term.string "Boringhead" (304 : Nat)) "java/lang/String").before A s = true := an_r (an_r (an_r (an_r (an_l (an_l (an_l (an_l (an_r (an_l (an_r (an_r h)))))))))))
theorem ss_19 {b : Nat} {s : State} (hts : ∀ w ∈ lw_tbl, w.before #[Value.ref b] s = true) (hgv : (Cond.and given_1 narrow_1).before #[Value.ref b] s = true) (hA : ∀ a : Nat, a < s.heap.size → ¬ s.heap.size ≤ a) : ∃ a v : Nat, vk_R "Boringhead" 304 "there are 8 houses" a s ∧ v = v := by
  obtain ⟨a, -, -, -, q1, -⟩ := Cond.exactly_spec (nb_151 hgv)
  exact ⟨a, 0, vk_R.of (hts _ tw_1031) q1, rfl⟩
theorem nb_152 {A : Array Value} {s : State} (h : (Cond.and given_1 narrow_1).before A s = true) : (Jvm.Cond.exactly (Jvm.Term.string "Boringhead" (460 : Nat)) "java/lang/String").before A s = true := an_r (an_r (an_l (an_r (an_l (an_r (an_l (an_l (an_r (an_l (an_r (an_r h)))))))))))
theorem ss_20 {b : Nat} {s : State} (hts : ∀ w ∈ lw_tbl, w.before #[Value.ref b] s = true) (hgv : (Cond.and given_1 narrow_1).before #[Value.ref b] s = true) (hA : ∀ a : Nat, a < s.heap.size → ¬ s.heap.size ≤ a) : ∃ a v : Nat, vk_R "Boringhead" 460 "no such house" a s ∧ v = v := by
  obtain ⟨a, -, -, -, q1, -⟩ := Cond.exactly_spec (nb_152 hgv)
  exact ⟨a, 0, vk_R.of (hts _ tw_1077) q1, rfl⟩
theorem nb_153 {A : Array Value} {s : State} (h : (Cond.and given_1 narrow_1).before A s = true) : (Jvm.Cond.exactly (Jvm.Term.string "Boringhead" (347 : Nat)) "java/lang/String").before A s = true := an_l (an_l (an_l (an_l (an_l (an_r (an_l (an_r (an_l (an_r (an_r h))))))))))
theorem ss_21 {b : Nat} {s : State} (hts : ∀ w ∈ lw_tbl, w.before #[Value.ref b] s = true) (hgv : (Cond.and given_1 narrow_1).before #[Value.ref b] s = true) (hA : ∀ a : Nat, a < s.heap.size → ¬ s.heap.size ≤ a) : ∃ a v : Nat, vk_R "Boringhead" 347 "no such number of segments" a s ∧ v = v := by
  obtain ⟨a, -, -, -, q1, -⟩ := Cond.exactly_spec (nb_153 hgv)
  exact ⟨a, 0, vk_R.of (hts _ tw_1133) q1, rfl⟩
theorem nb_154 {A : Array Value} {s : State} (h : (Cond.and given_1 narrow_1).before A s = true) : (Jvm.Cond.exactly (Jvm.Term.string "Boringhead" (352 : Nat)) "java/lang/String").before A s = true := an_r (an_r (an_r (an_l (an_l (an_r (an_r (an_l (an_r (an_l (an_r (an_r h)))))))))))
theorem ss_22 {b : Nat} {s : State} (hts : ∀ w ∈ lw_tbl, w.before #[Value.ref b] s = true) (hgv : (Cond.and given_1 narrow_1).before #[Value.ref b] s = true) (hA : ∀ a : Nat, a < s.heap.size → ¬ s.heap.size ≤ a) : ∃ a v : Nat, vk_R "Boringhead" 352 "there is no room for all" a s ∧ v = v := by
  obtain ⟨a, -, -, -, q1, -⟩ := Cond.exactly_spec (nb_154 hgv)
  exact ⟨a, 0, vk_R.of (hts _ tw_1134) q1, rfl⟩
theorem nb_155 {A : Array Value} {s : State} (h : (Cond.and given_1 narrow_1).before A s = true) : (Jvm.Cond.exactly (Jvm.Term.string "Boringhead" (357 : Nat)) "java/lang/String").before A s = true := an_r (an_r (an_l (an_r (an_l (an_l (an_l (an_r (an_r (an_l (an_r (an_r h)))))))))))
theorem ss_23 {b : Nat} {s : State} (hts : ∀ w ∈ lw_tbl, w.before #[Value.ref b] s = true) (hgv : (Cond.and given_1 narrow_1).before #[Value.ref b] s = true) (hA : ∀ a : Nat, a < s.heap.size → ¬ s.heap.size ≤ a) : ∃ a v : Nat, vk_R "Boringhead" 357 "no such number of lorries" a s ∧ v = v := by
  obtain ⟨a, -, -, -, q1, -⟩ := Cond.exactly_spec (nb_155 hgv)
  exact ⟨a, 0, vk_R.of (hts _ tw_1142) q1, rfl⟩
theorem nb_156 {A : Array Value} {s : State} (h : (Cond.and given_1 narrow_1).before A s = true) : (Jvm.Cond.exactly (Jvm.Term.string "Boringhead" (362 : Nat)) "java/lang/String").before A s = true := an_l (an_l (an_l (an_r (an_r (an_l (an_r (an_r (an_l (an_r (an_r h))))))))))
theorem ss_24 {b : Nat} {s : State} (hts : ∀ w ∈ lw_tbl, w.before #[Value.ref b] s = true) (hgv : (Cond.and given_1 narrow_1).before #[Value.ref b] s = true) (hA : ∀ a : Nat, a < s.heap.size → ¬ s.heap.size ≤ a) : ∃ a v : Nat, vk_R "Boringhead" 362 "no lorries go, or the pit is empty" a s ∧ v = v := by
  obtain ⟨a, -, -, -, q1, -⟩ := Cond.exactly_spec (nb_156 hgv)
  exact ⟨a, 0, vk_R.of (hts _ tw_1147) q1, rfl⟩
theorem nb_157 {A : Array Value} {s : State} (h : (Cond.and given_1 narrow_1).before A s = true) : (Jvm.Cond.exactly (Jvm.Term.string "Boringhead" (376 : Nat)) "java/lang/String").before A s = true := an_l (an_l (an_l (an_l (an_r (an_r (an_r (an_r (an_l (an_r (an_r h))))))))))
theorem ss_25 {b : Nat} {s : State} (hts : ∀ w ∈ lw_tbl, w.before #[Value.ref b] s = true) (hgv : (Cond.and given_1 narrow_1).before #[Value.ref b] s = true) (hA : ∀ a : Nat, a < s.heap.size → ¬ s.heap.size ≤ a) : ∃ a v : Nat, vk_R "Boringhead" 376 "no such minutes, or no such causes" a s ∧ v = v := by
  obtain ⟨a, -, -, -, q1, -⟩ := Cond.exactly_spec (nb_157 hgv)
  exact ⟨a, 0, vk_R.of (hts _ tw_1156) q1, rfl⟩
theorem nb_158 {A : Array Value} {s : State} (h : (Cond.and given_1 narrow_1).before A s = true) : (Jvm.Cond.exactly (Jvm.Term.string "Boringhead" (385 : Nat)) "java/lang/String").before A s = true := an_r (an_r (an_r (an_r (an_l (an_l (an_l (an_l (an_r (an_r (an_r h))))))))))
theorem ss_26 {b : Nat} {s : State} (hts : ∀ w ∈ lw_tbl, w.before #[Value.ref b] s = true) (hgv : (Cond.and given_1 narrow_1).before #[Value.ref b] s = true) (hA : ∀ a : Nat, a < s.heap.size → ¬ s.heap.size ≤ a) : ∃ a v : Nat, vk_R "Boringhead" 385 "no such cause" a s ∧ v = v := by
  obtain ⟨a, -, -, -, q1, -⟩ := Cond.exactly_spec (nb_158 hgv)
  exact ⟨a, 0, vk_R.of (hts _ tw_1174) q1, rfl⟩
theorem nb_159 {A : Array Value} {s : State} (h : (Cond.and given_1 narrow_1).before A s = true) : (Jvm.Cond.exactly (Jvm.Term.string "Boringhead" (393 : Nat)) "java/lang/String").before A s = true := an_l (an_r (an_l (an_l (an_l (an_r (an_l (an_l (an_r (an_r (an_r h))))))))))
theorem ss_27 {b : Nat} {s : State} (hts : ∀ w ∈ lw_tbl, w.before #[Value.ref b] s = true) (hgv : (Cond.and given_1 narrow_1).before #[Value.ref b] s = true) (hA : ∀ a : Nat, a < s.heap.size → ¬ s.heap.size ≤ a) : ∃ a v : Nat, vk_R "Boringhead" 393 "no such letter" a s ∧ v = v := by
  obtain ⟨a, -, -, -, q1, -⟩ := Cond.exactly_spec (nb_159 hgv)
  exact ⟨a, 0, vk_R.of (hts _ tw_1187) q1, rfl⟩
theorem nb_160 {A : Array Value} {s : State} (h : (Cond.and given_1 narrow_1).before A s = true) : (Jvm.Cond.exactly (Jvm.Term.string "Boringhead" (404 : Nat)) "java/lang/String").before A s = true := an_l (an_r (an_r (an_l (an_r (an_r (an_l (an_l (an_r (an_r (an_r h))))))))))
theorem ss_28 {b : Nat} {s : State} (hts : ∀ w ∈ lw_tbl, w.before #[Value.ref b] s = true) (hgv : (Cond.and given_1 narrow_1).before #[Value.ref b] s = true) (hA : ∀ a : Nat, a < s.heap.size → ¬ s.heap.size ≤ a) : ∃ a v : Nat, vk_R "Boringhead" 404 "it is no event, or a notice was given" a s ∧ v = v := by
  obtain ⟨a, -, -, -, q1, -⟩ := Cond.exactly_spec (nb_160 hgv)
  exact ⟨a, 0, vk_R.of (hts _ tw_1195) q1, rfl⟩
theorem nb_161 {A : Array Value} {s : State} (h : (Cond.and given_1 narrow_1).before A s = true) : (Jvm.Cond.exactly (Jvm.Term.string "Boringhead" (415 : Nat)) "java/lang/String").before A s = true := an_r (an_r (an_l (an_l (an_l (an_r (an_r (an_l (an_r (an_r (an_r h))))))))))
theorem ss_29 {b : Nat} {s : State} (hts : ∀ w ∈ lw_tbl, w.before #[Value.ref b] s = true) (hgv : (Cond.and given_1 narrow_1).before #[Value.ref b] s = true) (hA : ∀ a : Nat, a < s.heap.size → ¬ s.heap.size ≤ a) : ∃ a v : Nat, vk_R "Boringhead" 415 "no such kind" a s ∧ v = v := by
  obtain ⟨a, -, -, -, q1, -⟩ := Cond.exactly_spec (nb_161 hgv)
  exact ⟨a, 0, vk_R.of (hts _ tw_1203) q1, rfl⟩
theorem nb_162 {A : Array Value} {s : State} (h : (Cond.and given_1 narrow_1).before A s = true) : (Jvm.Cond.exactly (Jvm.Term.string "Boringhead" (425 : Nat)) "java/lang/String").before A s = true := an_l (an_l (an_r (an_l (an_r (an_r (an_r (an_l (an_r (an_r (an_r h))))))))))
theorem ss_30 {b : Nat} {s : State} (hts : ∀ w ∈ lw_tbl, w.before #[Value.ref b] s = true) (hgv : (Cond.and given_1 narrow_1).before #[Value.ref b] s = true) (hA : ∀ a : Nat, a < s.heap.size → ¬ s.heap.size ≤ a) : ∃ a v : Nat, vk_R "Boringhead" 425 "there are no rings" a s ∧ v = v := by
  obtain ⟨a, -, -, -, q1, -⟩ := Cond.exactly_spec (nb_162 hgv)
  exact ⟨a, 0, vk_R.of (hts _ tw_1226) q1, rfl⟩
theorem nb_163 {A : Array Value} {s : State} (h : (Cond.and given_1 narrow_1).before A s = true) : (Jvm.Cond.exactly (Jvm.Term.string "BoringheadModel" (58 : Nat)) "java/lang/String").before A s = true := an_l (an_l (an_r (an_r (an_l (an_l (an_l (an_r (an_r (an_r (an_r h))))))))))
theorem nb_164 {A : Array Value} {s : State} (h : (Cond.and given_1 narrow_1).before A s = true) : (Jvm.Cond.eq (Jvm.Term.elem (Jvm.Term.field (Jvm.Term.string "BoringheadModel" (58 : Nat)) "java/lang/String" "value" "[B") (Jvm.Term.int (0 : Int32))) (Jvm.Term.int (103 : Int32))).before A s = true := an_l (an_l (an_l (an_r (an_l (an_l (an_r (an_r (an_r (an_r h)))))))))
theorem nb_165 {A : Array Value} {s : State} (h : (Cond.and given_1 narrow_1).before A s = true) : (Jvm.Cond.eq (Jvm.Term.elem (Jvm.Term.field (Jvm.Term.string "BoringheadModel" (58 : Nat)) "java/lang/String" "value" "[B") (Jvm.Term.int (1 : Int32))) (Jvm.Term.int (112 : Int32))).before A s = true := an_l (an_r (an_l (an_l (an_r (an_l (an_l (an_r (an_r (an_r (an_r h))))))))))
theorem nb_166 {A : Array Value} {s : State} (h : (Cond.and given_1 narrow_1).before A s = true) : (Jvm.Cond.eq (Jvm.Term.elem (Jvm.Term.field (Jvm.Term.string "BoringheadModel" (58 : Nat)) "java/lang/String" "value" "[B") (Jvm.Term.int (2 : Int32))) (Jvm.Term.int (99 : Int32))).before A s = true := an_r (an_r (an_l (an_l (an_r (an_l (an_l (an_r (an_r (an_r (an_r h))))))))))
theorem nb_167 {A : Array Value} {s : State} (h : (Cond.and given_1 narrow_1).before A s = true) : (Jvm.Cond.eq (Jvm.Term.elem (Jvm.Term.field (Jvm.Term.string "BoringheadModel" (58 : Nat)) "java/lang/String" "value" "[B") (Jvm.Term.int (3 : Int32))) (Jvm.Term.int (115 : Int32))).before A s = true := an_l (an_l (an_r (an_l (an_r (an_l (an_l (an_r (an_r (an_r (an_r h))))))))))
theorem nb_168 {A : Array Value} {s : State} (h : (Cond.and given_1 narrow_1).before A s = true) : (Jvm.Cond.eq (Jvm.Term.elem (Jvm.Term.field (Jvm.Term.string "BoringheadModel" (58 : Nat)) "java/lang/String" "value" "[B") (Jvm.Term.int (4 : Int32))) (Jvm.Term.int (109 : Int32))).before A s = true := an_r (an_l (an_r (an_l (an_r (an_l (an_l (an_r (an_r (an_r (an_r h))))))))))
theorem nb_169 {A : Array Value} {s : State} (h : (Cond.and given_1 narrow_1).before A s = true) : (Jvm.Cond.eq (Jvm.Term.elem (Jvm.Term.field (Jvm.Term.string "BoringheadModel" (58 : Nat)) "java/lang/String" "value" "[B") (Jvm.Term.int (5 : Int32))) (Jvm.Term.int (119 : Int32))).before A s = true := an_l (an_r (an_r (an_l (an_r (an_l (an_l (an_r (an_r (an_r (an_r h))))))))))
theorem nb_170 {A : Array Value} {s : State} (h : (Cond.and given_1 narrow_1).before A s = true) : (Jvm.Cond.eq (Jvm.Term.elem (Jvm.Term.field (Jvm.Term.string "BoringheadModel" (58 : Nat)) "java/lang/String" "value" "[B") (Jvm.Term.int (6 : Int32))) (Jvm.Term.int (104 : Int32))).before A s = true := an_r (an_r (an_r (an_l (an_r (an_l (an_l (an_r (an_r (an_r (an_r h))))))))))
theorem nb_171 {A : Array Value} {s : State} (h : (Cond.and given_1 narrow_1).before A s = true) : (Jvm.Cond.arrayOf (Jvm.Term.field (Jvm.Term.string "BoringheadModel" (58 : Nat)) "java/lang/String" "value" "[B") Jvm.ClassFile.FieldType.byte).before A s = true := an_l (an_r (an_r (an_r (an_l (an_l (an_l (an_r (an_r (an_r (an_r h))))))))))
theorem nb_172 {A : Array Value} {s : State} (h : (Cond.and given_1 narrow_1).before A s = true) : (Jvm.Cond.eq (Jvm.Term.length (Jvm.Term.field (Jvm.Term.string "BoringheadModel" (58 : Nat)) "java/lang/String" "value" "[B")) (Jvm.Term.int (7 : Int32))).before A s = true := an_r (an_r (an_r (an_r (an_l (an_l (an_l (an_r (an_r (an_r (an_r h))))))))))
theorem nb_173 {A : Array Value} {s : State} (h : (Cond.and given_1 narrow_1).before A s = true) : (Jvm.Cond.eq (Jvm.Term.field (Jvm.Term.string "BoringheadModel" (58 : Nat)) "java/lang/String" "coder" "B") (Jvm.Term.int (0 : Int32))).before A s = true := an_r (an_l (an_r (an_r (an_l (an_l (an_l (an_r (an_r (an_r (an_r h))))))))))
theorem ss_31 {b : Nat} {s : State} (hts : ∀ w ∈ lw_tbl, w.before #[Value.ref b] s = true) (hgv : (Cond.and given_1 narrow_1).before #[Value.ref b] s = true) (hA : ∀ a : Nat, a < s.heap.size → ¬ s.heap.size ≤ a) : ∃ a v : Nat, vk_R "BoringheadModel" 58 "gpcsmwh" a s ∧ va_O "java/lang/String" a (fun q => s.heap.size ≤ q) s s.heap ∧ va_OF "java/lang/String" "coder" "B" (.int 0) a (fun q => s.heap.size ≤ q) s s.heap ∧ va_OF "java/lang/String" "value" "[B" (.ref v) a (fun q => s.heap.size ≤ q) s s.heap ∧ va_T .byte v 7 (fun j => .int (stF [103, 112, 99, 115, 109, 119, 104] j)) (fun q => s.heap.size ≤ q) s s.heap := by
  obtain ⟨a, -, -, -, q1, -⟩ := Cond.exactly_spec (nb_163 hgv)
  have el : ∀ j : Nat, j < 7 → (Term.elem (Jvm.Term.field (Jvm.Term.string "BoringheadModel" (58 : Nat)) "java/lang/String" "value" "[B") (.int (Int32.ofNat j))).eval #[Value.ref b] s none [] s = some (.int (stF [103, 112, 99, 115, 109, 119, 104] j)) := by
    intro j hj
    rcases j with _ | _ | _ | _ | _ | _ | _ | j
    · exact va_eqt (nb_164 hgv)
    · exact va_eqt (nb_165 hgv)
    · exact va_eqt (nb_166 hgv)
    · exact va_eqt (nb_167 hgv)
    · exact va_eqt (nb_168 hgv)
    · exact va_eqt (nb_169 hgv)
    · exact va_eqt (nb_170 hgv)
    · exact absurd hj (by omega)
  obtain ⟨v, hv, hT⟩ := va_Tof (A := fun q => s.heap.size ≤ q) (tm := (Jvm.Term.field (Jvm.Term.string "BoringheadModel" (58 : Nat)) "java/lang/String" "value" "[B")) (ty := .byte) (N := 7) (f := fun j => .int (stF [103, 112, 99, 115, 109, 119, 104] j)) (by decide) (nb_171 hgv) (va_eqt (nb_172 hgv)) el hA
  exact ⟨a, v, vk_R.of (hts _ tw_1248) q1, va_Oof (nb_163 hgv) q1 hA, va_OFof q1 (va_eqt (nb_173 hgv)) hA, va_OFof q1 hv hA, hT⟩
theorem nb_174 {A : Array Value} {s : State} (h : (Cond.and given_1 narrow_1).before A s = true) : (Jvm.Cond.exactly (Jvm.Term.string "BoringheadModel" (80 : Nat)) "java/lang/String").before A s = true := an_l (an_l (an_l (an_r (an_r (an_l (an_l (an_r (an_r (an_r (an_r h))))))))))
theorem nb_175 {A : Array Value} {s : State} (h : (Cond.and given_1 narrow_1).before A s = true) : (Jvm.Cond.eq (Jvm.Term.elem (Jvm.Term.field (Jvm.Term.string "BoringheadModel" (80 : Nat)) "java/lang/String" "value" "[B") (Jvm.Term.int (0 : Int32))) (Jvm.Term.int (99 : Int32))).before A s = true := an_l (an_l (an_r (an_r (an_r (an_l (an_l (an_r (an_r (an_r (an_r h))))))))))
theorem nb_176 {A : Array Value} {s : State} (h : (Cond.and given_1 narrow_1).before A s = true) : (Jvm.Cond.eq (Jvm.Term.elem (Jvm.Term.field (Jvm.Term.string "BoringheadModel" (80 : Nat)) "java/lang/String" "value" "[B") (Jvm.Term.int (1 : Int32))) (Jvm.Term.int (115 : Int32))).before A s = true := an_r (an_l (an_r (an_r (an_r (an_l (an_l (an_r (an_r (an_r (an_r h))))))))))
theorem nb_177 {A : Array Value} {s : State} (h : (Cond.and given_1 narrow_1).before A s = true) : (Jvm.Cond.eq (Jvm.Term.elem (Jvm.Term.field (Jvm.Term.string "BoringheadModel" (80 : Nat)) "java/lang/String" "value" "[B") (Jvm.Term.int (2 : Int32))) (Jvm.Term.int (114 : Int32))).before A s = true := an_l (an_r (an_r (an_r (an_r (an_l (an_l (an_r (an_r (an_r (an_r h))))))))))
theorem nb_178 {A : Array Value} {s : State} (h : (Cond.and given_1 narrow_1).before A s = true) : (Jvm.Cond.eq (Jvm.Term.elem (Jvm.Term.field (Jvm.Term.string "BoringheadModel" (80 : Nat)) "java/lang/String" "value" "[B") (Jvm.Term.int (3 : Int32))) (Jvm.Term.int (98 : Int32))).before A s = true := an_r (an_r (an_r (an_r (an_r (an_l (an_l (an_r (an_r (an_r (an_r h))))))))))
theorem nb_179 {A : Array Value} {s : State} (h : (Cond.and given_1 narrow_1).before A s = true) : (Jvm.Cond.arrayOf (Jvm.Term.field (Jvm.Term.string "BoringheadModel" (80 : Nat)) "java/lang/String" "value" "[B") Jvm.ClassFile.FieldType.byte).before A s = true := an_l (an_r (an_l (an_r (an_r (an_l (an_l (an_r (an_r (an_r (an_r h))))))))))
theorem nb_180 {A : Array Value} {s : State} (h : (Cond.and given_1 narrow_1).before A s = true) : (Jvm.Cond.eq (Jvm.Term.length (Jvm.Term.field (Jvm.Term.string "BoringheadModel" (80 : Nat)) "java/lang/String" "value" "[B")) (Jvm.Term.int (4 : Int32))).before A s = true := an_r (an_r (an_l (an_r (an_r (an_l (an_l (an_r (an_r (an_r (an_r h))))))))))
theorem nb_181 {A : Array Value} {s : State} (h : (Cond.and given_1 narrow_1).before A s = true) : (Jvm.Cond.eq (Jvm.Term.field (Jvm.Term.string "BoringheadModel" (80 : Nat)) "java/lang/String" "coder" "B") (Jvm.Term.int (0 : Int32))).before A s = true := an_r (an_l (an_l (an_r (an_r (an_l (an_l (an_r (an_r (an_r (an_r h))))))))))
theorem ss_32 {b : Nat} {s : State} (hts : ∀ w ∈ lw_tbl, w.before #[Value.ref b] s = true) (hgv : (Cond.and given_1 narrow_1).before #[Value.ref b] s = true) (hA : ∀ a : Nat, a < s.heap.size → ¬ s.heap.size ≤ a) : ∃ a v : Nat, vk_R "BoringheadModel" 80 "csrb" a s ∧ va_O "java/lang/String" a (fun q => s.heap.size ≤ q) s s.heap ∧ va_OF "java/lang/String" "coder" "B" (.int 0) a (fun q => s.heap.size ≤ q) s s.heap ∧ va_OF "java/lang/String" "value" "[B" (.ref v) a (fun q => s.heap.size ≤ q) s s.heap ∧ va_T .byte v 4 (fun j => .int (stF [99, 115, 114, 98] j)) (fun q => s.heap.size ≤ q) s s.heap := by
  obtain ⟨a, -, -, -, q1, -⟩ := Cond.exactly_spec (nb_174 hgv)
  have el : ∀ j : Nat, j < 4 → (Term.elem (Jvm.Term.field (Jvm.Term.string "BoringheadModel" (80 : Nat)) "java/lang/String" "value" "[B") (.int (Int32.ofNat j))).eval #[Value.ref b] s none [] s = some (.int (stF [99, 115, 114, 98] j)) := by
    intro j hj
    rcases j with _ | _ | _ | _ | j
    · exact va_eqt (nb_175 hgv)
    · exact va_eqt (nb_176 hgv)
    · exact va_eqt (nb_177 hgv)
    · exact va_eqt (nb_178 hgv)
    · exact absurd hj (by omega)
  obtain ⟨v, hv, hT⟩ := va_Tof (A := fun q => s.heap.size ≤ q) (tm := (Jvm.Term.field (Jvm.Term.string "BoringheadModel" (80 : Nat)) "java/lang/String" "value" "[B")) (ty := .byte) (N := 4) (f := fun j => .int (stF [99, 115, 114, 98] j)) (by decide) (nb_179 hgv) (va_eqt (nb_180 hgv)) el hA
  exact ⟨a, v, vk_R.of (hts _ tw_1328) q1, va_Oof (nb_174 hgv) q1 hA, va_OFof q1 (va_eqt (nb_181 hgv)) hA, va_OFof q1 hv hA, hT⟩
theorem nb_182 {A : Array Value} {s : State} (h : (Cond.and given_1 narrow_1).before A s = true) : (Jvm.Cond.exactly (Jvm.Term.string "java/lang/StringLatin1" (151 : Nat)) "java/lang/String").before A s = true := an_l (an_l (an_l (an_l (an_r (an_l (an_r (an_r (an_r (an_r h)))))))))
theorem nb_183 {A : Array Value} {s : State} (h : (Cond.and given_1 narrow_1).before A s = true) : (Jvm.Cond.arrayOf (Jvm.Term.field (Jvm.Term.string "java/lang/StringLatin1" (151 : Nat)) "java/lang/String" "value" "[B") Jvm.ClassFile.FieldType.byte).before A s = true := an_r (an_r (an_l (an_l (an_l (an_r (an_l (an_r (an_r (an_r (an_r h))))))))))
theorem nb_184 {A : Array Value} {s : State} (h : (Cond.and given_1 narrow_1).before A s = true) : (Jvm.Cond.eq (Jvm.Term.length (Jvm.Term.field (Jvm.Term.string "java/lang/StringLatin1" (151 : Nat)) "java/lang/String" "value" "[B")) (Jvm.Term.int (0 : Int32))).before A s = true := an_l (an_l (an_r (an_l (an_l (an_r (an_l (an_r (an_r (an_r (an_r h))))))))))
theorem nb_185 {A : Array Value} {s : State} (h : (Cond.and given_1 narrow_1).before A s = true) : (Jvm.Cond.eq (Jvm.Term.field (Jvm.Term.string "java/lang/StringLatin1" (151 : Nat)) "java/lang/String" "coder" "B") (Jvm.Term.int (0 : Int32))).before A s = true := an_l (an_r (an_l (an_l (an_l (an_r (an_l (an_r (an_r (an_r (an_r h))))))))))
theorem ss_33 {b : Nat} {s : State} (hts : ∀ w ∈ lw_tbl, w.before #[Value.ref b] s = true) (hgv : (Cond.and given_1 narrow_1).before #[Value.ref b] s = true) (hA : ∀ a : Nat, a < s.heap.size → ¬ s.heap.size ≤ a) : ∃ a v : Nat, vk_R "java/lang/StringLatin1" 151 "" a s ∧ va_O "java/lang/String" a (fun q => s.heap.size ≤ q) s s.heap ∧ va_OF "java/lang/String" "coder" "B" (.int 0) a (fun q => s.heap.size ≤ q) s s.heap ∧ va_OF "java/lang/String" "value" "[B" (.ref v) a (fun q => s.heap.size ≤ q) s s.heap ∧ va_T .byte v 0 (fun j => .int (stF [] j)) (fun q => s.heap.size ≤ q) s s.heap := by
  obtain ⟨a, -, -, -, q1, -⟩ := Cond.exactly_spec (nb_182 hgv)
  have el : ∀ j : Nat, j < 0 → (Term.elem (Jvm.Term.field (Jvm.Term.string "java/lang/StringLatin1" (151 : Nat)) "java/lang/String" "value" "[B") (.int (Int32.ofNat j))).eval #[Value.ref b] s none [] s = some (.int (stF [] j)) := by
    intro j hj
    exact absurd hj (by omega)
  obtain ⟨v, hv, hT⟩ := va_Tof (A := fun q => s.heap.size ≤ q) (tm := (Jvm.Term.field (Jvm.Term.string "java/lang/StringLatin1" (151 : Nat)) "java/lang/String" "value" "[B")) (ty := .byte) (N := 0) (f := fun j => .int (stF [] j)) (by decide) (nb_183 hgv) (va_eqt (nb_184 hgv)) el hA
  exact ⟨a, v, vk_R.of (hts _ tw_1902) q1, va_Oof (nb_182 hgv) q1 hA, va_OFof q1 (va_eqt (nb_185 hgv)) hA, va_OFof q1 hv hA, hT⟩
theorem nb_186 {A : Array Value} {s : State} (h : (Cond.and given_1 narrow_1).before A s = true) : (Jvm.Cond.exactly (Jvm.Term.string "java/util/Arrays" (337 : Nat)) "java/lang/String").before A s = true := an_r (an_l (an_r (an_l (an_l (an_r (an_l (an_r (an_r (an_r (an_r h))))))))))
theorem ss_34 {b : Nat} {s : State} (hts : ∀ w ∈ lw_tbl, w.before #[Value.ref b] s = true) (hgv : (Cond.and given_1 narrow_1).before #[Value.ref b] s = true) (hA : ∀ a : Nat, a < s.heap.size → ¬ s.heap.size ≤ a) : ∃ a v : Nat, vk_R "java/util/Arrays" 337 " > " a s ∧ v = v := by
  obtain ⟨a, -, -, -, q1, -⟩ := Cond.exactly_spec (nb_186 hgv)
  exact ⟨a, 0, vk_R.of (hts _ tw_1941) q1, rfl⟩
theorem nb_187 {A : Array Value} {s : State} (h : (Cond.and given_1 narrow_1).before A s = true) : (Jvm.Cond.exactly (Jvm.Term.string "java/lang/StringUTF16" (295 : Nat)) "java/lang/String").before A s = true := an_l (an_l (an_r (an_r (an_l (an_r (an_l (an_r (an_r (an_r (an_r h))))))))))
theorem ss_35 {b : Nat} {s : State} (hts : ∀ w ∈ lw_tbl, w.before #[Value.ref b] s = true) (hgv : (Cond.and given_1 narrow_1).before #[Value.ref b] s = true) (hA : ∀ a : Nat, a < s.heap.size → ¬ s.heap.size ≤ a) : ∃ a v : Nat, vk_R "java/lang/StringUTF16" 295 "" a s ∧ v = v := by
  obtain ⟨a, -, -, -, q1, -⟩ := Cond.exactly_spec (nb_187 hgv)
  exact ⟨a, 0, vk_R.of (hts _ tw_2023) q1, rfl⟩
theorem nb_188 {A : Array Value} {s : State} (h : (Cond.and given_1 narrow_1).before A s = true) : (Jvm.Cond.exactly (Jvm.Term.string "BoringheadModel" (326 : Nat)) "java/lang/String").before A s = true := an_l (an_r (an_l (an_l (an_r (an_r (an_l (an_r (an_r (an_r (an_r h))))))))))
theorem nb_189 {A : Array Value} {s : State} (h : (Cond.and given_1 narrow_1).before A s = true) : (Jvm.Cond.eq (Jvm.Term.elem (Jvm.Term.field (Jvm.Term.string "BoringheadModel" (326 : Nat)) "java/lang/String" "value" "[B") (Jvm.Term.int (0 : Int32))) (Jvm.Term.int (98 : Int32))).before A s = true := an_l (an_r (an_r (an_l (an_r (an_r (an_l (an_r (an_r (an_r (an_r h))))))))))
theorem nb_190 {A : Array Value} {s : State} (h : (Cond.and given_1 narrow_1).before A s = true) : (Jvm.Cond.eq (Jvm.Term.elem (Jvm.Term.field (Jvm.Term.string "BoringheadModel" (326 : Nat)) "java/lang/String" "value" "[B") (Jvm.Term.int (1 : Int32))) (Jvm.Term.int (107 : Int32))).before A s = true := an_r (an_r (an_r (an_l (an_r (an_r (an_l (an_r (an_r (an_r (an_r h))))))))))
theorem nb_191 {A : Array Value} {s : State} (h : (Cond.and given_1 narrow_1).before A s = true) : (Jvm.Cond.eq (Jvm.Term.elem (Jvm.Term.field (Jvm.Term.string "BoringheadModel" (326 : Nat)) "java/lang/String" "value" "[B") (Jvm.Term.int (2 : Int32))) (Jvm.Term.int (110 : Int32))).before A s = true := an_l (an_l (an_l (an_r (an_r (an_r (an_l (an_r (an_r (an_r (an_r h))))))))))
theorem nb_192 {A : Array Value} {s : State} (h : (Cond.and given_1 narrow_1).before A s = true) : (Jvm.Cond.arrayOf (Jvm.Term.field (Jvm.Term.string "BoringheadModel" (326 : Nat)) "java/lang/String" "value" "[B") Jvm.ClassFile.FieldType.byte).before A s = true := an_l (an_l (an_r (an_l (an_r (an_r (an_l (an_r (an_r (an_r (an_r h))))))))))
theorem nb_193 {A : Array Value} {s : State} (h : (Cond.and given_1 narrow_1).before A s = true) : (Jvm.Cond.eq (Jvm.Term.length (Jvm.Term.field (Jvm.Term.string "BoringheadModel" (326 : Nat)) "java/lang/String" "value" "[B")) (Jvm.Term.int (3 : Int32))).before A s = true := an_r (an_l (an_r (an_l (an_r (an_r (an_l (an_r (an_r (an_r (an_r h))))))))))
theorem nb_194 {A : Array Value} {s : State} (h : (Cond.and given_1 narrow_1).before A s = true) : (Jvm.Cond.eq (Jvm.Term.field (Jvm.Term.string "BoringheadModel" (326 : Nat)) "java/lang/String" "coder" "B") (Jvm.Term.int (0 : Int32))).before A s = true := an_r (an_r (an_l (an_l (an_r (an_r (an_l (an_r (an_r (an_r (an_r h))))))))))
theorem ss_36 {b : Nat} {s : State} (hts : ∀ w ∈ lw_tbl, w.before #[Value.ref b] s = true) (hgv : (Cond.and given_1 narrow_1).before #[Value.ref b] s = true) (hA : ∀ a : Nat, a < s.heap.size → ¬ s.heap.size ≤ a) : ∃ a v : Nat, vk_R "BoringheadModel" 326 "bkn" a s ∧ va_O "java/lang/String" a (fun q => s.heap.size ≤ q) s s.heap ∧ va_OF "java/lang/String" "coder" "B" (.int 0) a (fun q => s.heap.size ≤ q) s s.heap ∧ va_OF "java/lang/String" "value" "[B" (.ref v) a (fun q => s.heap.size ≤ q) s s.heap ∧ va_T .byte v 3 (fun j => .int (stF [98, 107, 110] j)) (fun q => s.heap.size ≤ q) s s.heap := by
  obtain ⟨a, -, -, -, q1, -⟩ := Cond.exactly_spec (nb_188 hgv)
  have el : ∀ j : Nat, j < 3 → (Term.elem (Jvm.Term.field (Jvm.Term.string "BoringheadModel" (326 : Nat)) "java/lang/String" "value" "[B") (.int (Int32.ofNat j))).eval #[Value.ref b] s none [] s = some (.int (stF [98, 107, 110] j)) := by
    intro j hj
    rcases j with _ | _ | _ | j
    · exact va_eqt (nb_189 hgv)
    · exact va_eqt (nb_190 hgv)
    · exact va_eqt (nb_191 hgv)
    · exact absurd hj (by omega)
  obtain ⟨v, hv, hT⟩ := va_Tof (A := fun q => s.heap.size ≤ q) (tm := (Jvm.Term.field (Jvm.Term.string "BoringheadModel" (326 : Nat)) "java/lang/String" "value" "[B")) (ty := .byte) (N := 3) (f := fun j => .int (stF [98, 107, 110] j)) (by decide) (nb_192 hgv) (va_eqt (nb_193 hgv)) el hA
  exact ⟨a, v, vk_R.of (hts _ tw_2040) q1, va_Oof (nb_188 hgv) q1 hA, va_OFof q1 (va_eqt (nb_194 hgv)) hA, va_OFof q1 hv hA, hT⟩
theorem kn_c0 {b : Nat} {s : State} (hts : ∀ w ∈ lw_tbl, w.before #[Value.ref b] s = true) : ∃ cC : ClassId, cC = cC := by
  obtain ⟨cC, iS, h⟩ := u_known (ws := lw_tbl) (C := RJ0) (T := TJ0) (N := 4) hts (fun w hw => (List.mem_filter.mp (cs_J0.2.1 w hw)).1) (hts _ tw_774)
  exact ⟨cC, rfl⟩
theorem kn_all {b : Nat} {s : State} (hts : ∀ w ∈ lw_tbl, w.before #[Value.ref b] s = true) (k : Nat) : ∃ (cC : ClassId) (iS : Nat → Nat), ∀ q, vwCl[k]? = some q → u_Kn s q.1 q.2.1 q.2.2 cC iS := by
  match k with
  | 0 =>
    obtain ⟨cC, iS, h⟩ := u_known (ws := lw_tbl) (C := RJ0) (T := TJ0) (N := 4) hts (fun w hw => (List.mem_filter.mp (cs_J0.2.1 w hw)).1) (hts _ tw_774)
    exact ⟨cC, iS, fun q hq => by cases hq; exact h⟩
  | 1 =>
    obtain ⟨cC, iS, h⟩ := u_known (ws := lw_tbl) (C := RJ4) (T := TJ4) (N := 4) hts (fun w hw => (List.mem_filter.mp (cs_J4.2.1 w hw)).1) (hts _ tw_1807)
    exact ⟨cC, iS, fun q hq => by cases hq; exact h⟩
  | 2 =>
    obtain ⟨cC, iS, h⟩ := u_known (ws := lw_tbl) (C := RJx00060) (T := TJx00060) (N := 6) hts (fun w hw => (List.mem_filter.mp (cs_Jx00060.2.1 w hw)).1) (hts _ tw_756)
    exact ⟨cC, iS, fun q hq => by cases hq; exact h⟩
  | 3 =>
    obtain ⟨cC, iS, h⟩ := u_known (ws := lw_tbl) (C := RJx35411) (T := TJx35411) (N := 4) hts (fun w hw => (List.mem_filter.mp (cs_Jx35411.2.1 w hw)).1) (hts _ tw_1503)
    exact ⟨cC, iS, fun q hq => by cases hq; exact h⟩
  | 4 =>
    obtain ⟨cC, iS, h⟩ := u_known (ws := lw_tbl) (C := RJx4a65c) (T := TJx4a65c) (N := 3) hts (fun w hw => (List.mem_filter.mp (cs_Jx4a65c.2.1 w hw)).1) (hts _ tw_55)
    exact ⟨cC, iS, fun q hq => by cases hq; exact h⟩
  | 5 =>
    obtain ⟨cC, iS, h⟩ := u_known (ws := lw_tbl) (C := RX0) (T := TX0) (N := 2) hts (fun w hw => (List.mem_filter.mp (cs_X0.2.1 w hw)).1) (hts _ tw_605)
    exact ⟨cC, iS, fun q hq => by cases hq; exact h⟩
  | 6 =>
    obtain ⟨cC, iS, h⟩ := u_known (ws := lw_tbl) (C := RX1) (T := TX1) (N := 4) hts (fun w hw => (List.mem_filter.mp (cs_X1.2.1 w hw)).1) (hts _ tw_186)
    exact ⟨cC, iS, fun q hq => by cases hq; exact h⟩
  | 7 =>
    obtain ⟨cC, iS, h⟩ := u_known (ws := lw_tbl) (C := RX2) (T := TX2) (N := 2) hts (fun w hw => (List.mem_filter.mp (cs_X2.2.1 w hw)).1) (hts _ tw_209)
    exact ⟨cC, iS, fun q hq => by cases hq; exact h⟩
  | 8 =>
    obtain ⟨cC, iS, h⟩ := u_known (ws := lw_tbl) (C := RX3) (T := TX3) (N := 4) hts (fun w hw => (List.mem_filter.mp (cs_X3.2.1 w hw)).1) (hts _ tw_144)
    exact ⟨cC, iS, fun q hq => by cases hq; exact h⟩
  | 9 =>
    obtain ⟨cC, iS, h⟩ := u_known (ws := lw_tbl) (C := RX4) (T := TX4) (N := 7) hts (fun w hw => (List.mem_filter.mp (cs_X4.2.1 w hw)).1) (hts _ tw_1032)
    exact ⟨cC, iS, fun q hq => by cases hq; exact h⟩
  | 10 =>
    obtain ⟨cC, iS, h⟩ := u_known (ws := lw_tbl) (C := RX5) (T := TX5) (N := 14) hts (fun w hw => (List.mem_filter.mp (cs_X5.2.1 w hw)).1) (hts _ tw_880)
    exact ⟨cC, iS, fun q hq => by cases hq; exact h⟩
  | 11 =>
    obtain ⟨cC, iS, h⟩ := u_known (ws := lw_tbl) (C := RX6) (T := TX6) (N := 5) hts (fun w hw => (List.mem_filter.mp (cs_X6.2.1 w hw)).1) (hts _ tw_114)
    exact ⟨cC, iS, fun q hq => by cases hq; exact h⟩
  | 12 =>
    obtain ⟨cC, iS, h⟩ := u_known (ws := lw_tbl) (C := RX7) (T := TX7) (N := 7) hts (fun w hw => (List.mem_filter.mp (cs_X7.2.1 w hw)).1) (hts _ tw_49)
    exact ⟨cC, iS, fun q hq => by cases hq; exact h⟩
  | 13 =>
    obtain ⟨cC, iS, h⟩ := u_known (ws := lw_tbl) (C := RX8) (T := TX8) (N := 3) hts (fun w hw => (List.mem_filter.mp (cs_X8.2.1 w hw)).1) (hts _ tw_167)
    exact ⟨cC, iS, fun q hq => by cases hq; exact h⟩
  | 14 =>
    obtain ⟨cC, iS, h⟩ := u_known (ws := lw_tbl) (C := RX9) (T := TX9) (N := 9) hts (fun w hw => (List.mem_filter.mp (cs_X9.2.1 w hw)).1) (hts _ tw_41)
    exact ⟨cC, iS, fun q hq => by cases hq; exact h⟩
  | 15 =>
    obtain ⟨cC, iS, h⟩ := u_known (ws := lw_tbl) (C := RX10) (T := TX10) (N := 9) hts (fun w hw => (List.mem_filter.mp (cs_X10.2.1 w hw)).1) (hts _ tw_1633)
    exact ⟨cC, iS, fun q hq => by cases hq; exact h⟩
  | 16 =>
    obtain ⟨cC, iS, h⟩ := u_known (ws := lw_tbl) (C := RX11) (T := TX11) (N := 22) hts (fun w hw => (List.mem_filter.mp (cs_X11.2.1 w hw)).1) (hts _ tw_1241)
    exact ⟨cC, iS, fun q hq => by cases hq; exact h⟩
  | k + 17 => exact ⟨(kn_c0 hts).choose, fun _ => 0, fun q hq => by simp at hq⟩
def tyL : List FieldType := [.int, .char, .byte, .object "java/lang/Object", .long, .double]
theorem ar_all {b : Nat} {s : State} (hts : ∀ w ∈ lw_tbl, w.before #[Value.ref b] s = true) (k : Nat) : ∃ cA : ClassId, ∀ ty, tyL[k]? = some ty → ArrOfT s cA ty ∧ va_RA s cA ty := by
  match k with
  | 0 =>
    obtain ⟨cA, kA, comp, h1, h2, h3⟩ := Cond.arrayClass_spec (hts _ tw_83)
    exact ⟨cA, fun ty hty => by cases hty; exact ⟨fun n z => ⟨fun k h => (by cases h), kA, h2, comp, h3⟩, h1⟩⟩
  | 1 =>
    obtain ⟨cA, kA, comp, h1, h2, h3⟩ := Cond.arrayClass_spec (hts _ tw_234)
    exact ⟨cA, fun ty hty => by cases hty; exact ⟨fun n z => ⟨fun k h => (by cases h), kA, h2, comp, h3⟩, h1⟩⟩
  | 2 =>
    obtain ⟨cA, kA, comp, h1, h2, h3⟩ := Cond.arrayClass_spec (hts _ tw_520)
    exact ⟨cA, fun ty hty => by cases hty; exact ⟨fun n z => ⟨fun k h => (by cases h), kA, h2, comp, h3⟩, h1⟩⟩
  | 3 =>
    obtain ⟨comp, cA, kA, f1, f2, f3, f4, f5⟩ := Cond.arrayOver_spec (hts _ tw_676)
    exact ⟨cA, fun ty hty => by cases hty; exact ⟨fun n z => ⟨fun k h => (by cases h), kA, f3, comp, f4⟩, kA, comp, f3, f4, f1, f5⟩⟩
  | 4 =>
    obtain ⟨cA, kA, comp, h1, h2, h3⟩ := Cond.arrayClass_spec (hts _ tw_1704)
    exact ⟨cA, fun ty hty => by cases hty; exact ⟨fun n z => ⟨fun k h => (by cases h), kA, h2, comp, h3⟩, h1⟩⟩
  | 5 =>
    obtain ⟨cA, kA, comp, h1, h2, h3⟩ := Cond.arrayClass_spec (hts _ tw_2085)
    exact ⟨cA, fun ty hty => by cases hty; exact ⟨fun n z => ⟨fun k h => (by cases h), kA, h2, comp, h3⟩, h1⟩⟩
  | k + 6 => exact ⟨(kn_c0 hts).choose, fun ty hty => by simp [tyL] at hty⟩
theorem sa_all {b : Nat} {s : State} (hts : ∀ w ∈ lw_tbl, w.before #[Value.ref b] s = true) (hgv : (Cond.and given_1 narrow_1).before #[Value.ref b] s = true) (hA : ∀ a : Nat, a < s.heap.size → ¬ s.heap.size ≤ a) (k : Nat) : ∃ t : Nat, ∀ x : String × String × String × FieldType × List Int32, stT[k]? = some x → va_Z x.1 x.2.1 x.2.2.1 (.ref t) (fun q => s.heap.size ≤ q) s s.heap ∧ va_T x.2.2.2.1 t x.2.2.2.2.length (fun j => .int (stF x.2.2.2.2 j)) (fun q => s.heap.size ≤ q) s s.heap := by
  match k with
  | 0 =>
    obtain ⟨t, -, h⟩ := sa_0 hts hgv hA
    exact ⟨t, fun x hx => by cases hx; exact h⟩
  | 1 =>
    obtain ⟨t, -, h⟩ := sa_1 hts hgv hA
    exact ⟨t, fun x hx => by cases hx; exact h⟩
  | 2 =>
    obtain ⟨t, -, h⟩ := sa_2 hts hgv hA
    exact ⟨t, fun x hx => by cases hx; exact h⟩
  | 3 =>
    obtain ⟨t, -, h⟩ := sa_3 hts hgv hA
    exact ⟨t, fun x hx => by cases hx; exact h⟩
  | 4 =>
    obtain ⟨t, -, h⟩ := sa_4 hts hgv hA
    exact ⟨t, fun x hx => by cases hx; exact h⟩
  | 5 =>
    obtain ⟨t, -, h⟩ := sa_5 hts hgv hA
    exact ⟨t, fun x hx => by cases hx; exact h⟩
  | 6 =>
    obtain ⟨t, -, h⟩ := sa_6 hts hgv hA
    exact ⟨t, fun x hx => by cases hx; exact h⟩
  | 7 =>
    obtain ⟨t, -, h⟩ := sa_7 hts hgv hA
    exact ⟨t, fun x hx => by cases hx; exact h⟩
  | 8 =>
    obtain ⟨t, -, h⟩ := sa_8 hts hgv hA
    exact ⟨t, fun x hx => by cases hx; exact h⟩
  | 9 =>
    obtain ⟨t, -, h⟩ := sa_9 hts hgv hA
    exact ⟨t, fun x hx => by cases hx; exact h⟩
  | 10 =>
    obtain ⟨t, -, h⟩ := sa_10 hts hgv hA
    exact ⟨t, fun x hx => by cases hx; exact h⟩
  | 11 =>
    obtain ⟨t, -, h⟩ := sa_11 hts hgv hA
    exact ⟨t, fun x hx => by cases hx; exact h⟩
  | 12 =>
    obtain ⟨t, -, h⟩ := sa_12 hts hgv hA
    exact ⟨t, fun x hx => by cases hx; exact h⟩
  | 13 =>
    obtain ⟨t, -, h⟩ := sa_13 hts hgv hA
    exact ⟨t, fun x hx => by cases hx; exact h⟩
  | 14 =>
    obtain ⟨t, -, h⟩ := sa_14 hts hgv hA
    exact ⟨t, fun x hx => by cases hx; exact h⟩
  | 15 =>
    obtain ⟨t, -, h⟩ := sa_15 hts hgv hA
    exact ⟨t, fun x hx => by cases hx; exact h⟩
  | 16 =>
    obtain ⟨t, -, h⟩ := sa_16 hts hgv hA
    exact ⟨t, fun x hx => by cases hx; exact h⟩
  | 17 =>
    obtain ⟨t, -, h⟩ := sa_17 hts hgv hA
    exact ⟨t, fun x hx => by cases hx; exact h⟩
  | 18 =>
    obtain ⟨t, -, h⟩ := sa_18 hts hgv hA
    exact ⟨t, fun x hx => by cases hx; exact h⟩
  | k + 19 => exact ⟨0, fun x hx => by simp [stT] at hx⟩
theorem ss_all {b : Nat} {s : State} (hts : ∀ w ∈ lw_tbl, w.before #[Value.ref b] s = true) (hgv : (Cond.and given_1 narrow_1).before #[Value.ref b] s = true) (hA : ∀ a : Nat, a < s.heap.size → ¬ s.heap.size ≤ a) (k : Nat) : ∃ a v : Nat, (∀ x : String × Nat × String, stS[k]? = some x → vk_R x.1 x.2.1 x.2.2 a s) ∧ ∀ (j : Nat) (x : Nat × List Int32), stB[j]? = some x → x.1 = k → va_O "java/lang/String" a (fun q => s.heap.size ≤ q) s s.heap ∧ va_OF "java/lang/String" "coder" "B" (.int 0) a (fun q => s.heap.size ≤ q) s s.heap ∧ va_OF "java/lang/String" "value" "[B" (.ref v) a (fun q => s.heap.size ≤ q) s s.heap ∧ va_T .byte v x.2.length (fun j => .int (stF x.2 j)) (fun q => s.heap.size ≤ q) s s.heap := by
  match k with
  | 0 =>
    obtain ⟨a, v, h1, -⟩ := ss_0 hts hgv hA
    exact ⟨a, v, fun x hx => by cases hx; exact h1, fun j x hx he => by
      rcases j with _ | _ | _ | _ | j
      all_goals first | (cases hx; exact absurd he (by decide)) | (simp [stB] at hx)⟩
  | 1 =>
    obtain ⟨a, v, h1, -⟩ := ss_1 hts hgv hA
    exact ⟨a, v, fun x hx => by cases hx; exact h1, fun j x hx he => by
      rcases j with _ | _ | _ | _ | j
      all_goals first | (cases hx; exact absurd he (by decide)) | (simp [stB] at hx)⟩
  | 2 =>
    obtain ⟨a, v, h1, -⟩ := ss_2 hts hgv hA
    exact ⟨a, v, fun x hx => by cases hx; exact h1, fun j x hx he => by
      rcases j with _ | _ | _ | _ | j
      all_goals first | (cases hx; exact absurd he (by decide)) | (simp [stB] at hx)⟩
  | 3 =>
    obtain ⟨a, v, h1, -⟩ := ss_3 hts hgv hA
    exact ⟨a, v, fun x hx => by cases hx; exact h1, fun j x hx he => by
      rcases j with _ | _ | _ | _ | j
      all_goals first | (cases hx; exact absurd he (by decide)) | (simp [stB] at hx)⟩
  | 4 =>
    obtain ⟨a, v, h1, -⟩ := ss_4 hts hgv hA
    exact ⟨a, v, fun x hx => by cases hx; exact h1, fun j x hx he => by
      rcases j with _ | _ | _ | _ | j
      all_goals first | (cases hx; exact absurd he (by decide)) | (simp [stB] at hx)⟩
  | 5 =>
    obtain ⟨a, v, h1, -⟩ := ss_5 hts hgv hA
    exact ⟨a, v, fun x hx => by cases hx; exact h1, fun j x hx he => by
      rcases j with _ | _ | _ | _ | j
      all_goals first | (cases hx; exact absurd he (by decide)) | (simp [stB] at hx)⟩
  | 6 =>
    obtain ⟨a, v, h1, -⟩ := ss_6 hts hgv hA
    exact ⟨a, v, fun x hx => by cases hx; exact h1, fun j x hx he => by
      rcases j with _ | _ | _ | _ | j
      all_goals first | (cases hx; exact absurd he (by decide)) | (simp [stB] at hx)⟩
  | 7 =>
    obtain ⟨a, v, h1, -⟩ := ss_7 hts hgv hA
    exact ⟨a, v, fun x hx => by cases hx; exact h1, fun j x hx he => by
      rcases j with _ | _ | _ | _ | j
      all_goals first | (cases hx; exact absurd he (by decide)) | (simp [stB] at hx)⟩
  | 8 =>
    obtain ⟨a, v, h1, -⟩ := ss_8 hts hgv hA
    exact ⟨a, v, fun x hx => by cases hx; exact h1, fun j x hx he => by
      rcases j with _ | _ | _ | _ | j
      all_goals first | (cases hx; exact absurd he (by decide)) | (simp [stB] at hx)⟩
  | 9 =>
    obtain ⟨a, v, h1, -⟩ := ss_9 hts hgv hA
    exact ⟨a, v, fun x hx => by cases hx; exact h1, fun j x hx he => by
      rcases j with _ | _ | _ | _ | j
      all_goals first | (cases hx; exact absurd he (by decide)) | (simp [stB] at hx)⟩
  | 10 =>
    obtain ⟨a, v, h1, -⟩ := ss_10 hts hgv hA
    exact ⟨a, v, fun x hx => by cases hx; exact h1, fun j x hx he => by
      rcases j with _ | _ | _ | _ | j
      all_goals first | (cases hx; exact absurd he (by decide)) | (simp [stB] at hx)⟩
  | 11 =>
    obtain ⟨a, v, h1, -⟩ := ss_11 hts hgv hA
    exact ⟨a, v, fun x hx => by cases hx; exact h1, fun j x hx he => by
      rcases j with _ | _ | _ | _ | j
      all_goals first | (cases hx; exact absurd he (by decide)) | (simp [stB] at hx)⟩
  | 12 =>
    obtain ⟨a, v, h1, -⟩ := ss_12 hts hgv hA
    exact ⟨a, v, fun x hx => by cases hx; exact h1, fun j x hx he => by
      rcases j with _ | _ | _ | _ | j
      all_goals first | (cases hx; exact absurd he (by decide)) | (simp [stB] at hx)⟩
  | 13 =>
    obtain ⟨a, v, h1, -⟩ := ss_13 hts hgv hA
    exact ⟨a, v, fun x hx => by cases hx; exact h1, fun j x hx he => by
      rcases j with _ | _ | _ | _ | j
      all_goals first | (cases hx; exact absurd he (by decide)) | (simp [stB] at hx)⟩
  | 14 =>
    obtain ⟨a, v, h1, -⟩ := ss_14 hts hgv hA
    exact ⟨a, v, fun x hx => by cases hx; exact h1, fun j x hx he => by
      rcases j with _ | _ | _ | _ | j
      all_goals first | (cases hx; exact absurd he (by decide)) | (simp [stB] at hx)⟩
  | 15 =>
    obtain ⟨a, v, h1, -⟩ := ss_15 hts hgv hA
    exact ⟨a, v, fun x hx => by cases hx; exact h1, fun j x hx he => by
      rcases j with _ | _ | _ | _ | j
      all_goals first | (cases hx; exact absurd he (by decide)) | (simp [stB] at hx)⟩
  | 16 =>
    obtain ⟨a, v, h1, -⟩ := ss_16 hts hgv hA
    exact ⟨a, v, fun x hx => by cases hx; exact h1, fun j x hx he => by
      rcases j with _ | _ | _ | _ | j
      all_goals first | (cases hx; exact absurd he (by decide)) | (simp [stB] at hx)⟩
  | 17 =>
    obtain ⟨a, v, h1, -⟩ := ss_17 hts hgv hA
    exact ⟨a, v, fun x hx => by cases hx; exact h1, fun j x hx he => by
      rcases j with _ | _ | _ | _ | j
      all_goals first | (cases hx; exact absurd he (by decide)) | (simp [stB] at hx)⟩
  | 18 =>
    obtain ⟨a, v, h1, -⟩ := ss_18 hts hgv hA
    exact ⟨a, v, fun x hx => by cases hx; exact h1, fun j x hx he => by
      rcases j with _ | _ | _ | _ | j
      all_goals first | (cases hx; exact absurd he (by decide)) | (simp [stB] at hx)⟩
  | 19 =>
    obtain ⟨a, v, h1, -⟩ := ss_19 hts hgv hA
    exact ⟨a, v, fun x hx => by cases hx; exact h1, fun j x hx he => by
      rcases j with _ | _ | _ | _ | j
      all_goals first | (cases hx; exact absurd he (by decide)) | (simp [stB] at hx)⟩
  | 20 =>
    obtain ⟨a, v, h1, -⟩ := ss_20 hts hgv hA
    exact ⟨a, v, fun x hx => by cases hx; exact h1, fun j x hx he => by
      rcases j with _ | _ | _ | _ | j
      all_goals first | (cases hx; exact absurd he (by decide)) | (simp [stB] at hx)⟩
  | 21 =>
    obtain ⟨a, v, h1, -⟩ := ss_21 hts hgv hA
    exact ⟨a, v, fun x hx => by cases hx; exact h1, fun j x hx he => by
      rcases j with _ | _ | _ | _ | j
      all_goals first | (cases hx; exact absurd he (by decide)) | (simp [stB] at hx)⟩
  | 22 =>
    obtain ⟨a, v, h1, -⟩ := ss_22 hts hgv hA
    exact ⟨a, v, fun x hx => by cases hx; exact h1, fun j x hx he => by
      rcases j with _ | _ | _ | _ | j
      all_goals first | (cases hx; exact absurd he (by decide)) | (simp [stB] at hx)⟩
  | 23 =>
    obtain ⟨a, v, h1, -⟩ := ss_23 hts hgv hA
    exact ⟨a, v, fun x hx => by cases hx; exact h1, fun j x hx he => by
      rcases j with _ | _ | _ | _ | j
      all_goals first | (cases hx; exact absurd he (by decide)) | (simp [stB] at hx)⟩
  | 24 =>
    obtain ⟨a, v, h1, -⟩ := ss_24 hts hgv hA
    exact ⟨a, v, fun x hx => by cases hx; exact h1, fun j x hx he => by
      rcases j with _ | _ | _ | _ | j
      all_goals first | (cases hx; exact absurd he (by decide)) | (simp [stB] at hx)⟩
  | 25 =>
    obtain ⟨a, v, h1, -⟩ := ss_25 hts hgv hA
    exact ⟨a, v, fun x hx => by cases hx; exact h1, fun j x hx he => by
      rcases j with _ | _ | _ | _ | j
      all_goals first | (cases hx; exact absurd he (by decide)) | (simp [stB] at hx)⟩
  | 26 =>
    obtain ⟨a, v, h1, -⟩ := ss_26 hts hgv hA
    exact ⟨a, v, fun x hx => by cases hx; exact h1, fun j x hx he => by
      rcases j with _ | _ | _ | _ | j
      all_goals first | (cases hx; exact absurd he (by decide)) | (simp [stB] at hx)⟩
  | 27 =>
    obtain ⟨a, v, h1, -⟩ := ss_27 hts hgv hA
    exact ⟨a, v, fun x hx => by cases hx; exact h1, fun j x hx he => by
      rcases j with _ | _ | _ | _ | j
      all_goals first | (cases hx; exact absurd he (by decide)) | (simp [stB] at hx)⟩
  | 28 =>
    obtain ⟨a, v, h1, -⟩ := ss_28 hts hgv hA
    exact ⟨a, v, fun x hx => by cases hx; exact h1, fun j x hx he => by
      rcases j with _ | _ | _ | _ | j
      all_goals first | (cases hx; exact absurd he (by decide)) | (simp [stB] at hx)⟩
  | 29 =>
    obtain ⟨a, v, h1, -⟩ := ss_29 hts hgv hA
    exact ⟨a, v, fun x hx => by cases hx; exact h1, fun j x hx he => by
      rcases j with _ | _ | _ | _ | j
      all_goals first | (cases hx; exact absurd he (by decide)) | (simp [stB] at hx)⟩
  | 30 =>
    obtain ⟨a, v, h1, -⟩ := ss_30 hts hgv hA
    exact ⟨a, v, fun x hx => by cases hx; exact h1, fun j x hx he => by
      rcases j with _ | _ | _ | _ | j
      all_goals first | (cases hx; exact absurd he (by decide)) | (simp [stB] at hx)⟩
  | 31 =>
    obtain ⟨a, v, h1, h2⟩ := ss_31 hts hgv hA
    refine ⟨a, v, fun x hx => by cases hx; exact h1, fun j x hx he => ?_⟩
    rcases j with _ | _ | _ | _ | j
    · cases hx; exact h2
    · cases hx; exact absurd he (by decide)
    · cases hx; exact absurd he (by decide)
    · cases hx; exact absurd he (by decide)
    · simp [stB] at hx
  | 32 =>
    obtain ⟨a, v, h1, h2⟩ := ss_32 hts hgv hA
    refine ⟨a, v, fun x hx => by cases hx; exact h1, fun j x hx he => ?_⟩
    rcases j with _ | _ | _ | _ | j
    · cases hx; exact absurd he (by decide)
    · cases hx; exact h2
    · cases hx; exact absurd he (by decide)
    · cases hx; exact absurd he (by decide)
    · simp [stB] at hx
  | 33 =>
    obtain ⟨a, v, h1, h2⟩ := ss_33 hts hgv hA
    refine ⟨a, v, fun x hx => by cases hx; exact h1, fun j x hx he => ?_⟩
    rcases j with _ | _ | _ | _ | j
    · cases hx; exact absurd he (by decide)
    · cases hx; exact absurd he (by decide)
    · cases hx; exact h2
    · cases hx; exact absurd he (by decide)
    · simp [stB] at hx
  | 34 =>
    obtain ⟨a, v, h1, -⟩ := ss_34 hts hgv hA
    exact ⟨a, v, fun x hx => by cases hx; exact h1, fun j x hx he => by
      rcases j with _ | _ | _ | _ | j
      all_goals first | (cases hx; exact absurd he (by decide)) | (simp [stB] at hx)⟩
  | 35 =>
    obtain ⟨a, v, h1, -⟩ := ss_35 hts hgv hA
    exact ⟨a, v, fun x hx => by cases hx; exact h1, fun j x hx he => by
      rcases j with _ | _ | _ | _ | j
      all_goals first | (cases hx; exact absurd he (by decide)) | (simp [stB] at hx)⟩
  | 36 =>
    obtain ⟨a, v, h1, h2⟩ := ss_36 hts hgv hA
    refine ⟨a, v, fun x hx => by cases hx; exact h1, fun j x hx he => ?_⟩
    rcases j with _ | _ | _ | _ | j
    · cases hx; exact absurd he (by decide)
    · cases hx; exact absurd he (by decide)
    · cases hx; exact absurd he (by decide)
    · cases hx; exact h2
    · simp [stB] at hx
  | k + 37 => exact ⟨0, 0, fun x hx => by simp [stS] at hx, fun j x hx he => by
      rcases j with _ | _ | _ | _ | j
      all_goals first | (cases hx; exact absurd he (by simp only; omega)) | (simp [stB] at hx)⟩
theorem nb_195 {A : Array Value} {s : State} (h : (Cond.and given_1 narrow_1).before A s = true) : (Jvm.Cond.not (Jvm.Cond.castable "java/lang/IllegalArgumentException" "java/lang/UnsupportedOperationException")).before A s = true := an_l (an_l (an_l (an_l (an_l (an_l (an_l (an_l (an_r (an_l (an_r h))))))))))
theorem nb_196 {A : Array Value} {s : State} (h : (Cond.and given_1 narrow_1).before A s = true) : (Jvm.Cond.not (Jvm.Cond.castable "java/lang/IllegalArgumentException" "java/lang/IllegalStateException")).before A s = true := an_l (an_l (an_r (an_r (an_r (an_l (an_l (an_l (an_l (an_r (an_l (an_r h)))))))))))
theorem nb_197 {A : Array Value} {s : State} (h : (Cond.and given_1 narrow_1).before A s = true) : (Jvm.Cond.not (Jvm.Cond.castable "java/lang/IllegalArgumentException" "java/lang/IndexOutOfBoundsException")).before A s = true := an_r (an_r (an_r (an_l (an_r (an_r (an_l (an_l (an_l (an_r (an_l (an_r h)))))))))))
theorem nb_198 {A : Array Value} {s : State} (h : (Cond.and given_1 narrow_1).before A s = true) : (Jvm.Cond.not (Jvm.Cond.castable "java/lang/UnsupportedOperationException" "java/lang/IllegalArgumentException")).before A s = true := an_l (an_r (an_r (an_l (an_l (an_r (an_r (an_r (an_r (an_l (an_l (an_r h)))))))))))
theorem nb_199 {A : Array Value} {s : State} (h : (Cond.and given_1 narrow_1).before A s = true) : (Jvm.Cond.not (Jvm.Cond.castable "java/lang/UnsupportedOperationException" "java/lang/IllegalStateException")).before A s = true := an_r (an_l (an_r (an_r (an_r (an_l (an_l (an_l (an_l (an_r (an_l (an_r h)))))))))))
theorem nb_200 {A : Array Value} {s : State} (h : (Cond.and given_1 narrow_1).before A s = true) : (Jvm.Cond.not (Jvm.Cond.castable "java/lang/UnsupportedOperationException" "java/lang/IndexOutOfBoundsException")).before A s = true := an_l (an_l (an_r (an_r (an_r (an_l (an_l (an_l (an_r (an_l (an_r h))))))))))
theorem nb_201 {A : Array Value} {s : State} (h : (Cond.and given_1 narrow_1).before A s = true) : (Jvm.Cond.not (Jvm.Cond.castable "java/lang/IllegalStateException" "java/lang/IllegalArgumentException")).before A s = true := an_r (an_r (an_r (an_l (an_l (an_r (an_r (an_r (an_r (an_l (an_l (an_r h)))))))))))
theorem nb_202 {A : Array Value} {s : State} (h : (Cond.and given_1 narrow_1).before A s = true) : (Jvm.Cond.not (Jvm.Cond.castable "java/lang/IllegalStateException" "java/lang/UnsupportedOperationException")).before A s = true := an_l (an_r (an_l (an_l (an_l (an_l (an_l (an_l (an_l (an_r (an_l (an_r h)))))))))))
theorem nb_203 {A : Array Value} {s : State} (h : (Cond.and given_1 narrow_1).before A s = true) : (Jvm.Cond.not (Jvm.Cond.castable "java/lang/IllegalStateException" "java/lang/IndexOutOfBoundsException")).before A s = true := an_l (an_r (an_l (an_r (an_r (an_r (an_l (an_l (an_l (an_r (an_l (an_r h)))))))))))
theorem nb_204 {A : Array Value} {s : State} (h : (Cond.and given_1 narrow_1).before A s = true) : (Jvm.Cond.not (Jvm.Cond.castable "java/lang/IndexOutOfBoundsException" "java/lang/IllegalArgumentException")).before A s = true := an_l (an_r (an_r (an_l (an_r (an_r (an_r (an_r (an_l (an_l (an_r h))))))))))
theorem nb_205 {A : Array Value} {s : State} (h : (Cond.and given_1 narrow_1).before A s = true) : (Jvm.Cond.not (Jvm.Cond.castable "java/lang/IndexOutOfBoundsException" "java/lang/UnsupportedOperationException")).before A s = true := an_r (an_r (an_r (an_l (an_l (an_l (an_l (an_l (an_l (an_r (an_l (an_r h)))))))))))
theorem nb_206 {A : Array Value} {s : State} (h : (Cond.and given_1 narrow_1).before A s = true) : (Jvm.Cond.not (Jvm.Cond.castable "java/lang/IndexOutOfBoundsException" "java/lang/IllegalStateException")).before A s = true := an_l (an_r (an_l (an_l (an_l (an_r (an_l (an_l (an_l (an_r (an_l (an_r h)))))))))))
theorem nc_all {b : Nat} {s : State} (hgv : (Cond.and given_1 narrow_1).before #[Value.ref b] s = true) : NCs s := by
  intro a ha c hc hac
  simp only [exNs, List.mem_cons, List.not_mem_nil, or_false] at ha hc
  rcases ha with rfl | rfl | rfl | rfl <;> rcases hc with rfl | rfl | rfl | rfl
  · exact absurd rfl hac
  · exact va_Nc.of (nb_195 hgv)
  · exact va_Nc.of (nb_196 hgv)
  · exact va_Nc.of (nb_197 hgv)
  · exact va_Nc.of (nb_198 hgv)
  · exact absurd rfl hac
  · exact va_Nc.of (nb_199 hgv)
  · exact va_Nc.of (nb_200 hgv)
  · exact va_Nc.of (nb_201 hgv)
  · exact va_Nc.of (nb_202 hgv)
  · exact absurd rfl hac
  · exact va_Nc.of (nb_203 hgv)
  · exact va_Nc.of (nb_204 hgv)
  · exact va_Nc.of (nb_205 hgv)
  · exact va_Nc.of (nb_206 hgv)
  · exact absurd rfl hac
theorem fi_all {b : Nat} {s : State} (hts : ∀ w ∈ lw_tbl, w.before #[Value.ref b] s = true) (i : Nat) (x : String × MethodName × MethodName) (hx : stI[i]? = some x) : va_Fw x.1 x.2.1 x.2.2 s := by
  match i, hx with
  | 0, hx =>
    cases hx
    exact va_Fw.of (hts _ tw_1429) (hts _ tw_1428) (hts _ tw_1433) (hts _ tw_1432) (hts _ tw_1430)
  | 1, hx =>
    cases hx
    exact va_Fw.of (hts _ tw_1463) (hts _ tw_1462) (hts _ tw_1466) (hts _ tw_1465) (hts _ tw_1430)
  | 2, hx =>
    cases hx
    exact va_Fw.of (hts _ tw_1496) (hts _ tw_1495) (hts _ tw_1500) (hts _ tw_1498) (hts _ tw_1430)
  | 3, hx =>
    cases hx
    exact va_Fw.of (hts _ tw_1609) (hts _ tw_1608) (hts _ tw_1612) (hts _ tw_1611) (hts _ tw_1430)
  | 4, hx =>
    cases hx
    exact va_Fw.of (hts _ tw_2068) (hts _ tw_2067) (hts _ tw_2071) (hts _ tw_2070) (hts _ tw_1430)
  | 5, hx =>
    cases hx
    exact va_Fw.of (hts _ tw_1524) (hts _ tw_1523) (hts _ tw_1529) (hts _ tw_1527) (hts _ tw_1525)
  | 6, hx =>
    cases hx
    exact va_Fw.of (hts _ tw_1534) (hts _ tw_1533) (hts _ tw_1538) (hts _ tw_1536) (hts _ tw_1525)
  | k + 7, hx => simp [stI] at hx
theorem nb_207 {A : Array Value} {s : State} (h : (Cond.and given_1 narrow_1).before A s = true) : (Jvm.Cond.eq (Jvm.Term.length (Jvm.Term.static "java/util/ArrayList" "DEFAULTCAPACITY_EMPTY_ELEMENTDATA" "[Ljava/lang/Object;")) (Jvm.Term.int (0 : Int32))).before A s = true := an_r (an_r (an_r (an_l (an_l (an_l (an_l (an_l (an_l (an_l (an_l (an_r h)))))))))))
theorem nb_208 {A : Array Value} {s : State} (h : (Cond.and given_1 narrow_1).before A s = true) : (Jvm.Cond.arrayOf (Jvm.Term.static "java/util/ArrayList" "DEFAULTCAPACITY_EMPTY_ELEMENTDATA" "[Ljava/lang/Object;") (Jvm.ClassFile.FieldType.object "java/lang/Object")).before A s = true := an_l (an_r (an_l (an_l (an_l (an_l (an_l (an_l (an_l (an_l (an_r h))))))))))
theorem nb_209 {A : Array Value} {s : State} (h : (Cond.and given_1 narrow_1).before A s = true) : (Jvm.Cond.exactly (Jvm.Term.static "Boringhead" "CAUSES" "[C") "[C").before A s = true := an_l (an_l (an_r (an_l (an_r (an_l (an_r (an_r (an_r (an_r (an_r h))))))))))
theorem nb_210 {A : Array Value} {s : State} (h : (Cond.and given_1 narrow_1).before A s = true) : (Jvm.Cond.eq (Jvm.Term.static "java/lang/String" "COMPACT_STRINGS" "Z") (Jvm.Term.int (1 : Int32))).before A s = true := an_r (an_r (an_l (an_r (an_r (an_r (an_r (an_l (an_l (an_l (an_l (an_r h)))))))))))
theorem nb_211 {A : Array Value} {s : State} (h : (Cond.and given_1 narrow_1).before A s = true) : (Jvm.Cond.isRef (Jvm.Term.static "jdk/internal/util/Preconditions" "SIOOBE_FORMATTER" "Ljava/util/function/BiFunction;")).before A s = true := an_l (an_l (an_r (an_r (an_r (an_r (an_r (an_l (an_l (an_l (an_l (an_r h)))))))))))
theorem nb_212 {A : Array Value} {s : State} (h : (Cond.and given_1 narrow_1).before A s = true) : (Jvm.Cond.isRef (Jvm.Term.static "java/lang/Throwable" "UNASSIGNED_STACK" "[Ljava/lang/StackTraceElement;")).before A s = true := an_r (an_l (an_r (an_r (an_r (an_l (an_r (an_l (an_l (an_l (an_l (an_r h)))))))))))
theorem nb_213 {A : Array Value} {s : State} (h : (Cond.and given_1 narrow_1).before A s = true) : (Jvm.Cond.isRef (Jvm.Term.static "java/lang/Throwable" "SUPPRESSED_SENTINEL" "Ljava/util/List;")).before A s = true := an_l (an_r (an_r (an_r (an_r (an_l (an_r (an_l (an_l (an_l (an_l (an_r h)))))))))))
theorem nb_214 {A : Array Value} {s : State} (h : (Cond.and given_1 narrow_1).before A s = true) : (Jvm.Cond.isRef (Jvm.Term.mirror "[Ljava/lang/Object;")).before A s = true := an_r (an_r (an_r (an_r (an_r (an_l (an_r (an_l (an_l (an_r (an_l (an_r h)))))))))))
theorem gd_start {b : Nat} {s : State} (hts : ∀ w ∈ lw_tbl, w.before #[Value.ref b] s = true) (hgv : (Cond.and given_1 narrow_1).before #[Value.ref b] s = true) : ∃ g : Gl, g.2.2.2 = s.heap.size ∧ Gd g s s.heap ∧ g.2.1 3 ≠ g.2.1 0 := by
  have hA : ∀ a : Nat, a < s.heap.size → ¬ s.heap.size ≤ a := fun a h => Nat.not_le.mpr h
  obtain ⟨t19, ht19, hT19⟩ := va_Tof (A := fun q => s.heap.size ≤ q) (tm := (Jvm.Term.static "java/util/ArrayList" "DEFAULTCAPACITY_EMPTY_ELEMENTDATA" "[Ljava/lang/Object;")) (ty := .object "java/lang/Object") (N := 0) (f := fun _ => .null) (by decide) (nb_208 hgv) (va_eqt (nb_207 hgv)) (fun j hj => absurd hj (Nat.not_lt_zero j)) hA
  obtain ⟨mi, hMi⟩ := va_Mi.of (nb_214 hgv)
  have hK := kn_all hts
  have hAr := ar_all hts
  have hS := ss_all hts hgv hA
  obtain ⟨tc, htc, hZc, hTc⟩ := sa_9 hts hgv hA
  have hT : ∀ k : Nat, ∃ t : Nat, (k = 9 → t = tc) ∧ ∀ x : String × String × String × FieldType × List Int32, stT[k]? = some x → va_Z x.1 x.2.1 x.2.2.1 (.ref t) (fun q => s.heap.size ≤ q) s s.heap ∧ va_T x.2.2.2.1 t x.2.2.2.2.length (fun j => .int (stF x.2.2.2.2 j)) (fun q => s.heap.size ≤ q) s s.heap := fun k => by
    by_cases h9 : k = 9
    · subst h9
      exact ⟨tc, fun _ => rfl, fun x hx => by cases hx; exact ⟨hZc, hTc⟩⟩
    · obtain ⟨t, ht⟩ := sa_all hts hgv hA k
      exact ⟨t, fun z => absurd z h9, ht⟩
  let dA : Nat → ClassId := fun k => (hAr k).choose
  let f0 : Nat → Nat := fun q => if q < 19 then (hT q).choose else if q = 19 then t19 else mi
  let fA : Nat → Nat := fun q => if q < 100 then f0 q else if q < 200 then (hS (q - 100)).choose else (hS (q - 200)).choose_spec.choose
  have a0 : ∀ q, q < 19 → fA q = (hT q).choose := fun q hq => by
    show (if q < 100 then f0 q else _) = _
    rw [if_pos (by omega)]
    show (if q < 19 then _ else _) = _
    rw [if_pos hq]
  have a19 : fA 19 = t19 := rfl
  have a21 : fA 21 = mi := rfl
  have aS : ∀ i, i < 100 → fA (100 + i) = (hS i).choose := fun i hi => by
    show (if 100 + i < 100 then f0 (100 + i) else if 100 + i < 200 then _ else _) = _
    rw [if_neg (by omega), if_pos (by omega)]
    simp only [Nat.add_sub_cancel_left]
  have aV : ∀ i, fA (200 + i) = (hS i).choose_spec.choose := fun i => by
    have h1 : ¬ 200 + i < 100 := by omega
    have h2 : ¬ 200 + i < 200 := by omega
    show (if 200 + i < 100 then f0 (200 + i) else if 200 + i < 200 then (hS (200 + i - 100)).choose else (hS (200 + i - 200)).choose_spec.choose) = _
    refine (if_neg h1).trans ((if_neg h2).trans ?_)
    simp only [Nat.add_sub_cancel_left]
  have hAr2 : ∀ k ty, tyL[k]? = some ty → ArrOfT s (dA k) ty ∧ va_RA s (dA k) ty := fun k ty h => (hAr k).choose_spec ty h
  have hc9 : fA 9 = tc := (a0 9 (by decide)).trans ((hT 9).choose_spec.1 rfl)
  refine ⟨((fun k => (hK k).choose, fun k => (hK k).choose_spec.choose), dA, fA, s.heap.size), rfl, ⟨⟨fun k q hq => (hK k).choose_spec.choose_spec q hq, fun k q hq => ?_⟩, fun w hw hn => va_Nw.of (nwk_tab hn) (hts w hw), ⟨fun i x hx => ?_, ⟨?_, ?_⟩, ⟨va_Zof (hts _ tw_1342) (hts _ tw_18) (va_eqt (nb_210 hgv)) hA, vx_Zqof (hts _ tw_1381) (hts _ tw_21) (nb_211 hgv) hA, ?_⟩, fun i x hx => ?_, fun i x hx => ?_, ⟨vx_Zqof (hts _ tw_477) (hts _ tw_12) (nb_212 hgv) hA, vx_Zqof (hts _ tw_479) (hts _ tw_12) (nb_213 hgv) hA⟩, ?_, fi_all hts, va_AO.of (hts _ tw_676)⟩⟩, ?_⟩
  · match k, hq with
    | 0, hq => cases hq; exact hAr2 0 _ rfl
    | 1, hq => cases hq; exact hAr2 1 _ rfl
    | 2, hq => cases hq; exact hAr2 2 _ rfl
    | 3, hq => cases hq; exact hAr2 3 _ rfl
    | 4, hq => cases hq; exact hAr2 4 _ rfl
    | 5, hq => cases hq; exact hAr2 5 _ rfl
    | k + 6, hq => simp [tys] at hq
  · have hi : i < 19 := (List.getElem?_eq_some_iff.mp hx).1
    show va_Z x.1 x.2.1 x.2.2.1 (.ref (fA i)) _ s s.heap ∧ va_T x.2.2.2.1 (fA i) _ _ _ s s.heap
    rw [a0 i hi]
    exact (hT i).choose_spec.2 x hx
  · exact va_Zref (hts _ tw_67) (hts _ tw_5) ht19 hA
  · exact hT19
  · obtain ⟨a1, c1, hq1, hq2, hq3⟩ := len_ex (N := 7) (by decide) (va_eqt (nb_70 hgv))
    obtain ⟨a2, c2, cell, k2, p1, p2, p3, p4, p5, p6, -⟩ := Cond.exactly_spec (nb_209 hgv)
    cases htc.symm.trans hq1
    cases htc.symm.trans p1
    obtain ⟨r1, r2, r3, -⟩ := State.arrayAt?_spec hq2
    have hcc : cell = c1 := Option.some.inj (p3.symm.trans r1)
    subst hcc
    obtain ⟨cell3, z1, z2, z3, z4, z5, z6, z7⟩ := hTc
    have hc3 : cell = cell3 := Option.some.inj (p3.symm.trans z1)
    subst hc3
    have hcl : cell.cls = dA 1 := by
      rw [p6]
      exact Option.some.inj (p2.symm.trans (va_nm_char (hAr2 1 _ rfl).2))
    refine ⟨cell, ?_, r3, r2, hcl, ?_, ?_⟩
    · show s.heap[fA 9]? = _
      rw [hc9]
      exact r1
    · rw [hcl]
      show ({ cls := dA 1, slots := cell.slots } : Cell) = arrV (dA 1) 7 (fun j => .int (stF [103, 112, 99, 115, 109, 119, 104] j))
      refine (congrArg (fun z => ({ cls := dA 1, slots := z } : Cell)) (?_ : cell.slots = (arrV (dA 1) 7 (fun j => .int (stF [103, 112, 99, 115, 109, 119, 104] j))).slots)).trans rfl
      apply Array.ext_getElem?
      intro j
      by_cases hj : j < 7
      · rw [z6 j hj]
        symm
        exact arrV_read _ _ hj
      · rw [Array.getElem?_eq_none (by omega)]
        symm
        exact Array.getElem?_eq_none (by rw [arrV_size]; omega)
    · show ¬ s.heap.size ≤ fA 9
      rw [hc9]
      exact z7
  · have hi : i < 37 := (List.getElem?_eq_some_iff.mp hx).1
    show vk_R x.1 x.2.1 x.2.2 (fA (100 + i)) s
    rw [aS i (by omega)]
    exact (hS i).choose_spec.choose_spec.1 x hx
  · have hi : x.1 < 100 := by
      rcases i with _ | _ | _ | _ | i
      all_goals first | (cases hx; decide) | (simp [stB] at hx)
    show va_O "java/lang/String" (fA (100 + x.1)) _ s s.heap ∧ va_OF "java/lang/String" "coder" "B" (.int 0) (fA (100 + x.1)) _ s s.heap ∧ va_OF "java/lang/String" "value" "[B" (.ref (fA (200 + x.1))) (fA (100 + x.1)) _ s s.heap ∧ va_T .byte (fA (200 + x.1)) _ _ _ s s.heap
    rw [aS x.1 hi, aV x.1]
    exact (hS x.1).choose_spec.choose_spec.2 i x hx rfl
  · exact hMi
  · intro z
    have h1 := (hAr2 0 _ rfl).2
    have h2 := (hAr2 3 _ rfl).2
    have h3 := va_nm_int h1
    have h4 := va_nmO (nm := "[Ljava/lang/Object;") h2 (by decide)
    have z2 : dA 3 = dA 0 := z
    rw [z2] at h4
    obtain ⟨k1, e1, e2⟩ := Vm.findClass_spec h3
    obtain ⟨k3, e3, e4⟩ := Vm.findClass_spec h4
    cases e1.symm.trans e3
    exact absurd (e2.symm.trans e4) (by decide)
