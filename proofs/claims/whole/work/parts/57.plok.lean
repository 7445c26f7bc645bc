/-! the least plan: the class counts all rows of turns, the model goes down turn by turn: both find the same -/
theorem l_add {a b : Int64} (h1 : -4611686018427387904 ≤ a.toInt + b.toInt) (h2 : a.toInt + b.toInt < 4611686018427387904) : (a + b).toInt = a.toInt + b.toInt := by
  rw [Int64.toInt_add]
  exact Int.bmod_eq_of_le (by omega) (by omega)
theorem l_sub {a b : Int64} (h1 : -4611686018427387904 ≤ a.toInt - b.toInt) (h2 : a.toInt - b.toInt < 4611686018427387904) : (a - b).toInt = a.toInt - b.toInt := by
  rw [Int64.toInt_sub]
  exact Int.bmod_eq_of_le (by omega) (by omega)
theorem l_mul {a b : Int64} (h1 : -4611686018427387904 ≤ a.toInt * b.toInt) (h2 : a.toInt * b.toInt < 4611686018427387904) : (a * b).toInt = a.toInt * b.toInt := by
  rw [Int64.toInt_mul]
  exact Int.bmod_eq_of_le (by omega) (by omega)
theorem sq_le {x : Int} {m : Nat} (h1 : -(m : Int) ≤ x) (h2 : x ≤ m) : 0 ≤ x * x ∧ x * x ≤ ((m * m : Nat) : Int) := by
  have h3 : x.natAbs ≤ m := by omega
  have h4 := Nat.mul_le_mul h3 h3
  have h5 : ((x.natAbs * x.natAbs : Nat) : Int) = x * x := Int.natAbs_mul_self
  omega
/-- the course after k rings is so far off at most -/
def cB (k : Nat) (c : C4) : Prop := (-(35 * (k : Int)) ≤ c.1.toInt ∧ c.1.toInt ≤ 35 * k) ∧ (-(35 * (k : Int)) ≤ c.2.1.toInt ∧ c.2.1.toInt ≤ 35 * k) ∧ (-(5000 * (k : Int)) ≤ c.2.2.1.toInt ∧ c.2.2.1.toInt ≤ 5000 * k) ∧ (-(5000 * (k : Int)) ≤ c.2.2.2.toInt ∧ c.2.2.2.toInt ≤ 5000 * k)
theorem go_1 {σ : St} (hg : gI σ) {q j : Nat} (hq : q < 8) (hj : j < 200) {pr pu : Int32} (hr : bds pr 5) (hu : bds pu 5) :
    ((goF σ (nI q) pr pu (nI j)).1.toInt = (stF [0, 7, 10, 7, 0, -7, -10, -7] q).toInt + pr.toInt - (σ.bR j).toInt ∧ -35 ≤ (goF σ (nI q) pr pu (nI j)).1.toInt ∧ (goF σ (nI q) pr pu (nI j)).1.toInt ≤ 35 ∧ -10 ≤ (stF [0, 7, 10, 7, 0, -7, -10, -7] q).toInt ∧ (stF [0, 7, 10, 7, 0, -7, -10, -7] q).toInt ≤ 10) ∧
    ((goF σ (nI q) pr pu (nI j)).2.toInt = (stF [10, 7, 0, -7, -10, -7, 0, 7] q).toInt + pu.toInt - (σ.bU j).toInt ∧ -35 ≤ (goF σ (nI q) pr pu (nI j)).2.toInt ∧ (goF σ (nI q) pr pu (nI j)).2.toInt ≤ 35 ∧ -10 ≤ (stF [10, 7, 0, -7, -10, -7, 0, 7] q).toInt ∧ (stF [10, 7, 0, -7, -10, -7, 0, 7] q).toInt ≤ 10) := by
  have hA : ∀ q, q < 8 → -10 ≤ (stF [0, 7, 10, 7, 0, -7, -10, -7] q).toInt ∧ (stF [0, 7, 10, 7, 0, -7, -10, -7] q).toInt ≤ 10 := by decide
  have hB : ∀ q, q < 8 → -10 ≤ (stF [10, 7, 0, -7, -10, -7, 0, 7] q).toInt ∧ (stF [10, 7, 0, -7, -10, -7, 0, 7] q).toInt ≤ 10 := by decide
  have h1 := hA q hq
  have h2 := hB q hq
  have h3 := hg.2.2.2.1 j hj
  have h4 := hg.2.2.2.2 j hj
  unfold bds at h3 h4 hr hu
  simp only [goF, atF_in (N := 8) (by decide) hq, atF_in (N := 200) (by decide) hj]
  have a1 := i_add (a := stF [0, 7, 10, 7, 0, -7, -10, -7] q) (b := pr) (by omega) (by omega)
  have a2 := i_sub (a := stF [0, 7, 10, 7, 0, -7, -10, -7] q + pr) (b := σ.bR j) (by omega) (by omega)
  have b1 := i_add (a := stF [10, 7, 0, -7, -10, -7, 0, 7] q) (b := pu) (by omega) (by omega)
  have b2 := i_sub (a := stF [10, 7, 0, -7, -10, -7, 0, 7] q + pu) (b := σ.bU j) (by omega) (by omega)
  omega
theorem go_9 {σ : St} (hg : gI σ) {q j k : Nat} (hq : q < 8) (hj : j < 200) (hk : k ≤ 123) {c : C4} (hc : cB k c) {pr pu : Int32} (hr : bds pr 5) (hu : bds pu 5) :
    cB (k + 1) (go9 σ c (nI q) pr pu (nI j)) ∧
    (go9 σ c (nI q) pr pu (nI j)).1.toInt = c.1.toInt + ((stF [0, 7, 10, 7, 0, -7, -10, -7] q).toInt + pr.toInt - (σ.bR j).toInt) ∧
    (go9 σ c (nI q) pr pu (nI j)).2.1.toInt = c.2.1.toInt + ((stF [10, 7, 0, -7, -10, -7, 0, 7] q).toInt + pu.toInt - (σ.bU j).toInt) ∧
    (go9 σ c (nI q) pr pu (nI j)).2.2.1.toInt = c.2.2.1.toInt + (go9 σ c (nI q) pr pu (nI j)).1.toInt ∧
    (go9 σ c (nI q) pr pu (nI j)).2.2.2.toInt = c.2.2.2.toInt + (go9 σ c (nI q) pr pu (nI j)).2.1.toInt := by
  obtain ⟨⟨e1, e2, e3, -, -⟩, f1, f2, f3, -, -⟩ := go_1 hg hq hj hr hu
  obtain ⟨c1, c2, c3, c4⟩ := hc
  unfold go9
  generalize (goF σ (nI q) pr pu (nI j)).1 = r at e1 e2 e3 ⊢
  generalize (goF σ (nI q) pr pu (nI j)).2 = u at f1 f2 f3 ⊢
  have a1 := i_add (a := c.1) (b := r) (by omega) (by omega)
  have a2 := i_add (a := c.2.1) (b := u) (by omega) (by omega)
  have a3 := i_add (a := c.2.2.1) (b := c.1 + r) (by omega) (by omega)
  have a4 := i_add (a := c.2.2.2) (b := c.2.1 + u) (by omega) (by omega)
  unfold cB
  show ((-(35 * ((k + 1 : Nat) : Int)) ≤ (c.1 + r).toInt ∧ (c.1 + r).toInt ≤ 35 * ((k + 1 : Nat) : Int)) ∧ (-(35 * ((k + 1 : Nat) : Int)) ≤ (c.2.1 + u).toInt ∧ (c.2.1 + u).toInt ≤ 35 * ((k + 1 : Nat) : Int)) ∧ (-(5000 * ((k + 1 : Nat) : Int)) ≤ (c.2.2.1 + (c.1 + r)).toInt ∧ (c.2.2.1 + (c.1 + r)).toInt ≤ 5000 * ((k + 1 : Nat) : Int)) ∧ (-(5000 * ((k + 1 : Nat) : Int)) ≤ (c.2.2.2 + (c.2.1 + u)).toInt ∧ (c.2.2.2 + (c.2.1 + u)).toInt ≤ 5000 * ((k + 1 : Nat) : Int))) ∧ (c.1 + r).toInt = _ ∧ (c.2.1 + u).toInt = _ ∧ (c.2.2.1 + (c.1 + r)).toInt = c.2.2.1.toInt + (c.1 + r).toInt ∧ (c.2.2.2 + (c.2.1 + u)).toInt = c.2.2.2.toInt + (c.2.1 + u).toInt
  omega
theorem cr_B {σ : St} (hg : gI σ) (hr : rI σ) (j : Nat) (hj : j ≤ σ.n) : cB j (crs σ j) := by
  have hn : σ.n ≤ 120 := hr.1
  induction j with
  | zero =>
    show cB 0 (0, 0, 0, 0)
    exact ⟨⟨by decide, by decide⟩, ⟨by decide, by decide⟩, ⟨by decide, by decide⟩, ⟨by decide, by decide⟩⟩
  | succ j ih =>
    obtain ⟨⟨q, hq, he⟩, h2, h3⟩ := hr.2.2.1 j (by omega)
    rw [crs, he]
    exact (go_9 hg hq (by omega) (by omega) (ih (by omega)) h2 h3).1
/-- a course as the model holds it -/
def L4 (c : C4) : Nat → Int64 := lsS c.1.toInt64 c.2.1.toInt64 c.2.2.1.toInt64 c.2.2.2.toInt64
theorem ls_0 (a b c d : Int64) : lsS a b c d (Int32.toNatClampNeg 0) = a := by
  simp [lsS, vp_updL]
theorem ls_1 (a b c d : Int64) : lsS a b c d (Int32.toNatClampNeg 1) = b := by
  simp [lsS, vp_updL]
theorem ls_2 (a b c d : Int64) : lsS a b c d (Int32.toNatClampNeg 2) = c := by
  simp [lsS, vp_updL]
theorem ls_3 (a b c d : Int64) : lsS a b c d (Int32.toNatClampNeg 3) = d := by
  simp [lsS, vp_updL]
theorem lsQ_L (c : C4) : lsQ (L4 c) = sqF c := by
  unfold lsQ L4 sqF
  rw [ls_2, ls_3]
theorem lsA_L {σ : St} (hg : gI σ) (hp : pI σ) {q j k : Nat} (hq : q < 8) (hj : j < 200) (hk : k ≤ 123) {c : C4} (hc : cB k c) : lsA σ j (L4 c) q = L4 (go9 σ c (nI q) σ.pR σ.pU (nI j)) := by
  obtain ⟨-, e1, e2, e3, e4⟩ := go_9 hg hq hj hk hc hp.1 hp.2
  obtain ⟨⟨-, -, -, g1, g2⟩, -, -, -, g3, g4⟩ := go_1 hg hq hj hp.1 hp.2
  obtain ⟨c1, c2, c3, c4⟩ := hc
  have h3 := hg.2.2.2.1 j hj
  have h4 := hg.2.2.2.2 j hj
  obtain ⟨p1, p2⟩ := hp
  unfold bds at h3 h4 p1 p2
  have kR : lsR σ j (L4 c) q = (go9 σ c (nI q) σ.pR σ.pU (nI j)).1.toInt64 := by
    unfold lsR L4
    rw [ls_0, nI_clamp (by omega), nI_clamp (by omega)]
    apply Int64.toInt_inj.mp
    have t1 : ∀ x : Int32, x.toInt64.toInt = x.toInt := Int32.toInt_toInt64
    have a1 := l_add (a := c.1.toInt64) (b := (stF [0, 7, 10, 7, 0, -7, -10, -7] q).toInt64) (by rw [t1, t1]; omega) (by rw [t1, t1]; omega)
    have a2 := l_add (a := c.1.toInt64 + (stF [0, 7, 10, 7, 0, -7, -10, -7] q).toInt64) (b := σ.pR.toInt64) (by rw [a1, t1, t1, t1]; omega) (by rw [a1, t1, t1, t1]; omega)
    have a3 := l_sub (a := c.1.toInt64 + (stF [0, 7, 10, 7, 0, -7, -10, -7] q).toInt64 + σ.pR.toInt64) (b := (σ.bR j).toInt64) (by rw [a2, a1, t1, t1, t1, t1]; omega) (by rw [a2, a1, t1, t1, t1, t1]; omega)
    rw [a3, a2, a1, t1, t1, t1, t1, t1, e1]
    omega
  have kU : lsU σ j (L4 c) q = (go9 σ c (nI q) σ.pR σ.pU (nI j)).2.1.toInt64 := by
    unfold lsU L4
    rw [ls_1, nI_clamp (by omega), nI_clamp (by omega)]
    apply Int64.toInt_inj.mp
    have t1 : ∀ x : Int32, x.toInt64.toInt = x.toInt := Int32.toInt_toInt64
    have a1 := l_add (a := c.2.1.toInt64) (b := (stF [10, 7, 0, -7, -10, -7, 0, 7] q).toInt64) (by rw [t1, t1]; omega) (by rw [t1, t1]; omega)
    have a2 := l_add (a := c.2.1.toInt64 + (stF [10, 7, 0, -7, -10, -7, 0, 7] q).toInt64) (b := σ.pU.toInt64) (by rw [a1, t1, t1, t1]; omega) (by rw [a1, t1, t1, t1]; omega)
    have a3 := l_sub (a := c.2.1.toInt64 + (stF [10, 7, 0, -7, -10, -7, 0, 7] q).toInt64 + σ.pU.toInt64) (b := (σ.bU j).toInt64) (by rw [a2, a1, t1, t1, t1, t1]; omega) (by rw [a2, a1, t1, t1, t1, t1]; omega)
    rw [a3, a2, a1, t1, t1, t1, t1, t1, e2]
    omega
  have k2 : c.2.2.1.toInt64 + (go9 σ c (nI q) σ.pR σ.pU (nI j)).1.toInt64 = (go9 σ c (nI q) σ.pR σ.pU (nI j)).2.2.1.toInt64 := by
    apply Int64.toInt_inj.mp
    have t1 : ∀ x : Int32, x.toInt64.toInt = x.toInt := Int32.toInt_toInt64
    rw [l_add (by rw [t1, t1]; omega) (by rw [t1, t1]; omega), t1, t1, t1, e3]
  have k3 : c.2.2.2.toInt64 + (go9 σ c (nI q) σ.pR σ.pU (nI j)).2.1.toInt64 = (go9 σ c (nI q) σ.pR σ.pU (nI j)).2.2.2.toInt64 := by
    apply Int64.toInt_inj.mp
    have t1 : ∀ x : Int32, x.toInt64.toInt = x.toInt := Int32.toInt_toInt64
    rw [l_add (by rw [t1, t1]; omega) (by rw [t1, t1]; omega), t1, t1, t1, e4]
  unfold lsA
  rw [kR, kU, show L4 c (Int32.toNatClampNeg 2) = c.2.2.1.toInt64 from ls_2 _ _ _ _, show L4 c (Int32.toNatClampNeg 3) = c.2.2.2.toInt64 from ls_3 _ _ _ _, k2, k3]
  rfl
theorem sq_B {k : Nat} (hk : k ≤ 124) {c : C4} (hc : cB k c) : 0 ≤ (sqF c).toInt ∧ (sqF c).toInt ≤ 1000000000000 := by
  obtain ⟨-, -, c3, c4⟩ := hc
  have t1 : ∀ x : Int32, x.toInt64.toInt = x.toInt := Int32.toInt_toInt64
  have h3 := sq_le (x := c.2.2.1.toInt) (m := 620000) (by omega) (by omega)
  have h4 := sq_le (x := c.2.2.2.toInt) (m := 620000) (by omega) (by omega)
  have a3 := l_mul (a := c.2.2.1.toInt64) (b := c.2.2.1.toInt64) (by rw [t1]; omega) (by rw [t1]; omega)
  have a4 := l_mul (a := c.2.2.2.toInt64) (b := c.2.2.2.toInt64) (by rw [t1]; omega) (by rw [t1]; omega)
  rw [t1] at a3 a4
  have a5 := l_add (a := c.2.2.1.toInt64 * c.2.2.1.toInt64) (b := c.2.2.2.toInt64 * c.2.2.2.toInt64) (by omega) (by omega)
  unfold sqF
  omega
/-- the least of the eight, the first of them -/
theorem lsF_sp {G : Nat → Int64} (ah fi : Int32) (N : Nat) (hG : ∀ r, r < N → 0 ≤ (G r).toInt) : ((∀ r, r < N → nI r = ah) ∧ lsF G ah fi N = (-1, fi)) ∨ ∃ r, r < N ∧ ¬ nI r = ah ∧ lsF G ah fi N = (G r, nI r) ∧ (∀ i, i < N → ¬ nI i = ah → (G r).toInt ≤ (G i).toInt) ∧ (∀ i, i < r → ¬ nI i = ah → (G r).toInt < (G i).toInt) := by
  induction N with
  | zero => exact Or.inl ⟨fun r hr => absurd hr (Nat.not_lt_zero _), rfl⟩
  | succ N ih =>
    rw [lsF]
    by_cases c : nI N = ah
    · rw [if_pos c]
      rcases ih (fun r hr => hG r (by omega)) with ⟨h1, h2⟩ | ⟨r, h1, h2, h3, h4, h5⟩
      · exact Or.inl ⟨fun r hr => (Nat.lt_succ_iff_lt_or_eq.mp hr).elim (h1 r) (fun e => by rw [e]; exact c), h2⟩
      · exact Or.inr ⟨r, by omega, h2, h3, fun i hi hia => (Nat.lt_succ_iff_lt_or_eq.mp hi).elim (fun z => h4 i z hia) (fun e => absurd (by rw [e]; exact c) hia), h5⟩
    · rw [if_neg c]
      rcases ih (fun r hr => hG r (by omega)) with ⟨h1, h2⟩ | ⟨r, h1, h2, h3, h4, h5⟩
      · rw [h2, if_pos rfl]
        exact Or.inr ⟨N, by omega, c, rfl, fun i hi hia => (Nat.lt_succ_iff_lt_or_eq.mp hi).elim (fun z => absurd (h1 i z) hia) (fun e => by rw [e]; exact Int.le_refl _), fun i hi hia => absurd (h1 i hi) hia⟩
      · have h0 := hG r (by omega)
        rw [h3, if_neg (show ¬ G r = -1 from fun z => by rw [z] at h0; exact absurd h0 (by decide))]
        by_cases c2 : G r ≤ G N
        · rw [if_pos c2]
          exact Or.inr ⟨r, by omega, h2, rfl, fun i hi hia => (Nat.lt_succ_iff_lt_or_eq.mp hi).elim (fun z => h4 i z hia) (fun e => by rw [e]; exact Int64.le_iff_toInt_le.mp c2), h5⟩
        · rw [if_neg c2]
          rw [Int64.le_iff_toInt_le] at c2
          exact Or.inr ⟨N, by omega, c, rfl, fun i hi hia => (Nat.lt_succ_iff_lt_or_eq.mp hi).elim (fun z => by have := h4 i z hia; omega) (fun e => by rw [e]; exact Int.le_refl _), fun i hi hia => by have := h4 i hi hia; omega⟩
theorem lsF_8 {G : Nat → Int64} (ah : Int32) (hG : ∀ r, r < 8 → 0 ≤ (G r).toInt) : ∃ r, r < 8 ∧ ¬ nI r = ah ∧ lsF G ah 0 8 = (G r, nI r) ∧ (∀ i, i < 8 → ¬ nI i = ah → (G r).toInt ≤ (G i).toInt) ∧ (∀ i, i < r → ¬ nI i = ah → (G r).toInt < (G i).toInt) := by
  rcases lsF_sp ah 0 8 hG with ⟨h1, -⟩ | h
  · have h2 := h1 0 (by omega)
    have h3 := h1 1 (by omega)
    exact absurd (h2.trans h3.symm) (by decide)
  · exact h
theorem bs_sp (σ : St) (m N : Nat) (hN : N ≤ 512) : ((∀ j, j < N → ¬ 0 ≤ (sroF σ (nI j) m).toInt) ∧ bsF σ m N = (-1, 0)) ∨ ∃ j, j < N ∧ 0 ≤ (sroF σ (nI j) m).toInt ∧ bsF σ m N = (nI j, sroF σ (nI j) m) ∧ (∀ i, i < N → 0 ≤ (sroF σ (nI i) m).toInt → (sroF σ (nI j) m).toInt ≤ (sroF σ (nI i) m).toInt) ∧ (∀ i, i < j → 0 ≤ (sroF σ (nI i) m).toInt → (sroF σ (nI j) m).toInt < (sroF σ (nI i) m).toInt) := by
  have z0 : ∀ x : Int64, 0 ≤ x ↔ 0 ≤ x.toInt := fun x => Int64.le_iff_toInt_le
  induction N with
  | zero => exact Or.inl ⟨fun r hr => absurd hr (Nat.not_lt_zero _), rfl⟩
  | succ N ih =>
    rw [bsF]
    by_cases c : 0 ≤ sroF σ (nI N) m
    · rw [if_pos c]
      rw [z0] at c
      rcases ih (by omega) with ⟨h1, h2⟩ | ⟨r, h1, h2, h3, h4, h5⟩
      · rw [h2, if_neg (show ¬ (0 : Int32) ≤ -1 by decide)]
        exact Or.inr ⟨N, by omega, c, rfl, fun i hi hia => (Nat.lt_succ_iff_lt_or_eq.mp hi).elim (fun z => absurd hia (h1 i z)) (fun e => by rw [e]; exact Int.le_refl _), fun i hi hia => absurd hia (h1 i hi)⟩
      · rw [h3, if_pos (show (0 : Int32) ≤ nI r from nI_pos' (by omega))]
        by_cases c2 : sroF σ (nI r) m ≤ sroF σ (nI N) m
        · rw [if_pos c2]
          exact Or.inr ⟨r, by omega, h2, rfl, fun i hi hia => (Nat.lt_succ_iff_lt_or_eq.mp hi).elim (fun z => h4 i z hia) (fun e => by rw [e]; exact Int64.le_iff_toInt_le.mp c2), h5⟩
        · rw [if_neg c2]
          rw [Int64.le_iff_toInt_le] at c2
          exact Or.inr ⟨N, by omega, c, rfl, fun i hi hia => (Nat.lt_succ_iff_lt_or_eq.mp hi).elim (fun z => by have := h4 i z hia; omega) (fun e => by rw [e]; exact Int.le_refl _), fun i hi hia => by have := h4 i hi hia; omega⟩
    · rw [if_neg c]
      rw [z0] at c
      rcases ih (by omega) with ⟨h1, h2⟩ | ⟨r, h1, h2, h3, h4, h5⟩
      · exact Or.inl ⟨fun r hr => (Nat.lt_succ_iff_lt_or_eq.mp hr).elim (h1 r) (fun e => by rw [e]; exact c), h2⟩
      · exact Or.inr ⟨r, by omega, h2, h3, fun i hi hia => (Nat.lt_succ_iff_lt_or_eq.mp hi).elim (fun z => h4 i z hia) (fun e => absurd (by rw [← e]; exact hia) c), h5⟩
theorem comb {σ : St} {m N : Nat} (hN : N ≤ 512) {G : Nat → Int64} {ah : Int32} (D0 : Nat → Nat)
    (H1 : ∀ j, j < N → 0 ≤ (sroF σ (nI j) m).toInt → D0 j < 8 ∧ ¬ nI (D0 j) = ah ∧ (G (D0 j)).toInt ≤ (sroF σ (nI j) m).toInt)
    (H2 : ∀ r, r < 8 → ¬ nI r = ah → ∃ j, j < N ∧ D0 j = r ∧ (sroF σ (nI j) m).toInt = (G r).toInt)
    (H3 : ∀ i j, i < N → j < N → D0 i < D0 j → i < j) (H4 : ∀ r, r < 8 → 0 ≤ (G r).toInt) (H5 : ∀ j, j < N → turnF (nI j) 0 (nI m) = nI (D0 j)) :
    0 ≤ (lsF G ah 0 8).1 ∧ (lsF G ah 0 8).1 = sroF σ (bsF σ m N).1 m ∧ (lsF G ah 0 8).2 = turnF (bsF σ m N).1 0 (nI m) := by
  obtain ⟨r, r1, r2, r3, r4, r5⟩ := lsF_8 ah H4
  obtain ⟨j2, j21, j22, j23⟩ := H2 r r1 r2
  rcases bs_sp σ m N hN with ⟨h1, -⟩ | ⟨j, j1, j3, j4, j5, j6⟩
  · exact absurd (by rw [j23]; exact H4 r r1) (h1 j2 j21)
  · obtain ⟨d1, d2, d3⟩ := H1 j j1 j3
    have e1 := r4 _ d1 d2
    have e2 := j5 j2 j21 (by rw [j23]; exact H4 r r1)
    have e3 : (G r).toInt = (sroF σ (nI j) m).toInt := by omega
    have e4 : D0 j = r := by
      rcases Nat.lt_trichotomy (D0 j) r with z | z | z
      · have := r5 _ z d2
        omega
      · exact z
      · have z2 := H3 j2 j j21 j1 (by omega)
        have := j6 j2 z2 (by rw [j23]; exact H4 r r1)
        omega
    rw [r3, j4]
    exact ⟨Int64.le_iff_toInt_le.mpr (H4 r r1), Int64.toInt_inj.mp e3, by rw [H5 j j1, e4]⟩
/-- the octal digits of a row -/
theorem dg_1 : ∀ j, j < 8 → turnF (nI j) (nI 0) (nI 1) = nI j := by decide +kernel
theorem dg_2 : ∀ j, j < 64 → turnF (nI j) (nI 0) (nI 2) = nI (j / 8) ∧ turnF (nI j) (nI 1) (nI 2) = nI (j % 8) := by decide +kernel
theorem dg_3 : ∀ j, j < 512 → turnF (nI j) (nI 0) (nI 3) = nI (j / 64) ∧ turnF (nI j) (nI 1) (nI 3) = nI (j / 8 % 8) ∧ turnF (nI j) (nI 2) (nI 3) = nI (j % 8) := by decide +kernel
def stp (σ : St) (c : C4) (k d : Nat) : C4 := go9 σ c (nI d) σ.pR σ.pU (nI (σ.n + k))
theorem sr_1 (σ : St) {j : Nat} (hj : j < 8) : sroF σ (nI j) 1 = if nI j = ltF σ then -1 else sqF (stp σ (cr0 σ) 0 j) := by
  unfold sroF
  simp only [srF, dg_1 j hj, nI_add]
  by_cases c : nI j = ltF σ
  · rw [if_pos c, if_pos c]
  · rw [if_neg c, if_neg c]
    show 0 + sqF _ = _
    rw [Int64.zero_add]
    rfl
theorem sr_2 (σ : St) {j : Nat} (hj : j < 64) : sroF σ (nI j) 2 = if nI (j / 8) = ltF σ then -1 else if nI (j % 8) = nI (j / 8) then -1 else sqF (stp σ (cr0 σ) 0 (j / 8)) + sqF (stp σ (stp σ (cr0 σ) 0 (j / 8)) 1 (j % 8)) := by
  obtain ⟨d1, d2⟩ := dg_2 j hj
  unfold sroF
  simp only [srF, d1, d2, nI_add]
  by_cases c : nI (j / 8) = ltF σ
  · rw [if_pos c, if_pos c]
  · rw [if_neg c, if_neg c]
    simp only
    by_cases c2 : nI (j % 8) = nI (j / 8)
    · rw [if_pos c2, if_pos c2]
    · rw [if_neg c2, if_neg c2]
      show 0 + sqF _ + sqF _ = _
      rw [Int64.zero_add]
      rfl
theorem sr_3 (σ : St) {j : Nat} (hj : j < 512) : sroF σ (nI j) 3 = if nI (j / 64) = ltF σ then -1 else if nI (j / 8 % 8) = nI (j / 64) then -1 else if nI (j % 8) = nI (j / 8 % 8) then -1 else sqF (stp σ (cr0 σ) 0 (j / 64)) + sqF (stp σ (stp σ (cr0 σ) 0 (j / 64)) 1 (j / 8 % 8)) + sqF (stp σ (stp σ (stp σ (cr0 σ) 0 (j / 64)) 1 (j / 8 % 8)) 2 (j % 8)) := by
  obtain ⟨d1, d2, d3⟩ := dg_3 j hj
  unfold sroF
  simp only [srF, d1, d2, d3, nI_add]
  by_cases c : nI (j / 64) = ltF σ
  · rw [if_pos c, if_pos c]
  · rw [if_neg c, if_neg c]
    simp only
    by_cases c2 : nI (j / 8 % 8) = nI (j / 64)
    · rw [if_pos c2, if_pos c2]
    · rw [if_neg c2, if_neg c2]
      simp only
      by_cases c3 : nI (j % 8) = nI (j / 8 % 8)
      · rw [if_pos c3, if_pos c3]
      · rw [if_neg c3, if_neg c3]
        show 0 + sqF _ + sqF _ + sqF _ = _
        rw [Int64.zero_add]
        rfl
theorem st_B {σ : St} (hg : gI σ) (hp : pI σ) {c : C4} {k i d : Nat} (hd : d < 8) (hn : σ.n ≤ 120) (hi : i ≤ 2) (hk : k ≤ 123) (hc : cB k c) : cB (k + 1) (stp σ c i d) := (go_9 hg hd (by omega) hk hc hp.1 hp.2).1
theorem lg_0 {σ : St} (hg : gI σ) (hp : pI σ) (hn : σ.n ≤ 120) {c : C4} {k i : Nat} (hi : i ≤ 2) (hk : k ≤ 122) (hc : cB k c) {d : Nat} (hd : d < 8) : lsG σ 0 (σ.n + i) (L4 c) d = sqF (stp σ c i d) := by
  rw [lsG, lsA_L hg hp hd (by omega) (by omega) hc, lsQ_L, Int64.add_zero]
  rfl
theorem lg_s {σ : St} (hg : gI σ) (hp : pI σ) (hn : σ.n ≤ 120) {c : C4} {k i m : Nat} (hi : i ≤ 2) (hk : k ≤ 122) (hc : cB k c) {d : Nat} (hd : d < 8) : lsG σ (m + 1) (σ.n + i) (L4 c) d = sqF (stp σ c i d) + (lsF (lsG σ m (σ.n + (i + 1)) (L4 (stp σ c i d))) (nI d) 0 8).1 := by
  rw [lsG, lsA_L hg hp hd (by omega) (by omega) hc, lsQ_L]
  rfl
theorem l_ad2 {a b : Int64} {x y : Int} (ha : 0 ≤ a.toInt ∧ a.toInt ≤ x) (hb : 0 ≤ b.toInt ∧ b.toInt ≤ y) (h : x + y ≤ 4000000000000) : (a + b).toInt = a.toInt + b.toInt := l_add (by omega) (by omega)
/-- one ring ahead -/
theorem lv_0 {σ : St} (hg : gI σ) (hp : pI σ) (hn : σ.n ≤ 120) {c : C4} {k i : Nat} (hi : i ≤ 2) (hk : k ≤ 122) (hc : cB k c) {d : Nat} (hd : d < 8) : 0 ≤ (lsG σ 0 (σ.n + i) (L4 c) d).toInt ∧ (lsG σ 0 (σ.n + i) (L4 c) d).toInt ≤ 1000000000000 := by
  rw [lg_0 hg hp hn hi hk hc hd]
  exact sq_B (k := k + 1) (by omega) (st_B hg hp hd hn hi (by omega) hc)
/-- two -/
theorem lv_1 {σ : St} (hg : gI σ) (hp : pI σ) (hn : σ.n ≤ 120) {c : C4} {k i : Nat} (hi : i ≤ 1) (hk : k ≤ 121) (hc : cB k c) {d : Nat} (hd : d < 8) :
    (0 ≤ (lsG σ 1 (σ.n + i) (L4 c) d).toInt ∧ (lsG σ 1 (σ.n + i) (L4 c) d).toInt ≤ 2000000000000) ∧
    (∃ e, e < 8 ∧ ¬ nI e = nI d ∧ (lsG σ 1 (σ.n + i) (L4 c) d).toInt = (sqF (stp σ c i d)).toInt + (sqF (stp σ (stp σ c i d) (i + 1) e)).toInt) ∧
    (∀ e, e < 8 → ¬ nI e = nI d → (lsG σ 1 (σ.n + i) (L4 c) d).toInt ≤ (sqF (stp σ c i d)).toInt + (sqF (stp σ (stp σ c i d) (i + 1) e)).toInt) := by
  have h1 := st_B hg hp hd hn (i := i) (by omega) (by omega) hc
  have q1 := sq_B (k := k + 1) (by omega) h1
  obtain ⟨r, r1, r2, r3, r4, -⟩ := lsF_8 (G := lsG σ 0 (σ.n + (i + 1)) (L4 (stp σ c i d))) (nI d) (fun r hr9 => (lv_0 hg hp hn (by omega) (by omega) h1 hr9).1)
  have q2 := lv_0 hg hp hn (i := i + 1) (by omega) (by omega) h1 r1
  rw [lg_s hg hp hn (by omega) (by omega) hc hd, r3, l_ad2 q1 q2 (by omega)]
  refine ⟨by omega, ⟨r, r1, r2, by rw [lg_0 hg hp hn (by omega) (by omega) h1 r1]⟩, fun e he1 he2 => ?_⟩
  have := r4 e he1 he2
  rw [lg_0 hg hp hn (by omega) (by omega) h1 he1] at this
  omega
/-- three -/
theorem lv_2 {σ : St} (hg : gI σ) (hp : pI σ) (hn : σ.n ≤ 120) {c : C4} {k : Nat} (hk : k ≤ 120) (hc : cB k c) {d : Nat} (hd : d < 8) :
    (0 ≤ (lsG σ 2 (σ.n + 0) (L4 c) d).toInt ∧ (lsG σ 2 (σ.n + 0) (L4 c) d).toInt ≤ 3000000000000) ∧
    (∃ e f, e < 8 ∧ f < 8 ∧ ¬ nI e = nI d ∧ ¬ nI f = nI e ∧ (lsG σ 2 (σ.n + 0) (L4 c) d).toInt = (sqF (stp σ c 0 d)).toInt + ((sqF (stp σ (stp σ c 0 d) 1 e)).toInt + (sqF (stp σ (stp σ (stp σ c 0 d) 1 e) 2 f)).toInt)) ∧
    (∀ e f, e < 8 → f < 8 → ¬ nI e = nI d → ¬ nI f = nI e → (lsG σ 2 (σ.n + 0) (L4 c) d).toInt ≤ (sqF (stp σ c 0 d)).toInt + ((sqF (stp σ (stp σ c 0 d) 1 e)).toInt + (sqF (stp σ (stp σ (stp σ c 0 d) 1 e) 2 f)).toInt)) := by
  have h1 := st_B hg hp hd hn (i := 0) (by omega) (by omega) hc
  have q1 := sq_B (k := k + 1) (by omega) h1
  obtain ⟨r, r1, r2, r3, r4, -⟩ := lsF_8 (G := lsG σ 1 (σ.n + (0 + 1)) (L4 (stp σ c 0 d))) (nI d) (fun r hr9 => (lv_1 hg hp hn (by omega) (by omega) h1 hr9).1.1)
  obtain ⟨q2, ⟨f, f1, f2, f3⟩, -⟩ := lv_1 hg hp hn (i := 0 + 1) (by omega) (by omega) h1 r1
  rw [lg_s hg hp hn (by omega) (by omega) hc hd, r3, l_ad2 q1 q2 (by omega)]
  refine ⟨by omega, ⟨r, f, r1, f1, r2, f2, by rw [f3]⟩, fun e f he1 hf1 he2 hf2 => ?_⟩
  have h2 := r4 e he1 he2
  have h3 := (lv_1 hg hp hn (i := 0 + 1) (by omega) (by omega) h1 he1).2.2 f hf1 hf2
  have h4 : (lsG σ 1 (σ.n + (0 + 1)) (L4 (stp σ c 0 d)) e).toInt ≤ (sqF (stp σ (stp σ c 0 d) 1 e)).toInt + (sqF (stp σ (stp σ (stp σ c 0 d) 1 e) 2 f)).toInt := h3
  omega
theorem m1_n (x : Int64) (h : x = -1) : ¬ 0 ≤ x.toInt := by
  rw [h]
  decide
theorem Inv.pl {σ : St} (h : Inv σ) : plOK σ := by
  obtain ⟨hg, hp, hr, -⟩ := h
  have hn : σ.n ≤ 120 := hr.1
  have hc : cB σ.n (cr0 σ) := by
    rw [hr.2.2.2.1.2]
    exact cr_B hg hr _ (Nat.le_refl _)
  intro m hm1 hm3
  obtain rfl | rfl | rfl : m = 1 ∨ m = 2 ∨ m = 3 := by omega
  · refine comb (G := lsG σ 0 (σ.n + 0) (L4 (cr0 σ))) (by decide) (fun j => j) (fun j hj h0 => ?_) (fun r hr1 hr2 => ⟨r, hr1, rfl, ?_⟩) (fun i j _ _ z => z) (fun r hr9 => (lv_0 hg hp hn (by omega) (by omega) hc hr9).1) (fun j hj => dg_1 j hj)
    · have hj8 : j < 8 := hj
      rw [sr_1 σ hj8] at h0 ⊢
      by_cases c : nI j = ltF σ
      · rw [if_pos c] at h0
        exact absurd h0 (m1_n _ rfl)
      · rw [if_neg c] at h0 ⊢
        exact ⟨hj8, c, by rw [lg_0 hg hp hn (by omega) (by omega) hc hj8]; exact Int.le_refl _⟩
    · rw [sr_1 σ hr1, if_neg hr2, lg_0 hg hp hn (by omega) (by omega) hc hr1]
  · refine comb (G := lsG σ 1 (σ.n + 0) (L4 (cr0 σ))) (by decide) (fun j => j / 8) (fun j hj h0 => ?_) (fun r hr1 hr2 => ?_) (fun i j _ _ z => Nat.lt_of_not_le (fun z2 => absurd (Nat.div_le_div_right (c := 8) z2) (Nat.not_le.mpr z))) (fun r hr9 => (lv_1 hg hp hn (by omega) (by omega) hc hr9).1.1) (fun j hj => (dg_2 j hj).1)
    · have hj8 : j < 64 := hj
      have d1 : j / 8 < 8 := by omega
      have d2 : j % 8 < 8 := by omega
      have b1 := st_B hg hp d1 hn (i := 0) (by omega) (by omega) hc
      have b2 := st_B hg hp d2 hn (i := 1) (by omega) (by omega) b1
      rw [sr_2 σ hj8] at h0 ⊢
      by_cases c : nI (j / 8) = ltF σ
      · rw [if_pos c] at h0
        exact absurd h0 (m1_n _ rfl)
      · rw [if_neg c] at h0 ⊢
        by_cases c2 : nI (j % 8) = nI (j / 8)
        · rw [if_pos c2] at h0
          exact absurd h0 (m1_n _ rfl)
        · rw [if_neg c2] at h0 ⊢
          rw [l_ad2 (sq_B (by omega) b1) (sq_B (by omega) b2) (by omega)]
          exact ⟨d1, c, (lv_1 hg hp hn (i := 0) (by omega) (by omega) hc d1).2.2 _ d2 c2⟩
    · obtain ⟨-, ⟨e, e1, e2, e3⟩, -⟩ := lv_1 hg hp hn (i := 0) (by omega) (by omega) hc hr1
      have b1 := st_B hg hp hr1 hn (i := 0) (by omega) (by omega) hc
      have b2 := st_B hg hp e1 hn (i := 1) (by omega) (by omega) b1
      have k1 : (8 * r + e) / 8 = r := by omega
      have k2 : (8 * r + e) % 8 = e := by omega
      refine ⟨8 * r + e, by show 8 * r + e < 64; omega, k1, ?_⟩
      rw [sr_2 σ (by omega), k1, k2, if_neg hr2, if_neg e2, e3, l_ad2 (sq_B (by omega) b1) (sq_B (by omega) b2) (by omega)]
  · refine comb (G := lsG σ 2 (σ.n + 0) (L4 (cr0 σ))) (by decide) (fun j => j / 64) (fun j hj h0 => ?_) (fun r hr1 hr2 => ?_) (fun i j _ _ z => Nat.lt_of_not_le (fun z2 => absurd (Nat.div_le_div_right (c := 64) z2) (Nat.not_le.mpr z))) (fun r hr9 => (lv_2 hg hp hn (by omega) hc hr9).1.1) (fun j hj => (dg_3 j hj).1)
    · have hj8 : j < 512 := hj
      have d1 : j / 64 < 8 := by omega
      have d2 : j / 8 % 8 < 8 := by omega
      have d3 : j % 8 < 8 := by omega
      have b1 := st_B hg hp d1 hn (i := 0) (by omega) (by omega) hc
      have b2 := st_B hg hp d2 hn (i := 1) (by omega) (by omega) b1
      have b3 := st_B hg hp d3 hn (i := 2) (by omega) (by omega) b2
      have q1 := sq_B (by omega) b1
      have q2 := sq_B (by omega) b2
      have q3 := sq_B (by omega) b3
      rw [sr_3 σ hj8] at h0 ⊢
      by_cases c : nI (j / 64) = ltF σ
      · rw [if_pos c] at h0
        exact absurd h0 (m1_n _ rfl)
      · rw [if_neg c] at h0 ⊢
        by_cases c2 : nI (j / 8 % 8) = nI (j / 64)
        · rw [if_pos c2] at h0
          exact absurd h0 (m1_n _ rfl)
        · rw [if_neg c2] at h0 ⊢
          by_cases c3 : nI (j % 8) = nI (j / 8 % 8)
          · rw [if_pos c3] at h0
            exact absurd h0 (m1_n _ rfl)
          · rw [if_neg c3] at h0 ⊢
            have s1 := l_ad2 q1 q2 (by omega)
            rw [l_ad2 (x := 2000000000000) (by omega) q3 (by omega), s1]
            have := (lv_2 hg hp hn (by omega) hc d1).2.2 _ _ d2 d3 c2 c3
            exact ⟨d1, c, by omega⟩
    · obtain ⟨-, ⟨e, f, e1, f1, e2, f2, e3⟩, -⟩ := lv_2 hg hp hn (by omega) hc hr1
      have b1 := st_B hg hp hr1 hn (i := 0) (by omega) (by omega) hc
      have b2 := st_B hg hp e1 hn (i := 1) (by omega) (by omega) b1
      have b3 := st_B hg hp f1 hn (i := 2) (by omega) (by omega) b2
      have q1 := sq_B (by omega) b1
      have q2 := sq_B (by omega) b2
      have q3 := sq_B (by omega) b3
      have k1 : (64 * r + 8 * e + f) / 64 = r := by omega
      have k2 : (64 * r + 8 * e + f) / 8 % 8 = e := by omega
      have k3 : (64 * r + 8 * e + f) % 8 = f := by omega
      refine ⟨64 * r + 8 * e + f, by show 64 * r + 8 * e + f < 512; omega, k1, ?_⟩
      have s1 := l_ad2 q1 q2 (by omega)
      rw [sr_3 σ (by omega), k1, k2, k3, if_neg hr2, if_neg e2, if_neg f2, e3, l_ad2 (x := 2000000000000) (by omega) q3 (by omega), s1]
      omega
