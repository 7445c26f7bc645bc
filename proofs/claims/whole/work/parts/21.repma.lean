section ADM
variable {g : Gl} {ad : Iy → Nat} {y : Ey} {s : St} {ω : Wd}
def am_ring (ad : Iy → Nat) (n ed q : Nat) : Iy → Nat
  | .inl 14 => ed
  | .inl a => ad (.inl a)
  | .inr (.inl i) => if i = n then q else ad (.ring i)
  | .inr (.inr (.inl i)) => ad (.house i)
  | .inr (.inr (.inr i)) => ad (.bore i)
theorem am_ring_l (ad : Iy → Nat) (n ed q : Nat) {a : Nat} (h : a ≠ 14) : am_ring ad n ed q (.inl a) = ad (.inl a) := by
  rcases a with _ | _ | _ | _ | _ | _ | _ | _ | _ | _ | _ | _ | _ | _ | _ | _ | _ | a9 <;> first | rfl | exact absurd rfl h
theorem RepM.a_ring (h : RepM g ad y s ω) {q ed2 cap2 : Nat} {f2 : Nat → Option Nat} {r : Rg} {w : Wd} {mc : Int32} {v : Int32} (hq : ω q = some (.inr (15, mfs r v))) (hqn : ∀ k, VM y s k → ad k ≠ q) (a1 : cap2 ∈ caps) (a2 : s.n + 1 ≤ cap2) (a3 : ∀ i, i < s.n → f2 i = y.fB i) (a4 : f2 s.n = some q) (a5 : ω ed2 = none ∨ (ed2 = ad .rowB ∧ ¬ y.cB = 0)) (a6 : w (ad .rings) = some (alE mc ed2 (s.n + 1))) (a7 : w ed2 = some (rwE g cap2 f2)) (a8 : ∀ b, b ≠ ad .rings → b ≠ ed2 → w b = ω b) :
    RepM g (am_ring ad s.n ed2 q) (y.a_B mc cap2 f2 s.n v) (s.a_ring r) w := by
  have hed : ∀ k, VM y s k → k ≠ .rowB → ad k ≠ ed2 := by
    intro k hk hne he
    rcases a5 with a5 | a5
    · rw [← he, h.c k hk] at a5; cases a5
    · exact hne (h.inj k .rowB hk a5.2 (he.trans a5.1))
  have hqe : q ≠ ed2 := by
    intro he
    rcases a5 with a5 | a5
    · rw [← he, hq] at a5; cases a5
    · exact hqn .rowB a5.2 (a5.1.symm.trans he.symm)
  have hqa : q ≠ ad .rings := fun he => hqn .rings trivial he.symm
  have hold : ∀ k, VM y s k → k ≠ .rowB → k ≠ .rings → w (ad k) = some (cellM g ad y s k) := fun k hk h1 h2 => (a8 _ (fun z9 => h2 (h.inj k .rings hk trivial z9)) (hed k hk h1)).trans (h.c k hk)
  have hz2 : ¬ cap2 = 0 := by omega
  have hsk : ∀ a : Nat, a ≠ 14 → skW (y.a_B mc cap2 f2 s.n v) a → skW y a := by
    intro a h1 h2
    rcases a with _ | _ | _ | _ | _ | _ | _ | _ | _ | _ | _ | _ | _ | _ | _ | _ | _ | a9 <;> first | exact h2 | exact absurd rfl h1
  refine ⟨?_, ?_, ⟨a1, a2, fun z9 => absurd z9 hz2, fun i hi => ?_⟩, h.lH, h.lO, h.hg, h.st⟩
  · intro k hk
    rcases k with a | i | i | i
    · by_cases ha : a = 1
      · subst ha; exact a6
      · by_cases hr : a = 14
        · subst hr; exact a7
        · rw [am_ring_l ad _ _ _ hr, hold (.inl a) (hsk a hr hk) (fun z9 => hr (Sum.inl.inj z9)) (fun z9 => ha (Sum.inl.inj z9))]
          refine congrArg some ?_
          rcases a with _ | _ | _ | _ | _ | _ | _ | _ | _ | _ | _ | _ | _ | _ | _ | _ | _ | a9 <;> first | rfl | exact absurd rfl ha | exact absurd rfl hr
    · show w (if i = s.n then q else ad (.ring i)) = some (.inr (15, mfs (upT s.ring s.n r i) (upT y.gr s.n v i)))
      have hk : i < s.n + 1 := hk
      by_cases hi : i = s.n
      · rw [if_pos hi, hi, upT_s, upT_s]
        exact (a8 q hqa hqe).trans hq
      · rw [if_neg hi, upT_n hi, upT_n hi]
        exact hold (.ring i) (show i < s.n by omega) (fun z9 => by cases z9) (fun z9 => by cases z9)
    · exact hold (.house i) hk (fun z9 => by cases z9) (fun z9 => by cases z9)
    · exact hold (.bore i) hk (fun z9 => by cases z9) (fun z9 => by cases z9)
  · have key : ∀ k, VM (y.a_B mc cap2 f2 s.n v) (s.a_ring r) k → (k = .rowB ∧ am_ring ad s.n ed2 q k = ed2) ∨ (k = .ring s.n ∧ am_ring ad s.n ed2 q k = q) ∨ (k ≠ .rowB ∧ VM y s k ∧ am_ring ad s.n ed2 q k = ad k) := by
      intro k hk
      rcases k with a | i | i | i
      · by_cases hr : a = 14
        · subst hr; exact Or.inl ⟨rfl, rfl⟩
        · exact Or.inr (Or.inr ⟨fun z9 => hr (Sum.inl.inj z9), hsk a hr hk, am_ring_l ad _ _ _ hr⟩)
      · have hk : i < s.n + 1 := hk
        by_cases hi : i = s.n
        · exact Or.inr (Or.inl ⟨by rw [hi], if_pos hi⟩)
        · exact Or.inr (Or.inr ⟨(fun z9 => by cases z9), (show i < s.n by omega), if_neg hi⟩)
      · exact Or.inr (Or.inr ⟨(fun z9 => by cases z9), hk, rfl⟩)
      · exact Or.inr (Or.inr ⟨(fun z9 => by cases z9), hk, rfl⟩)
    intro k k' hk hk' he
    rcases key k hk with ⟨h1, h2⟩ | ⟨h1, h2⟩ | ⟨h0, h1, h2⟩ <;> rcases key k' hk' with ⟨h4, h5⟩ | ⟨h4, h5⟩ | ⟨h3, h4, h5⟩ <;> rw [h2, h5] at he
    · rw [h1, h4]
    · exact absurd he.symm hqe
    · exact absurd he.symm (hed k' h4 h3)
    · exact absurd he hqe
    · rw [h1, h4]
    · exact absurd he.symm (hqn k' h4)
    · exact absurd he (hed k h1 h0)
    · exact absurd he (hqn k h1)
    · exact h.inj k k' h1 h4 he
  · show f2 i = some (if i = s.n then q else ad (.ring i))
    have hi : i < s.n + 1 := hi
    by_cases h9 : i = s.n
    · rw [if_pos h9, h9, a4]
    · rw [if_neg h9, a3 i (by omega)]
      exact h.lB.2.2.2 i (by omega)
def am_house (ad : Iy → Nat) (n ed q : Nat) : Iy → Nat
  | .inl 15 => ed
  | .inl a => ad (.inl a)
  | .inr (.inr (.inl i)) => if i = n then q else ad (.house i)
  | .inr (.inl i) => ad (.ring i)
  | .inr (.inr (.inr i)) => ad (.bore i)
theorem am_house_l (ad : Iy → Nat) (n ed q : Nat) {a : Nat} (h : a ≠ 15) : am_house ad n ed q (.inl a) = ad (.inl a) := by
  rcases a with _ | _ | _ | _ | _ | _ | _ | _ | _ | _ | _ | _ | _ | _ | _ | _ | _ | a9 <;> first | rfl | exact absurd rfl h
theorem RepM.a_house (h : RepM g ad y s ω) {q ed2 cap2 : Nat} {f2 : Nat → Option Nat} {r : Hs} {w : Wd} {mc : Int32} (hq : ω q = some (.inl (g.2.1 0, 7, .inl (hsA r)))) (hqn : ∀ k, VM y s k → ad k ≠ q) (a1 : cap2 ∈ caps) (a2 : s.nh + 1 ≤ cap2) (a3 : ∀ i, i < s.nh → f2 i = y.fH i) (a4 : f2 s.nh = some q) (a5 : ω ed2 = none ∨ (ed2 = ad .rowH ∧ ¬ y.cH = 0)) (a6 : w (ad .houses) = some (alE mc ed2 (s.nh + 1))) (a7 : w ed2 = some (rwE g cap2 f2)) (a8 : ∀ b, b ≠ ad .houses → b ≠ ed2 → w b = ω b) :
    RepM g (am_house ad s.nh ed2 q) (y.a_H mc cap2 f2) (s.a_house r) w := by
  have hed : ∀ k, VM y s k → k ≠ .rowH → ad k ≠ ed2 := by
    intro k hk hne he
    rcases a5 with a5 | a5
    · rw [← he, h.c k hk] at a5; cases a5
    · exact hne (h.inj k .rowH hk a5.2 (he.trans a5.1))
  have hqe : q ≠ ed2 := by
    intro he
    rcases a5 with a5 | a5
    · rw [← he, hq] at a5; cases a5
    · exact hqn .rowH a5.2 (a5.1.symm.trans he.symm)
  have hqa : q ≠ ad .houses := fun he => hqn .houses trivial he.symm
  have hold : ∀ k, VM y s k → k ≠ .rowH → k ≠ .houses → w (ad k) = some (cellM g ad y s k) := fun k hk h1 h2 => (a8 _ (fun z9 => h2 (h.inj k .houses hk trivial z9)) (hed k hk h1)).trans (h.c k hk)
  have hz2 : ¬ cap2 = 0 := by omega
  have hsk : ∀ a : Nat, a ≠ 15 → skW (y.a_H mc cap2 f2) a → skW y a := by
    intro a h1 h2
    rcases a with _ | _ | _ | _ | _ | _ | _ | _ | _ | _ | _ | _ | _ | _ | _ | _ | _ | a9 <;> first | exact h2 | exact absurd rfl h1
  refine ⟨?_, ?_, h.lB, ⟨a1, a2, fun z9 => absurd z9 hz2, fun i hi => ?_⟩, h.lO, h.hg, h.st⟩
  · intro k hk
    rcases k with a | i | i | i
    · by_cases ha : a = 2
      · subst ha; exact a6
      · by_cases hr : a = 15
        · subst hr; exact a7
        · rw [am_house_l ad _ _ _ hr, hold (.inl a) (hsk a hr hk) (fun z9 => hr (Sum.inl.inj z9)) (fun z9 => ha (Sum.inl.inj z9))]
          refine congrArg some ?_
          rcases a with _ | _ | _ | _ | _ | _ | _ | _ | _ | _ | _ | _ | _ | _ | _ | _ | _ | a9 <;> first | rfl | exact absurd rfl ha | exact absurd rfl hr
    · exact hold (.ring i) hk (fun z9 => by cases z9) (fun z9 => by cases z9)
    · show w (if i = s.nh then q else ad (.house i)) = some (.inl (g.2.1 0, 7, .inl (hsA (upT s.hs s.nh r i))))
      have hk : i < s.nh + 1 := hk
      by_cases hi : i = s.nh
      · rw [if_pos hi, hi, upT_s]
        exact (a8 q hqa hqe).trans hq
      · rw [if_neg hi, upT_n hi]
        exact hold (.house i) (show i < s.nh by omega) (fun z9 => by cases z9) (fun z9 => by cases z9)
    · exact hold (.bore i) hk (fun z9 => by cases z9) (fun z9 => by cases z9)
  · have key : ∀ k, VM (y.a_H mc cap2 f2) (s.a_house r) k → (k = .rowH ∧ am_house ad s.nh ed2 q k = ed2) ∨ (k = .house s.nh ∧ am_house ad s.nh ed2 q k = q) ∨ (k ≠ .rowH ∧ VM y s k ∧ am_house ad s.nh ed2 q k = ad k) := by
      intro k hk
      rcases k with a | i | i | i
      · by_cases hr : a = 15
        · subst hr; exact Or.inl ⟨rfl, rfl⟩
        · exact Or.inr (Or.inr ⟨fun z9 => hr (Sum.inl.inj z9), hsk a hr hk, am_house_l ad _ _ _ hr⟩)
      · exact Or.inr (Or.inr ⟨(fun z9 => by cases z9), hk, rfl⟩)
      · have hk : i < s.nh + 1 := hk
        by_cases hi : i = s.nh
        · exact Or.inr (Or.inl ⟨by rw [hi], if_pos hi⟩)
        · exact Or.inr (Or.inr ⟨(fun z9 => by cases z9), (show i < s.nh by omega), if_neg hi⟩)
      · exact Or.inr (Or.inr ⟨(fun z9 => by cases z9), hk, rfl⟩)
    intro k k' hk hk' he
    rcases key k hk with ⟨h1, h2⟩ | ⟨h1, h2⟩ | ⟨h0, h1, h2⟩ <;> rcases key k' hk' with ⟨h4, h5⟩ | ⟨h4, h5⟩ | ⟨h3, h4, h5⟩ <;> rw [h2, h5] at he
    · rw [h1, h4]
    · exact absurd he.symm hqe
    · exact absurd he.symm (hed k' h4 h3)
    · exact absurd he hqe
    · rw [h1, h4]
    · exact absurd he.symm (hqn k' h4)
    · exact absurd he (hed k h1 h0)
    · exact absurd he (hqn k h1)
    · exact h.inj k k' h1 h4 he
  · show f2 i = some (if i = s.nh then q else ad (.house i))
    have hi : i < s.nh + 1 := hi
    by_cases h9 : i = s.nh
    · rw [if_pos h9, h9, a4]
    · rw [if_neg h9, a3 i (by omega)]
      exact h.lH.2.2.2 i (by omega)
def am_bore (ad : Iy → Nat) (n ed q : Nat) : Iy → Nat
  | .inl 16 => ed
  | .inl a => ad (.inl a)
  | .inr (.inr (.inr i)) => if i = n then q else ad (.bore i)
  | .inr (.inl i) => ad (.ring i)
  | .inr (.inr (.inl i)) => ad (.house i)
theorem am_bore_l (ad : Iy → Nat) (n ed q : Nat) {a : Nat} (h : a ≠ 16) : am_bore ad n ed q (.inl a) = ad (.inl a) := by
  rcases a with _ | _ | _ | _ | _ | _ | _ | _ | _ | _ | _ | _ | _ | _ | _ | _ | _ | a9 <;> first | rfl | exact absurd rfl h
theorem RepM.a_bore (h : RepM g ad y s ω) {q ed2 cap2 : Nat} {f2 : Nat → Option Nat} {r : Bo} {w : Wd} {mc : Int32} (hq : ω q = some (.inl (g.2.1 0, 2, .inl (boA r)))) (hqn : ∀ k, VM y s k → ad k ≠ q) (a1 : cap2 ∈ caps) (a2 : s.nb + 1 ≤ cap2) (a3 : ∀ i, i < s.nb → f2 i = y.fO i) (a4 : f2 s.nb = some q) (a5 : ω ed2 = none ∨ (ed2 = ad .rowO ∧ ¬ y.cO = 0)) (a6 : w (ad .bores) = some (alE mc ed2 (s.nb + 1))) (a7 : w ed2 = some (rwE g cap2 f2)) (a8 : ∀ b, b ≠ ad .bores → b ≠ ed2 → w b = ω b) :
    RepM g (am_bore ad s.nb ed2 q) (y.a_O mc cap2 f2) (s.a_bore r) w := by
  have hed : ∀ k, VM y s k → k ≠ .rowO → ad k ≠ ed2 := by
    intro k hk hne he
    rcases a5 with a5 | a5
    · rw [← he, h.c k hk] at a5; cases a5
    · exact hne (h.inj k .rowO hk a5.2 (he.trans a5.1))
  have hqe : q ≠ ed2 := by
    intro he
    rcases a5 with a5 | a5
    · rw [← he, hq] at a5; cases a5
    · exact hqn .rowO a5.2 (a5.1.symm.trans he.symm)
  have hqa : q ≠ ad .bores := fun he => hqn .bores trivial he.symm
  have hold : ∀ k, VM y s k → k ≠ .rowO → k ≠ .bores → w (ad k) = some (cellM g ad y s k) := fun k hk h1 h2 => (a8 _ (fun z9 => h2 (h.inj k .bores hk trivial z9)) (hed k hk h1)).trans (h.c k hk)
  have hz2 : ¬ cap2 = 0 := by omega
  have hsk : ∀ a : Nat, a ≠ 16 → skW (y.a_O mc cap2 f2) a → skW y a := by
    intro a h1 h2
    rcases a with _ | _ | _ | _ | _ | _ | _ | _ | _ | _ | _ | _ | _ | _ | _ | _ | _ | a9 <;> first | exact h2 | exact absurd rfl h1
  refine ⟨?_, ?_, h.lB, h.lH, ⟨a1, a2, fun z9 => absurd z9 hz2, fun i hi => ?_⟩, h.hg, h.st⟩
  · intro k hk
    rcases k with a | i | i | i
    · by_cases ha : a = 3
      · subst ha; exact a6
      · by_cases hr : a = 16
        · subst hr; exact a7
        · rw [am_bore_l ad _ _ _ hr, hold (.inl a) (hsk a hr hk) (fun z9 => hr (Sum.inl.inj z9)) (fun z9 => ha (Sum.inl.inj z9))]
          refine congrArg some ?_
          rcases a with _ | _ | _ | _ | _ | _ | _ | _ | _ | _ | _ | _ | _ | _ | _ | _ | _ | a9 <;> first | rfl | exact absurd rfl ha | exact absurd rfl hr
    · exact hold (.ring i) hk (fun z9 => by cases z9) (fun z9 => by cases z9)
    · exact hold (.house i) hk (fun z9 => by cases z9) (fun z9 => by cases z9)
    · show w (if i = s.nb then q else ad (.bore i)) = some (.inl (g.2.1 0, 2, .inl (boA (upT s.bo s.nb r i))))
      have hk : i < s.nb + 1 := hk
      by_cases hi : i = s.nb
      · rw [if_pos hi, hi, upT_s]
        exact (a8 q hqa hqe).trans hq
      · rw [if_neg hi, upT_n hi]
        exact hold (.bore i) (show i < s.nb by omega) (fun z9 => by cases z9) (fun z9 => by cases z9)
  · have key : ∀ k, VM (y.a_O mc cap2 f2) (s.a_bore r) k → (k = .rowO ∧ am_bore ad s.nb ed2 q k = ed2) ∨ (k = .bore s.nb ∧ am_bore ad s.nb ed2 q k = q) ∨ (k ≠ .rowO ∧ VM y s k ∧ am_bore ad s.nb ed2 q k = ad k) := by
      intro k hk
      rcases k with a | i | i | i
      · by_cases hr : a = 16
        · subst hr; exact Or.inl ⟨rfl, rfl⟩
        · exact Or.inr (Or.inr ⟨fun z9 => hr (Sum.inl.inj z9), hsk a hr hk, am_bore_l ad _ _ _ hr⟩)
      · exact Or.inr (Or.inr ⟨(fun z9 => by cases z9), hk, rfl⟩)
      · exact Or.inr (Or.inr ⟨(fun z9 => by cases z9), hk, rfl⟩)
      · have hk : i < s.nb + 1 := hk
        by_cases hi : i = s.nb
        · exact Or.inr (Or.inl ⟨by rw [hi], if_pos hi⟩)
        · exact Or.inr (Or.inr ⟨(fun z9 => by cases z9), (show i < s.nb by omega), if_neg hi⟩)
    intro k k' hk hk' he
    rcases key k hk with ⟨h1, h2⟩ | ⟨h1, h2⟩ | ⟨h0, h1, h2⟩ <;> rcases key k' hk' with ⟨h4, h5⟩ | ⟨h4, h5⟩ | ⟨h3, h4, h5⟩ <;> rw [h2, h5] at he
    · rw [h1, h4]
    · exact absurd he.symm hqe
    · exact absurd he.symm (hed k' h4 h3)
    · exact absurd he hqe
    · rw [h1, h4]
    · exact absurd he.symm (hqn k' h4)
    · exact absurd he (hed k h1 h0)
    · exact absurd he (hqn k h1)
    · exact h.inj k k' h1 h4 he
  · show f2 i = some (if i = s.nb then q else ad (.bore i))
    have hi : i < s.nb + 1 := hi
    by_cases h9 : i = s.nb
    · rw [if_pos h9, h9, a4]
    · rw [if_neg h9, a3 i (by omega)]
      exact h.lO.2.2.2 i (by omega)
end ADM
