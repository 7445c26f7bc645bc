abbrev Ey : Type := Int32 × Int32 × Int32 × Int32 × Int32 × Bool × Bool × Nat × Nat × Nat × (Nat → Option Nat) × (Nat → Option Nat) × (Nat → Option Nat) × (Nat → Int32)
def Ey.th (s : Ey) : Int32 := s.1
def Ey.mB (s : Ey) : Int32 := s.2.1
def Ey.mH (s : Ey) : Int32 := s.2.2.1
def Ey.mO (s : Ey) : Int32 := s.2.2.2.1
def Ey.sh (s : Ey) : Int32 := s.2.2.2.2.1
def Ey.sz (s : Ey) : Bool := s.2.2.2.2.2.1
def Ey.sd (s : Ey) : Bool := s.2.2.2.2.2.2.1
def Ey.cB (s : Ey) : Nat := s.2.2.2.2.2.2.2.1
def Ey.cH (s : Ey) : Nat := s.2.2.2.2.2.2.2.2.1
def Ey.cO (s : Ey) : Nat := s.2.2.2.2.2.2.2.2.2.1
def Ey.fB (s : Ey) : Nat → Option Nat := s.2.2.2.2.2.2.2.2.2.2.1
def Ey.fH (s : Ey) : Nat → Option Nat := s.2.2.2.2.2.2.2.2.2.2.2.1
def Ey.fO (s : Ey) : Nat → Option Nat := s.2.2.2.2.2.2.2.2.2.2.2.2.1
def Ey.gr (s : Ey) : Nat → Int32 := s.2.2.2.2.2.2.2.2.2.2.2.2.2
def Ey.w_th (s : Ey) (v : Int32) : Ey := (v, s.mB, s.mH, s.mO, s.sh, s.sz, s.sd, s.cB, s.cH, s.cO, s.fB, s.fH, s.fO, s.gr)
def Ey.w_mB (s : Ey) (v : Int32) : Ey := (s.th, v, s.mH, s.mO, s.sh, s.sz, s.sd, s.cB, s.cH, s.cO, s.fB, s.fH, s.fO, s.gr)
def Ey.w_mH (s : Ey) (v : Int32) : Ey := (s.th, s.mB, v, s.mO, s.sh, s.sz, s.sd, s.cB, s.cH, s.cO, s.fB, s.fH, s.fO, s.gr)
def Ey.w_mO (s : Ey) (v : Int32) : Ey := (s.th, s.mB, s.mH, v, s.sh, s.sz, s.sd, s.cB, s.cH, s.cO, s.fB, s.fH, s.fO, s.gr)
def Ey.w_sh (s : Ey) (v : Int32) : Ey := (s.th, s.mB, s.mH, s.mO, v, s.sz, s.sd, s.cB, s.cH, s.cO, s.fB, s.fH, s.fO, s.gr)
def Ey.w_sz (s : Ey) (v : Bool) : Ey := (s.th, s.mB, s.mH, s.mO, s.sh, v, s.sd, s.cB, s.cH, s.cO, s.fB, s.fH, s.fO, s.gr)
def Ey.w_sd (s : Ey) (v : Bool) : Ey := (s.th, s.mB, s.mH, s.mO, s.sh, s.sz, v, s.cB, s.cH, s.cO, s.fB, s.fH, s.fO, s.gr)
def Ey.w_cB (s : Ey) (v : Nat) : Ey := (s.th, s.mB, s.mH, s.mO, s.sh, s.sz, s.sd, v, s.cH, s.cO, s.fB, s.fH, s.fO, s.gr)
def Ey.w_cH (s : Ey) (v : Nat) : Ey := (s.th, s.mB, s.mH, s.mO, s.sh, s.sz, s.sd, s.cB, v, s.cO, s.fB, s.fH, s.fO, s.gr)
def Ey.w_cO (s : Ey) (v : Nat) : Ey := (s.th, s.mB, s.mH, s.mO, s.sh, s.sz, s.sd, s.cB, s.cH, v, s.fB, s.fH, s.fO, s.gr)
def Ey.w_fB (s : Ey) (v : Nat → Option Nat) : Ey := (s.th, s.mB, s.mH, s.mO, s.sh, s.sz, s.sd, s.cB, s.cH, s.cO, v, s.fH, s.fO, s.gr)
def Ey.w_fH (s : Ey) (v : Nat → Option Nat) : Ey := (s.th, s.mB, s.mH, s.mO, s.sh, s.sz, s.sd, s.cB, s.cH, s.cO, s.fB, v, s.fO, s.gr)
def Ey.w_fO (s : Ey) (v : Nat → Option Nat) : Ey := (s.th, s.mB, s.mH, s.mO, s.sh, s.sz, s.sd, s.cB, s.cH, s.cO, s.fB, s.fH, v, s.gr)
def Ey.w_gr (s : Ey) (v : Nat → Int32) : Ey := (s.th, s.mB, s.mH, s.mO, s.sh, s.sz, s.sd, s.cB, s.cH, s.cO, s.fB, s.fH, s.fO, v)
def Ey.a_H (s : Ey) (mc : Int32) (cap : Nat) (f : Nat → Option Nat) : Ey := (s.th, s.mB, mc, s.mO, s.sh, s.sz, s.sd, s.cB, cap, s.cO, s.fB, f, s.fO, s.gr)
def Ey.a_O (s : Ey) (mc : Int32) (cap : Nat) (f : Nat → Option Nat) : Ey := (s.th, s.mB, s.mH, mc, s.sh, s.sz, s.sd, s.cB, s.cH, cap, s.fB, s.fH, f, s.gr)
def Ey.a_B (s : Ey) (mc : Int32) (cap : Nat) (f : Nat → Option Nat) (n : Nat) (v : Int32) : Ey := (s.th, mc, s.mH, s.mO, s.sh, s.sz, s.sd, cap, s.cH, s.cO, f, s.fH, s.fO, upT s.gr n v)
abbrev Iy : Type := Nat ⊕ Nat ⊕ Nat ⊕ Nat
abbrev Iy.main : Iy := .inl 0
abbrev Iy.rings : Iy := .inl 1
abbrev Iy.houses : Iy := .inl 2
abbrev Iy.bores : Iy := .inl 3
abbrev Iy.kinds : Iy := .inl 4
abbrev Iy.refs : Iy := .inl 5
abbrev Iy.depths : Iy := .inl 6
abbrev Iy.waters : Iy := .inl 7
abbrev Iy.bR : Iy := .inl 8
abbrev Iy.bU : Iy := .inl 9
abbrev Iy.wears : Iy := .inl 10
abbrev Iy.waits : Iy := .inl 11
abbrev Iy.str : Iy := .inl 12
abbrev Iy.sval : Iy := .inl 13
abbrev Iy.rowB : Iy := .inl 14
abbrev Iy.rowH : Iy := .inl 15
abbrev Iy.rowO : Iy := .inl 16
abbrev Iy.ring (i : Nat) : Iy := .inr (.inl i)
abbrev Iy.house (i : Nat) : Iy := .inr (.inr (.inl i))
abbrev Iy.bore (i : Nat) : Iy := .inr (.inr (.inr i))
abbrev mfs (r : Rg) (v : Int32) : List Value := [.int r.turn, .int r.oR, .int r.oU, .int r.mi, .int r.en, .int r.fi, .int v, .int (bI r.no), .int (bI r.it)]
def hsA (h : Hs) : Nat → Int32
  | 0 => h.fr
  | 1 => h.to
  | 2 => h.ofs
  | 3 => h.lf
  | 4 => h.ll
  | 5 => bI h.wr
  | 6 => h.re
  | _ => 0
def boA (b : Bo) : Nat → Int32
  | 0 => b.pl
  | 1 => b.ki
  | _ => 0
def skW (y : Ey) : Nat → Prop
  | 0 => True
  | 1 => True
  | 2 => True
  | 3 => True
  | 4 => True
  | 5 => True
  | 6 => True
  | 7 => True
  | 8 => True
  | 9 => True
  | 10 => True
  | 11 => True
  | 12 => y.sd = true
  | 13 => y.sd = true
  | 14 => ¬ y.cB = 0
  | 15 => ¬ y.cH = 0
  | 16 => ¬ y.cO = 0
  | _ => False
def VM (y : Ey) (s : St) : Iy → Prop
  | .inl a => skW y a
  | .inr (.inl i) => i < s.n
  | .inr (.inr (.inl i)) => i < s.nh
  | .inr (.inr (.inr i)) => i < s.nb
def skM (g : Gl) (ad : Iy → Nat) (y : Ey) (s : St) : Nat → va_E
  | 0 => .inr (16, [.int y.th, .ref (ad .kinds), .ref (ad .refs), .ref (ad .depths), .ref (ad .waters), .ref (ad .bR), .ref (ad .bU), .ref (ad .bores), .ref (ad .rings), .ref (ad .wears), .ref (ad .houses), .int s.press, .int (bI s.foam), .int s.pR, .int s.pU, .int s.hR, .int s.hU, .int s.seg, .int s.pit, .int s.mn, .ref (ad .str), .ref (ad .waits)])
  | 1 => alE y.mB (ad .rowB) s.n
  | 2 => alE y.mH (ad .rowH) s.nh
  | 3 => alE y.mO (ad .rowO) s.nb
  | 4 => .inl (g.2.1 0, 200, .inl s.kinds)
  | 5 => .inl (g.2.1 0, 200, .inl s.refs)
  | 6 => .inl (g.2.1 0, 200, .inl s.depths)
  | 7 => .inl (g.2.1 0, 200, .inl s.waters)
  | 8 => .inl (g.2.1 0, 200, .inl s.bR)
  | 9 => .inl (g.2.1 0, 200, .inl s.bU)
  | 10 => .inl (g.2.1 0, 8, .inl s.wears)
  | 11 => .inl (g.2.1 0, 3, .inl s.waits)
  | 12 => .inr (0, [.ref (ad .sval), .int 0, .int y.sh, .int (bI y.sz)])
  | 13 => .inl (g.2.1 2, 7, .inl s.order)
  | 14 => rwE g y.cB y.fB
  | 15 => rwE g y.cH y.fH
  | 16 => rwE g y.cO y.fO
  | _ => .inr (0, [])
def cellM (g : Gl) (ad : Iy → Nat) (y : Ey) (s : St) : Iy → va_E
  | .inl a => skM g ad y s a
  | .inr (.inl i) => .inr (15, mfs (s.ring i) (y.gr i))
  | .inr (.inr (.inl i)) => .inl (g.2.1 0, 7, .inl (hsA (s.hs i)))
  | .inr (.inr (.inr i)) => .inl (g.2.1 0, 2, .inl (boA (s.bo i)))
def RepM (g : Gl) (ad : Iy → Nat) (y : Ey) (s : St) (ω : Wd) : Prop :=
  (∀ k, VM y s k → ω (ad k) = some (cellM g ad y s k)) ∧
  (∀ k k', VM y s k → VM y s k' → ad k = ad k' → k = k') ∧
  lsO g y.cB s.n (ad .rowB) y.fB (fun i => ad (.ring i)) ∧
  lsO g y.cH s.nh (ad .rowH) y.fH (fun i => ad (.house i)) ∧
  lsO g y.cO s.nb (ad .rowO) y.fO (fun i => ad (.bore i)) ∧ g.2.1 3 ≠ g.2.1 0 ∧
  (y.sd = false → ad .str = adS g 31 ∧ ∀ k, k < 7 → s.order k = stF [103, 112, 99, 115, 109, 119, 104] k)
section REPM
variable {g : Gl} {ad : Iy → Nat} {y : Ey} {s : St} {ω : Wd}
theorem RepM.c (h : RepM g ad y s ω) : ∀ k, VM y s k → ω (ad k) = some (cellM g ad y s k) := And.left h
theorem RepM.inj (h : RepM g ad y s ω) : ∀ k k', VM y s k → VM y s k' → ad k = ad k' → k = k' := And.left (And.right h)
theorem RepM.lB (h : RepM g ad y s ω) : lsO g y.cB s.n (ad .rowB) y.fB (fun i => ad (.ring i)) := And.left (And.right (And.right h))
theorem RepM.lH (h : RepM g ad y s ω) : lsO g y.cH s.nh (ad .rowH) y.fH (fun i => ad (.house i)) := And.left (And.right (And.right (And.right h)))
theorem RepM.lO (h : RepM g ad y s ω) : lsO g y.cO s.nb (ad .rowO) y.fO (fun i => ad (.bore i)) := And.left (And.right (And.right (And.right (And.right h))))
theorem RepM.hg (h : RepM g ad y s ω) : g.2.1 3 ≠ g.2.1 0 := And.left (And.right (And.right (And.right (And.right (And.right h)))))
theorem RepM.st (h : RepM g ad y s ω) : y.sd = false → ad .str = adS g 31 ∧ ∀ k, k < 7 → s.order k = stF [103, 112, 99, 115, 109, 119, 104] k := And.right (And.right (And.right (And.right (And.right (And.right h)))))
theorem RepM.f_main (h : RepM g ad y s ω) : ω (ad .main) = some (.inr (16, [.int y.th, .ref (ad .kinds), .ref (ad .refs), .ref (ad .depths), .ref (ad .waters), .ref (ad .bR), .ref (ad .bU), .ref (ad .bores), .ref (ad .rings), .ref (ad .wears), .ref (ad .houses), .int s.press, .int (bI s.foam), .int s.pR, .int s.pU, .int s.hR, .int s.hU, .int s.seg, .int s.pit, .int s.mn, .ref (ad .str), .ref (ad .waits)])) := h.c .main trivial
theorem RepM.f_str (h : RepM g ad y s ω) (hd : y.sd = true) : ω (ad .str) = some (.inr (0, [.ref (ad .sval), .int 0, .int y.sh, .int (bI y.sz)])) := h.c .str hd
theorem RepM.f_sval (h : RepM g ad y s ω) (hd : y.sd = true) : ω (ad .sval) = some (.inl (g.2.1 2, 7, .inl s.order)) := h.c .sval hd
theorem RepM.f_rings (h : RepM g ad y s ω) : ω (ad .rings) = some (alE y.mB (ad .rowB) s.n) := h.c .rings trivial
theorem RepM.f_ring (h : RepM g ad y s ω) {i : Nat} (hi : i < s.n) : ω (ad (.ring i)) = some (.inr (15, [.int (s.ring i).turn, .int (s.ring i).oR, .int (s.ring i).oU, .int (s.ring i).mi, .int (s.ring i).en, .int (s.ring i).fi, .int (y.gr i), .int (bI (s.ring i).no), .int (bI (s.ring i).it)])) := h.c (.ring i) hi
theorem RepM.p_ring (h : RepM g ad y s ω) {i : Nat} (hi : i < s.n) : ¬ y.cB = 0 ∧ ω (ad .rowB) = some (rwE g y.cB y.fB) ∧ y.cB ≤ 163 ∧ s.n ≤ y.cB ∧ y.fB i = some (ad (.ring i)) := by
  have hz : ¬ y.cB = 0 := fun z9 => by have := h.lB.2.1; omega
  exact ⟨hz, h.c .rowB hz, caps_le _ h.lB.1, h.lB.2.1, h.lB.2.2.2 i hi⟩
theorem RepM.b_ring (h : RepM g ad y s ω) : s.n ≤ 163 := Nat.le_trans h.lB.2.1 (caps_le _ h.lB.1)
theorem RepM.e_ring (h : RepM g ad y s ω) : (y.cB = 0 ∧ ad .rowB = g.2.2.1 19) ∨ (¬ y.cB = 0 ∧ ω (ad .rowB) = some (rwE g y.cB y.fB)) := by
  by_cases hz : y.cB = 0
  · exact Or.inl ⟨hz, h.lB.2.2.1 hz⟩
  · exact Or.inr ⟨hz, h.c .rowB hz⟩
theorem RepM.l_ring (h : RepM g ad y s ω) : ∀ i : Nat, i < s.n → ∀ v : Nat, y.fB i = some v → elt g ω v := by
  intro i hi v hv
  rw [h.lB.2.2.2 i hi] at hv
  cases hv
  exact Or.inl ⟨15, _, _, _, _, h.f_ring hi, rfl, tw_2114⟩
theorem RepM.f_houses (h : RepM g ad y s ω) : ω (ad .houses) = some (alE y.mH (ad .rowH) s.nh) := h.c .houses trivial
theorem RepM.f_house (h : RepM g ad y s ω) {i : Nat} (hi : i < s.nh) : ω (ad (.house i)) = some (.inl (g.2.1 0, 7, .inl (hsA (s.hs i)))) := h.c (.house i) hi
theorem RepM.p_house (h : RepM g ad y s ω) {i : Nat} (hi : i < s.nh) : ¬ y.cH = 0 ∧ ω (ad .rowH) = some (rwE g y.cH y.fH) ∧ y.cH ≤ 163 ∧ s.nh ≤ y.cH ∧ y.fH i = some (ad (.house i)) := by
  have hz : ¬ y.cH = 0 := fun z9 => by have := h.lH.2.1; omega
  exact ⟨hz, h.c .rowH hz, caps_le _ h.lH.1, h.lH.2.1, h.lH.2.2.2 i hi⟩
theorem RepM.b_house (h : RepM g ad y s ω) : s.nh ≤ 163 := Nat.le_trans h.lH.2.1 (caps_le _ h.lH.1)
theorem RepM.e_house (h : RepM g ad y s ω) : (y.cH = 0 ∧ ad .rowH = g.2.2.1 19) ∨ (¬ y.cH = 0 ∧ ω (ad .rowH) = some (rwE g y.cH y.fH)) := by
  by_cases hz : y.cH = 0
  · exact Or.inl ⟨hz, h.lH.2.2.1 hz⟩
  · exact Or.inr ⟨hz, h.c .rowH hz⟩
theorem RepM.l_house (h : RepM g ad y s ω) : ∀ i : Nat, i < s.nh → ∀ v : Nat, y.fH i = some v → elt g ω v := by
  intro i hi v hv
  rw [h.lH.2.2.2 i hi] at hv
  cases hv
  exact Or.inr ⟨_, h.f_house hi⟩
theorem RepM.f_bores (h : RepM g ad y s ω) : ω (ad .bores) = some (alE y.mO (ad .rowO) s.nb) := h.c .bores trivial
theorem RepM.f_bore (h : RepM g ad y s ω) {i : Nat} (hi : i < s.nb) : ω (ad (.bore i)) = some (.inl (g.2.1 0, 2, .inl (boA (s.bo i)))) := h.c (.bore i) hi
theorem RepM.p_bore (h : RepM g ad y s ω) {i : Nat} (hi : i < s.nb) : ¬ y.cO = 0 ∧ ω (ad .rowO) = some (rwE g y.cO y.fO) ∧ y.cO ≤ 163 ∧ s.nb ≤ y.cO ∧ y.fO i = some (ad (.bore i)) := by
  have hz : ¬ y.cO = 0 := fun z9 => by have := h.lO.2.1; omega
  exact ⟨hz, h.c .rowO hz, caps_le _ h.lO.1, h.lO.2.1, h.lO.2.2.2 i hi⟩
theorem RepM.b_bore (h : RepM g ad y s ω) : s.nb ≤ 163 := Nat.le_trans h.lO.2.1 (caps_le _ h.lO.1)
theorem RepM.e_bore (h : RepM g ad y s ω) : (y.cO = 0 ∧ ad .rowO = g.2.2.1 19) ∨ (¬ y.cO = 0 ∧ ω (ad .rowO) = some (rwE g y.cO y.fO)) := by
  by_cases hz : y.cO = 0
  · exact Or.inl ⟨hz, h.lO.2.2.1 hz⟩
  · exact Or.inr ⟨hz, h.c .rowO hz⟩
theorem RepM.l_bore (h : RepM g ad y s ω) : ∀ i : Nat, i < s.nb → ∀ v : Nat, y.fO i = some v → elt g ω v := by
  intro i hi v hv
  rw [h.lO.2.2.2 i hi] at hv
  cases hv
  exact Or.inr ⟨_, h.f_bore hi⟩
theorem RepM.f_kinds (h : RepM g ad y s ω) : ω (ad .kinds) = some (.inl (g.2.1 0, 200, .inl s.kinds)) := h.c .kinds trivial
theorem RepM.w_kinds (h : RepM g ad y s ω) (f : Nat → Int32) : RepM g ad y (s.w_kinds f) (wup ω (ad .kinds) (.inl (g.2.1 0, 200, .inl f))) := ⟨Rep_set h.c h.inj .kinds trivial _ rfl (by intro k' hne; rcases k' with a9 | i9 | i9 | i9 <;> first | rfl | (rcases a9 with _ | _ | _ | _ | _ | _ | _ | _ | _ | _ | _ | _ | _ | _ | _ | _ | _ | a9 <;> first | rfl | exact absurd rfl hne)), h.inj, h.lB, h.lH, h.lO, h.hg, h.st⟩
theorem RepM.f_refs (h : RepM g ad y s ω) : ω (ad .refs) = some (.inl (g.2.1 0, 200, .inl s.refs)) := h.c .refs trivial
theorem RepM.w_refs (h : RepM g ad y s ω) (f : Nat → Int32) : RepM g ad y (s.w_refs f) (wup ω (ad .refs) (.inl (g.2.1 0, 200, .inl f))) := ⟨Rep_set h.c h.inj .refs trivial _ rfl (by intro k' hne; rcases k' with a9 | i9 | i9 | i9 <;> first | rfl | (rcases a9 with _ | _ | _ | _ | _ | _ | _ | _ | _ | _ | _ | _ | _ | _ | _ | _ | _ | a9 <;> first | rfl | exact absurd rfl hne)), h.inj, h.lB, h.lH, h.lO, h.hg, h.st⟩
theorem RepM.f_depths (h : RepM g ad y s ω) : ω (ad .depths) = some (.inl (g.2.1 0, 200, .inl s.depths)) := h.c .depths trivial
theorem RepM.w_depths (h : RepM g ad y s ω) (f : Nat → Int32) : RepM g ad y (s.w_depths f) (wup ω (ad .depths) (.inl (g.2.1 0, 200, .inl f))) := ⟨Rep_set h.c h.inj .depths trivial _ rfl (by intro k' hne; rcases k' with a9 | i9 | i9 | i9 <;> first | rfl | (rcases a9 with _ | _ | _ | _ | _ | _ | _ | _ | _ | _ | _ | _ | _ | _ | _ | _ | _ | a9 <;> first | rfl | exact absurd rfl hne)), h.inj, h.lB, h.lH, h.lO, h.hg, h.st⟩
theorem RepM.f_waters (h : RepM g ad y s ω) : ω (ad .waters) = some (.inl (g.2.1 0, 200, .inl s.waters)) := h.c .waters trivial
theorem RepM.w_waters (h : RepM g ad y s ω) (f : Nat → Int32) : RepM g ad y (s.w_waters f) (wup ω (ad .waters) (.inl (g.2.1 0, 200, .inl f))) := ⟨Rep_set h.c h.inj .waters trivial _ rfl (by intro k' hne; rcases k' with a9 | i9 | i9 | i9 <;> first | rfl | (rcases a9 with _ | _ | _ | _ | _ | _ | _ | _ | _ | _ | _ | _ | _ | _ | _ | _ | _ | a9 <;> first | rfl | exact absurd rfl hne)), h.inj, h.lB, h.lH, h.lO, h.hg, h.st⟩
theorem RepM.f_bR (h : RepM g ad y s ω) : ω (ad .bR) = some (.inl (g.2.1 0, 200, .inl s.bR)) := h.c .bR trivial
theorem RepM.w_bR (h : RepM g ad y s ω) (f : Nat → Int32) : RepM g ad y (s.w_bR f) (wup ω (ad .bR) (.inl (g.2.1 0, 200, .inl f))) := ⟨Rep_set h.c h.inj .bR trivial _ rfl (by intro k' hne; rcases k' with a9 | i9 | i9 | i9 <;> first | rfl | (rcases a9 with _ | _ | _ | _ | _ | _ | _ | _ | _ | _ | _ | _ | _ | _ | _ | _ | _ | a9 <;> first | rfl | exact absurd rfl hne)), h.inj, h.lB, h.lH, h.lO, h.hg, h.st⟩
theorem RepM.f_bU (h : RepM g ad y s ω) : ω (ad .bU) = some (.inl (g.2.1 0, 200, .inl s.bU)) := h.c .bU trivial
theorem RepM.w_bU (h : RepM g ad y s ω) (f : Nat → Int32) : RepM g ad y (s.w_bU f) (wup ω (ad .bU) (.inl (g.2.1 0, 200, .inl f))) := ⟨Rep_set h.c h.inj .bU trivial _ rfl (by intro k' hne; rcases k' with a9 | i9 | i9 | i9 <;> first | rfl | (rcases a9 with _ | _ | _ | _ | _ | _ | _ | _ | _ | _ | _ | _ | _ | _ | _ | _ | _ | a9 <;> first | rfl | exact absurd rfl hne)), h.inj, h.lB, h.lH, h.lO, h.hg, h.st⟩
theorem RepM.f_wears (h : RepM g ad y s ω) : ω (ad .wears) = some (.inl (g.2.1 0, 8, .inl s.wears)) := h.c .wears trivial
theorem RepM.w_wears (h : RepM g ad y s ω) (f : Nat → Int32) : RepM g ad y (s.w_wears f) (wup ω (ad .wears) (.inl (g.2.1 0, 8, .inl f))) := ⟨Rep_set h.c h.inj .wears trivial _ rfl (by intro k' hne; rcases k' with a9 | i9 | i9 | i9 <;> first | rfl | (rcases a9 with _ | _ | _ | _ | _ | _ | _ | _ | _ | _ | _ | _ | _ | _ | _ | _ | _ | a9 <;> first | rfl | exact absurd rfl hne)), h.inj, h.lB, h.lH, h.lO, h.hg, h.st⟩
theorem RepM.f_waits (h : RepM g ad y s ω) : ω (ad .waits) = some (.inl (g.2.1 0, 3, .inl s.waits)) := h.c .waits trivial
theorem RepM.w_waits (h : RepM g ad y s ω) (f : Nat → Int32) : RepM g ad y (s.w_waits f) (wup ω (ad .waits) (.inl (g.2.1 0, 3, .inl f))) := ⟨Rep_set h.c h.inj .waits trivial _ rfl (by intro k' hne; rcases k' with a9 | i9 | i9 | i9 <;> first | rfl | (rcases a9 with _ | _ | _ | _ | _ | _ | _ | _ | _ | _ | _ | _ | _ | _ | _ | _ | _ | a9 <;> first | rfl | exact absurd rfl hne)), h.inj, h.lB, h.lH, h.lO, h.hg, h.st⟩
theorem RepM.s_main_0 (h : RepM g ad y s ω) (v : Int32) : RepM g ad (y.w_th v) s (wup ω (ad .main) (.inr (16, List.set [.int y.th, .ref (ad .kinds), .ref (ad .refs), .ref (ad .depths), .ref (ad .waters), .ref (ad .bR), .ref (ad .bU), .ref (ad .bores), .ref (ad .rings), .ref (ad .wears), .ref (ad .houses), .int s.press, .int (bI s.foam), .int s.pR, .int s.pU, .int s.hR, .int s.hU, .int s.seg, .int s.pit, .int s.mn, .ref (ad .str), .ref (ad .waits)] 0 (.int v)))) := ⟨Rep_set h.c h.inj .main trivial _ rfl (by intro k' hne; rcases k' with a9 | i9 | i9 | i9 <;> first | rfl | (rcases a9 with _ | _ | _ | _ | _ | _ | _ | _ | _ | _ | _ | _ | _ | _ | _ | _ | _ | a9 <;> first | rfl | exact absurd rfl hne)), h.inj, h.lB, h.lH, h.lO, h.hg, h.st⟩
theorem RepM.s_main_11 (h : RepM g ad y s ω) (v : Int32) : RepM g ad y (s.w_press v) (wup ω (ad .main) (.inr (16, List.set [.int y.th, .ref (ad .kinds), .ref (ad .refs), .ref (ad .depths), .ref (ad .waters), .ref (ad .bR), .ref (ad .bU), .ref (ad .bores), .ref (ad .rings), .ref (ad .wears), .ref (ad .houses), .int s.press, .int (bI s.foam), .int s.pR, .int s.pU, .int s.hR, .int s.hU, .int s.seg, .int s.pit, .int s.mn, .ref (ad .str), .ref (ad .waits)] 11 (.int v)))) := ⟨Rep_set h.c h.inj .main trivial _ rfl (by intro k' hne; rcases k' with a9 | i9 | i9 | i9 <;> first | rfl | (rcases a9 with _ | _ | _ | _ | _ | _ | _ | _ | _ | _ | _ | _ | _ | _ | _ | _ | _ | a9 <;> first | rfl | exact absurd rfl hne)), h.inj, h.lB, h.lH, h.lO, h.hg, h.st⟩
theorem RepM.s_main_12 (h : RepM g ad y s ω) (v : Bool) : RepM g ad y (s.w_foam v) (wup ω (ad .main) (.inr (16, List.set [.int y.th, .ref (ad .kinds), .ref (ad .refs), .ref (ad .depths), .ref (ad .waters), .ref (ad .bR), .ref (ad .bU), .ref (ad .bores), .ref (ad .rings), .ref (ad .wears), .ref (ad .houses), .int s.press, .int (bI s.foam), .int s.pR, .int s.pU, .int s.hR, .int s.hU, .int s.seg, .int s.pit, .int s.mn, .ref (ad .str), .ref (ad .waits)] 12 (.int (bI v))))) := ⟨Rep_set h.c h.inj .main trivial _ rfl (by intro k' hne; rcases k' with a9 | i9 | i9 | i9 <;> first | rfl | (rcases a9 with _ | _ | _ | _ | _ | _ | _ | _ | _ | _ | _ | _ | _ | _ | _ | _ | _ | a9 <;> first | rfl | exact absurd rfl hne)), h.inj, h.lB, h.lH, h.lO, h.hg, h.st⟩
theorem RepM.s_main_13 (h : RepM g ad y s ω) (v : Int32) : RepM g ad y (s.w_pR v) (wup ω (ad .main) (.inr (16, List.set [.int y.th, .ref (ad .kinds), .ref (ad .refs), .ref (ad .depths), .ref (ad .waters), .ref (ad .bR), .ref (ad .bU), .ref (ad .bores), .ref (ad .rings), .ref (ad .wears), .ref (ad .houses), .int s.press, .int (bI s.foam), .int s.pR, .int s.pU, .int s.hR, .int s.hU, .int s.seg, .int s.pit, .int s.mn, .ref (ad .str), .ref (ad .waits)] 13 (.int v)))) := ⟨Rep_set h.c h.inj .main trivial _ rfl (by intro k' hne; rcases k' with a9 | i9 | i9 | i9 <;> first | rfl | (rcases a9 with _ | _ | _ | _ | _ | _ | _ | _ | _ | _ | _ | _ | _ | _ | _ | _ | _ | a9 <;> first | rfl | exact absurd rfl hne)), h.inj, h.lB, h.lH, h.lO, h.hg, h.st⟩
theorem RepM.s_main_14 (h : RepM g ad y s ω) (v : Int32) : RepM g ad y (s.w_pU v) (wup ω (ad .main) (.inr (16, List.set [.int y.th, .ref (ad .kinds), .ref (ad .refs), .ref (ad .depths), .ref (ad .waters), .ref (ad .bR), .ref (ad .bU), .ref (ad .bores), .ref (ad .rings), .ref (ad .wears), .ref (ad .houses), .int s.press, .int (bI s.foam), .int s.pR, .int s.pU, .int s.hR, .int s.hU, .int s.seg, .int s.pit, .int s.mn, .ref (ad .str), .ref (ad .waits)] 14 (.int v)))) := ⟨Rep_set h.c h.inj .main trivial _ rfl (by intro k' hne; rcases k' with a9 | i9 | i9 | i9 <;> first | rfl | (rcases a9 with _ | _ | _ | _ | _ | _ | _ | _ | _ | _ | _ | _ | _ | _ | _ | _ | _ | a9 <;> first | rfl | exact absurd rfl hne)), h.inj, h.lB, h.lH, h.lO, h.hg, h.st⟩
theorem RepM.s_main_15 (h : RepM g ad y s ω) (v : Int32) : RepM g ad y (s.w_hR v) (wup ω (ad .main) (.inr (16, List.set [.int y.th, .ref (ad .kinds), .ref (ad .refs), .ref (ad .depths), .ref (ad .waters), .ref (ad .bR), .ref (ad .bU), .ref (ad .bores), .ref (ad .rings), .ref (ad .wears), .ref (ad .houses), .int s.press, .int (bI s.foam), .int s.pR, .int s.pU, .int s.hR, .int s.hU, .int s.seg, .int s.pit, .int s.mn, .ref (ad .str), .ref (ad .waits)] 15 (.int v)))) := ⟨Rep_set h.c h.inj .main trivial _ rfl (by intro k' hne; rcases k' with a9 | i9 | i9 | i9 <;> first | rfl | (rcases a9 with _ | _ | _ | _ | _ | _ | _ | _ | _ | _ | _ | _ | _ | _ | _ | _ | _ | a9 <;> first | rfl | exact absurd rfl hne)), h.inj, h.lB, h.lH, h.lO, h.hg, h.st⟩
theorem RepM.s_main_16 (h : RepM g ad y s ω) (v : Int32) : RepM g ad y (s.w_hU v) (wup ω (ad .main) (.inr (16, List.set [.int y.th, .ref (ad .kinds), .ref (ad .refs), .ref (ad .depths), .ref (ad .waters), .ref (ad .bR), .ref (ad .bU), .ref (ad .bores), .ref (ad .rings), .ref (ad .wears), .ref (ad .houses), .int s.press, .int (bI s.foam), .int s.pR, .int s.pU, .int s.hR, .int s.hU, .int s.seg, .int s.pit, .int s.mn, .ref (ad .str), .ref (ad .waits)] 16 (.int v)))) := ⟨Rep_set h.c h.inj .main trivial _ rfl (by intro k' hne; rcases k' with a9 | i9 | i9 | i9 <;> first | rfl | (rcases a9 with _ | _ | _ | _ | _ | _ | _ | _ | _ | _ | _ | _ | _ | _ | _ | _ | _ | a9 <;> first | rfl | exact absurd rfl hne)), h.inj, h.lB, h.lH, h.lO, h.hg, h.st⟩
theorem RepM.s_main_17 (h : RepM g ad y s ω) (v : Int32) : RepM g ad y (s.w_seg v) (wup ω (ad .main) (.inr (16, List.set [.int y.th, .ref (ad .kinds), .ref (ad .refs), .ref (ad .depths), .ref (ad .waters), .ref (ad .bR), .ref (ad .bU), .ref (ad .bores), .ref (ad .rings), .ref (ad .wears), .ref (ad .houses), .int s.press, .int (bI s.foam), .int s.pR, .int s.pU, .int s.hR, .int s.hU, .int s.seg, .int s.pit, .int s.mn, .ref (ad .str), .ref (ad .waits)] 17 (.int v)))) := ⟨Rep_set h.c h.inj .main trivial _ rfl (by intro k' hne; rcases k' with a9 | i9 | i9 | i9 <;> first | rfl | (rcases a9 with _ | _ | _ | _ | _ | _ | _ | _ | _ | _ | _ | _ | _ | _ | _ | _ | _ | a9 <;> first | rfl | exact absurd rfl hne)), h.inj, h.lB, h.lH, h.lO, h.hg, h.st⟩
theorem RepM.s_main_18 (h : RepM g ad y s ω) (v : Int32) : RepM g ad y (s.w_pit v) (wup ω (ad .main) (.inr (16, List.set [.int y.th, .ref (ad .kinds), .ref (ad .refs), .ref (ad .depths), .ref (ad .waters), .ref (ad .bR), .ref (ad .bU), .ref (ad .bores), .ref (ad .rings), .ref (ad .wears), .ref (ad .houses), .int s.press, .int (bI s.foam), .int s.pR, .int s.pU, .int s.hR, .int s.hU, .int s.seg, .int s.pit, .int s.mn, .ref (ad .str), .ref (ad .waits)] 18 (.int v)))) := ⟨Rep_set h.c h.inj .main trivial _ rfl (by intro k' hne; rcases k' with a9 | i9 | i9 | i9 <;> first | rfl | (rcases a9 with _ | _ | _ | _ | _ | _ | _ | _ | _ | _ | _ | _ | _ | _ | _ | _ | _ | a9 <;> first | rfl | exact absurd rfl hne)), h.inj, h.lB, h.lH, h.lO, h.hg, h.st⟩
theorem RepM.s_main_19 (h : RepM g ad y s ω) (v : Int32) : RepM g ad y (s.w_mn v) (wup ω (ad .main) (.inr (16, List.set [.int y.th, .ref (ad .kinds), .ref (ad .refs), .ref (ad .depths), .ref (ad .waters), .ref (ad .bR), .ref (ad .bU), .ref (ad .bores), .ref (ad .rings), .ref (ad .wears), .ref (ad .houses), .int s.press, .int (bI s.foam), .int s.pR, .int s.pU, .int s.hR, .int s.hU, .int s.seg, .int s.pit, .int s.mn, .ref (ad .str), .ref (ad .waits)] 19 (.int v)))) := ⟨Rep_set h.c h.inj .main trivial _ rfl (by intro k' hne; rcases k' with a9 | i9 | i9 | i9 <;> first | rfl | (rcases a9 with _ | _ | _ | _ | _ | _ | _ | _ | _ | _ | _ | _ | _ | _ | _ | _ | _ | a9 <;> first | rfl | exact absurd rfl hne)), h.inj, h.lB, h.lH, h.lO, h.hg, h.st⟩
theorem RepM.s_ring_0 (h : RepM g ad y s ω) {i : Nat} (hi : i < s.n) (v : Int32) : RepM g ad y (s.w_ring (upT s.ring i ((s.ring i).w_turn v))) (wup ω (ad (.ring i)) (.inr (15, List.set [.int (s.ring i).turn, .int (s.ring i).oR, .int (s.ring i).oU, .int (s.ring i).mi, .int (s.ring i).en, .int (s.ring i).fi, .int (y.gr i), .int (bI (s.ring i).no), .int (bI (s.ring i).it)] 0 (.int v)))) := ⟨Rep_set h.c h.inj (.ring i) hi _ (by show (Sum.inr (15, mfs (upT s.ring i _ i) (y.gr i)) : va_E) = _; rw [upT_s]; rfl) (by intro k' hne; rcases k' with a9 | i9 | i9 | i9 <;> first | rfl | (rcases a9 with _ | _ | _ | _ | _ | _ | _ | _ | _ | _ | _ | _ | _ | _ | _ | _ | _ | a9 <;> rfl) | exact congrArg (fun r => (Sum.inr (15, mfs r (y.gr _)) : va_E)) (upT_n (fun z => hne (by rw [z])))), h.inj, h.lB, h.lH, h.lO, h.hg, h.st⟩
theorem RepM.s_ring_1 (h : RepM g ad y s ω) {i : Nat} (hi : i < s.n) (v : Int32) : RepM g ad y (s.w_ring (upT s.ring i ((s.ring i).w_oR v))) (wup ω (ad (.ring i)) (.inr (15, List.set [.int (s.ring i).turn, .int (s.ring i).oR, .int (s.ring i).oU, .int (s.ring i).mi, .int (s.ring i).en, .int (s.ring i).fi, .int (y.gr i), .int (bI (s.ring i).no), .int (bI (s.ring i).it)] 1 (.int v)))) := ⟨Rep_set h.c h.inj (.ring i) hi _ (by show (Sum.inr (15, mfs (upT s.ring i _ i) (y.gr i)) : va_E) = _; rw [upT_s]; rfl) (by intro k' hne; rcases k' with a9 | i9 | i9 | i9 <;> first | rfl | (rcases a9 with _ | _ | _ | _ | _ | _ | _ | _ | _ | _ | _ | _ | _ | _ | _ | _ | _ | a9 <;> rfl) | exact congrArg (fun r => (Sum.inr (15, mfs r (y.gr _)) : va_E)) (upT_n (fun z => hne (by rw [z])))), h.inj, h.lB, h.lH, h.lO, h.hg, h.st⟩
theorem RepM.s_ring_2 (h : RepM g ad y s ω) {i : Nat} (hi : i < s.n) (v : Int32) : RepM g ad y (s.w_ring (upT s.ring i ((s.ring i).w_oU v))) (wup ω (ad (.ring i)) (.inr (15, List.set [.int (s.ring i).turn, .int (s.ring i).oR, .int (s.ring i).oU, .int (s.ring i).mi, .int (s.ring i).en, .int (s.ring i).fi, .int (y.gr i), .int (bI (s.ring i).no), .int (bI (s.ring i).it)] 2 (.int v)))) := ⟨Rep_set h.c h.inj (.ring i) hi _ (by show (Sum.inr (15, mfs (upT s.ring i _ i) (y.gr i)) : va_E) = _; rw [upT_s]; rfl) (by intro k' hne; rcases k' with a9 | i9 | i9 | i9 <;> first | rfl | (rcases a9 with _ | _ | _ | _ | _ | _ | _ | _ | _ | _ | _ | _ | _ | _ | _ | _ | _ | a9 <;> rfl) | exact congrArg (fun r => (Sum.inr (15, mfs r (y.gr _)) : va_E)) (upT_n (fun z => hne (by rw [z])))), h.inj, h.lB, h.lH, h.lO, h.hg, h.st⟩
theorem RepM.s_ring_3 (h : RepM g ad y s ω) {i : Nat} (hi : i < s.n) (v : Int32) : RepM g ad y (s.w_ring (upT s.ring i ((s.ring i).w_mi v))) (wup ω (ad (.ring i)) (.inr (15, List.set [.int (s.ring i).turn, .int (s.ring i).oR, .int (s.ring i).oU, .int (s.ring i).mi, .int (s.ring i).en, .int (s.ring i).fi, .int (y.gr i), .int (bI (s.ring i).no), .int (bI (s.ring i).it)] 3 (.int v)))) := ⟨Rep_set h.c h.inj (.ring i) hi _ (by show (Sum.inr (15, mfs (upT s.ring i _ i) (y.gr i)) : va_E) = _; rw [upT_s]; rfl) (by intro k' hne; rcases k' with a9 | i9 | i9 | i9 <;> first | rfl | (rcases a9 with _ | _ | _ | _ | _ | _ | _ | _ | _ | _ | _ | _ | _ | _ | _ | _ | _ | a9 <;> rfl) | exact congrArg (fun r => (Sum.inr (15, mfs r (y.gr _)) : va_E)) (upT_n (fun z => hne (by rw [z])))), h.inj, h.lB, h.lH, h.lO, h.hg, h.st⟩
theorem RepM.s_ring_4 (h : RepM g ad y s ω) {i : Nat} (hi : i < s.n) (v : Int32) : RepM g ad y (s.w_ring (upT s.ring i ((s.ring i).w_en v))) (wup ω (ad (.ring i)) (.inr (15, List.set [.int (s.ring i).turn, .int (s.ring i).oR, .int (s.ring i).oU, .int (s.ring i).mi, .int (s.ring i).en, .int (s.ring i).fi, .int (y.gr i), .int (bI (s.ring i).no), .int (bI (s.ring i).it)] 4 (.int v)))) := ⟨Rep_set h.c h.inj (.ring i) hi _ (by show (Sum.inr (15, mfs (upT s.ring i _ i) (y.gr i)) : va_E) = _; rw [upT_s]; rfl) (by intro k' hne; rcases k' with a9 | i9 | i9 | i9 <;> first | rfl | (rcases a9 with _ | _ | _ | _ | _ | _ | _ | _ | _ | _ | _ | _ | _ | _ | _ | _ | _ | a9 <;> rfl) | exact congrArg (fun r => (Sum.inr (15, mfs r (y.gr _)) : va_E)) (upT_n (fun z => hne (by rw [z])))), h.inj, h.lB, h.lH, h.lO, h.hg, h.st⟩
theorem RepM.s_ring_5 (h : RepM g ad y s ω) {i : Nat} (hi : i < s.n) (v : Int32) : RepM g ad y (s.w_ring (upT s.ring i ((s.ring i).w_fi v))) (wup ω (ad (.ring i)) (.inr (15, List.set [.int (s.ring i).turn, .int (s.ring i).oR, .int (s.ring i).oU, .int (s.ring i).mi, .int (s.ring i).en, .int (s.ring i).fi, .int (y.gr i), .int (bI (s.ring i).no), .int (bI (s.ring i).it)] 5 (.int v)))) := ⟨Rep_set h.c h.inj (.ring i) hi _ (by show (Sum.inr (15, mfs (upT s.ring i _ i) (y.gr i)) : va_E) = _; rw [upT_s]; rfl) (by intro k' hne; rcases k' with a9 | i9 | i9 | i9 <;> first | rfl | (rcases a9 with _ | _ | _ | _ | _ | _ | _ | _ | _ | _ | _ | _ | _ | _ | _ | _ | _ | a9 <;> rfl) | exact congrArg (fun r => (Sum.inr (15, mfs r (y.gr _)) : va_E)) (upT_n (fun z => hne (by rw [z])))), h.inj, h.lB, h.lH, h.lO, h.hg, h.st⟩
theorem RepM.s_ring_6 (h : RepM g ad y s ω) {i : Nat} (hi : i < s.n) (v : Int32) : RepM g ad (y.w_gr (upT y.gr i v)) s (wup ω (ad (.ring i)) (.inr (15, List.set [.int (s.ring i).turn, .int (s.ring i).oR, .int (s.ring i).oU, .int (s.ring i).mi, .int (s.ring i).en, .int (s.ring i).fi, .int (y.gr i), .int (bI (s.ring i).no), .int (bI (s.ring i).it)] 6 (.int v)))) := ⟨Rep_set h.c h.inj (.ring i) hi _ (by show (Sum.inr (15, mfs (s.ring i) (upT y.gr i v i)) : va_E) = _; rw [upT_s]; rfl) (by intro k' hne; rcases k' with a9 | i9 | i9 | i9 <;> first | rfl | (rcases a9 with _ | _ | _ | _ | _ | _ | _ | _ | _ | _ | _ | _ | _ | _ | _ | _ | _ | a9 <;> rfl) | exact congrArg (fun r => (Sum.inr (15, mfs (s.ring _) r) : va_E)) (upT_n (fun z => hne (by rw [z])))), h.inj, h.lB, h.lH, h.lO, h.hg, h.st⟩
theorem RepM.s_ring_7 (h : RepM g ad y s ω) {i : Nat} (hi : i < s.n) (v : Bool) : RepM g ad y (s.w_ring (upT s.ring i ((s.ring i).w_no v))) (wup ω (ad (.ring i)) (.inr (15, List.set [.int (s.ring i).turn, .int (s.ring i).oR, .int (s.ring i).oU, .int (s.ring i).mi, .int (s.ring i).en, .int (s.ring i).fi, .int (y.gr i), .int (bI (s.ring i).no), .int (bI (s.ring i).it)] 7 (.int (bI v))))) := ⟨Rep_set h.c h.inj (.ring i) hi _ (by show (Sum.inr (15, mfs (upT s.ring i _ i) (y.gr i)) : va_E) = _; rw [upT_s]; rfl) (by intro k' hne; rcases k' with a9 | i9 | i9 | i9 <;> first | rfl | (rcases a9 with _ | _ | _ | _ | _ | _ | _ | _ | _ | _ | _ | _ | _ | _ | _ | _ | _ | a9 <;> rfl) | exact congrArg (fun r => (Sum.inr (15, mfs r (y.gr _)) : va_E)) (upT_n (fun z => hne (by rw [z])))), h.inj, h.lB, h.lH, h.lO, h.hg, h.st⟩
theorem RepM.s_ring_8 (h : RepM g ad y s ω) {i : Nat} (hi : i < s.n) (v : Bool) : RepM g ad y (s.w_ring (upT s.ring i ((s.ring i).w_it v))) (wup ω (ad (.ring i)) (.inr (15, List.set [.int (s.ring i).turn, .int (s.ring i).oR, .int (s.ring i).oU, .int (s.ring i).mi, .int (s.ring i).en, .int (s.ring i).fi, .int (y.gr i), .int (bI (s.ring i).no), .int (bI (s.ring i).it)] 8 (.int (bI v))))) := ⟨Rep_set h.c h.inj (.ring i) hi _ (by show (Sum.inr (15, mfs (upT s.ring i _ i) (y.gr i)) : va_E) = _; rw [upT_s]; rfl) (by intro k' hne; rcases k' with a9 | i9 | i9 | i9 <;> first | rfl | (rcases a9 with _ | _ | _ | _ | _ | _ | _ | _ | _ | _ | _ | _ | _ | _ | _ | _ | _ | a9 <;> rfl) | exact congrArg (fun r => (Sum.inr (15, mfs r (y.gr _)) : va_E)) (upT_n (fun z => hne (by rw [z])))), h.inj, h.lB, h.lH, h.lO, h.hg, h.st⟩
theorem hsA_3 (h : Hs) (v : Int32) : upd (hsA h) 3 v = hsA (h.w_lf v) := by
  funext k
  unfold upd
  rcases k with _ | _ | _ | _ | _ | _ | _ | k <;> rfl
theorem RepM.h_3 (h : RepM g ad y s ω) {i : Nat} (hi : i < s.nh) (v : Int32) : RepM g ad y (s.w_hs (upT s.hs i ((s.hs i).w_lf v))) (wup ω (ad (.house i)) (.inl (g.2.1 0, 7, .inl (upd (hsA (s.hs i)) 3 v)))) := ⟨Rep_set h.c h.inj (.house i) hi _ (by show (Sum.inl (g.2.1 0, 7, .inl (hsA (upT s.hs i _ i))) : va_E) = _; rw [upT_s, hsA_3]) (by intro k' hne; rcases k' with a9 | i9 | i9 | i9 <;> first | rfl | (rcases a9 with _ | _ | _ | _ | _ | _ | _ | _ | _ | _ | _ | _ | _ | _ | _ | _ | _ | a9 <;> rfl) | exact congrArg (fun r => (Sum.inl (g.2.1 0, 7, .inl (hsA r)) : va_E)) (upT_n (fun z => hne (by rw [z])))), h.inj, h.lB, h.lH, h.lO, h.hg, h.st⟩
theorem hsA_4 (h : Hs) (v : Int32) : upd (hsA h) 4 v = hsA (h.w_ll v) := by
  funext k
  unfold upd
  rcases k with _ | _ | _ | _ | _ | _ | _ | k <;> rfl
theorem RepM.h_4 (h : RepM g ad y s ω) {i : Nat} (hi : i < s.nh) (v : Int32) : RepM g ad y (s.w_hs (upT s.hs i ((s.hs i).w_ll v))) (wup ω (ad (.house i)) (.inl (g.2.1 0, 7, .inl (upd (hsA (s.hs i)) 4 v)))) := ⟨Rep_set h.c h.inj (.house i) hi _ (by show (Sum.inl (g.2.1 0, 7, .inl (hsA (upT s.hs i _ i))) : va_E) = _; rw [upT_s, hsA_4]) (by intro k' hne; rcases k' with a9 | i9 | i9 | i9 <;> first | rfl | (rcases a9 with _ | _ | _ | _ | _ | _ | _ | _ | _ | _ | _ | _ | _ | _ | _ | _ | _ | a9 <;> rfl) | exact congrArg (fun r => (Sum.inl (g.2.1 0, 7, .inl (hsA r)) : va_E)) (upT_n (fun z => hne (by rw [z])))), h.inj, h.lB, h.lH, h.lO, h.hg, h.st⟩
theorem hsA_5 (h : Hs) (v : Bool) : upd (hsA h) 5 (bI v) = hsA (h.w_wr v) := by
  funext k
  unfold upd
  rcases k with _ | _ | _ | _ | _ | _ | _ | k <;> rfl
theorem RepM.h_5 (h : RepM g ad y s ω) {i : Nat} (hi : i < s.nh) (v : Bool) : RepM g ad y (s.w_hs (upT s.hs i ((s.hs i).w_wr v))) (wup ω (ad (.house i)) (.inl (g.2.1 0, 7, .inl (upd (hsA (s.hs i)) 5 (bI v))))) := ⟨Rep_set h.c h.inj (.house i) hi _ (by show (Sum.inl (g.2.1 0, 7, .inl (hsA (upT s.hs i _ i))) : va_E) = _; rw [upT_s, hsA_5]) (by intro k' hne; rcases k' with a9 | i9 | i9 | i9 <;> first | rfl | (rcases a9 with _ | _ | _ | _ | _ | _ | _ | _ | _ | _ | _ | _ | _ | _ | _ | _ | _ | a9 <;> rfl) | exact congrArg (fun r => (Sum.inl (g.2.1 0, 7, .inl (hsA r)) : va_E)) (upT_n (fun z => hne (by rw [z])))), h.inj, h.lB, h.lH, h.lO, h.hg, h.st⟩
theorem hsA_6 (h : Hs) (v : Int32) : upd (hsA h) 6 v = hsA (h.w_re v) := by
  funext k
  unfold upd
  rcases k with _ | _ | _ | _ | _ | _ | _ | k <;> rfl
theorem RepM.h_6 (h : RepM g ad y s ω) {i : Nat} (hi : i < s.nh) (v : Int32) : RepM g ad y (s.w_hs (upT s.hs i ((s.hs i).w_re v))) (wup ω (ad (.house i)) (.inl (g.2.1 0, 7, .inl (upd (hsA (s.hs i)) 6 v)))) := ⟨Rep_set h.c h.inj (.house i) hi _ (by show (Sum.inl (g.2.1 0, 7, .inl (hsA (upT s.hs i _ i))) : va_E) = _; rw [upT_s, hsA_6]) (by intro k' hne; rcases k' with a9 | i9 | i9 | i9 <;> first | rfl | (rcases a9 with _ | _ | _ | _ | _ | _ | _ | _ | _ | _ | _ | _ | _ | _ | _ | _ | _ | a9 <;> rfl) | exact congrArg (fun r => (Sum.inl (g.2.1 0, 7, .inl (hsA r)) : va_E)) (upT_n (fun z => hne (by rw [z])))), h.inj, h.lB, h.lH, h.lO, h.hg, h.st⟩
theorem RepM.new (h : RepM g ad y s ω) {q : Nat} (hq : ω q = none) (e : va_E) : RepM g ad y s (wup ω q e) := ⟨fun k hk => (wup_n (w_ne (h.c k hk) hq)).trans (h.c k hk), h.inj, h.lB, h.lH, h.lO, h.hg, h.st⟩
theorem RepM.ne (h : RepM g ad y s ω) {q : Nat} (hq : ω q = none) (k : Iy) (hk : VM y s k) : ad k ≠ q := w_ne (h.c k hk) hq
theorem RepM.by (h : RepM g ad y s ω) {q : Nat} (hq : ∀ k, VM y s k → ad k ≠ q) (e : va_E) : RepM g ad y s (wup ω q e) := ⟨fun k hk => (wup_n (hq k hk)).trans (h.c k hk), h.inj, h.lB, h.lH, h.lO, h.hg, h.st⟩
end REPM
section WPM
variable {p : Program} {l : Launch} {e : Env} {R : Room} {s : State} {m : MethodId} {args : Array Value} {below : List Frame} {meth : Method} {c : Code} {nL : Nat} {g : Gl} {ω0 : Wd} {sz0 : Nat} {Q : State → Prop} {ω : Wd} {k n pc : Nat} {L : List (Nat × Value)} {rest : List Value} {ad : Iy → Nat} {y : Ey} {σ : St}
theorem WP.rm (h : RepM g ad y σ ω) (kk : RepM g ad y σ ω → WP p l e R s m args below meth c g ω0 sz0 Q nL ω k n pc L rest) : WP p l e R s m args below meth c g ω0 sz0 Q nL ω k n pc L rest := kk h
end WPM
