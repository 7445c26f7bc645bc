structure Rg where
  (turn kind pR pU : Int32) (fo : Bool) (oR oU mi en mo : Int32) (no it : Bool) (fi ff : Int32)
structure Hs where
  (fr to ofs lf ll : Int32) (wr : Bool) (re : Int32)
structure Bo where
  (pl ki : Int32)
/-- the class's numbers -/
structure St where
  (kinds refs depths waters bR bU wears waits order : Nat → Int32)
  (hR hU oR oU press : Int32) (foam : Bool) (pR pU seg pit away mn fc fl fo : Int32)
  (n : Nat) (ring : Nat → Rg) (nh : Nat) (hs : Nat → Hs) (nb : Nat) (bo : Nat → Bo)
/-- what nobody asks for: the trial course, the lists' inner numbers -/
structure Ex where
  (t0 t1 t2 t3 mB mH mO : Int32) (cB cH cO : Nat) (fB fH fO : Nat → Option Nat)
inductive Ix where
  | main | soil | shield | course | trial | yard | clock | contract | built | houses | bores | kinds | refs | depths | waters | bR | bU | wears | order | waits | rowB | rowH | rowO | ring (i : Nat) | house (i : Nat) | bore (i : Nat)
deriving DecidableEq
def upT {α : Type} (f : Nat → α) (i : Nat) (v : α) : Nat → α := fun j => if j = i then v else f j
theorem upT_s {α : Type} (f : Nat → α) (i : Nat) (v : α) : upT f i v i = v := if_pos rfl
theorem upT_n {α : Type} {f : Nat → α} {i j : Nat} {v : α} (h : j ≠ i) : upT f i v j = f j := if_neg h
abbrev rfs (r : Rg) : List Value := [.int r.turn, .int r.kind, .int r.pR, .int r.pU, .int (bI r.fo), .int r.oR, .int r.oU, .int r.mi, .int r.en, .int r.mo, .int (bI r.no), .int (bI r.it), .int r.fi, .int r.ff]
abbrev hfs (r : Hs) : List Value := [.int r.fr, .int r.to, .int r.ofs, .int r.lf, .int r.ll, .int (bI r.wr), .int r.re]
abbrev bfs (r : Bo) : List Value := [.int r.pl, .int r.ki]
def VC (x : Ex) (s : St) : Ix → Prop
  | .rowB => ¬ x.cB = 0
  | .rowH => ¬ x.cH = 0
  | .rowO => ¬ x.cO = 0
  | .ring i => i < s.n
  | .house i => i < s.nh
  | .bore i => i < s.nb
  | _ => True
def cellC (g : Gl) (ad : Ix → Nat) (x : Ex) (s : St) : Ix → va_E
  | .main => .inr (14, [.ref (ad .soil), .ref (ad .shield), .ref (ad .course), .ref (ad .trial), .ref (ad .yard), .ref (ad .clock), .ref (ad .contract), .ref (ad .built), .ref (ad .houses)])
  | .soil => .inr (12, [.ref (ad .kinds), .ref (ad .refs), .ref (ad .depths), .ref (ad .waters), .ref (ad .bR), .ref (ad .bU), .ref (ad .bores)])
  | .shield => .inr (11, [.ref (ad .wears), .int s.press, .int (bI s.foam), .int s.pR, .int s.pU])
  | .course => .inr (8, [.int s.hR, .int s.hU, .int s.oR, .int s.oU])
  | .trial => .inr (8, [.int x.t0, .int x.t1, .int x.t2, .int x.t3])
  | .yard => .inr (13, [.int s.seg, .int s.pit, .int s.away])
  | .clock => .inr (6, [.int s.mn, .int s.fc, .int s.fl, .int s.fo])
  | .contract => .inr (7, [.ref (ad .order), .ref (ad .waits)])
  | .built => alE x.mB (ad .rowB) s.n
  | .houses => alE x.mH (ad .rowH) s.nh
  | .bores => alE x.mO (ad .rowO) s.nb
  | .kinds => .inl (g.2.1 0, 200, .inl s.kinds)
  | .refs => .inl (g.2.1 0, 200, .inl s.refs)
  | .depths => .inl (g.2.1 0, 200, .inl s.depths)
  | .waters => .inl (g.2.1 0, 200, .inl s.waters)
  | .bR => .inl (g.2.1 0, 200, .inl s.bR)
  | .bU => .inl (g.2.1 0, 200, .inl s.bU)
  | .wears => .inl (g.2.1 0, 8, .inl s.wears)
  | .order => .inl (g.2.1 1, 7, .inl s.order)
  | .waits => .inl (g.2.1 0, 3, .inl s.waits)
  | .rowB => rwE g x.cB x.fB
  | .rowH => rwE g x.cH x.fH
  | .rowO => rwE g x.cO x.fO
  | .ring i => .inr (10, rfs (s.ring i))
  | .house i => .inr (9, hfs (s.hs i))
  | .bore i => .inr (5, bfs (s.bo i))
/-- a list: its row's size, and what lies in it -/
def lsO (g : Gl) (cap n ed : Nat) (f : Nat → Option Nat) (it : Nat → Nat) : Prop := cap ∈ caps ∧ n ≤ cap ∧ (cap = 0 → ed = g.2.2.1 19) ∧ ∀ i, i < n → f i = some (it i)
structure RepC (g : Gl) (ad : Ix → Nat) (x : Ex) (s : St) (ω : Wd) : Prop where
  c : ∀ k, VC x s k → ω (ad k) = some (cellC g ad x s k)
  inj : ∀ k k', VC x s k → VC x s k' → ad k = ad k' → k = k'
  lB : lsO g x.cB s.n (ad .rowB) x.fB (fun i => ad (.ring i))
  lH : lsO g x.cH s.nh (ad .rowH) x.fH (fun i => ad (.house i))
  lO : lsO g x.cO s.nb (ad .rowO) x.fO (fun i => ad (.bore i))
  hg : g.2.1 3 ≠ g.2.1 0
theorem Rep_set {I : Type} {V : I → Prop} {cell cell' : I → va_E} {ad : I → Nat} {ω : Wd} (hc : ∀ k, V k → ω (ad k) = some (cell k)) (inj : ∀ k k', V k → V k' → ad k = ad k' → k = k') (k : I) (hk : V k) (e : va_E) (he : cell' k = e) (hs : ∀ k', k' ≠ k → cell' k' = cell k') : ∀ k', V k' → wup ω (ad k) e (ad k') = some (cell' k') := by
  intro k' hk'
  by_cases h : k' = k
  · subst h
    rw [wup_s, he]
  · rw [wup_n (fun z => h (inj k' k hk' hk z)), hc k' hk', hs k' h]
section REPC
variable {g : Gl} {ad : Ix → Nat} {x : Ex} {s : St} {ω : Wd}
theorem RepC.f_main (h : RepC g ad x s ω) : ω (ad .main) = some (.inr (14, [.ref (ad .soil), .ref (ad .shield), .ref (ad .course), .ref (ad .trial), .ref (ad .yard), .ref (ad .clock), .ref (ad .contract), .ref (ad .built), .ref (ad .houses)])) := h.c .main trivial
theorem RepC.f_soil (h : RepC g ad x s ω) : ω (ad .soil) = some (.inr (12, [.ref (ad .kinds), .ref (ad .refs), .ref (ad .depths), .ref (ad .waters), .ref (ad .bR), .ref (ad .bU), .ref (ad .bores)])) := h.c .soil trivial
theorem RepC.f_shield (h : RepC g ad x s ω) : ω (ad .shield) = some (.inr (11, [.ref (ad .wears), .int s.press, .int (bI s.foam), .int s.pR, .int s.pU])) := h.c .shield trivial
theorem RepC.f_course (h : RepC g ad x s ω) : ω (ad .course) = some (.inr (8, [.int s.hR, .int s.hU, .int s.oR, .int s.oU])) := h.c .course trivial
theorem RepC.f_trial (h : RepC g ad x s ω) : ω (ad .trial) = some (.inr (8, [.int x.t0, .int x.t1, .int x.t2, .int x.t3])) := h.c .trial trivial
theorem RepC.f_yard (h : RepC g ad x s ω) : ω (ad .yard) = some (.inr (13, [.int s.seg, .int s.pit, .int s.away])) := h.c .yard trivial
theorem RepC.f_clock (h : RepC g ad x s ω) : ω (ad .clock) = some (.inr (6, [.int s.mn, .int s.fc, .int s.fl, .int s.fo])) := h.c .clock trivial
theorem RepC.f_contract (h : RepC g ad x s ω) : ω (ad .contract) = some (.inr (7, [.ref (ad .order), .ref (ad .waits)])) := h.c .contract trivial
theorem RepC.f_built (h : RepC g ad x s ω) : ω (ad .built) = some (alE x.mB (ad .rowB) s.n) := h.c .built trivial
theorem RepC.f_ring (h : RepC g ad x s ω) {i : Nat} (hi : i < s.n) : ω (ad (.ring i)) = some (.inr (10, [.int (s.ring i).turn, .int (s.ring i).kind, .int (s.ring i).pR, .int (s.ring i).pU, .int (bI (s.ring i).fo), .int (s.ring i).oR, .int (s.ring i).oU, .int (s.ring i).mi, .int (s.ring i).en, .int (s.ring i).mo, .int (bI (s.ring i).no), .int (bI (s.ring i).it), .int (s.ring i).fi, .int (s.ring i).ff])) := h.c (.ring i) hi
theorem RepC.p_ring (h : RepC g ad x s ω) {i : Nat} (hi : i < s.n) : ¬ x.cB = 0 ∧ ω (ad .rowB) = some (rwE g x.cB x.fB) ∧ x.cB ≤ 163 ∧ s.n ≤ x.cB ∧ x.fB i = some (ad (.ring i)) := by
  have hz : ¬ x.cB = 0 := fun z9 => by have := h.lB.2.1; omega
  exact ⟨hz, h.c .rowB hz, caps_le _ h.lB.1, h.lB.2.1, h.lB.2.2.2 i hi⟩
theorem RepC.f_houses (h : RepC g ad x s ω) : ω (ad .houses) = some (alE x.mH (ad .rowH) s.nh) := h.c .houses trivial
theorem RepC.f_house (h : RepC g ad x s ω) {i : Nat} (hi : i < s.nh) : ω (ad (.house i)) = some (.inr (9, [.int (s.hs i).fr, .int (s.hs i).to, .int (s.hs i).ofs, .int (s.hs i).lf, .int (s.hs i).ll, .int (bI (s.hs i).wr), .int (s.hs i).re])) := h.c (.house i) hi
theorem RepC.p_house (h : RepC g ad x s ω) {i : Nat} (hi : i < s.nh) : ¬ x.cH = 0 ∧ ω (ad .rowH) = some (rwE g x.cH x.fH) ∧ x.cH ≤ 163 ∧ s.nh ≤ x.cH ∧ x.fH i = some (ad (.house i)) := by
  have hz : ¬ x.cH = 0 := fun z9 => by have := h.lH.2.1; omega
  exact ⟨hz, h.c .rowH hz, caps_le _ h.lH.1, h.lH.2.1, h.lH.2.2.2 i hi⟩
theorem RepC.f_bores (h : RepC g ad x s ω) : ω (ad .bores) = some (alE x.mO (ad .rowO) s.nb) := h.c .bores trivial
theorem RepC.f_bore (h : RepC g ad x s ω) {i : Nat} (hi : i < s.nb) : ω (ad (.bore i)) = some (.inr (5, [.int (s.bo i).pl, .int (s.bo i).ki])) := h.c (.bore i) hi
theorem RepC.p_bore (h : RepC g ad x s ω) {i : Nat} (hi : i < s.nb) : ¬ x.cO = 0 ∧ ω (ad .rowO) = some (rwE g x.cO x.fO) ∧ x.cO ≤ 163 ∧ s.nb ≤ x.cO ∧ x.fO i = some (ad (.bore i)) := by
  have hz : ¬ x.cO = 0 := fun z9 => by have := h.lO.2.1; omega
  exact ⟨hz, h.c .rowO hz, caps_le _ h.lO.1, h.lO.2.1, h.lO.2.2.2 i hi⟩
theorem RepC.f_kinds (h : RepC g ad x s ω) : ω (ad .kinds) = some (.inl (g.2.1 0, 200, .inl s.kinds)) := h.c .kinds trivial
theorem RepC.w_kinds (h : RepC g ad x s ω) (f : Nat → Int32) : RepC g ad x { s with kinds := f } (wup ω (ad .kinds) (.inl (g.2.1 0, 200, .inl f))) := ⟨Rep_set h.c h.inj .kinds trivial _ rfl (fun k' hne => by cases k' <;> first | rfl | exact absurd rfl hne), h.inj, h.lB, h.lH, h.lO, h.hg⟩
theorem RepC.f_refs (h : RepC g ad x s ω) : ω (ad .refs) = some (.inl (g.2.1 0, 200, .inl s.refs)) := h.c .refs trivial
theorem RepC.w_refs (h : RepC g ad x s ω) (f : Nat → Int32) : RepC g ad x { s with refs := f } (wup ω (ad .refs) (.inl (g.2.1 0, 200, .inl f))) := ⟨Rep_set h.c h.inj .refs trivial _ rfl (fun k' hne => by cases k' <;> first | rfl | exact absurd rfl hne), h.inj, h.lB, h.lH, h.lO, h.hg⟩
theorem RepC.f_depths (h : RepC g ad x s ω) : ω (ad .depths) = some (.inl (g.2.1 0, 200, .inl s.depths)) := h.c .depths trivial
theorem RepC.w_depths (h : RepC g ad x s ω) (f : Nat → Int32) : RepC g ad x { s with depths := f } (wup ω (ad .depths) (.inl (g.2.1 0, 200, .inl f))) := ⟨Rep_set h.c h.inj .depths trivial _ rfl (fun k' hne => by cases k' <;> first | rfl | exact absurd rfl hne), h.inj, h.lB, h.lH, h.lO, h.hg⟩
theorem RepC.f_waters (h : RepC g ad x s ω) : ω (ad .waters) = some (.inl (g.2.1 0, 200, .inl s.waters)) := h.c .waters trivial
theorem RepC.w_waters (h : RepC g ad x s ω) (f : Nat → Int32) : RepC g ad x { s with waters := f } (wup ω (ad .waters) (.inl (g.2.1 0, 200, .inl f))) := ⟨Rep_set h.c h.inj .waters trivial _ rfl (fun k' hne => by cases k' <;> first | rfl | exact absurd rfl hne), h.inj, h.lB, h.lH, h.lO, h.hg⟩
theorem RepC.f_bR (h : RepC g ad x s ω) : ω (ad .bR) = some (.inl (g.2.1 0, 200, .inl s.bR)) := h.c .bR trivial
theorem RepC.w_bR (h : RepC g ad x s ω) (f : Nat → Int32) : RepC g ad x { s with bR := f } (wup ω (ad .bR) (.inl (g.2.1 0, 200, .inl f))) := ⟨Rep_set h.c h.inj .bR trivial _ rfl (fun k' hne => by cases k' <;> first | rfl | exact absurd rfl hne), h.inj, h.lB, h.lH, h.lO, h.hg⟩
theorem RepC.f_bU (h : RepC g ad x s ω) : ω (ad .bU) = some (.inl (g.2.1 0, 200, .inl s.bU)) := h.c .bU trivial
theorem RepC.w_bU (h : RepC g ad x s ω) (f : Nat → Int32) : RepC g ad x { s with bU := f } (wup ω (ad .bU) (.inl (g.2.1 0, 200, .inl f))) := ⟨Rep_set h.c h.inj .bU trivial _ rfl (fun k' hne => by cases k' <;> first | rfl | exact absurd rfl hne), h.inj, h.lB, h.lH, h.lO, h.hg⟩
theorem RepC.f_wears (h : RepC g ad x s ω) : ω (ad .wears) = some (.inl (g.2.1 0, 8, .inl s.wears)) := h.c .wears trivial
theorem RepC.w_wears (h : RepC g ad x s ω) (f : Nat → Int32) : RepC g ad x { s with wears := f } (wup ω (ad .wears) (.inl (g.2.1 0, 8, .inl f))) := ⟨Rep_set h.c h.inj .wears trivial _ rfl (fun k' hne => by cases k' <;> first | rfl | exact absurd rfl hne), h.inj, h.lB, h.lH, h.lO, h.hg⟩
theorem RepC.f_order (h : RepC g ad x s ω) : ω (ad .order) = some (.inl (g.2.1 1, 7, .inl s.order)) := h.c .order trivial
theorem RepC.w_order (h : RepC g ad x s ω) (f : Nat → Int32) : RepC g ad x { s with order := f } (wup ω (ad .order) (.inl (g.2.1 1, 7, .inl f))) := ⟨Rep_set h.c h.inj .order trivial _ rfl (fun k' hne => by cases k' <;> first | rfl | exact absurd rfl hne), h.inj, h.lB, h.lH, h.lO, h.hg⟩
theorem RepC.f_waits (h : RepC g ad x s ω) : ω (ad .waits) = some (.inl (g.2.1 0, 3, .inl s.waits)) := h.c .waits trivial
theorem RepC.w_waits (h : RepC g ad x s ω) (f : Nat → Int32) : RepC g ad x { s with waits := f } (wup ω (ad .waits) (.inl (g.2.1 0, 3, .inl f))) := ⟨Rep_set h.c h.inj .waits trivial _ rfl (fun k' hne => by cases k' <;> first | rfl | exact absurd rfl hne), h.inj, h.lB, h.lH, h.lO, h.hg⟩
theorem RepC.s_course_0 (h : RepC g ad x s ω) (v : Int32) : RepC g ad x { s with hR := v } (wup ω (ad .course) (.inr (8, List.set [.int s.hR, .int s.hU, .int s.oR, .int s.oU] 0 (.int v)))) := ⟨Rep_set h.c h.inj .course trivial _ rfl (fun k' hne => by cases k' <;> first | rfl | exact absurd rfl hne), h.inj, h.lB, h.lH, h.lO, h.hg⟩
theorem RepC.s_course_1 (h : RepC g ad x s ω) (v : Int32) : RepC g ad x { s with hU := v } (wup ω (ad .course) (.inr (8, List.set [.int s.hR, .int s.hU, .int s.oR, .int s.oU] 1 (.int v)))) := ⟨Rep_set h.c h.inj .course trivial _ rfl (fun k' hne => by cases k' <;> first | rfl | exact absurd rfl hne), h.inj, h.lB, h.lH, h.lO, h.hg⟩
theorem RepC.s_course_2 (h : RepC g ad x s ω) (v : Int32) : RepC g ad x { s with oR := v } (wup ω (ad .course) (.inr (8, List.set [.int s.hR, .int s.hU, .int s.oR, .int s.oU] 2 (.int v)))) := ⟨Rep_set h.c h.inj .course trivial _ rfl (fun k' hne => by cases k' <;> first | rfl | exact absurd rfl hne), h.inj, h.lB, h.lH, h.lO, h.hg⟩
theorem RepC.s_course_3 (h : RepC g ad x s ω) (v : Int32) : RepC g ad x { s with oU := v } (wup ω (ad .course) (.inr (8, List.set [.int s.hR, .int s.hU, .int s.oR, .int s.oU] 3 (.int v)))) := ⟨Rep_set h.c h.inj .course trivial _ rfl (fun k' hne => by cases k' <;> first | rfl | exact absurd rfl hne), h.inj, h.lB, h.lH, h.lO, h.hg⟩
theorem RepC.s_trial_0 (h : RepC g ad x s ω) (v : Int32) : RepC g ad { x with t0 := v } s (wup ω (ad .trial) (.inr (8, List.set [.int x.t0, .int x.t1, .int x.t2, .int x.t3] 0 (.int v)))) := ⟨Rep_set h.c h.inj .trial trivial _ rfl (fun k' hne => by cases k' <;> first | rfl | exact absurd rfl hne), h.inj, h.lB, h.lH, h.lO, h.hg⟩
theorem RepC.s_trial_1 (h : RepC g ad x s ω) (v : Int32) : RepC g ad { x with t1 := v } s (wup ω (ad .trial) (.inr (8, List.set [.int x.t0, .int x.t1, .int x.t2, .int x.t3] 1 (.int v)))) := ⟨Rep_set h.c h.inj .trial trivial _ rfl (fun k' hne => by cases k' <;> first | rfl | exact absurd rfl hne), h.inj, h.lB, h.lH, h.lO, h.hg⟩
theorem RepC.s_trial_2 (h : RepC g ad x s ω) (v : Int32) : RepC g ad { x with t2 := v } s (wup ω (ad .trial) (.inr (8, List.set [.int x.t0, .int x.t1, .int x.t2, .int x.t3] 2 (.int v)))) := ⟨Rep_set h.c h.inj .trial trivial _ rfl (fun k' hne => by cases k' <;> first | rfl | exact absurd rfl hne), h.inj, h.lB, h.lH, h.lO, h.hg⟩
theorem RepC.s_trial_3 (h : RepC g ad x s ω) (v : Int32) : RepC g ad { x with t3 := v } s (wup ω (ad .trial) (.inr (8, List.set [.int x.t0, .int x.t1, .int x.t2, .int x.t3] 3 (.int v)))) := ⟨Rep_set h.c h.inj .trial trivial _ rfl (fun k' hne => by cases k' <;> first | rfl | exact absurd rfl hne), h.inj, h.lB, h.lH, h.lO, h.hg⟩
theorem RepC.s_yard_0 (h : RepC g ad x s ω) (v : Int32) : RepC g ad x { s with seg := v } (wup ω (ad .yard) (.inr (13, List.set [.int s.seg, .int s.pit, .int s.away] 0 (.int v)))) := ⟨Rep_set h.c h.inj .yard trivial _ rfl (fun k' hne => by cases k' <;> first | rfl | exact absurd rfl hne), h.inj, h.lB, h.lH, h.lO, h.hg⟩
theorem RepC.s_yard_1 (h : RepC g ad x s ω) (v : Int32) : RepC g ad x { s with pit := v } (wup ω (ad .yard) (.inr (13, List.set [.int s.seg, .int s.pit, .int s.away] 1 (.int v)))) := ⟨Rep_set h.c h.inj .yard trivial _ rfl (fun k' hne => by cases k' <;> first | rfl | exact absurd rfl hne), h.inj, h.lB, h.lH, h.lO, h.hg⟩
theorem RepC.s_yard_2 (h : RepC g ad x s ω) (v : Int32) : RepC g ad x { s with away := v } (wup ω (ad .yard) (.inr (13, List.set [.int s.seg, .int s.pit, .int s.away] 2 (.int v)))) := ⟨Rep_set h.c h.inj .yard trivial _ rfl (fun k' hne => by cases k' <;> first | rfl | exact absurd rfl hne), h.inj, h.lB, h.lH, h.lO, h.hg⟩
theorem RepC.s_clock_0 (h : RepC g ad x s ω) (v : Int32) : RepC g ad x { s with mn := v } (wup ω (ad .clock) (.inr (6, List.set [.int s.mn, .int s.fc, .int s.fl, .int s.fo] 0 (.int v)))) := ⟨Rep_set h.c h.inj .clock trivial _ rfl (fun k' hne => by cases k' <;> first | rfl | exact absurd rfl hne), h.inj, h.lB, h.lH, h.lO, h.hg⟩
theorem RepC.s_clock_1 (h : RepC g ad x s ω) (v : Int32) : RepC g ad x { s with fc := v } (wup ω (ad .clock) (.inr (6, List.set [.int s.mn, .int s.fc, .int s.fl, .int s.fo] 1 (.int v)))) := ⟨Rep_set h.c h.inj .clock trivial _ rfl (fun k' hne => by cases k' <;> first | rfl | exact absurd rfl hne), h.inj, h.lB, h.lH, h.lO, h.hg⟩
theorem RepC.s_clock_2 (h : RepC g ad x s ω) (v : Int32) : RepC g ad x { s with fl := v } (wup ω (ad .clock) (.inr (6, List.set [.int s.mn, .int s.fc, .int s.fl, .int s.fo] 2 (.int v)))) := ⟨Rep_set h.c h.inj .clock trivial _ rfl (fun k' hne => by cases k' <;> first | rfl | exact absurd rfl hne), h.inj, h.lB, h.lH, h.lO, h.hg⟩
theorem RepC.s_clock_3 (h : RepC g ad x s ω) (v : Int32) : RepC g ad x { s with fo := v } (wup ω (ad .clock) (.inr (6, List.set [.int s.mn, .int s.fc, .int s.fl, .int s.fo] 3 (.int v)))) := ⟨Rep_set h.c h.inj .clock trivial _ rfl (fun k' hne => by cases k' <;> first | rfl | exact absurd rfl hne), h.inj, h.lB, h.lH, h.lO, h.hg⟩
theorem RepC.s_shield_1 (h : RepC g ad x s ω) (v : Int32) : RepC g ad x { s with press := v } (wup ω (ad .shield) (.inr (11, List.set [.ref (ad .wears), .int s.press, .int (bI s.foam), .int s.pR, .int s.pU] 1 (.int v)))) := ⟨Rep_set h.c h.inj .shield trivial _ rfl (fun k' hne => by cases k' <;> first | rfl | exact absurd rfl hne), h.inj, h.lB, h.lH, h.lO, h.hg⟩
theorem RepC.s_shield_2 (h : RepC g ad x s ω) (v : Bool) : RepC g ad x { s with foam := v } (wup ω (ad .shield) (.inr (11, List.set [.ref (ad .wears), .int s.press, .int (bI s.foam), .int s.pR, .int s.pU] 2 (.int (bI v))))) := ⟨Rep_set h.c h.inj .shield trivial _ rfl (fun k' hne => by cases k' <;> first | rfl | exact absurd rfl hne), h.inj, h.lB, h.lH, h.lO, h.hg⟩
theorem RepC.s_shield_3 (h : RepC g ad x s ω) (v : Int32) : RepC g ad x { s with pR := v } (wup ω (ad .shield) (.inr (11, List.set [.ref (ad .wears), .int s.press, .int (bI s.foam), .int s.pR, .int s.pU] 3 (.int v)))) := ⟨Rep_set h.c h.inj .shield trivial _ rfl (fun k' hne => by cases k' <;> first | rfl | exact absurd rfl hne), h.inj, h.lB, h.lH, h.lO, h.hg⟩
theorem RepC.s_shield_4 (h : RepC g ad x s ω) (v : Int32) : RepC g ad x { s with pU := v } (wup ω (ad .shield) (.inr (11, List.set [.ref (ad .wears), .int s.press, .int (bI s.foam), .int s.pR, .int s.pU] 4 (.int v)))) := ⟨Rep_set h.c h.inj .shield trivial _ rfl (fun k' hne => by cases k' <;> first | rfl | exact absurd rfl hne), h.inj, h.lB, h.lH, h.lO, h.hg⟩
theorem RepC.s_ring_5 (h : RepC g ad x s ω) {i : Nat} (hi : i < s.n) (v : Int32) : RepC g ad x { s with ring := upT s.ring i { s.ring i with oR := v } } (wup ω (ad (.ring i)) (.inr (10, List.set [.int (s.ring i).turn, .int (s.ring i).kind, .int (s.ring i).pR, .int (s.ring i).pU, .int (bI (s.ring i).fo), .int (s.ring i).oR, .int (s.ring i).oU, .int (s.ring i).mi, .int (s.ring i).en, .int (s.ring i).mo, .int (bI (s.ring i).no), .int (bI (s.ring i).it), .int (s.ring i).fi, .int (s.ring i).ff] 5 (.int v)))) := ⟨Rep_set h.c h.inj (.ring i) hi _ (by show va_E.inr (10, rfs (upT s.ring i _ i)) = _; rw [upT_s]; rfl) (fun k' hne => by cases k' <;> first | rfl | exact congrArg (fun r => va_E.inr (10, rfs r)) (upT_n (fun z => hne (by rw [z])))), h.inj, h.lB, h.lH, h.lO, h.hg⟩
theorem RepC.s_ring_6 (h : RepC g ad x s ω) {i : Nat} (hi : i < s.n) (v : Int32) : RepC g ad x { s with ring := upT s.ring i { s.ring i with oU := v } } (wup ω (ad (.ring i)) (.inr (10, List.set [.int (s.ring i).turn, .int (s.ring i).kind, .int (s.ring i).pR, .int (s.ring i).pU, .int (bI (s.ring i).fo), .int (s.ring i).oR, .int (s.ring i).oU, .int (s.ring i).mi, .int (s.ring i).en, .int (s.ring i).mo, .int (bI (s.ring i).no), .int (bI (s.ring i).it), .int (s.ring i).fi, .int (s.ring i).ff] 6 (.int v)))) := ⟨Rep_set h.c h.inj (.ring i) hi _ (by show va_E.inr (10, rfs (upT s.ring i _ i)) = _; rw [upT_s]; rfl) (fun k' hne => by cases k' <;> first | rfl | exact congrArg (fun r => va_E.inr (10, rfs r)) (upT_n (fun z => hne (by rw [z])))), h.inj, h.lB, h.lH, h.lO, h.hg⟩
theorem RepC.s_ring_7 (h : RepC g ad x s ω) {i : Nat} (hi : i < s.n) (v : Int32) : RepC g ad x { s with ring := upT s.ring i { s.ring i with mi := v } } (wup ω (ad (.ring i)) (.inr (10, List.set [.int (s.ring i).turn, .int (s.ring i).kind, .int (s.ring i).pR, .int (s.ring i).pU, .int (bI (s.ring i).fo), .int (s.ring i).oR, .int (s.ring i).oU, .int (s.ring i).mi, .int (s.ring i).en, .int (s.ring i).mo, .int (bI (s.ring i).no), .int (bI (s.ring i).it), .int (s.ring i).fi, .int (s.ring i).ff] 7 (.int v)))) := ⟨Rep_set h.c h.inj (.ring i) hi _ (by show va_E.inr (10, rfs (upT s.ring i _ i)) = _; rw [upT_s]; rfl) (fun k' hne => by cases k' <;> first | rfl | exact congrArg (fun r => va_E.inr (10, rfs r)) (upT_n (fun z => hne (by rw [z])))), h.inj, h.lB, h.lH, h.lO, h.hg⟩
theorem RepC.s_ring_8 (h : RepC g ad x s ω) {i : Nat} (hi : i < s.n) (v : Int32) : RepC g ad x { s with ring := upT s.ring i { s.ring i with en := v } } (wup ω (ad (.ring i)) (.inr (10, List.set [.int (s.ring i).turn, .int (s.ring i).kind, .int (s.ring i).pR, .int (s.ring i).pU, .int (bI (s.ring i).fo), .int (s.ring i).oR, .int (s.ring i).oU, .int (s.ring i).mi, .int (s.ring i).en, .int (s.ring i).mo, .int (bI (s.ring i).no), .int (bI (s.ring i).it), .int (s.ring i).fi, .int (s.ring i).ff] 8 (.int v)))) := ⟨Rep_set h.c h.inj (.ring i) hi _ (by show va_E.inr (10, rfs (upT s.ring i _ i)) = _; rw [upT_s]; rfl) (fun k' hne => by cases k' <;> first | rfl | exact congrArg (fun r => va_E.inr (10, rfs r)) (upT_n (fun z => hne (by rw [z])))), h.inj, h.lB, h.lH, h.lO, h.hg⟩
theorem RepC.s_ring_9 (h : RepC g ad x s ω) {i : Nat} (hi : i < s.n) (v : Int32) : RepC g ad x { s with ring := upT s.ring i { s.ring i with mo := v } } (wup ω (ad (.ring i)) (.inr (10, List.set [.int (s.ring i).turn, .int (s.ring i).kind, .int (s.ring i).pR, .int (s.ring i).pU, .int (bI (s.ring i).fo), .int (s.ring i).oR, .int (s.ring i).oU, .int (s.ring i).mi, .int (s.ring i).en, .int (s.ring i).mo, .int (bI (s.ring i).no), .int (bI (s.ring i).it), .int (s.ring i).fi, .int (s.ring i).ff] 9 (.int v)))) := ⟨Rep_set h.c h.inj (.ring i) hi _ (by show va_E.inr (10, rfs (upT s.ring i _ i)) = _; rw [upT_s]; rfl) (fun k' hne => by cases k' <;> first | rfl | exact congrArg (fun r => va_E.inr (10, rfs r)) (upT_n (fun z => hne (by rw [z])))), h.inj, h.lB, h.lH, h.lO, h.hg⟩
theorem RepC.s_ring_10 (h : RepC g ad x s ω) {i : Nat} (hi : i < s.n) (v : Bool) : RepC g ad x { s with ring := upT s.ring i { s.ring i with no := v } } (wup ω (ad (.ring i)) (.inr (10, List.set [.int (s.ring i).turn, .int (s.ring i).kind, .int (s.ring i).pR, .int (s.ring i).pU, .int (bI (s.ring i).fo), .int (s.ring i).oR, .int (s.ring i).oU, .int (s.ring i).mi, .int (s.ring i).en, .int (s.ring i).mo, .int (bI (s.ring i).no), .int (bI (s.ring i).it), .int (s.ring i).fi, .int (s.ring i).ff] 10 (.int (bI v))))) := ⟨Rep_set h.c h.inj (.ring i) hi _ (by show va_E.inr (10, rfs (upT s.ring i _ i)) = _; rw [upT_s]; rfl) (fun k' hne => by cases k' <;> first | rfl | exact congrArg (fun r => va_E.inr (10, rfs r)) (upT_n (fun z => hne (by rw [z])))), h.inj, h.lB, h.lH, h.lO, h.hg⟩
theorem RepC.s_ring_11 (h : RepC g ad x s ω) {i : Nat} (hi : i < s.n) (v : Bool) : RepC g ad x { s with ring := upT s.ring i { s.ring i with it := v } } (wup ω (ad (.ring i)) (.inr (10, List.set [.int (s.ring i).turn, .int (s.ring i).kind, .int (s.ring i).pR, .int (s.ring i).pU, .int (bI (s.ring i).fo), .int (s.ring i).oR, .int (s.ring i).oU, .int (s.ring i).mi, .int (s.ring i).en, .int (s.ring i).mo, .int (bI (s.ring i).no), .int (bI (s.ring i).it), .int (s.ring i).fi, .int (s.ring i).ff] 11 (.int (bI v))))) := ⟨Rep_set h.c h.inj (.ring i) hi _ (by show va_E.inr (10, rfs (upT s.ring i _ i)) = _; rw [upT_s]; rfl) (fun k' hne => by cases k' <;> first | rfl | exact congrArg (fun r => va_E.inr (10, rfs r)) (upT_n (fun z => hne (by rw [z])))), h.inj, h.lB, h.lH, h.lO, h.hg⟩
theorem RepC.s_ring_12 (h : RepC g ad x s ω) {i : Nat} (hi : i < s.n) (v : Int32) : RepC g ad x { s with ring := upT s.ring i { s.ring i with fi := v } } (wup ω (ad (.ring i)) (.inr (10, List.set [.int (s.ring i).turn, .int (s.ring i).kind, .int (s.ring i).pR, .int (s.ring i).pU, .int (bI (s.ring i).fo), .int (s.ring i).oR, .int (s.ring i).oU, .int (s.ring i).mi, .int (s.ring i).en, .int (s.ring i).mo, .int (bI (s.ring i).no), .int (bI (s.ring i).it), .int (s.ring i).fi, .int (s.ring i).ff] 12 (.int v)))) := ⟨Rep_set h.c h.inj (.ring i) hi _ (by show va_E.inr (10, rfs (upT s.ring i _ i)) = _; rw [upT_s]; rfl) (fun k' hne => by cases k' <;> first | rfl | exact congrArg (fun r => va_E.inr (10, rfs r)) (upT_n (fun z => hne (by rw [z])))), h.inj, h.lB, h.lH, h.lO, h.hg⟩
theorem RepC.s_ring_13 (h : RepC g ad x s ω) {i : Nat} (hi : i < s.n) (v : Int32) : RepC g ad x { s with ring := upT s.ring i { s.ring i with ff := v } } (wup ω (ad (.ring i)) (.inr (10, List.set [.int (s.ring i).turn, .int (s.ring i).kind, .int (s.ring i).pR, .int (s.ring i).pU, .int (bI (s.ring i).fo), .int (s.ring i).oR, .int (s.ring i).oU, .int (s.ring i).mi, .int (s.ring i).en, .int (s.ring i).mo, .int (bI (s.ring i).no), .int (bI (s.ring i).it), .int (s.ring i).fi, .int (s.ring i).ff] 13 (.int v)))) := ⟨Rep_set h.c h.inj (.ring i) hi _ (by show va_E.inr (10, rfs (upT s.ring i _ i)) = _; rw [upT_s]; rfl) (fun k' hne => by cases k' <;> first | rfl | exact congrArg (fun r => va_E.inr (10, rfs r)) (upT_n (fun z => hne (by rw [z])))), h.inj, h.lB, h.lH, h.lO, h.hg⟩
theorem RepC.s_house_3 (h : RepC g ad x s ω) {i : Nat} (hi : i < s.nh) (v : Int32) : RepC g ad x { s with hs := upT s.hs i { s.hs i with lf := v } } (wup ω (ad (.house i)) (.inr (9, List.set [.int (s.hs i).fr, .int (s.hs i).to, .int (s.hs i).ofs, .int (s.hs i).lf, .int (s.hs i).ll, .int (bI (s.hs i).wr), .int (s.hs i).re] 3 (.int v)))) := ⟨Rep_set h.c h.inj (.house i) hi _ (by show va_E.inr (9, hfs (upT s.hs i _ i)) = _; rw [upT_s]; rfl) (fun k' hne => by cases k' <;> first | rfl | exact congrArg (fun r => va_E.inr (9, hfs r)) (upT_n (fun z => hne (by rw [z])))), h.inj, h.lB, h.lH, h.lO, h.hg⟩
theorem RepC.s_house_4 (h : RepC g ad x s ω) {i : Nat} (hi : i < s.nh) (v : Int32) : RepC g ad x { s with hs := upT s.hs i { s.hs i with ll := v } } (wup ω (ad (.house i)) (.inr (9, List.set [.int (s.hs i).fr, .int (s.hs i).to, .int (s.hs i).ofs, .int (s.hs i).lf, .int (s.hs i).ll, .int (bI (s.hs i).wr), .int (s.hs i).re] 4 (.int v)))) := ⟨Rep_set h.c h.inj (.house i) hi _ (by show va_E.inr (9, hfs (upT s.hs i _ i)) = _; rw [upT_s]; rfl) (fun k' hne => by cases k' <;> first | rfl | exact congrArg (fun r => va_E.inr (9, hfs r)) (upT_n (fun z => hne (by rw [z])))), h.inj, h.lB, h.lH, h.lO, h.hg⟩
theorem RepC.s_house_5 (h : RepC g ad x s ω) {i : Nat} (hi : i < s.nh) (v : Bool) : RepC g ad x { s with hs := upT s.hs i { s.hs i with wr := v } } (wup ω (ad (.house i)) (.inr (9, List.set [.int (s.hs i).fr, .int (s.hs i).to, .int (s.hs i).ofs, .int (s.hs i).lf, .int (s.hs i).ll, .int (bI (s.hs i).wr), .int (s.hs i).re] 5 (.int (bI v))))) := ⟨Rep_set h.c h.inj (.house i) hi _ (by show va_E.inr (9, hfs (upT s.hs i _ i)) = _; rw [upT_s]; rfl) (fun k' hne => by cases k' <;> first | rfl | exact congrArg (fun r => va_E.inr (9, hfs r)) (upT_n (fun z => hne (by rw [z])))), h.inj, h.lB, h.lH, h.lO, h.hg⟩
theorem RepC.s_house_6 (h : RepC g ad x s ω) {i : Nat} (hi : i < s.nh) (v : Int32) : RepC g ad x { s with hs := upT s.hs i { s.hs i with re := v } } (wup ω (ad (.house i)) (.inr (9, List.set [.int (s.hs i).fr, .int (s.hs i).to, .int (s.hs i).ofs, .int (s.hs i).lf, .int (s.hs i).ll, .int (bI (s.hs i).wr), .int (s.hs i).re] 6 (.int v)))) := ⟨Rep_set h.c h.inj (.house i) hi _ (by show va_E.inr (9, hfs (upT s.hs i _ i)) = _; rw [upT_s]; rfl) (fun k' hne => by cases k' <;> first | rfl | exact congrArg (fun r => va_E.inr (9, hfs r)) (upT_n (fun z => hne (by rw [z])))), h.inj, h.lB, h.lH, h.lO, h.hg⟩
theorem RepC.new (h : RepC g ad x s ω) {q : Nat} (hq : ω q = none) (e : va_E) : RepC g ad x s (wup ω q e) := ⟨fun k hk => (wup_n (w_ne (h.c k hk) hq)).trans (h.c k hk), h.inj, h.lB, h.lH, h.lO, h.hg⟩
theorem RepC.ne (h : RepC g ad x s ω) {q : Nat} (hq : ω q = none) (k : Ix) (hk : VC x s k) : ad k ≠ q := w_ne (h.c k hk) hq
/-- a cell beside the class's own may change -/
theorem RepC.by (h : RepC g ad x s ω) {q : Nat} (hq : ∀ k, VC x s k → ad k ≠ q) (e : va_E) : RepC g ad x s (wup ω q e) := ⟨fun k hk => (wup_n (hq k hk)).trans (h.c k hk), h.inj, h.lB, h.lH, h.lO, h.hg⟩
def ad_ring (ad : Ix → Nat) (n ed q : Nat) : Ix → Nat
  | .rowB => ed
  | .ring i => if i = n then q else ad (.ring i)
  | k => ad k
theorem RepC.a_ring (h : RepC g ad x s ω) {q ed2 cap2 : Nat} {f2 : Nat → Option Nat} {r : Rg} {w : Wd} {mc : Int32} (hq : ω q = some (.inr (10, rfs r))) (hqn : ∀ k, VC x s k → ad k ≠ q) (a1 : cap2 ∈ caps) (a2 : s.n + 1 ≤ cap2) (a3 : ∀ i, i < s.n → f2 i = x.fB i) (a4 : f2 s.n = some q) (a5 : ω ed2 = none ∨ (ed2 = ad .rowB ∧ ¬ x.cB = 0)) (a6 : w (ad .built) = some (alE mc ed2 (s.n + 1))) (a7 : w ed2 = some (rwE g cap2 f2)) (a8 : ∀ b, b ≠ ad .built → b ≠ ed2 → w b = ω b) :
    RepC g (ad_ring ad s.n ed2 q) { x with mB := mc, cB := cap2, fB := f2 } { s with n := s.n + 1, ring := upT s.ring s.n r } w := by
  have hed : ∀ k, VC x s k → k ≠ .rowB → ad k ≠ ed2 := by
    intro k hk hne he
    rcases a5 with a5 | a5
    · rw [← he, h.c k hk] at a5; cases a5
    · exact hne (h.inj k .rowB hk a5.2 (he.trans a5.1))
  have hqe : q ≠ ed2 := by
    intro he
    rcases a5 with a5 | a5
    · rw [← he, hq] at a5; cases a5
    · exact hqn .rowB a5.2 (a5.1.symm.trans he.symm)
  have hqa : q ≠ ad .built := fun he => hqn .built trivial he.symm
  have hold : ∀ k, VC x s k → k ≠ .rowB → k ≠ .built → w (ad k) = some (cellC g ad x s k) := fun k hk h1 h2 => (a8 _ (fun z9 => h2 (h.inj k .built hk trivial z9)) (hed k hk h1)).trans (h.c k hk)
  have hz2 : ¬ cap2 = 0 := by omega
  refine ⟨?_, ?_, ⟨a1, a2, fun z9 => absurd z9 hz2, fun i hi => ?_⟩, h.lH, h.lO, h.hg⟩
  · intro k hk
    cases k
    case built => exact a6
    case rowB => exact a7
    case ring i =>
      show w (if i = s.n then q else ad (.ring i)) = some (.inr (10, rfs (upT s.ring s.n r i)))
      have hk : i < s.n + 1 := hk
      by_cases hi : i = s.n
      · rw [if_pos hi, hi, upT_s]
        exact (a8 q hqa hqe).trans hq
      · rw [if_neg hi, upT_n hi]
        exact hold (.ring i) (show i < s.n by omega) (by intro z9; cases z9) (by intro z9; cases z9)
    case main => exact hold .main hk (by intro z9; cases z9) (by intro z9; cases z9)
    case soil => exact hold .soil hk (by intro z9; cases z9) (by intro z9; cases z9)
    case shield => exact hold .shield hk (by intro z9; cases z9) (by intro z9; cases z9)
    case course => exact hold .course hk (by intro z9; cases z9) (by intro z9; cases z9)
    case trial => exact hold .trial hk (by intro z9; cases z9) (by intro z9; cases z9)
    case yard => exact hold .yard hk (by intro z9; cases z9) (by intro z9; cases z9)
    case clock => exact hold .clock hk (by intro z9; cases z9) (by intro z9; cases z9)
    case contract => exact hold .contract hk (by intro z9; cases z9) (by intro z9; cases z9)
    case houses => exact hold .houses hk (by intro z9; cases z9) (by intro z9; cases z9)
    case bores => exact hold .bores hk (by intro z9; cases z9) (by intro z9; cases z9)
    case kinds => exact hold .kinds hk (by intro z9; cases z9) (by intro z9; cases z9)
    case refs => exact hold .refs hk (by intro z9; cases z9) (by intro z9; cases z9)
    case depths => exact hold .depths hk (by intro z9; cases z9) (by intro z9; cases z9)
    case waters => exact hold .waters hk (by intro z9; cases z9) (by intro z9; cases z9)
    case bR => exact hold .bR hk (by intro z9; cases z9) (by intro z9; cases z9)
    case bU => exact hold .bU hk (by intro z9; cases z9) (by intro z9; cases z9)
    case wears => exact hold .wears hk (by intro z9; cases z9) (by intro z9; cases z9)
    case order => exact hold .order hk (by intro z9; cases z9) (by intro z9; cases z9)
    case waits => exact hold .waits hk (by intro z9; cases z9) (by intro z9; cases z9)
    case rowH => exact hold .rowH hk (by intro z9; cases z9) (by intro z9; cases z9)
    case rowO => exact hold .rowO hk (by intro z9; cases z9) (by intro z9; cases z9)
    case house i => exact hold (.house i) hk (by intro z9; cases z9) (by intro z9; cases z9)
    case bore i => exact hold (.bore i) hk (by intro z9; cases z9) (by intro z9; cases z9)
  · have key : ∀ k, VC { x with mB := mc, cB := cap2, fB := f2 } { s with n := s.n + 1, ring := upT s.ring s.n r } k → (k = .rowB ∧ ad_ring ad s.n ed2 q k = ed2) ∨ (k = .ring s.n ∧ ad_ring ad s.n ed2 q k = q) ∨ (k ≠ .rowB ∧ VC x s k ∧ ad_ring ad s.n ed2 q k = ad k) := by
      intro k hk
      cases k
      case rowB => exact Or.inl ⟨rfl, rfl⟩
      case ring i =>
        have hk : i < s.n + 1 := hk
        by_cases hi : i = s.n
        · exact Or.inr (Or.inl ⟨by rw [hi], if_pos hi⟩)
        · exact Or.inr (Or.inr ⟨(by intro z9; cases z9), (show i < s.n by omega), if_neg hi⟩)
      all_goals exact Or.inr (Or.inr ⟨(by intro z9; cases z9), hk, rfl⟩)
    intro k k' hk hk' he
    rcases key k hk with ⟨h1, h2⟩ | ⟨h1, h2⟩ | ⟨h0, h1, h2⟩ <;> rcases key k' hk' with ⟨h4, h5⟩ | ⟨h4, h5⟩ | ⟨h3, h4, h5⟩ <;> rw [h2, h5] at he
    · rw [h1, h4]
    · exact absurd he.symm hqe
    · exact absurd he.symm (hed k' h4 h3)
    · exact absurd he hqe
    · rw [h1, h4]
    · exact absurd he.symm (hqn k' h4)
    · exact absurd he (hed k h1 h0)
    · exact absurd he (hqn k h1)
    · exact h.inj k k' h1 h4 he
  · show f2 i = some (if i = s.n then q else ad (.ring i))
    by_cases h9 : i = s.n
    · rw [if_pos h9, h9, a4]
    · rw [if_neg h9, a3 i (by have : i < s.n + 1 := hi; omega)]
      exact h.lB.2.2.2 i (by have : i < s.n + 1 := hi; omega)
def ad_house (ad : Ix → Nat) (n ed q : Nat) : Ix → Nat
  | .rowH => ed
  | .house i => if i = n then q else ad (.house i)
  | k => ad k
theorem RepC.a_house (h : RepC g ad x s ω) {q ed2 cap2 : Nat} {f2 : Nat → Option Nat} {r : Hs} {w : Wd} {mc : Int32} (hq : ω q = some (.inr (9, hfs r))) (hqn : ∀ k, VC x s k → ad k ≠ q) (a1 : cap2 ∈ caps) (a2 : s.nh + 1 ≤ cap2) (a3 : ∀ i, i < s.nh → f2 i = x.fH i) (a4 : f2 s.nh = some q) (a5 : ω ed2 = none ∨ (ed2 = ad .rowH ∧ ¬ x.cH = 0)) (a6 : w (ad .houses) = some (alE mc ed2 (s.nh + 1))) (a7 : w ed2 = some (rwE g cap2 f2)) (a8 : ∀ b, b ≠ ad .houses → b ≠ ed2 → w b = ω b) :
    RepC g (ad_house ad s.nh ed2 q) { x with mH := mc, cH := cap2, fH := f2 } { s with nh := s.nh + 1, hs := upT s.hs s.nh r } w := by
  have hed : ∀ k, VC x s k → k ≠ .rowH → ad k ≠ ed2 := by
    intro k hk hne he
    rcases a5 with a5 | a5
    · rw [← he, h.c k hk] at a5; cases a5
    · exact hne (h.inj k .rowH hk a5.2 (he.trans a5.1))
  have hqe : q ≠ ed2 := by
    intro he
    rcases a5 with a5 | a5
    · rw [← he, hq] at a5; cases a5
    · exact hqn .rowH a5.2 (a5.1.symm.trans he.symm)
  have hqa : q ≠ ad .houses := fun he => hqn .houses trivial he.symm
  have hold : ∀ k, VC x s k → k ≠ .rowH → k ≠ .houses → w (ad k) = some (cellC g ad x s k) := fun k hk h1 h2 => (a8 _ (fun z9 => h2 (h.inj k .houses hk trivial z9)) (hed k hk h1)).trans (h.c k hk)
  have hz2 : ¬ cap2 = 0 := by omega
  refine ⟨?_, ?_, h.lB, ⟨a1, a2, fun z9 => absurd z9 hz2, fun i hi => ?_⟩, h.lO, h.hg⟩
  · intro k hk
    cases k
    case houses => exact a6
    case rowH => exact a7
    case house i =>
      show w (if i = s.nh then q else ad (.house i)) = some (.inr (9, hfs (upT s.hs s.nh r i)))
      have hk : i < s.nh + 1 := hk
      by_cases hi : i = s.nh
      · rw [if_pos hi, hi, upT_s]
        exact (a8 q hqa hqe).trans hq
      · rw [if_neg hi, upT_n hi]
        exact hold (.house i) (show i < s.nh by omega) (by intro z9; cases z9) (by intro z9; cases z9)
    case main => exact hold .main hk (by intro z9; cases z9) (by intro z9; cases z9)
    case soil => exact hold .soil hk (by intro z9; cases z9) (by intro z9; cases z9)
    case shield => exact hold .shield hk (by intro z9; cases z9) (by intro z9; cases z9)
    case course => exact hold .course hk (by intro z9; cases z9) (by intro z9; cases z9)
    case trial => exact hold .trial hk (by intro z9; cases z9) (by intro z9; cases z9)
    case yard => exact hold .yard hk (by intro z9; cases z9) (by intro z9; cases z9)
    case clock => exact hold .clock hk (by intro z9; cases z9) (by intro z9; cases z9)
    case contract => exact hold .contract hk (by intro z9; cases z9) (by intro z9; cases z9)
    case built => exact hold .built hk (by intro z9; cases z9) (by intro z9; cases z9)
    case bores => exact hold .bores hk (by intro z9; cases z9) (by intro z9; cases z9)
    case kinds => exact hold .kinds hk (by intro z9; cases z9) (by intro z9; cases z9)
    case refs => exact hold .refs hk (by intro z9; cases z9) (by intro z9; cases z9)
    case depths => exact hold .depths hk (by intro z9; cases z9) (by intro z9; cases z9)
    case waters => exact hold .waters hk (by intro z9; cases z9) (by intro z9; cases z9)
    case bR => exact hold .bR hk (by intro z9; cases z9) (by intro z9; cases z9)
    case bU => exact hold .bU hk (by intro z9; cases z9) (by intro z9; cases z9)
    case wears => exact hold .wears hk (by intro z9; cases z9) (by intro z9; cases z9)
    case order => exact hold .order hk (by intro z9; cases z9) (by intro z9; cases z9)
    case waits => exact hold .waits hk (by intro z9; cases z9) (by intro z9; cases z9)
    case rowB => exact hold .rowB hk (by intro z9; cases z9) (by intro z9; cases z9)
    case rowO => exact hold .rowO hk (by intro z9; cases z9) (by intro z9; cases z9)
    case ring i => exact hold (.ring i) hk (by intro z9; cases z9) (by intro z9; cases z9)
    case bore i => exact hold (.bore i) hk (by intro z9; cases z9) (by intro z9; cases z9)
  · have key : ∀ k, VC { x with mH := mc, cH := cap2, fH := f2 } { s with nh := s.nh + 1, hs := upT s.hs s.nh r } k → (k = .rowH ∧ ad_house ad s.nh ed2 q k = ed2) ∨ (k = .house s.nh ∧ ad_house ad s.nh ed2 q k = q) ∨ (k ≠ .rowH ∧ VC x s k ∧ ad_house ad s.nh ed2 q k = ad k) := by
      intro k hk
      cases k
      case rowH => exact Or.inl ⟨rfl, rfl⟩
      case house i =>
        have hk : i < s.nh + 1 := hk
        by_cases hi : i = s.nh
        · exact Or.inr (Or.inl ⟨by rw [hi], if_pos hi⟩)
        · exact Or.inr (Or.inr ⟨(by intro z9; cases z9), (show i < s.nh by omega), if_neg hi⟩)
      all_goals exact Or.inr (Or.inr ⟨(by intro z9; cases z9), hk, rfl⟩)
    intro k k' hk hk' he
    rcases key k hk with ⟨h1, h2⟩ | ⟨h1, h2⟩ | ⟨h0, h1, h2⟩ <;> rcases key k' hk' with ⟨h4, h5⟩ | ⟨h4, h5⟩ | ⟨h3, h4, h5⟩ <;> rw [h2, h5] at he
    · rw [h1, h4]
    · exact absurd he.symm hqe
    · exact absurd he.symm (hed k' h4 h3)
    · exact absurd he hqe
    · rw [h1, h4]
    · exact absurd he.symm (hqn k' h4)
    · exact absurd he (hed k h1 h0)
    · exact absurd he (hqn k h1)
    · exact h.inj k k' h1 h4 he
  · show f2 i = some (if i = s.nh then q else ad (.house i))
    by_cases h9 : i = s.nh
    · rw [if_pos h9, h9, a4]
    · rw [if_neg h9, a3 i (by have : i < s.nh + 1 := hi; omega)]
      exact h.lH.2.2.2 i (by have : i < s.nh + 1 := hi; omega)
def ad_bore (ad : Ix → Nat) (n ed q : Nat) : Ix → Nat
  | .rowO => ed
  | .bore i => if i = n then q else ad (.bore i)
  | k => ad k
theorem RepC.a_bore (h : RepC g ad x s ω) {q ed2 cap2 : Nat} {f2 : Nat → Option Nat} {r : Bo} {w : Wd} {mc : Int32} (hq : ω q = some (.inr (5, bfs r))) (hqn : ∀ k, VC x s k → ad k ≠ q) (a1 : cap2 ∈ caps) (a2 : s.nb + 1 ≤ cap2) (a3 : ∀ i, i < s.nb → f2 i = x.fO i) (a4 : f2 s.nb = some q) (a5 : ω ed2 = none ∨ (ed2 = ad .rowO ∧ ¬ x.cO = 0)) (a6 : w (ad .bores) = some (alE mc ed2 (s.nb + 1))) (a7 : w ed2 = some (rwE g cap2 f2)) (a8 : ∀ b, b ≠ ad .bores → b ≠ ed2 → w b = ω b) :
    RepC g (ad_bore ad s.nb ed2 q) { x with mO := mc, cO := cap2, fO := f2 } { s with nb := s.nb + 1, bo := upT s.bo s.nb r } w := by
  have hed : ∀ k, VC x s k → k ≠ .rowO → ad k ≠ ed2 := by
    intro k hk hne he
    rcases a5 with a5 | a5
    · rw [← he, h.c k hk] at a5; cases a5
    · exact hne (h.inj k .rowO hk a5.2 (he.trans a5.1))
  have hqe : q ≠ ed2 := by
    intro he
    rcases a5 with a5 | a5
    · rw [← he, hq] at a5; cases a5
    · exact hqn .rowO a5.2 (a5.1.symm.trans he.symm)
  have hqa : q ≠ ad .bores := fun he => hqn .bores trivial he.symm
  have hold : ∀ k, VC x s k → k ≠ .rowO → k ≠ .bores → w (ad k) = some (cellC g ad x s k) := fun k hk h1 h2 => (a8 _ (fun z9 => h2 (h.inj k .bores hk trivial z9)) (hed k hk h1)).trans (h.c k hk)
  have hz2 : ¬ cap2 = 0 := by omega
  refine ⟨?_, ?_, h.lB, h.lH, ⟨a1, a2, fun z9 => absurd z9 hz2, fun i hi => ?_⟩, h.hg⟩
  · intro k hk
    cases k
    case bores => exact a6
    case rowO => exact a7
    case bore i =>
      show w (if i = s.nb then q else ad (.bore i)) = some (.inr (5, bfs (upT s.bo s.nb r i)))
      have hk : i < s.nb + 1 := hk
      by_cases hi : i = s.nb
      · rw [if_pos hi, hi, upT_s]
        exact (a8 q hqa hqe).trans hq
      · rw [if_neg hi, upT_n hi]
        exact hold (.bore i) (show i < s.nb by omega) (by intro z9; cases z9) (by intro z9; cases z9)
    case main => exact hold .main hk (by intro z9; cases z9) (by intro z9; cases z9)
    case soil => exact hold .soil hk (by intro z9; cases z9) (by intro z9; cases z9)
    case shield => exact hold .shield hk (by intro z9; cases z9) (by intro z9; cases z9)
    case course => exact hold .course hk (by intro z9; cases z9) (by intro z9; cases z9)
    case trial => exact hold .trial hk (by intro z9; cases z9) (by intro z9; cases z9)
    case yard => exact hold .yard hk (by intro z9; cases z9) (by intro z9; cases z9)
    case clock => exact hold .clock hk (by intro z9; cases z9) (by intro z9; cases z9)
    case contract => exact hold .contract hk (by intro z9; cases z9) (by intro z9; cases z9)
    case built => exact hold .built hk (by intro z9; cases z9) (by intro z9; cases z9)
    case houses => exact hold .houses hk (by intro z9; cases z9) (by intro z9; cases z9)
    case kinds => exact hold .kinds hk (by intro z9; cases z9) (by intro z9; cases z9)
    case refs => exact hold .refs hk (by intro z9; cases z9) (by intro z9; cases z9)
    case depths => exact hold .depths hk (by intro z9; cases z9) (by intro z9; cases z9)
    case waters => exact hold .waters hk (by intro z9; cases z9) (by intro z9; cases z9)
    case bR => exact hold .bR hk (by intro z9; cases z9) (by intro z9; cases z9)
    case bU => exact hold .bU hk (by intro z9; cases z9) (by intro z9; cases z9)
    case wears => exact hold .wears hk (by intro z9; cases z9) (by intro z9; cases z9)
    case order => exact hold .order hk (by intro z9; cases z9) (by intro z9; cases z9)
    case waits => exact hold .waits hk (by intro z9; cases z9) (by intro z9; cases z9)
    case rowB => exact hold .rowB hk (by intro z9; cases z9) (by intro z9; cases z9)
    case rowH => exact hold .rowH hk (by intro z9; cases z9) (by intro z9; cases z9)
    case ring i => exact hold (.ring i) hk (by intro z9; cases z9) (by intro z9; cases z9)
    case house i => exact hold (.house i) hk (by intro z9; cases z9) (by intro z9; cases z9)
  · have key : ∀ k, VC { x with mO := mc, cO := cap2, fO := f2 } { s with nb := s.nb + 1, bo := upT s.bo s.nb r } k → (k = .rowO ∧ ad_bore ad s.nb ed2 q k = ed2) ∨ (k = .bore s.nb ∧ ad_bore ad s.nb ed2 q k = q) ∨ (k ≠ .rowO ∧ VC x s k ∧ ad_bore ad s.nb ed2 q k = ad k) := by
      intro k hk
      cases k
      case rowO => exact Or.inl ⟨rfl, rfl⟩
      case bore i =>
        have hk : i < s.nb + 1 := hk
        by_cases hi : i = s.nb
        · exact Or.inr (Or.inl ⟨by rw [hi], if_pos hi⟩)
        · exact Or.inr (Or.inr ⟨(by intro z9; cases z9), (show i < s.nb by omega), if_neg hi⟩)
      all_goals exact Or.inr (Or.inr ⟨(by intro z9; cases z9), hk, rfl⟩)
    intro k k' hk hk' he
    rcases key k hk with ⟨h1, h2⟩ | ⟨h1, h2⟩ | ⟨h0, h1, h2⟩ <;> rcases key k' hk' with ⟨h4, h5⟩ | ⟨h4, h5⟩ | ⟨h3, h4, h5⟩ <;> rw [h2, h5] at he
    · rw [h1, h4]
    · exact absurd he.symm hqe
    · exact absurd he.symm (hed k' h4 h3)
    · exact absurd he hqe
    · rw [h1, h4]
    · exact absurd he.symm (hqn k' h4)
    · exact absurd he (hed k h1 h0)
    · exact absurd he (hqn k h1)
    · exact h.inj k k' h1 h4 he
  · show f2 i = some (if i = s.nb then q else ad (.bore i))
    by_cases h9 : i = s.nb
    · rw [if_pos h9, h9, a4]
    · rw [if_neg h9, a3 i (by have : i < s.nb + 1 := hi; omega)]
      exact h.lO.2.2.2 i (by have : i < s.nb + 1 := hi; omega)
theorem RepC.b_ring (h : RepC g ad x s ω) : s.n ≤ 163 := Nat.le_trans h.lB.2.1 (caps_le _ h.lB.1)
theorem RepC.b_house (h : RepC g ad x s ω) : s.nh ≤ 163 := Nat.le_trans h.lH.2.1 (caps_le _ h.lH.1)
theorem RepC.b_bore (h : RepC g ad x s ω) : s.nb ≤ 163 := Nat.le_trans h.lO.2.1 (caps_le _ h.lO.1)
theorem RepC.w_course (h : RepC g ad x s ω) (v0 v1 v2 v3 : Int32) : RepC g ad x { s with hR := v0, hU := v1, oR := v2, oU := v3 } (wup ω (ad .course) (.inr (8, [.int v0, .int v1, .int v2, .int v3]))) := ⟨Rep_set h.c h.inj .course trivial _ rfl (fun k' hne => by cases k' <;> first | rfl | exact absurd rfl hne), h.inj, h.lB, h.lH, h.lO, h.hg⟩
theorem RepC.w_trial (h : RepC g ad x s ω) (v0 v1 v2 v3 : Int32) : RepC g ad { x with t0 := v0, t1 := v1, t2 := v2, t3 := v3 } s (wup ω (ad .trial) (.inr (8, [.int v0, .int v1, .int v2, .int v3]))) := ⟨Rep_set h.c h.inj .trial trivial _ rfl (fun k' hne => by cases k' <;> first | rfl | exact absurd rfl hne), h.inj, h.lB, h.lH, h.lO, h.hg⟩
end REPC
section WPR
variable {p : Program} {l : Launch} {e : Env} {R : Room} {s : State} {m : MethodId} {args : Array Value} {below : List Frame} {meth : Method} {c : Code} {nL : Nat} {g : Gl} {ω0 : Wd} {sz0 : Nat} {Q : State → Prop} {ω : Wd} {k n pc : Nat} {L : List (Nat × Value)} {rest : List Value} {ad : Ix → Nat} {x : Ex} {σ : St}
theorem WP.rc (h : RepC g ad x σ ω) (kk : RepC g ad x σ ω → WP p l e R s m args below meth c g ω0 sz0 Q nL ω k n pc L rest) : WP p l e R s m args below meth c g ω0 sz0 Q nL ω k n pc L rest := kk h
end WPR
theorem nI_ltc {n j : Nat} (hn : n < 2 ^ 31) (hj : j ≤ n) (h : ¬ nI n ≤ nI j) : j < n := by
  rcases Nat.lt_or_ge j n with h2 | h2
  · exact h2
  · exact absurd (nI_le h2 (by omega)) h
theorem nI_lec {n j : Nat} (hn : n < 2 ^ 31) (hj : j ≤ n) (h : nI n ≤ nI j) : j = n := by
  have := (nI_leI hn (by omega)).mp h
  omega
