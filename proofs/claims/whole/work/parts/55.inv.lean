/-! what holds of the numbers between two calls: groups, and what a change of other numbers leaves of them -/
theorem i_add {a b : Int32} (h1 : -2147483648 ≤ a.toInt + b.toInt) (h2 : a.toInt + b.toInt < 2147483648) : (a + b).toInt = a.toInt + b.toInt := by
  rw [Int32.toInt_add]
  exact Int.bmod_eq_of_le (by omega) (by omega)
theorem i_sub {a b : Int32} (h1 : -2147483648 ≤ a.toInt - b.toInt) (h2 : a.toInt - b.toInt < 2147483648) : (a - b).toInt = a.toInt - b.toInt := by
  rw [Int32.toInt_sub]
  exact Int.bmod_eq_of_le (by omega) (by omega)
theorem i_le {a b : Int32} : a ≤ b ↔ a.toInt ≤ b.toInt := Int32.le_iff_toInt_le
theorem inR_sp {x lo hi : Int32} (h : inR x lo hi = true) : lo.toInt ≤ x.toInt ∧ x.toInt ≤ hi.toInt := by
  simp only [inR, Bool.and_eq_true, decide_eq_true_eq] at h
  exact ⟨i_le.mp h.1, i_le.mp h.2⟩
theorem inR_nn {x : Int32} {N : Nat} (hN : N < 2 ^ 31) (h : inR x 0 (nI N) = true) : ∃ q, q ≤ N ∧ x = nI q := by
  simp only [inR, Bool.and_eq_true, decide_eq_true_eq] at h
  obtain ⟨q, hq, rfl⟩ := nI_of (Int32.not_lt.mpr h.1)
  exact ⟨q, (nI_leI hq hN).mp h.2, rfl⟩
theorem if_0 {P : Prop} [Decidable P] {a b : Nat} (h : (if P then a else b) = 0) (hb : ¬ b = 0) : P ∧ a = 0 := by
  by_cases hP : P
  · rw [if_pos hP] at h
    exact ⟨hP, h⟩
  · rw [if_neg hP] at h
    exact absurd h hb
theorem if_1 {P : Prop} [Decidable P] {a b : Nat} (h : (if P then a else b) = 0) (ha : ¬ a = 0) : ¬ P ∧ b = 0 := by
  by_cases hP : P
  · rw [if_pos hP] at h
    exact absurd h ha
  · rw [if_neg hP] at h
    exact ⟨hP, h⟩
def rsm (a b : Rg) : Prop := a.turn = b.turn ∧ a.kind = b.kind ∧ a.pR = b.pR ∧ a.pU = b.pU ∧ a.oR = b.oR ∧ a.oU = b.oU ∧ a.mo = b.mo ∧ a.mi = b.mi ∧ a.fo = b.fo
theorem rsm_rf (a : Rg) : rsm a a := ⟨rfl, rfl, rfl, rfl, rfl, rfl, rfl, rfl, rfl⟩
theorem go9_cg {σ σ' : St} (c : C4) (t pr pu : Int32) {j : Nat} (hj : j < 200) (h1 : σ'.bR j = σ.bR j) (h2 : σ'.bU j = σ.bU j) : go9 σ' c t pr pu (nI j) = go9 σ c t pr pu (nI j) := by
  simp only [go9, goF, atF_in (N := 200) (by decide) hj, h1, h2]
theorem crs_cg {σ σ' : St} {N : Nat} (hN : N ≤ 200) (h : ∀ i, i < N → rsm (σ'.ring i) (σ.ring i)) (hb : ∀ i, i < N → σ'.bR i = σ.bR i ∧ σ'.bU i = σ.bU i) (j : Nat) (hj : j ≤ N) : crs σ' j = crs σ j := by
  induction j with
  | zero => rfl
  | succ j ih =>
    obtain ⟨a1, -, a3, a4, -⟩ := h j (by omega)
    obtain ⟨b1, b2⟩ := hb j (by omega)
    rw [crs, crs, ih (by omega), a1, a3, a4]
    exact go9_cg _ _ _ _ (by omega) b1 b2
theorem mkF_cg {σ σ' : St} {N : Nat} (h : ∀ i, i < N → rsm (σ'.ring i) (σ.ring i)) (j : Nat) (hj : j ≤ N) : mkF σ' j = mkF σ j := by
  induction j with
  | zero => rfl
  | succ j ih =>
    obtain ⟨-, a2, -, -, -, -, -, -, a9⟩ := h j (by omega)
    rw [mkF, mkF, ih (by omega), a2, a9]
theorem mrF_cg {σ σ' : St} {N : Nat} (h : ∀ i, i < N → rsm (σ'.ring i) (σ.ring i)) (j : Nat) (hj : j ≤ N) : mrF σ' j = mrF σ j := by
  induction j with
  | zero => rfl
  | succ j ih =>
    obtain ⟨-, -, -, -, -, -, -, a8, -⟩ := h j (by omega)
    rw [mrF, mrF, ih (by omega), a8]
theorem evF_cg {σ σ' : St} {j : Nat} (hj : j < 200) (h1 : σ'.kinds j = σ.kinds j) (h2 : σ'.refs j = σ.refs j) : evF σ' (nI j) = evF σ (nI j) := by
  simp only [evF, atF_in (N := 200) (by decide) hj, h1, h2]
theorem ldF_cg {σ σ' : St} {N : Nat} (h : ∀ i, i < N → rsm (σ'.ring i) (σ.ring i)) (j : Nat) (hj : j ≤ N) : ldF σ' j = ldF σ j := by
  cases j with
  | zero => rfl
  | succ j => exact (h j (by omega)).1
def bds (x : Int32) (b : Int) : Prop := -b ≤ x.toInt ∧ x.toInt ≤ b
/-- the ground -/
def gI (σ : St) : Prop := kIn σ ∧ rIn σ ∧ dIn σ ∧ (∀ i, i < 200 → bds (σ.bR i) 20) ∧ (∀ i, i < 200 → bds (σ.bU i) 20)
theorem gI_cg {σ σ' : St} (h1 : σ'.kinds = σ.kinds) (h2 : σ'.refs = σ.refs) (h3 : σ'.depths = σ.depths) (h4 : σ'.bR = σ.bR) (h5 : σ'.bU = σ.bU) (h : gI σ) : gI σ' := by
  unfold gI kIn rIn dIn at h ⊢
  rw [h1, h2, h3, h4, h5]
  exact h
/-- the plough -/
def pI (σ : St) : Prop := bds σ.pR 5 ∧ bds σ.pU 5
theorem pI_cg {σ σ' : St} (h1 : σ'.pR = σ.pR) (h2 : σ'.pU = σ.pU) (h : pI σ) : pI σ' := by
  unfold pI at h ⊢
  rw [h1, h2]
  exact h
/-- the rings -/
def rI (σ : St) : Prop := nOK σ ∧ rkOK σ ∧ (∀ i, i < σ.n → (∃ q, q < 8 ∧ (σ.ring i).turn = nI q) ∧ bds (σ.ring i).pR 5 ∧ bds (σ.ring i).pU 5) ∧ snd1 σ ∧ snd3 σ ∧ (∀ j, j < σ.n → ¬ (σ.ring j).turn = ldF σ j)
theorem rI_cg {σ σ' : St} (hn : σ'.n = σ.n) (hs : ∀ i, i < σ.n → rsm (σ'.ring i) (σ.ring i)) (hg : ∀ i, i < σ.n → σ'.kinds i = σ.kinds i ∧ σ'.refs i = σ.refs i ∧ σ'.bR i = σ.bR i ∧ σ'.bU i = σ.bU i) (hc : cr0 σ' = cr0 σ) (h : rI σ) : rI σ' := by
  obtain ⟨h1, h2, h3, ⟨h4, h4b⟩, h5, h6⟩ := h
  have hn2 : σ.n ≤ 120 := h1
  have hcr := crs_cg (N := σ.n) (by omega) hs (fun i hi => ⟨(hg i hi).2.2.1, (hg i hi).2.2.2⟩)
  refine ⟨?_, ?_, ?_, ⟨?_, ?_⟩, ?_, ?_⟩
  · show σ'.n ≤ 120
    rw [hn]
    exact h1
  · intro i hi
    rw [hn] at hi
    rw [(hs i hi).2.1, (hg i hi).1]
    exact h2 i hi
  · intro i hi
    rw [hn] at hi
    obtain ⟨a1, -, a3, a4, -⟩ := hs i hi
    rw [a1, a3, a4]
    exact h3 i hi
  · intro j hj
    rw [hn] at hj
    obtain ⟨-, -, -, -, a5, a6, -⟩ := hs j hj
    rw [a5, a6, hcr (j + 1) (by omega)]
    exact h4 j hj
  · rw [hc, hn, hcr _ (Nat.le_refl _)]
    exact h4b
  · intro j hj
    rw [hn] at hj
    obtain ⟨-, -, -, -, -, -, a7, -⟩ := hs j hj
    rw [a7, evF_cg (by omega) (hg j hj).1 (hg j hj).2.1]
    exact h5 j hj
  · intro j hj
    rw [hn] at hj
    rw [(hs j hj).1, ldF_cg hs j (by omega)]
    exact h6 j hj
/-- what is grouted -/
def fI (σ : St) : Prop := fiOK σ ∧ ∀ i, i < σ.n → 0 ≤ roomF (σ.ring i)
theorem fI_cg {σ σ' : St} (hn : σ'.n = σ.n) (hr : σ'.ring = σ.ring) (h : fI σ) : fI σ' := by
  unfold fI fiOK at h ⊢
  rw [hn, hr]
  exact h
/-- the houses -/
def hI (σ : St) : Prop := hIn σ ∧ hLe σ ∧ hOK σ
theorem hI_cg {σ σ' : St} (hn : σ'.nh = σ.nh) (hr : σ'.hs = σ.hs) (h : hI σ) : hI σ' := by
  unfold hI hIn hLe hOK at h ⊢
  rw [hn, hr]
  exact h
/-- the boreholes -/
def oI (σ : St) : Prop := bOK σ ∧ bIn σ
theorem oI_cg {σ σ' : St} (hn : σ'.nb = σ.nb) (hr : σ'.bo = σ.bo) (h : oI σ) : oI σ' := by
  unfold oI bOK bIn at h ⊢
  rw [hn, hr]
  exact h
/-- the muck -/
def mI (σ : St) : Prop := (0 ≤ σ.pit.toInt ∧ σ.pit.toInt ≤ 2000) ∧ mkF σ σ.n = σ.pit + σ.away
theorem mI_cg {σ σ' : St} (hn : σ'.n = σ.n) (hs : ∀ i, i < σ.n → rsm (σ'.ring i) (σ.ring i)) (hp : σ'.pit = σ.pit) (ha : σ'.away = σ.away) (h : mI σ) : mI σ' := by
  unfold mI at h ⊢
  rw [hn, hp, ha, mkF_cg hs _ (Nat.le_refl _)]
  exact h
/-- the segments -/
def sI (σ : St) : Prop := 0 ≤ σ.seg.toInt ∧ σ.seg.toInt ≤ 40
theorem sI_cg {σ σ' : St} (hn : σ'.seg = σ.seg) (h : sI σ) : sI σ' := by
  unfold sI at h ⊢
  rw [hn]
  exact h
/-- the clock -/
def cI (σ : St) : Prop := (0 ≤ σ.mn.toInt ∧ σ.mn.toInt ≤ 99999) ∧ σ.mn = mrF σ σ.n + alF σ.waits 3 + (σ.fc + σ.fl + σ.fo)
theorem cI_cg {σ σ' : St} (hn : σ'.n = σ.n) (hs : ∀ i, i < σ.n → rsm (σ'.ring i) (σ.ring i)) (h1 : σ'.mn = σ.mn) (h2 : σ'.waits = σ.waits) (h3 : σ'.fc = σ.fc) (h4 : σ'.fl = σ.fl) (h5 : σ'.fo = σ.fo) (h : cI σ) : cI σ' := by
  unfold cI at h ⊢
  rw [hn, h1, h2, h3, h4, h5, mrF_cg hs _ (Nat.le_refl _)]
  exact h
/-- the order of the causes -/
def qI (σ : St) : Prop := oOK σ ∧ ∀ k, vp_nar .char (σ.order k) = σ.order k
theorem qI_cg {σ σ' : St} (h1 : σ'.order = σ.order) (h : qI σ) : qI σ' := by
  unfold qI oOK at h ⊢
  rw [h1]
  exact h
def Inv (σ : St) : Prop := gI σ ∧ pI σ ∧ rI σ ∧ fI σ ∧ hI σ ∧ oI σ ∧ mI σ ∧ sI σ ∧ cI σ ∧ qI σ
theorem rsm_all {σ σ' : St} (h : σ'.ring = σ.ring) (i : Nat) (_ : i < σ.n) : rsm (σ'.ring i) (σ.ring i) := by
  rw [h]
  exact rsm_rf _
theorem gnd_all {σ σ' : St} (h1 : σ'.kinds = σ.kinds) (h2 : σ'.refs = σ.refs) (h3 : σ'.bR = σ.bR) (h4 : σ'.bU = σ.bU) (i : Nat) (_ : i < σ.n) : σ'.kinds i = σ.kinds i ∧ σ'.refs i = σ.refs i ∧ σ'.bR i = σ.bR i ∧ σ'.bU i = σ.bU i := ⟨by rw [h1], by rw [h2], by rw [h3], by rw [h4]⟩
/-- the class finds itself sound -/
theorem Inv.sound {σ : St} (h : Inv σ) : snd1 σ ∧ snd2 σ ∧ snd3 σ ∧ snd4 σ ∧ snd5 σ := by
  obtain ⟨-, -, ⟨-, -, -, r4, r5, r6⟩, ⟨-, f2⟩, -, -, ⟨-, m2⟩, -, ⟨-, c2⟩, -⟩ := h
  exact ⟨r4, m2, r5, fun j hj => ⟨r6 j hj, f2 j hj⟩, c2⟩
