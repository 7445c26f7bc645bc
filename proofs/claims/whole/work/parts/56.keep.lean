theorem fw_lt {f0 : Nat → Int32} {x y : Nat} {v : Int32} (hx : x ≤ y) (hy : y < 200) {i : Nat} (hi : i < x) : fwF f0 (nI x) (nI y) v i = f0 i := by
  rw [fwF, fillN, nI_clamp (by omega), nI_clamp (by omega), if_neg (by omega)]
theorem fw_all {P : Int32 → Prop} {f0 : Nat → Int32} {f t v : Int32} (h0 : ∀ i, i < 200 → P (f0 i)) (hv : P v) (i : Nat) (hi : i < 200) : P (fwF f0 f t v i) := by
  rw [fwF, fillN]
  split
  · exact hv
  · exact h0 i hi
theorem kd_4 {c : Int32} (h : 0 ≤ ixF (stF [99, 115, 114, 98]) c 4 0) : ∃ q, q < 4 ∧ ixF (stF [99, 115, 114, 98]) c 4 0 = nI q := by
  obtain ⟨q, h1, h2, -⟩ := ixF_in (by decide) h
  exact ⟨q, h1, h2⟩
theorem le_n {σ : St} (hn : σ.n ≤ 120) {x : Nat} (hx : x < 200) (h : nI σ.n ≤ nI x) : σ.n ≤ x := (nI_leI (by omega) (by omega)).mp h
theorem Inv.n120 {σ : St} (h : Inv σ) : σ.n ≤ 120 := h.2.2.1.1
theorem bds_ms {x : Int32} {b : Int} {lo hi : Int32} (h1 : lo.toInt = -b) (h2 : hi.toInt = b) (h : inR x lo hi = true) : bds x b := by
  have := inR_sp h
  exact ⟨by omega, by omega⟩
theorem t_lit : (0 : Int32).toInt = 0 ∧ (1 : Int32).toInt = 1 ∧ (15 : Int32).toInt = 15 ∧ (40 : Int32).toInt = 40 ∧ (99999 : Int32).toInt = 99999 ∧ (2000 : Int32).toInt = 2000 ∧ (1440 : Int32).toInt = 1440 ∧ (20 : Int32).toInt = 20 := by decide
theorem Inv.m_ground {σ : St} (h : Inv σ) {f9 t9 c9 : Int32} (h0 : cd_ground σ f9 t9 c9 = 0) : Inv (nx_ground σ f9 t9 c9) := by
  obtain ⟨hg, hp, hr, hf, hh, ho, hm, hs, hc, hq⟩ := h
  unfold cd_ground cd_tellKind_kinds at h0
  obtain ⟨c1, h0⟩ := if_0 h0 (by decide)
  obtain ⟨c2, h0⟩ := if_0 h0 (by decide)
  obtain ⟨c3, -⟩ := if_0 h0 (by decide)
  obtain ⟨x, y, rfl, rfl, hxy, hy⟩ := isStr_spec c1
  obtain ⟨q, hq4, hqe⟩ := kd_4 c2
  have hx : σ.n ≤ x := le_n hr.1 (by omega) c3
  unfold nx_ground nx_tellKind_kinds
  refine ⟨?_, ?_, ?_, ?_, ?_, ?_, ?_, ?_, ?_, ?_⟩
  · exact ⟨fun i hi => fw_all (P := fun z => ∃ q, q < 4 ∧ z = nI q) hg.1 ⟨q, hq4, hqe⟩ i hi, hg.2.1, hg.2.2⟩
  · exact pI_cg (σ := σ) rfl rfl hp
  · exact rI_cg (σ := σ) rfl (rsm_all rfl) (fun i hi => ⟨fw_lt hxy hy (by omega), rfl, rfl, rfl⟩) rfl hr
  · exact fI_cg (σ := σ) rfl rfl hf
  · exact hI_cg (σ := σ) rfl rfl hh
  · exact oI_cg (σ := σ) rfl rfl ho
  · exact mI_cg (σ := σ) rfl (rsm_all rfl) rfl rfl hm
  · exact sI_cg (σ := σ) rfl hs
  · exact cI_cg (σ := σ) rfl (rsm_all rfl) rfl rfl rfl rfl rfl hc
  · exact qI_cg (σ := σ) rfl hq
theorem Inv.m_reference {σ : St} (h : Inv σ) {f9 t9 c9 : Int32} (h0 : cd_reference σ f9 t9 c9 = 0) : Inv (nx_reference σ f9 t9 c9) := by
  obtain ⟨hg, hp, hr, hf, hh, ho, hm, hs, hc, hq⟩ := h
  unfold cd_reference cd_tellKind_refs at h0
  obtain ⟨c1, h0⟩ := if_0 h0 (by decide)
  obtain ⟨c2, h0⟩ := if_0 h0 (by decide)
  obtain ⟨c3, -⟩ := if_0 h0 (by decide)
  obtain ⟨x, y, rfl, rfl, hxy, hy⟩ := isStr_spec c1
  obtain ⟨q, hq4, hqe⟩ := kd_4 c2
  have hx : σ.n ≤ x := le_n hr.1 (by omega) c3
  unfold nx_reference nx_tellKind_refs
  refine ⟨?_, ?_, ?_, ?_, ?_, ?_, ?_, ?_, ?_, ?_⟩
  · exact ⟨hg.1, fun i hi => fw_all (P := fun z => ∃ q, q < 4 ∧ z = nI q) hg.2.1 ⟨q, hq4, hqe⟩ i hi, hg.2.2⟩
  · exact pI_cg (σ := σ) rfl rfl hp
  · exact rI_cg (σ := σ) rfl (rsm_all rfl) (fun i hi => ⟨rfl, fw_lt hxy hy (by omega), rfl, rfl⟩) rfl hr
  · exact fI_cg (σ := σ) rfl rfl hf
  · exact hI_cg (σ := σ) rfl rfl hh
  · exact oI_cg (σ := σ) rfl rfl ho
  · exact mI_cg (σ := σ) rfl (rsm_all rfl) rfl rfl hm
  · exact sI_cg (σ := σ) rfl hs
  · exact cI_cg (σ := σ) rfl (rsm_all rfl) rfl rfl rfl rfl rfl hc
  · exact qI_cg (σ := σ) rfl hq
theorem Inv.m_depth {σ : St} (h : Inv σ) {f9 t9 v9 : Int32} (h0 : cd_depth σ f9 t9 v9 = 0) : Inv (nx_depth σ f9 t9 v9) := by
  obtain ⟨hg, hp, hr, hf, hh, ho, hm, hs, hc, hq⟩ := h
  unfold cd_depth cd_tellNumber_depths at h0
  obtain ⟨c1, h0⟩ := if_0 h0 (by decide)
  obtain ⟨c2, h0⟩ := if_0 h0 (by decide)
  unfold nx_depth nx_tellNumber_depths
  refine ⟨?_, ?_, ?_, ?_, ?_, ?_, ?_, ?_, ?_, ?_⟩
  · have c3 := inR_sp c2
    rw [show (10 : Int32).toInt = 10 from rfl, show (60 : Int32).toInt = 60 from rfl] at c3
    obtain ⟨q, hq9, rfl⟩ := nI_of (x := v9) (by rw [Int32.lt_iff_toInt_lt, t_lit.1]; omega)
    rw [nI_toInt hq9] at c3
    exact ⟨hg.1, hg.2.1, fun i hi => fw_all (P := fun z => ∃ a, 10 ≤ a ∧ a ≤ 60 ∧ z = nI a) hg.2.2.1 ⟨q, by omega, by omega, rfl⟩ i hi, hg.2.2.2⟩
  · exact pI_cg (σ := σ) rfl rfl hp
  · exact rI_cg (σ := σ) rfl (rsm_all rfl) (gnd_all rfl rfl rfl rfl) rfl hr
  · exact fI_cg (σ := σ) rfl rfl hf
  · exact hI_cg (σ := σ) rfl rfl hh
  · exact oI_cg (σ := σ) rfl rfl ho
  · exact mI_cg (σ := σ) rfl (rsm_all rfl) rfl rfl hm
  · exact sI_cg (σ := σ) rfl hs
  · exact cI_cg (σ := σ) rfl (rsm_all rfl) rfl rfl rfl rfl rfl hc
  · exact qI_cg (σ := σ) rfl hq
theorem Inv.m_water {σ : St} (h : Inv σ) {f9 t9 v9 : Int32} (h0 : cd_water σ f9 t9 v9 = 0) : Inv (nx_water σ f9 t9 v9) := by
  obtain ⟨hg, hp, hr, hf, hh, ho, hm, hs, hc, hq⟩ := h
  unfold cd_water cd_tellNumber_waters at h0
  obtain ⟨c1, h0⟩ := if_0 h0 (by decide)
  obtain ⟨c2, h0⟩ := if_0 h0 (by decide)
  unfold nx_water nx_tellNumber_waters
  refine ⟨?_, ?_, ?_, ?_, ?_, ?_, ?_, ?_, ?_, ?_⟩
  · exact gI_cg (σ := σ) rfl rfl rfl rfl rfl hg
  · exact pI_cg (σ := σ) rfl rfl hp
  · exact rI_cg (σ := σ) rfl (rsm_all rfl) (gnd_all rfl rfl rfl rfl) rfl hr
  · exact fI_cg (σ := σ) rfl rfl hf
  · exact hI_cg (σ := σ) rfl rfl hh
  · exact oI_cg (σ := σ) rfl rfl ho
  · exact mI_cg (σ := σ) rfl (rsm_all rfl) rfl rfl hm
  · exact sI_cg (σ := σ) rfl hs
  · exact cI_cg (σ := σ) rfl (rsm_all rfl) rfl rfl rfl rfl rfl hc
  · exact qI_cg (σ := σ) rfl hq
theorem Inv.m_bend {σ : St} (h : Inv σ) {f9 t9 r9 u9 : Int32} (h0 : cd_bend σ f9 t9 r9 u9 = 0) : Inv (nx_bend σ f9 t9 r9 u9) := by
  obtain ⟨hg, hp, hr, hf, hh, ho, hm, hs, hc, hq⟩ := h
  unfold cd_bend at h0
  obtain ⟨c1, h0⟩ := if_0 h0 (by decide)
  obtain ⟨c2, h0⟩ := if_0 h0 (by decide)
  obtain ⟨c4, h0⟩ := if_0 h0 (by decide)
  obtain ⟨c3, -⟩ := if_0 h0 (by decide)
  obtain ⟨x, y, rfl, rfl, hxy, hy⟩ := isStr_spec c1
  have hx : σ.n ≤ x := le_n hr.1 (by omega) c3
  unfold nx_bend
  refine ⟨?_, ?_, ?_, ?_, ?_, ?_, ?_, ?_, ?_, ?_⟩
  · exact ⟨hg.1, hg.2.1, hg.2.2.1, fun i hi => fw_all (P := fun z => bds z 20) hg.2.2.2.1 (bds_ms rfl rfl c2) i hi, fun i hi => fw_all (P := fun z => bds z 20) hg.2.2.2.2 (bds_ms rfl rfl c4) i hi⟩
  · exact pI_cg (σ := σ) rfl rfl hp
  · exact rI_cg (σ := σ) rfl (rsm_all rfl) (fun i hi => ⟨rfl, rfl, fw_lt hxy hy (by omega), fw_lt hxy hy (by omega)⟩) rfl hr
  · exact fI_cg (σ := σ) rfl rfl hf
  · exact hI_cg (σ := σ) rfl rfl hh
  · exact oI_cg (σ := σ) rfl rfl ho
  · exact mI_cg (σ := σ) rfl (rsm_all rfl) rfl rfl hm
  · exact sI_cg (σ := σ) rfl hs
  · exact cI_cg (σ := σ) rfl (rsm_all rfl) rfl rfl rfl rfl rfl hc
  · exact qI_cg (σ := σ) rfl hq
theorem Inv.m_pressure {σ : St} (h : Inv σ) (p9 : Int32)  : Inv (nx_pressure σ p9) := by
  obtain ⟨hg, hp, hr, hf, hh, ho, hm, hs, hc, hq⟩ := h
  unfold nx_pressure
  refine ⟨?_, ?_, ?_, ?_, ?_, ?_, ?_, ?_, ?_, ?_⟩
  · exact gI_cg (σ := σ) rfl rfl rfl rfl rfl hg
  · exact pI_cg (σ := σ) rfl rfl hp
  · exact rI_cg (σ := σ) rfl (rsm_all rfl) (gnd_all rfl rfl rfl rfl) rfl hr
  · exact fI_cg (σ := σ) rfl rfl hf
  · exact hI_cg (σ := σ) rfl rfl hh
  · exact oI_cg (σ := σ) rfl rfl ho
  · exact mI_cg (σ := σ) rfl (rsm_all rfl) rfl rfl hm
  · exact sI_cg (σ := σ) rfl hs
  · exact cI_cg (σ := σ) rfl (rsm_all rfl) rfl rfl rfl rfl rfl hc
  · exact qI_cg (σ := σ) rfl hq
theorem Inv.m_foam {σ : St} (h : Inv σ) (b9 : Bool)  : Inv (nx_foam σ b9) := by
  obtain ⟨hg, hp, hr, hf, hh, ho, hm, hs, hc, hq⟩ := h
  unfold nx_foam
  refine ⟨?_, ?_, ?_, ?_, ?_, ?_, ?_, ?_, ?_, ?_⟩
  · exact gI_cg (σ := σ) rfl rfl rfl rfl rfl hg
  · exact pI_cg (σ := σ) rfl rfl hp
  · exact rI_cg (σ := σ) rfl (rsm_all rfl) (gnd_all rfl rfl rfl rfl) rfl hr
  · exact fI_cg (σ := σ) rfl rfl hf
  · exact hI_cg (σ := σ) rfl rfl hh
  · exact oI_cg (σ := σ) rfl rfl ho
  · exact mI_cg (σ := σ) rfl (rsm_all rfl) rfl rfl hm
  · exact sI_cg (σ := σ) rfl hs
  · exact cI_cg (σ := σ) rfl (rsm_all rfl) rfl rfl rfl rfl rfl hc
  · exact qI_cg (σ := σ) rfl hq
theorem Inv.m_steer {σ : St} (h : Inv σ) {r9 u9 : Int32} (h0 : cd_steer σ r9 u9 = 0) : Inv (nx_steer σ r9 u9) := by
  obtain ⟨hg, hp, hr, hf, hh, ho, hm, hs, hc, hq⟩ := h
  unfold cd_steer at h0
  obtain ⟨c1, h0⟩ := if_0 h0 (by decide)
  obtain ⟨c2, h0⟩ := if_0 h0 (by decide)
  unfold nx_steer
  refine ⟨?_, ?_, ?_, ?_, ?_, ?_, ?_, ?_, ?_, ?_⟩
  · exact gI_cg (σ := σ) rfl rfl rfl rfl rfl hg
  · exact ⟨bds_ms rfl rfl c1, bds_ms rfl rfl c2⟩
  · exact rI_cg (σ := σ) rfl (rsm_all rfl) (gnd_all rfl rfl rfl rfl) rfl hr
  · exact fI_cg (σ := σ) rfl rfl hf
  · exact hI_cg (σ := σ) rfl rfl hh
  · exact oI_cg (σ := σ) rfl rfl ho
  · exact mI_cg (σ := σ) rfl (rsm_all rfl) rfl rfl hm
  · exact sI_cg (σ := σ) rfl hs
  · exact cI_cg (σ := σ) rfl (rsm_all rfl) rfl rfl rfl rfl rfl hc
  · exact qI_cg (σ := σ) rfl hq
theorem Inv.m_deliver {σ : St} (h : Inv σ) {m9 : Int32} (h0 : cd_deliver σ m9 = 0) : Inv (nx_deliver σ m9) := by
  obtain ⟨hg, hp, hr, hf, hh, ho, hm, hs, hc, hq⟩ := h
  unfold cd_deliver at h0
  obtain ⟨c1, h0⟩ := if_0 h0 (by decide)
  obtain ⟨c2, h0⟩ := if_0 h0 (by decide)
  unfold nx_deliver
  refine ⟨?_, ?_, ?_, ?_, ?_, ?_, ?_, ?_, ?_, ?_⟩
  · exact gI_cg (σ := σ) rfl rfl rfl rfl rfl hg
  · exact pI_cg (σ := σ) rfl rfl hp
  · exact rI_cg (σ := σ) rfl (rsm_all rfl) (gnd_all rfl rfl rfl rfl) rfl hr
  · exact fI_cg (σ := σ) rfl rfl hf
  · exact hI_cg (σ := σ) rfl rfl hh
  · exact oI_cg (σ := σ) rfl rfl ho
  · exact mI_cg (σ := σ) rfl (rsm_all rfl) rfl rfl hm
  · obtain ⟨k0, k1, -, k40, -⟩ := t_lit
    have c3 := inR_sp c1
    rw [k1, k40] at c3
    have c4 := i_le.mp c2
    rw [k40] at c4
    obtain ⟨s1, s2⟩ := hs
    have he := i_add (a := σ.seg) (b := m9) (by omega) (by omega)
    show 0 ≤ (σ.seg + m9).toInt ∧ (σ.seg + m9).toInt ≤ 40
    omega
  · exact cI_cg (σ := σ) rfl (rsm_all rfl) rfl rfl rfl rfl rfl hc
  · exact qI_cg (σ := σ) rfl hq
theorem Inv.m_bore {σ : St} (h : Inv σ) {p9 c9 : Int32} (h0 : cd_bore σ p9 c9 = 0) : Inv (nx_bore σ p9 c9) := by
  obtain ⟨hg, hp, hr, hf, hh, ho, hm, hs, hc, hq⟩ := h
  unfold cd_bore at h0
  obtain ⟨c1, h0⟩ := if_0 h0 (by decide)
  obtain ⟨c2, h0⟩ := if_0 h0 (by decide)
  obtain ⟨c3, -⟩ := if_1 h0 (by decide)
  obtain ⟨p, hp2, rfl⟩ := inR_pl c1
  obtain ⟨q, hq4, hqe⟩ := kd_4 c2
  unfold nx_bore
  refine ⟨?_, ?_, ?_, ?_, ?_, ?_, ?_, ?_, ?_, ?_⟩
  · exact gI_cg (σ := σ) rfl rfl rfl rfl rfl hg
  · exact pI_cg (σ := σ) rfl rfl hp
  · exact rI_cg (σ := σ) rfl (rsm_all rfl) (gnd_all rfl rfl rfl rfl) rfl hr
  · exact fI_cg (σ := σ) rfl rfl hf
  · exact hI_cg (σ := σ) rfl rfl hh
  · obtain ⟨o1, o2⟩ := ho
    have o3 : σ.nb ≤ 20 := o1
    have o4 : σ.nb < 20 := nI_ltc (n := 20) (by decide) o3 c3
    refine ⟨show σ.nb + 1 ≤ 20 by omega, fun i hi => ?_⟩
    have hi2 : i < σ.nb + 1 := hi
    show ∃ a b, a < 200 ∧ b < 4 ∧ (upT σ.bo σ.nb _ i).pl = nI a ∧ (upT σ.bo σ.nb _ i).ki = nI b
    by_cases he : i = σ.nb
    · rw [he, upT_s]
      exact ⟨p, q, hp2, hq4, rfl, hqe⟩
    · rw [upT_n he]
      exact o2 i (by omega)
  · exact mI_cg (σ := σ) rfl (rsm_all rfl) rfl rfl hm
  · exact sI_cg (σ := σ) rfl hs
  · exact cI_cg (σ := σ) rfl (rsm_all rfl) rfl rfl rfl rfl rfl hc
  · exact qI_cg (σ := σ) rfl hq
theorem Inv.m_house {σ : St} (h : Inv σ) {f9 t9 o9 : Int32} (h0 : cd_house σ f9 t9 o9 = 0) : Inv (nx_house σ f9 t9 o9) := by
  obtain ⟨hg, hp, hr, hf, hh, ho, hm, hs, hc, hq⟩ := h
  unfold cd_house at h0
  obtain ⟨c1, h0⟩ := if_0 h0 (by decide)
  obtain ⟨c2, h0⟩ := if_0 h0 (by decide)
  obtain ⟨c3, -⟩ := if_1 h0 (by decide)
  obtain ⟨x, y, rfl, rfl, hxy, hy⟩ := isStr_spec c1
  obtain ⟨e, he60, rfl⟩ := inR_nn (N := 60) (by decide) c2
  unfold nx_house
  refine ⟨?_, ?_, ?_, ?_, ?_, ?_, ?_, ?_, ?_, ?_⟩
  · exact gI_cg (σ := σ) rfl rfl rfl rfl rfl hg
  · exact pI_cg (σ := σ) rfl rfl hp
  · exact rI_cg (σ := σ) rfl (rsm_all rfl) (gnd_all rfl rfl rfl rfl) rfl hr
  · exact fI_cg (σ := σ) rfl rfl hf
  · obtain ⟨o1, o2, o5⟩ := hh
    have o3 : σ.nh ≤ 8 := o5
    have o4 : σ.nh < 8 := nI_ltc (n := 8) (by decide) o3 c3
    refine ⟨fun i hi => ?_, fun i hi => ?_, show σ.nh + 1 ≤ 8 by omega⟩
    · have hi2 : i < σ.nh + 1 := hi
      show ∃ b c e, b < 200 ∧ c < 200 ∧ e ≤ 60 ∧ (upT σ.hs σ.nh _ i).fr = nI b ∧ (upT σ.hs σ.nh _ i).to = nI c ∧ (upT σ.hs σ.nh _ i).ofs = nI e
      by_cases he : i = σ.nh
      · rw [he, upT_s]
        exact ⟨x, y, e, by omega, hy, he60, rfl, rfl, rfl⟩
      · rw [upT_n he]
        exact o1 i (by omega)
    · have hi2 : i < σ.nh + 1 := hi
      show (upT σ.hs σ.nh _ i).fr ≤ (upT σ.hs σ.nh _ i).to
      by_cases he : i = σ.nh
      · rw [he, upT_s]
        exact nI_le hxy (by omega)
      · rw [upT_n he]
        exact o2 i (by omega)
  · exact oI_cg (σ := σ) rfl rfl ho
  · exact mI_cg (σ := σ) rfl (rsm_all rfl) rfl rfl hm
  · exact sI_cg (σ := σ) rfl hs
  · exact cI_cg (σ := σ) rfl (rsm_all rfl) rfl rfl rfl rfl rfl hc
  · exact qI_cg (σ := σ) rfl hq
theorem hI_up {σ σ' : St} {j : Nat} {r : Hs} (hn : σ'.nh = σ.nh) (hr : σ'.hs = upT σ.hs j r) (h1 : r.fr = (σ.hs j).fr) (h2 : r.to = (σ.hs j).to) (h3 : r.ofs = (σ.hs j).ofs) (h : hI σ) : hI σ' := by
  obtain ⟨o1, o2, o3⟩ := h
  have k : ∀ i, (σ'.hs i).fr = (σ.hs i).fr ∧ (σ'.hs i).to = (σ.hs i).to ∧ (σ'.hs i).ofs = (σ.hs i).ofs := fun i => by
    rw [hr]
    by_cases he : i = j
    · rw [he, upT_s]
      exact ⟨h1, h2, h3⟩
    · rw [upT_n he]
      exact ⟨rfl, rfl, rfl⟩
  refine ⟨fun i hi => ?_, fun i hi => ?_, ?_⟩
  · rw [hn] at hi
    rw [(k i).1, (k i).2.1, (k i).2.2]
    exact o1 i hi
  · rw [hn] at hi
    rw [(k i).1, (k i).2.1]
    exact o2 i hi
  · show σ'.nh ≤ 8
    rw [hn]
    exact o3
theorem rd2_hs (σ : St) (j : Nat) : ∃ r, rd2 σ j = σ.w_hs (upT σ.hs j r) ∧ r.fr = (σ.hs j).fr ∧ r.to = (σ.hs j).to ∧ r.ofs = (σ.hs j).ofs := by
  refine ⟨((σ.hs j).w_re (iMax (smF σ (σ.hs j) false) (smF σ (σ.hs j) true))).w_wr true, ?_, rfl, rfl, rfl⟩
  have e : (rd1 σ j).hs j = (σ.hs j).w_re (iMax (smF σ (σ.hs j) false) (smF σ (σ.hs j) true)) := by
    show upT σ.hs j _ j = _
    rw [upT_s]
  unfold rd2
  rw [e, show (rd1 σ j).hs = upT σ.hs j ((σ.hs j).w_re (iMax (smF σ (σ.hs j) false) (smF σ (σ.hs j) true))) from rfl]
  rw [show ∀ v, (rd1 σ j).w_hs v = σ.w_hs v from fun v => by
    unfold rd1
    generalize upT σ.hs j _ = u
    simp only [St.kinds, St.refs, St.depths, St.waters, St.bR, St.bU, St.wears, St.order, St.waits, St.hR, St.hU, St.oR, St.oU, St.press, St.foam, St.pR, St.pU, St.seg, St.pit, St.away, St.mn, St.fc, St.fl, St.fo, St.n, St.ring, St.nh, St.hs, St.nb, St.bo, St.w_kinds, St.w_refs, St.w_depths, St.w_waters, St.w_bR, St.w_bU, St.w_wears, St.w_order, St.w_waits, St.w_hR, St.w_hU, St.w_oR, St.w_oU, St.w_press, St.w_foam, St.w_pR, St.w_pU, St.w_seg, St.w_pit, St.w_away, St.w_mn, St.w_fc, St.w_fl, St.w_fo, St.w_n, St.w_ring, St.w_nh, St.w_hs, St.w_nb, St.w_bo, St.w_course, St.a_ring, St.a_house, St.a_bore]]
  congr 1
  funext i
  by_cases he : i = j
  · rw [he, upT_s, upT_s]
  · rw [upT_n he, upT_n he, upT_n he]
theorem lf1_hs (σ : St) (j : Nat) (b : Bool) (a : Int32) : ∃ r, lf1 σ j b a = σ.w_hs (upT σ.hs j r) ∧ r.fr = (σ.hs j).fr ∧ r.to = (σ.hs j).to ∧ r.ofs = (σ.hs j).ofs := by
  cases b
  · exact ⟨_, rfl, rfl, rfl, rfl⟩
  · exact ⟨_, rfl, rfl, rfl, rfl⟩
theorem Inv.m_read {σ : St} (h : Inv σ) (r9 : Int32)  : Inv (nx_read σ r9) := by
  obtain ⟨hg, hp, hr, hf, hh, ho, hm, hs, hc, hq⟩ := h
  unfold nx_read
  obtain ⟨r, e1, e2, e3, e4⟩ := rd2_hs σ r9.toNatClampNeg
  rw [e1]
  refine ⟨?_, ?_, ?_, ?_, ?_, ?_, ?_, ?_, ?_, ?_⟩
  · exact gI_cg (σ := σ) rfl rfl rfl rfl rfl hg
  · exact pI_cg (σ := σ) rfl rfl hp
  · exact rI_cg (σ := σ) rfl (rsm_all rfl) (gnd_all rfl rfl rfl rfl) rfl hr
  · exact fI_cg (σ := σ) rfl rfl hf
  · exact hI_up (σ := σ) rfl rfl e2 e3 e4 hh
  · exact oI_cg (σ := σ) rfl rfl ho
  · exact mI_cg (σ := σ) rfl (rsm_all rfl) rfl rfl hm
  · exact sI_cg (σ := σ) rfl hs
  · exact cI_cg (σ := σ) rfl (rsm_all rfl) rfl rfl rfl rfl rfl hc
  · exact qI_cg (σ := σ) rfl hq
theorem clk {a b : Int32} (ha : 0 ≤ a.toInt ∧ a.toInt ≤ 99999) (hb : 0 ≤ b.toInt ∧ b.toInt ≤ 99999) (h : a + b ≤ 99999) : 0 ≤ (a + b).toInt ∧ (a + b).toInt ≤ 99999 := by
  have h1 := i_add (a := a) (b := b) (by omega) (by omega)
  have h2 := i_le.mp h
  rw [show (99999 : Int32).toInt = 99999 from rfl] at h2
  omega
theorem Inv.m_lift {σ : St} (h : Inv σ) {r9 : Int32} {b9 : Bool} {a9 : Int32} (h0 : cd_lift σ r9 b9 a9 = 0) : Inv (nx_lift σ r9 b9 a9) := by
  obtain ⟨hg, hp, hr, hf, hh, ho, hm, hs, hc, hq⟩ := h
  unfold cd_lift at h0
  obtain ⟨c1, h0⟩ := if_0 h0 (by decide)
  obtain ⟨c2, h0⟩ := if_0 h0 (by decide)
  obtain ⟨c3, -⟩ := if_0 h0 (by decide)
  unfold nx_lift
  obtain ⟨r, e1, e2, e3, e4⟩ := lf1_hs σ r9.toNatClampNeg b9 a9
  unfold lf2
  rw [e1]
  refine ⟨?_, ?_, ?_, ?_, ?_, ?_, ?_, ?_, ?_, ?_⟩
  · exact gI_cg (σ := σ) (by simp only [cr0, St.kinds, St.refs, St.depths, St.waters, St.bR, St.bU, St.wears, St.order, St.waits, St.hR, St.hU, St.oR, St.oU, St.press, St.foam, St.pR, St.pU, St.seg, St.pit, St.away, St.mn, St.fc, St.fl, St.fo, St.n, St.ring, St.nh, St.hs, St.nb, St.bo, St.w_kinds, St.w_refs, St.w_depths, St.w_waters, St.w_bR, St.w_bU, St.w_wears, St.w_order, St.w_waits, St.w_hR, St.w_hU, St.w_oR, St.w_oU, St.w_press, St.w_foam, St.w_pR, St.w_pU, St.w_seg, St.w_pit, St.w_away, St.w_mn, St.w_fc, St.w_fl, St.w_fo, St.w_n, St.w_ring, St.w_nh, St.w_hs, St.w_nb, St.w_bo, St.w_course, St.a_ring, St.a_house, St.a_bore]) (by simp only [cr0, St.kinds, St.refs, St.depths, St.waters, St.bR, St.bU, St.wears, St.order, St.waits, St.hR, St.hU, St.oR, St.oU, St.press, St.foam, St.pR, St.pU, St.seg, St.pit, St.away, St.mn, St.fc, St.fl, St.fo, St.n, St.ring, St.nh, St.hs, St.nb, St.bo, St.w_kinds, St.w_refs, St.w_depths, St.w_waters, St.w_bR, St.w_bU, St.w_wears, St.w_order, St.w_waits, St.w_hR, St.w_hU, St.w_oR, St.w_oU, St.w_press, St.w_foam, St.w_pR, St.w_pU, St.w_seg, St.w_pit, St.w_away, St.w_mn, St.w_fc, St.w_fl, St.w_fo, St.w_n, St.w_ring, St.w_nh, St.w_hs, St.w_nb, St.w_bo, St.w_course, St.a_ring, St.a_house, St.a_bore]) (by simp only [cr0, St.kinds, St.refs, St.depths, St.waters, St.bR, St.bU, St.wears, St.order, St.waits, St.hR, St.hU, St.oR, St.oU, St.press, St.foam, St.pR, St.pU, St.seg, St.pit, St.away, St.mn, St.fc, St.fl, St.fo, St.n, St.ring, St.nh, St.hs, St.nb, St.bo, St.w_kinds, St.w_refs, St.w_depths, St.w_waters, St.w_bR, St.w_bU, St.w_wears, St.w_order, St.w_waits, St.w_hR, St.w_hU, St.w_oR, St.w_oU, St.w_press, St.w_foam, St.w_pR, St.w_pU, St.w_seg, St.w_pit, St.w_away, St.w_mn, St.w_fc, St.w_fl, St.w_fo, St.w_n, St.w_ring, St.w_nh, St.w_hs, St.w_nb, St.w_bo, St.w_course, St.a_ring, St.a_house, St.a_bore]) (by simp only [cr0, St.kinds, St.refs, St.depths, St.waters, St.bR, St.bU, St.wears, St.order, St.waits, St.hR, St.hU, St.oR, St.oU, St.press, St.foam, St.pR, St.pU, St.seg, St.pit, St.away, St.mn, St.fc, St.fl, St.fo, St.n, St.ring, St.nh, St.hs, St.nb, St.bo, St.w_kinds, St.w_refs, St.w_depths, St.w_waters, St.w_bR, St.w_bU, St.w_wears, St.w_order, St.w_waits, St.w_hR, St.w_hU, St.w_oR, St.w_oU, St.w_press, St.w_foam, St.w_pR, St.w_pU, St.w_seg, St.w_pit, St.w_away, St.w_mn, St.w_fc, St.w_fl, St.w_fo, St.w_n, St.w_ring, St.w_nh, St.w_hs, St.w_nb, St.w_bo, St.w_course, St.a_ring, St.a_house, St.a_bore]) (by simp only [cr0, St.kinds, St.refs, St.depths, St.waters, St.bR, St.bU, St.wears, St.order, St.waits, St.hR, St.hU, St.oR, St.oU, St.press, St.foam, St.pR, St.pU, St.seg, St.pit, St.away, St.mn, St.fc, St.fl, St.fo, St.n, St.ring, St.nh, St.hs, St.nb, St.bo, St.w_kinds, St.w_refs, St.w_depths, St.w_waters, St.w_bR, St.w_bU, St.w_wears, St.w_order, St.w_waits, St.w_hR, St.w_hU, St.w_oR, St.w_oU, St.w_press, St.w_foam, St.w_pR, St.w_pU, St.w_seg, St.w_pit, St.w_away, St.w_mn, St.w_fc, St.w_fl, St.w_fo, St.w_n, St.w_ring, St.w_nh, St.w_hs, St.w_nb, St.w_bo, St.w_course, St.a_ring, St.a_house, St.a_bore]) hg
  · exact pI_cg (σ := σ) (by simp only [cr0, St.kinds, St.refs, St.depths, St.waters, St.bR, St.bU, St.wears, St.order, St.waits, St.hR, St.hU, St.oR, St.oU, St.press, St.foam, St.pR, St.pU, St.seg, St.pit, St.away, St.mn, St.fc, St.fl, St.fo, St.n, St.ring, St.nh, St.hs, St.nb, St.bo, St.w_kinds, St.w_refs, St.w_depths, St.w_waters, St.w_bR, St.w_bU, St.w_wears, St.w_order, St.w_waits, St.w_hR, St.w_hU, St.w_oR, St.w_oU, St.w_press, St.w_foam, St.w_pR, St.w_pU, St.w_seg, St.w_pit, St.w_away, St.w_mn, St.w_fc, St.w_fl, St.w_fo, St.w_n, St.w_ring, St.w_nh, St.w_hs, St.w_nb, St.w_bo, St.w_course, St.a_ring, St.a_house, St.a_bore]) (by simp only [cr0, St.kinds, St.refs, St.depths, St.waters, St.bR, St.bU, St.wears, St.order, St.waits, St.hR, St.hU, St.oR, St.oU, St.press, St.foam, St.pR, St.pU, St.seg, St.pit, St.away, St.mn, St.fc, St.fl, St.fo, St.n, St.ring, St.nh, St.hs, St.nb, St.bo, St.w_kinds, St.w_refs, St.w_depths, St.w_waters, St.w_bR, St.w_bU, St.w_wears, St.w_order, St.w_waits, St.w_hR, St.w_hU, St.w_oR, St.w_oU, St.w_press, St.w_foam, St.w_pR, St.w_pU, St.w_seg, St.w_pit, St.w_away, St.w_mn, St.w_fc, St.w_fl, St.w_fo, St.w_n, St.w_ring, St.w_nh, St.w_hs, St.w_nb, St.w_bo, St.w_course, St.a_ring, St.a_house, St.a_bore]) hp
  · exact rI_cg (σ := σ) (by simp only [cr0, St.kinds, St.refs, St.depths, St.waters, St.bR, St.bU, St.wears, St.order, St.waits, St.hR, St.hU, St.oR, St.oU, St.press, St.foam, St.pR, St.pU, St.seg, St.pit, St.away, St.mn, St.fc, St.fl, St.fo, St.n, St.ring, St.nh, St.hs, St.nb, St.bo, St.w_kinds, St.w_refs, St.w_depths, St.w_waters, St.w_bR, St.w_bU, St.w_wears, St.w_order, St.w_waits, St.w_hR, St.w_hU, St.w_oR, St.w_oU, St.w_press, St.w_foam, St.w_pR, St.w_pU, St.w_seg, St.w_pit, St.w_away, St.w_mn, St.w_fc, St.w_fl, St.w_fo, St.w_n, St.w_ring, St.w_nh, St.w_hs, St.w_nb, St.w_bo, St.w_course, St.a_ring, St.a_house, St.a_bore]) (rsm_all (by simp only [cr0, St.kinds, St.refs, St.depths, St.waters, St.bR, St.bU, St.wears, St.order, St.waits, St.hR, St.hU, St.oR, St.oU, St.press, St.foam, St.pR, St.pU, St.seg, St.pit, St.away, St.mn, St.fc, St.fl, St.fo, St.n, St.ring, St.nh, St.hs, St.nb, St.bo, St.w_kinds, St.w_refs, St.w_depths, St.w_waters, St.w_bR, St.w_bU, St.w_wears, St.w_order, St.w_waits, St.w_hR, St.w_hU, St.w_oR, St.w_oU, St.w_press, St.w_foam, St.w_pR, St.w_pU, St.w_seg, St.w_pit, St.w_away, St.w_mn, St.w_fc, St.w_fl, St.w_fo, St.w_n, St.w_ring, St.w_nh, St.w_hs, St.w_nb, St.w_bo, St.w_course, St.a_ring, St.a_house, St.a_bore])) (gnd_all (by simp only [cr0, St.kinds, St.refs, St.depths, St.waters, St.bR, St.bU, St.wears, St.order, St.waits, St.hR, St.hU, St.oR, St.oU, St.press, St.foam, St.pR, St.pU, St.seg, St.pit, St.away, St.mn, St.fc, St.fl, St.fo, St.n, St.ring, St.nh, St.hs, St.nb, St.bo, St.w_kinds, St.w_refs, St.w_depths, St.w_waters, St.w_bR, St.w_bU, St.w_wears, St.w_order, St.w_waits, St.w_hR, St.w_hU, St.w_oR, St.w_oU, St.w_press, St.w_foam, St.w_pR, St.w_pU, St.w_seg, St.w_pit, St.w_away, St.w_mn, St.w_fc, St.w_fl, St.w_fo, St.w_n, St.w_ring, St.w_nh, St.w_hs, St.w_nb, St.w_bo, St.w_course, St.a_ring, St.a_house, St.a_bore]) (by simp only [cr0, St.kinds, St.refs, St.depths, St.waters, St.bR, St.bU, St.wears, St.order, St.waits, St.hR, St.hU, St.oR, St.oU, St.press, St.foam, St.pR, St.pU, St.seg, St.pit, St.away, St.mn, St.fc, St.fl, St.fo, St.n, St.ring, St.nh, St.hs, St.nb, St.bo, St.w_kinds, St.w_refs, St.w_depths, St.w_waters, St.w_bR, St.w_bU, St.w_wears, St.w_order, St.w_waits, St.w_hR, St.w_hU, St.w_oR, St.w_oU, St.w_press, St.w_foam, St.w_pR, St.w_pU, St.w_seg, St.w_pit, St.w_away, St.w_mn, St.w_fc, St.w_fl, St.w_fo, St.w_n, St.w_ring, St.w_nh, St.w_hs, St.w_nb, St.w_bo, St.w_course, St.a_ring, St.a_house, St.a_bore]) (by simp only [cr0, St.kinds, St.refs, St.depths, St.waters, St.bR, St.bU, St.wears, St.order, St.waits, St.hR, St.hU, St.oR, St.oU, St.press, St.foam, St.pR, St.pU, St.seg, St.pit, St.away, St.mn, St.fc, St.fl, St.fo, St.n, St.ring, St.nh, St.hs, St.nb, St.bo, St.w_kinds, St.w_refs, St.w_depths, St.w_waters, St.w_bR, St.w_bU, St.w_wears, St.w_order, St.w_waits, St.w_hR, St.w_hU, St.w_oR, St.w_oU, St.w_press, St.w_foam, St.w_pR, St.w_pU, St.w_seg, St.w_pit, St.w_away, St.w_mn, St.w_fc, St.w_fl, St.w_fo, St.w_n, St.w_ring, St.w_nh, St.w_hs, St.w_nb, St.w_bo, St.w_course, St.a_ring, St.a_house, St.a_bore]) (by simp only [cr0, St.kinds, St.refs, St.depths, St.waters, St.bR, St.bU, St.wears, St.order, St.waits, St.hR, St.hU, St.oR, St.oU, St.press, St.foam, St.pR, St.pU, St.seg, St.pit, St.away, St.mn, St.fc, St.fl, St.fo, St.n, St.ring, St.nh, St.hs, St.nb, St.bo, St.w_kinds, St.w_refs, St.w_depths, St.w_waters, St.w_bR, St.w_bU, St.w_wears, St.w_order, St.w_waits, St.w_hR, St.w_hU, St.w_oR, St.w_oU, St.w_press, St.w_foam, St.w_pR, St.w_pU, St.w_seg, St.w_pit, St.w_away, St.w_mn, St.w_fc, St.w_fl, St.w_fo, St.w_n, St.w_ring, St.w_nh, St.w_hs, St.w_nb, St.w_bo, St.w_course, St.a_ring, St.a_house, St.a_bore])) (by simp only [cr0, St.kinds, St.refs, St.depths, St.waters, St.bR, St.bU, St.wears, St.order, St.waits, St.hR, St.hU, St.oR, St.oU, St.press, St.foam, St.pR, St.pU, St.seg, St.pit, St.away, St.mn, St.fc, St.fl, St.fo, St.n, St.ring, St.nh, St.hs, St.nb, St.bo, St.w_kinds, St.w_refs, St.w_depths, St.w_waters, St.w_bR, St.w_bU, St.w_wears, St.w_order, St.w_waits, St.w_hR, St.w_hU, St.w_oR, St.w_oU, St.w_press, St.w_foam, St.w_pR, St.w_pU, St.w_seg, St.w_pit, St.w_away, St.w_mn, St.w_fc, St.w_fl, St.w_fo, St.w_n, St.w_ring, St.w_nh, St.w_hs, St.w_nb, St.w_bo, St.w_course, St.a_ring, St.a_house, St.a_bore]) hr
  · exact fI_cg (σ := σ) (by simp only [cr0, St.kinds, St.refs, St.depths, St.waters, St.bR, St.bU, St.wears, St.order, St.waits, St.hR, St.hU, St.oR, St.oU, St.press, St.foam, St.pR, St.pU, St.seg, St.pit, St.away, St.mn, St.fc, St.fl, St.fo, St.n, St.ring, St.nh, St.hs, St.nb, St.bo, St.w_kinds, St.w_refs, St.w_depths, St.w_waters, St.w_bR, St.w_bU, St.w_wears, St.w_order, St.w_waits, St.w_hR, St.w_hU, St.w_oR, St.w_oU, St.w_press, St.w_foam, St.w_pR, St.w_pU, St.w_seg, St.w_pit, St.w_away, St.w_mn, St.w_fc, St.w_fl, St.w_fo, St.w_n, St.w_ring, St.w_nh, St.w_hs, St.w_nb, St.w_bo, St.w_course, St.a_ring, St.a_house, St.a_bore]) (by simp only [cr0, St.kinds, St.refs, St.depths, St.waters, St.bR, St.bU, St.wears, St.order, St.waits, St.hR, St.hU, St.oR, St.oU, St.press, St.foam, St.pR, St.pU, St.seg, St.pit, St.away, St.mn, St.fc, St.fl, St.fo, St.n, St.ring, St.nh, St.hs, St.nb, St.bo, St.w_kinds, St.w_refs, St.w_depths, St.w_waters, St.w_bR, St.w_bU, St.w_wears, St.w_order, St.w_waits, St.w_hR, St.w_hU, St.w_oR, St.w_oU, St.w_press, St.w_foam, St.w_pR, St.w_pU, St.w_seg, St.w_pit, St.w_away, St.w_mn, St.w_fc, St.w_fl, St.w_fo, St.w_n, St.w_ring, St.w_nh, St.w_hs, St.w_nb, St.w_bo, St.w_course, St.a_ring, St.a_house, St.a_bore]) hf
  · exact hI_up (σ := σ) (by simp only [St.kinds, St.refs, St.depths, St.waters, St.bR, St.bU, St.wears, St.order, St.waits, St.hR, St.hU, St.oR, St.oU, St.press, St.foam, St.pR, St.pU, St.seg, St.pit, St.away, St.mn, St.fc, St.fl, St.fo, St.n, St.ring, St.nh, St.hs, St.nb, St.bo, St.w_kinds, St.w_refs, St.w_depths, St.w_waters, St.w_bR, St.w_bU, St.w_wears, St.w_order, St.w_waits, St.w_hR, St.w_hU, St.w_oR, St.w_oU, St.w_press, St.w_foam, St.w_pR, St.w_pU, St.w_seg, St.w_pit, St.w_away, St.w_mn, St.w_fc, St.w_fl, St.w_fo, St.w_n, St.w_ring, St.w_nh, St.w_hs, St.w_nb, St.w_bo, St.w_course, St.a_ring, St.a_house, St.a_bore]) (show _ = upT σ.hs r9.toNatClampNeg r by simp only [St.kinds, St.refs, St.depths, St.waters, St.bR, St.bU, St.wears, St.order, St.waits, St.hR, St.hU, St.oR, St.oU, St.press, St.foam, St.pR, St.pU, St.seg, St.pit, St.away, St.mn, St.fc, St.fl, St.fo, St.n, St.ring, St.nh, St.hs, St.nb, St.bo, St.w_kinds, St.w_refs, St.w_depths, St.w_waters, St.w_bR, St.w_bU, St.w_wears, St.w_order, St.w_waits, St.w_hR, St.w_hU, St.w_oR, St.w_oU, St.w_press, St.w_foam, St.w_pR, St.w_pU, St.w_seg, St.w_pit, St.w_away, St.w_mn, St.w_fc, St.w_fl, St.w_fo, St.w_n, St.w_ring, St.w_nh, St.w_hs, St.w_nb, St.w_bo, St.w_course, St.a_ring, St.a_house, St.a_bore]) e2 e3 e4 hh
  · exact oI_cg (σ := σ) (by simp only [cr0, St.kinds, St.refs, St.depths, St.waters, St.bR, St.bU, St.wears, St.order, St.waits, St.hR, St.hU, St.oR, St.oU, St.press, St.foam, St.pR, St.pU, St.seg, St.pit, St.away, St.mn, St.fc, St.fl, St.fo, St.n, St.ring, St.nh, St.hs, St.nb, St.bo, St.w_kinds, St.w_refs, St.w_depths, St.w_waters, St.w_bR, St.w_bU, St.w_wears, St.w_order, St.w_waits, St.w_hR, St.w_hU, St.w_oR, St.w_oU, St.w_press, St.w_foam, St.w_pR, St.w_pU, St.w_seg, St.w_pit, St.w_away, St.w_mn, St.w_fc, St.w_fl, St.w_fo, St.w_n, St.w_ring, St.w_nh, St.w_hs, St.w_nb, St.w_bo, St.w_course, St.a_ring, St.a_house, St.a_bore]) (by simp only [cr0, St.kinds, St.refs, St.depths, St.waters, St.bR, St.bU, St.wears, St.order, St.waits, St.hR, St.hU, St.oR, St.oU, St.press, St.foam, St.pR, St.pU, St.seg, St.pit, St.away, St.mn, St.fc, St.fl, St.fo, St.n, St.ring, St.nh, St.hs, St.nb, St.bo, St.w_kinds, St.w_refs, St.w_depths, St.w_waters, St.w_bR, St.w_bU, St.w_wears, St.w_order, St.w_waits, St.w_hR, St.w_hU, St.w_oR, St.w_oU, St.w_press, St.w_foam, St.w_pR, St.w_pU, St.w_seg, St.w_pit, St.w_away, St.w_mn, St.w_fc, St.w_fl, St.w_fo, St.w_n, St.w_ring, St.w_nh, St.w_hs, St.w_nb, St.w_bo, St.w_course, St.a_ring, St.a_house, St.a_bore]) ho
  · exact mI_cg (σ := σ) (by simp only [cr0, St.kinds, St.refs, St.depths, St.waters, St.bR, St.bU, St.wears, St.order, St.waits, St.hR, St.hU, St.oR, St.oU, St.press, St.foam, St.pR, St.pU, St.seg, St.pit, St.away, St.mn, St.fc, St.fl, St.fo, St.n, St.ring, St.nh, St.hs, St.nb, St.bo, St.w_kinds, St.w_refs, St.w_depths, St.w_waters, St.w_bR, St.w_bU, St.w_wears, St.w_order, St.w_waits, St.w_hR, St.w_hU, St.w_oR, St.w_oU, St.w_press, St.w_foam, St.w_pR, St.w_pU, St.w_seg, St.w_pit, St.w_away, St.w_mn, St.w_fc, St.w_fl, St.w_fo, St.w_n, St.w_ring, St.w_nh, St.w_hs, St.w_nb, St.w_bo, St.w_course, St.a_ring, St.a_house, St.a_bore]) (rsm_all (by simp only [cr0, St.kinds, St.refs, St.depths, St.waters, St.bR, St.bU, St.wears, St.order, St.waits, St.hR, St.hU, St.oR, St.oU, St.press, St.foam, St.pR, St.pU, St.seg, St.pit, St.away, St.mn, St.fc, St.fl, St.fo, St.n, St.ring, St.nh, St.hs, St.nb, St.bo, St.w_kinds, St.w_refs, St.w_depths, St.w_waters, St.w_bR, St.w_bU, St.w_wears, St.w_order, St.w_waits, St.w_hR, St.w_hU, St.w_oR, St.w_oU, St.w_press, St.w_foam, St.w_pR, St.w_pU, St.w_seg, St.w_pit, St.w_away, St.w_mn, St.w_fc, St.w_fl, St.w_fo, St.w_n, St.w_ring, St.w_nh, St.w_hs, St.w_nb, St.w_bo, St.w_course, St.a_ring, St.a_house, St.a_bore])) (by simp only [cr0, St.kinds, St.refs, St.depths, St.waters, St.bR, St.bU, St.wears, St.order, St.waits, St.hR, St.hU, St.oR, St.oU, St.press, St.foam, St.pR, St.pU, St.seg, St.pit, St.away, St.mn, St.fc, St.fl, St.fo, St.n, St.ring, St.nh, St.hs, St.nb, St.bo, St.w_kinds, St.w_refs, St.w_depths, St.w_waters, St.w_bR, St.w_bU, St.w_wears, St.w_order, St.w_waits, St.w_hR, St.w_hU, St.w_oR, St.w_oU, St.w_press, St.w_foam, St.w_pR, St.w_pU, St.w_seg, St.w_pit, St.w_away, St.w_mn, St.w_fc, St.w_fl, St.w_fo, St.w_n, St.w_ring, St.w_nh, St.w_hs, St.w_nb, St.w_bo, St.w_course, St.a_ring, St.a_house, St.a_bore]) (by simp only [cr0, St.kinds, St.refs, St.depths, St.waters, St.bR, St.bU, St.wears, St.order, St.waits, St.hR, St.hU, St.oR, St.oU, St.press, St.foam, St.pR, St.pU, St.seg, St.pit, St.away, St.mn, St.fc, St.fl, St.fo, St.n, St.ring, St.nh, St.hs, St.nb, St.bo, St.w_kinds, St.w_refs, St.w_depths, St.w_waters, St.w_bR, St.w_bU, St.w_wears, St.w_order, St.w_waits, St.w_hR, St.w_hU, St.w_oR, St.w_oU, St.w_press, St.w_foam, St.w_pR, St.w_pU, St.w_seg, St.w_pit, St.w_away, St.w_mn, St.w_fc, St.w_fl, St.w_fo, St.w_n, St.w_ring, St.w_nh, St.w_hs, St.w_nb, St.w_bo, St.w_course, St.a_ring, St.a_house, St.a_bore]) hm
  · exact sI_cg (σ := σ) (by simp only [cr0, St.kinds, St.refs, St.depths, St.waters, St.bR, St.bU, St.wears, St.order, St.waits, St.hR, St.hU, St.oR, St.oU, St.press, St.foam, St.pR, St.pU, St.seg, St.pit, St.away, St.mn, St.fc, St.fl, St.fo, St.n, St.ring, St.nh, St.hs, St.nb, St.bo, St.w_kinds, St.w_refs, St.w_depths, St.w_waters, St.w_bR, St.w_bU, St.w_wears, St.w_order, St.w_waits, St.w_hR, St.w_hU, St.w_oR, St.w_oU, St.w_press, St.w_foam, St.w_pR, St.w_pU, St.w_seg, St.w_pit, St.w_away, St.w_mn, St.w_fc, St.w_fl, St.w_fo, St.w_n, St.w_ring, St.w_nh, St.w_hs, St.w_nb, St.w_bo, St.w_course, St.a_ring, St.a_house, St.a_bore]) hs
  · obtain ⟨m1, m2⟩ := hc
    refine ⟨clk m1 ⟨by decide, by decide⟩ c3, ?_⟩
    rw [mrF_cg (σ := σ) (N := σ.n) (rsm_all (by simp only [St.kinds, St.refs, St.depths, St.waters, St.bR, St.bU, St.wears, St.order, St.waits, St.hR, St.hU, St.oR, St.oU, St.press, St.foam, St.pR, St.pU, St.seg, St.pit, St.away, St.mn, St.fc, St.fl, St.fo, St.n, St.ring, St.nh, St.hs, St.nb, St.bo, St.w_kinds, St.w_refs, St.w_depths, St.w_waters, St.w_bR, St.w_bU, St.w_wears, St.w_order, St.w_waits, St.w_hR, St.w_hU, St.w_oR, St.w_oU, St.w_press, St.w_foam, St.w_pR, St.w_pU, St.w_seg, St.w_pit, St.w_away, St.w_mn, St.w_fc, St.w_fl, St.w_fo, St.w_n, St.w_ring, St.w_nh, St.w_hs, St.w_nb, St.w_bo, St.w_course, St.a_ring, St.a_house, St.a_bore])) _ (by simp only [St.kinds, St.refs, St.depths, St.waters, St.bR, St.bU, St.wears, St.order, St.waits, St.hR, St.hU, St.oR, St.oU, St.press, St.foam, St.pR, St.pU, St.seg, St.pit, St.away, St.mn, St.fc, St.fl, St.fo, St.n, St.ring, St.nh, St.hs, St.nb, St.bo, St.w_kinds, St.w_refs, St.w_depths, St.w_waters, St.w_bR, St.w_bU, St.w_wears, St.w_order, St.w_waits, St.w_hR, St.w_hU, St.w_oR, St.w_oU, St.w_press, St.w_foam, St.w_pR, St.w_pU, St.w_seg, St.w_pit, St.w_away, St.w_mn, St.w_fc, St.w_fl, St.w_fo, St.w_n, St.w_ring, St.w_nh, St.w_hs, St.w_nb, St.w_bo, St.w_course, St.a_ring, St.a_house, St.a_bore]; exact Nat.le_refl _)]
    simp only [St.kinds, St.refs, St.depths, St.waters, St.bR, St.bU, St.wears, St.order, St.waits, St.hR, St.hU, St.oR, St.oU, St.press, St.foam, St.pR, St.pU, St.seg, St.pit, St.away, St.mn, St.fc, St.fl, St.fo, St.n, St.ring, St.nh, St.hs, St.nb, St.bo, St.w_kinds, St.w_refs, St.w_depths, St.w_waters, St.w_bR, St.w_bU, St.w_wears, St.w_order, St.w_waits, St.w_hR, St.w_hU, St.w_oR, St.w_oU, St.w_press, St.w_foam, St.w_pR, St.w_pU, St.w_seg, St.w_pit, St.w_away, St.w_mn, St.w_fc, St.w_fl, St.w_fo, St.w_n, St.w_ring, St.w_nh, St.w_hs, St.w_nb, St.w_bo, St.w_course, St.a_ring, St.a_house, St.a_bore] at m2 ⊢
    rw [m2]
    ac_rfl
  · exact qI_cg (σ := σ) (by simp only [cr0, St.kinds, St.refs, St.depths, St.waters, St.bR, St.bU, St.wears, St.order, St.waits, St.hR, St.hU, St.oR, St.oU, St.press, St.foam, St.pR, St.pU, St.seg, St.pit, St.away, St.mn, St.fc, St.fl, St.fo, St.n, St.ring, St.nh, St.hs, St.nb, St.bo, St.w_kinds, St.w_refs, St.w_depths, St.w_waters, St.w_bR, St.w_bU, St.w_wears, St.w_order, St.w_waits, St.w_hR, St.w_hU, St.w_oR, St.w_oU, St.w_press, St.w_foam, St.w_pR, St.w_pU, St.w_seg, St.w_pit, St.w_away, St.w_mn, St.w_fc, St.w_fl, St.w_fo, St.w_n, St.w_ring, St.w_nh, St.w_hs, St.w_nb, St.w_bo, St.w_course, St.a_ring, St.a_house, St.a_bore]) hq
theorem Inv.m_change {σ : St} (h : Inv σ) {c9 : Int32} (h0 : cd_change σ c9 = 0) : Inv (nx_change σ c9) := by
  obtain ⟨hg, hp, hr, hf, hh, ho, hm, hs, hc, hq⟩ := h
  unfold cd_change at h0
  obtain ⟨c1, h0⟩ := if_0 h0 (by decide)
  obtain ⟨c2, h0⟩ := if_1 h0 (by decide)
  obtain ⟨c3, -⟩ := if_0 h0 (by decide)
  unfold nx_change
  have hv : ∀ v : Int32, v = (if atF 200 σ.waters (nI σ.n) ≤ 10 then 20 else if atF 200 σ.waters (nI σ.n) ≤ 20 then 50 else if atF 200 σ.waters (nI σ.n) ≤ 30 then 80 else 140) → 0 ≤ v.toInt ∧ v.toInt ≤ 99999 := by
    intro v hv
    rw [hv]
    (repeat' split) <;> decide
  generalize (if atF 200 σ.waters (nI σ.n) ≤ 10 then (20 : Int32) else if atF 200 σ.waters (nI σ.n) ≤ 20 then 50 else if atF 200 σ.waters (nI σ.n) ≤ 30 then 80 else 140) = v at hv c3 ⊢
  have hv := hv v rfl
  refine ⟨?_, ?_, ?_, ?_, ?_, ?_, ?_, ?_, ?_, ?_⟩
  · exact gI_cg (σ := σ) (by simp only [cr0, St.kinds, St.refs, St.depths, St.waters, St.bR, St.bU, St.wears, St.order, St.waits, St.hR, St.hU, St.oR, St.oU, St.press, St.foam, St.pR, St.pU, St.seg, St.pit, St.away, St.mn, St.fc, St.fl, St.fo, St.n, St.ring, St.nh, St.hs, St.nb, St.bo, St.w_kinds, St.w_refs, St.w_depths, St.w_waters, St.w_bR, St.w_bU, St.w_wears, St.w_order, St.w_waits, St.w_hR, St.w_hU, St.w_oR, St.w_oU, St.w_press, St.w_foam, St.w_pR, St.w_pU, St.w_seg, St.w_pit, St.w_away, St.w_mn, St.w_fc, St.w_fl, St.w_fo, St.w_n, St.w_ring, St.w_nh, St.w_hs, St.w_nb, St.w_bo, St.w_course, St.a_ring, St.a_house, St.a_bore]) (by simp only [cr0, St.kinds, St.refs, St.depths, St.waters, St.bR, St.bU, St.wears, St.order, St.waits, St.hR, St.hU, St.oR, St.oU, St.press, St.foam, St.pR, St.pU, St.seg, St.pit, St.away, St.mn, St.fc, St.fl, St.fo, St.n, St.ring, St.nh, St.hs, St.nb, St.bo, St.w_kinds, St.w_refs, St.w_depths, St.w_waters, St.w_bR, St.w_bU, St.w_wears, St.w_order, St.w_waits, St.w_hR, St.w_hU, St.w_oR, St.w_oU, St.w_press, St.w_foam, St.w_pR, St.w_pU, St.w_seg, St.w_pit, St.w_away, St.w_mn, St.w_fc, St.w_fl, St.w_fo, St.w_n, St.w_ring, St.w_nh, St.w_hs, St.w_nb, St.w_bo, St.w_course, St.a_ring, St.a_house, St.a_bore]) (by simp only [cr0, St.kinds, St.refs, St.depths, St.waters, St.bR, St.bU, St.wears, St.order, St.waits, St.hR, St.hU, St.oR, St.oU, St.press, St.foam, St.pR, St.pU, St.seg, St.pit, St.away, St.mn, St.fc, St.fl, St.fo, St.n, St.ring, St.nh, St.hs, St.nb, St.bo, St.w_kinds, St.w_refs, St.w_depths, St.w_waters, St.w_bR, St.w_bU, St.w_wears, St.w_order, St.w_waits, St.w_hR, St.w_hU, St.w_oR, St.w_oU, St.w_press, St.w_foam, St.w_pR, St.w_pU, St.w_seg, St.w_pit, St.w_away, St.w_mn, St.w_fc, St.w_fl, St.w_fo, St.w_n, St.w_ring, St.w_nh, St.w_hs, St.w_nb, St.w_bo, St.w_course, St.a_ring, St.a_house, St.a_bore]) (by simp only [cr0, St.kinds, St.refs, St.depths, St.waters, St.bR, St.bU, St.wears, St.order, St.waits, St.hR, St.hU, St.oR, St.oU, St.press, St.foam, St.pR, St.pU, St.seg, St.pit, St.away, St.mn, St.fc, St.fl, St.fo, St.n, St.ring, St.nh, St.hs, St.nb, St.bo, St.w_kinds, St.w_refs, St.w_depths, St.w_waters, St.w_bR, St.w_bU, St.w_wears, St.w_order, St.w_waits, St.w_hR, St.w_hU, St.w_oR, St.w_oU, St.w_press, St.w_foam, St.w_pR, St.w_pU, St.w_seg, St.w_pit, St.w_away, St.w_mn, St.w_fc, St.w_fl, St.w_fo, St.w_n, St.w_ring, St.w_nh, St.w_hs, St.w_nb, St.w_bo, St.w_course, St.a_ring, St.a_house, St.a_bore]) (by simp only [cr0, St.kinds, St.refs, St.depths, St.waters, St.bR, St.bU, St.wears, St.order, St.waits, St.hR, St.hU, St.oR, St.oU, St.press, St.foam, St.pR, St.pU, St.seg, St.pit, St.away, St.mn, St.fc, St.fl, St.fo, St.n, St.ring, St.nh, St.hs, St.nb, St.bo, St.w_kinds, St.w_refs, St.w_depths, St.w_waters, St.w_bR, St.w_bU, St.w_wears, St.w_order, St.w_waits, St.w_hR, St.w_hU, St.w_oR, St.w_oU, St.w_press, St.w_foam, St.w_pR, St.w_pU, St.w_seg, St.w_pit, St.w_away, St.w_mn, St.w_fc, St.w_fl, St.w_fo, St.w_n, St.w_ring, St.w_nh, St.w_hs, St.w_nb, St.w_bo, St.w_course, St.a_ring, St.a_house, St.a_bore]) hg
  · exact pI_cg (σ := σ) (by simp only [cr0, St.kinds, St.refs, St.depths, St.waters, St.bR, St.bU, St.wears, St.order, St.waits, St.hR, St.hU, St.oR, St.oU, St.press, St.foam, St.pR, St.pU, St.seg, St.pit, St.away, St.mn, St.fc, St.fl, St.fo, St.n, St.ring, St.nh, St.hs, St.nb, St.bo, St.w_kinds, St.w_refs, St.w_depths, St.w_waters, St.w_bR, St.w_bU, St.w_wears, St.w_order, St.w_waits, St.w_hR, St.w_hU, St.w_oR, St.w_oU, St.w_press, St.w_foam, St.w_pR, St.w_pU, St.w_seg, St.w_pit, St.w_away, St.w_mn, St.w_fc, St.w_fl, St.w_fo, St.w_n, St.w_ring, St.w_nh, St.w_hs, St.w_nb, St.w_bo, St.w_course, St.a_ring, St.a_house, St.a_bore]) (by simp only [cr0, St.kinds, St.refs, St.depths, St.waters, St.bR, St.bU, St.wears, St.order, St.waits, St.hR, St.hU, St.oR, St.oU, St.press, St.foam, St.pR, St.pU, St.seg, St.pit, St.away, St.mn, St.fc, St.fl, St.fo, St.n, St.ring, St.nh, St.hs, St.nb, St.bo, St.w_kinds, St.w_refs, St.w_depths, St.w_waters, St.w_bR, St.w_bU, St.w_wears, St.w_order, St.w_waits, St.w_hR, St.w_hU, St.w_oR, St.w_oU, St.w_press, St.w_foam, St.w_pR, St.w_pU, St.w_seg, St.w_pit, St.w_away, St.w_mn, St.w_fc, St.w_fl, St.w_fo, St.w_n, St.w_ring, St.w_nh, St.w_hs, St.w_nb, St.w_bo, St.w_course, St.a_ring, St.a_house, St.a_bore]) hp
  · exact rI_cg (σ := σ) (by simp only [cr0, St.kinds, St.refs, St.depths, St.waters, St.bR, St.bU, St.wears, St.order, St.waits, St.hR, St.hU, St.oR, St.oU, St.press, St.foam, St.pR, St.pU, St.seg, St.pit, St.away, St.mn, St.fc, St.fl, St.fo, St.n, St.ring, St.nh, St.hs, St.nb, St.bo, St.w_kinds, St.w_refs, St.w_depths, St.w_waters, St.w_bR, St.w_bU, St.w_wears, St.w_order, St.w_waits, St.w_hR, St.w_hU, St.w_oR, St.w_oU, St.w_press, St.w_foam, St.w_pR, St.w_pU, St.w_seg, St.w_pit, St.w_away, St.w_mn, St.w_fc, St.w_fl, St.w_fo, St.w_n, St.w_ring, St.w_nh, St.w_hs, St.w_nb, St.w_bo, St.w_course, St.a_ring, St.a_house, St.a_bore]) (rsm_all (by simp only [cr0, St.kinds, St.refs, St.depths, St.waters, St.bR, St.bU, St.wears, St.order, St.waits, St.hR, St.hU, St.oR, St.oU, St.press, St.foam, St.pR, St.pU, St.seg, St.pit, St.away, St.mn, St.fc, St.fl, St.fo, St.n, St.ring, St.nh, St.hs, St.nb, St.bo, St.w_kinds, St.w_refs, St.w_depths, St.w_waters, St.w_bR, St.w_bU, St.w_wears, St.w_order, St.w_waits, St.w_hR, St.w_hU, St.w_oR, St.w_oU, St.w_press, St.w_foam, St.w_pR, St.w_pU, St.w_seg, St.w_pit, St.w_away, St.w_mn, St.w_fc, St.w_fl, St.w_fo, St.w_n, St.w_ring, St.w_nh, St.w_hs, St.w_nb, St.w_bo, St.w_course, St.a_ring, St.a_house, St.a_bore])) (gnd_all (by simp only [cr0, St.kinds, St.refs, St.depths, St.waters, St.bR, St.bU, St.wears, St.order, St.waits, St.hR, St.hU, St.oR, St.oU, St.press, St.foam, St.pR, St.pU, St.seg, St.pit, St.away, St.mn, St.fc, St.fl, St.fo, St.n, St.ring, St.nh, St.hs, St.nb, St.bo, St.w_kinds, St.w_refs, St.w_depths, St.w_waters, St.w_bR, St.w_bU, St.w_wears, St.w_order, St.w_waits, St.w_hR, St.w_hU, St.w_oR, St.w_oU, St.w_press, St.w_foam, St.w_pR, St.w_pU, St.w_seg, St.w_pit, St.w_away, St.w_mn, St.w_fc, St.w_fl, St.w_fo, St.w_n, St.w_ring, St.w_nh, St.w_hs, St.w_nb, St.w_bo, St.w_course, St.a_ring, St.a_house, St.a_bore]) (by simp only [cr0, St.kinds, St.refs, St.depths, St.waters, St.bR, St.bU, St.wears, St.order, St.waits, St.hR, St.hU, St.oR, St.oU, St.press, St.foam, St.pR, St.pU, St.seg, St.pit, St.away, St.mn, St.fc, St.fl, St.fo, St.n, St.ring, St.nh, St.hs, St.nb, St.bo, St.w_kinds, St.w_refs, St.w_depths, St.w_waters, St.w_bR, St.w_bU, St.w_wears, St.w_order, St.w_waits, St.w_hR, St.w_hU, St.w_oR, St.w_oU, St.w_press, St.w_foam, St.w_pR, St.w_pU, St.w_seg, St.w_pit, St.w_away, St.w_mn, St.w_fc, St.w_fl, St.w_fo, St.w_n, St.w_ring, St.w_nh, St.w_hs, St.w_nb, St.w_bo, St.w_course, St.a_ring, St.a_house, St.a_bore]) (by simp only [cr0, St.kinds, St.refs, St.depths, St.waters, St.bR, St.bU, St.wears, St.order, St.waits, St.hR, St.hU, St.oR, St.oU, St.press, St.foam, St.pR, St.pU, St.seg, St.pit, St.away, St.mn, St.fc, St.fl, St.fo, St.n, St.ring, St.nh, St.hs, St.nb, St.bo, St.w_kinds, St.w_refs, St.w_depths, St.w_waters, St.w_bR, St.w_bU, St.w_wears, St.w_order, St.w_waits, St.w_hR, St.w_hU, St.w_oR, St.w_oU, St.w_press, St.w_foam, St.w_pR, St.w_pU, St.w_seg, St.w_pit, St.w_away, St.w_mn, St.w_fc, St.w_fl, St.w_fo, St.w_n, St.w_ring, St.w_nh, St.w_hs, St.w_nb, St.w_bo, St.w_course, St.a_ring, St.a_house, St.a_bore]) (by simp only [cr0, St.kinds, St.refs, St.depths, St.waters, St.bR, St.bU, St.wears, St.order, St.waits, St.hR, St.hU, St.oR, St.oU, St.press, St.foam, St.pR, St.pU, St.seg, St.pit, St.away, St.mn, St.fc, St.fl, St.fo, St.n, St.ring, St.nh, St.hs, St.nb, St.bo, St.w_kinds, St.w_refs, St.w_depths, St.w_waters, St.w_bR, St.w_bU, St.w_wears, St.w_order, St.w_waits, St.w_hR, St.w_hU, St.w_oR, St.w_oU, St.w_press, St.w_foam, St.w_pR, St.w_pU, St.w_seg, St.w_pit, St.w_away, St.w_mn, St.w_fc, St.w_fl, St.w_fo, St.w_n, St.w_ring, St.w_nh, St.w_hs, St.w_nb, St.w_bo, St.w_course, St.a_ring, St.a_house, St.a_bore])) (by simp only [cr0, St.kinds, St.refs, St.depths, St.waters, St.bR, St.bU, St.wears, St.order, St.waits, St.hR, St.hU, St.oR, St.oU, St.press, St.foam, St.pR, St.pU, St.seg, St.pit, St.away, St.mn, St.fc, St.fl, St.fo, St.n, St.ring, St.nh, St.hs, St.nb, St.bo, St.w_kinds, St.w_refs, St.w_depths, St.w_waters, St.w_bR, St.w_bU, St.w_wears, St.w_order, St.w_waits, St.w_hR, St.w_hU, St.w_oR, St.w_oU, St.w_press, St.w_foam, St.w_pR, St.w_pU, St.w_seg, St.w_pit, St.w_away, St.w_mn, St.w_fc, St.w_fl, St.w_fo, St.w_n, St.w_ring, St.w_nh, St.w_hs, St.w_nb, St.w_bo, St.w_course, St.a_ring, St.a_house, St.a_bore]) hr
  · exact fI_cg (σ := σ) (by simp only [cr0, St.kinds, St.refs, St.depths, St.waters, St.bR, St.bU, St.wears, St.order, St.waits, St.hR, St.hU, St.oR, St.oU, St.press, St.foam, St.pR, St.pU, St.seg, St.pit, St.away, St.mn, St.fc, St.fl, St.fo, St.n, St.ring, St.nh, St.hs, St.nb, St.bo, St.w_kinds, St.w_refs, St.w_depths, St.w_waters, St.w_bR, St.w_bU, St.w_wears, St.w_order, St.w_waits, St.w_hR, St.w_hU, St.w_oR, St.w_oU, St.w_press, St.w_foam, St.w_pR, St.w_pU, St.w_seg, St.w_pit, St.w_away, St.w_mn, St.w_fc, St.w_fl, St.w_fo, St.w_n, St.w_ring, St.w_nh, St.w_hs, St.w_nb, St.w_bo, St.w_course, St.a_ring, St.a_house, St.a_bore]) (by simp only [cr0, St.kinds, St.refs, St.depths, St.waters, St.bR, St.bU, St.wears, St.order, St.waits, St.hR, St.hU, St.oR, St.oU, St.press, St.foam, St.pR, St.pU, St.seg, St.pit, St.away, St.mn, St.fc, St.fl, St.fo, St.n, St.ring, St.nh, St.hs, St.nb, St.bo, St.w_kinds, St.w_refs, St.w_depths, St.w_waters, St.w_bR, St.w_bU, St.w_wears, St.w_order, St.w_waits, St.w_hR, St.w_hU, St.w_oR, St.w_oU, St.w_press, St.w_foam, St.w_pR, St.w_pU, St.w_seg, St.w_pit, St.w_away, St.w_mn, St.w_fc, St.w_fl, St.w_fo, St.w_n, St.w_ring, St.w_nh, St.w_hs, St.w_nb, St.w_bo, St.w_course, St.a_ring, St.a_house, St.a_bore]) hf
  · exact hI_cg (σ := σ) (by simp only [cr0, St.kinds, St.refs, St.depths, St.waters, St.bR, St.bU, St.wears, St.order, St.waits, St.hR, St.hU, St.oR, St.oU, St.press, St.foam, St.pR, St.pU, St.seg, St.pit, St.away, St.mn, St.fc, St.fl, St.fo, St.n, St.ring, St.nh, St.hs, St.nb, St.bo, St.w_kinds, St.w_refs, St.w_depths, St.w_waters, St.w_bR, St.w_bU, St.w_wears, St.w_order, St.w_waits, St.w_hR, St.w_hU, St.w_oR, St.w_oU, St.w_press, St.w_foam, St.w_pR, St.w_pU, St.w_seg, St.w_pit, St.w_away, St.w_mn, St.w_fc, St.w_fl, St.w_fo, St.w_n, St.w_ring, St.w_nh, St.w_hs, St.w_nb, St.w_bo, St.w_course, St.a_ring, St.a_house, St.a_bore]) (by simp only [cr0, St.kinds, St.refs, St.depths, St.waters, St.bR, St.bU, St.wears, St.order, St.waits, St.hR, St.hU, St.oR, St.oU, St.press, St.foam, St.pR, St.pU, St.seg, St.pit, St.away, St.mn, St.fc, St.fl, St.fo, St.n, St.ring, St.nh, St.hs, St.nb, St.bo, St.w_kinds, St.w_refs, St.w_depths, St.w_waters, St.w_bR, St.w_bU, St.w_wears, St.w_order, St.w_waits, St.w_hR, St.w_hU, St.w_oR, St.w_oU, St.w_press, St.w_foam, St.w_pR, St.w_pU, St.w_seg, St.w_pit, St.w_away, St.w_mn, St.w_fc, St.w_fl, St.w_fo, St.w_n, St.w_ring, St.w_nh, St.w_hs, St.w_nb, St.w_bo, St.w_course, St.a_ring, St.a_house, St.a_bore]) hh
  · exact oI_cg (σ := σ) (by simp only [cr0, St.kinds, St.refs, St.depths, St.waters, St.bR, St.bU, St.wears, St.order, St.waits, St.hR, St.hU, St.oR, St.oU, St.press, St.foam, St.pR, St.pU, St.seg, St.pit, St.away, St.mn, St.fc, St.fl, St.fo, St.n, St.ring, St.nh, St.hs, St.nb, St.bo, St.w_kinds, St.w_refs, St.w_depths, St.w_waters, St.w_bR, St.w_bU, St.w_wears, St.w_order, St.w_waits, St.w_hR, St.w_hU, St.w_oR, St.w_oU, St.w_press, St.w_foam, St.w_pR, St.w_pU, St.w_seg, St.w_pit, St.w_away, St.w_mn, St.w_fc, St.w_fl, St.w_fo, St.w_n, St.w_ring, St.w_nh, St.w_hs, St.w_nb, St.w_bo, St.w_course, St.a_ring, St.a_house, St.a_bore]) (by simp only [cr0, St.kinds, St.refs, St.depths, St.waters, St.bR, St.bU, St.wears, St.order, St.waits, St.hR, St.hU, St.oR, St.oU, St.press, St.foam, St.pR, St.pU, St.seg, St.pit, St.away, St.mn, St.fc, St.fl, St.fo, St.n, St.ring, St.nh, St.hs, St.nb, St.bo, St.w_kinds, St.w_refs, St.w_depths, St.w_waters, St.w_bR, St.w_bU, St.w_wears, St.w_order, St.w_waits, St.w_hR, St.w_hU, St.w_oR, St.w_oU, St.w_press, St.w_foam, St.w_pR, St.w_pU, St.w_seg, St.w_pit, St.w_away, St.w_mn, St.w_fc, St.w_fl, St.w_fo, St.w_n, St.w_ring, St.w_nh, St.w_hs, St.w_nb, St.w_bo, St.w_course, St.a_ring, St.a_house, St.a_bore]) ho
  · exact mI_cg (σ := σ) (by simp only [cr0, St.kinds, St.refs, St.depths, St.waters, St.bR, St.bU, St.wears, St.order, St.waits, St.hR, St.hU, St.oR, St.oU, St.press, St.foam, St.pR, St.pU, St.seg, St.pit, St.away, St.mn, St.fc, St.fl, St.fo, St.n, St.ring, St.nh, St.hs, St.nb, St.bo, St.w_kinds, St.w_refs, St.w_depths, St.w_waters, St.w_bR, St.w_bU, St.w_wears, St.w_order, St.w_waits, St.w_hR, St.w_hU, St.w_oR, St.w_oU, St.w_press, St.w_foam, St.w_pR, St.w_pU, St.w_seg, St.w_pit, St.w_away, St.w_mn, St.w_fc, St.w_fl, St.w_fo, St.w_n, St.w_ring, St.w_nh, St.w_hs, St.w_nb, St.w_bo, St.w_course, St.a_ring, St.a_house, St.a_bore]) (rsm_all (by simp only [cr0, St.kinds, St.refs, St.depths, St.waters, St.bR, St.bU, St.wears, St.order, St.waits, St.hR, St.hU, St.oR, St.oU, St.press, St.foam, St.pR, St.pU, St.seg, St.pit, St.away, St.mn, St.fc, St.fl, St.fo, St.n, St.ring, St.nh, St.hs, St.nb, St.bo, St.w_kinds, St.w_refs, St.w_depths, St.w_waters, St.w_bR, St.w_bU, St.w_wears, St.w_order, St.w_waits, St.w_hR, St.w_hU, St.w_oR, St.w_oU, St.w_press, St.w_foam, St.w_pR, St.w_pU, St.w_seg, St.w_pit, St.w_away, St.w_mn, St.w_fc, St.w_fl, St.w_fo, St.w_n, St.w_ring, St.w_nh, St.w_hs, St.w_nb, St.w_bo, St.w_course, St.a_ring, St.a_house, St.a_bore])) (by simp only [cr0, St.kinds, St.refs, St.depths, St.waters, St.bR, St.bU, St.wears, St.order, St.waits, St.hR, St.hU, St.oR, St.oU, St.press, St.foam, St.pR, St.pU, St.seg, St.pit, St.away, St.mn, St.fc, St.fl, St.fo, St.n, St.ring, St.nh, St.hs, St.nb, St.bo, St.w_kinds, St.w_refs, St.w_depths, St.w_waters, St.w_bR, St.w_bU, St.w_wears, St.w_order, St.w_waits, St.w_hR, St.w_hU, St.w_oR, St.w_oU, St.w_press, St.w_foam, St.w_pR, St.w_pU, St.w_seg, St.w_pit, St.w_away, St.w_mn, St.w_fc, St.w_fl, St.w_fo, St.w_n, St.w_ring, St.w_nh, St.w_hs, St.w_nb, St.w_bo, St.w_course, St.a_ring, St.a_house, St.a_bore]) (by simp only [cr0, St.kinds, St.refs, St.depths, St.waters, St.bR, St.bU, St.wears, St.order, St.waits, St.hR, St.hU, St.oR, St.oU, St.press, St.foam, St.pR, St.pU, St.seg, St.pit, St.away, St.mn, St.fc, St.fl, St.fo, St.n, St.ring, St.nh, St.hs, St.nb, St.bo, St.w_kinds, St.w_refs, St.w_depths, St.w_waters, St.w_bR, St.w_bU, St.w_wears, St.w_order, St.w_waits, St.w_hR, St.w_hU, St.w_oR, St.w_oU, St.w_press, St.w_foam, St.w_pR, St.w_pU, St.w_seg, St.w_pit, St.w_away, St.w_mn, St.w_fc, St.w_fl, St.w_fo, St.w_n, St.w_ring, St.w_nh, St.w_hs, St.w_nb, St.w_bo, St.w_course, St.a_ring, St.a_house, St.a_bore]) hm
  · exact sI_cg (σ := σ) (by simp only [cr0, St.kinds, St.refs, St.depths, St.waters, St.bR, St.bU, St.wears, St.order, St.waits, St.hR, St.hU, St.oR, St.oU, St.press, St.foam, St.pR, St.pU, St.seg, St.pit, St.away, St.mn, St.fc, St.fl, St.fo, St.n, St.ring, St.nh, St.hs, St.nb, St.bo, St.w_kinds, St.w_refs, St.w_depths, St.w_waters, St.w_bR, St.w_bU, St.w_wears, St.w_order, St.w_waits, St.w_hR, St.w_hU, St.w_oR, St.w_oU, St.w_press, St.w_foam, St.w_pR, St.w_pU, St.w_seg, St.w_pit, St.w_away, St.w_mn, St.w_fc, St.w_fl, St.w_fo, St.w_n, St.w_ring, St.w_nh, St.w_hs, St.w_nb, St.w_bo, St.w_course, St.a_ring, St.a_house, St.a_bore]) hs
  · obtain ⟨m1, m2⟩ := hc
    refine ⟨clk m1 hv c3, ?_⟩
    rw [mrF_cg (σ := σ) (N := σ.n) (rsm_all (by simp only [St.kinds, St.refs, St.depths, St.waters, St.bR, St.bU, St.wears, St.order, St.waits, St.hR, St.hU, St.oR, St.oU, St.press, St.foam, St.pR, St.pU, St.seg, St.pit, St.away, St.mn, St.fc, St.fl, St.fo, St.n, St.ring, St.nh, St.hs, St.nb, St.bo, St.w_kinds, St.w_refs, St.w_depths, St.w_waters, St.w_bR, St.w_bU, St.w_wears, St.w_order, St.w_waits, St.w_hR, St.w_hU, St.w_oR, St.w_oU, St.w_press, St.w_foam, St.w_pR, St.w_pU, St.w_seg, St.w_pit, St.w_away, St.w_mn, St.w_fc, St.w_fl, St.w_fo, St.w_n, St.w_ring, St.w_nh, St.w_hs, St.w_nb, St.w_bo, St.w_course, St.a_ring, St.a_house, St.a_bore])) _ (by simp only [St.kinds, St.refs, St.depths, St.waters, St.bR, St.bU, St.wears, St.order, St.waits, St.hR, St.hU, St.oR, St.oU, St.press, St.foam, St.pR, St.pU, St.seg, St.pit, St.away, St.mn, St.fc, St.fl, St.fo, St.n, St.ring, St.nh, St.hs, St.nb, St.bo, St.w_kinds, St.w_refs, St.w_depths, St.w_waters, St.w_bR, St.w_bU, St.w_wears, St.w_order, St.w_waits, St.w_hR, St.w_hU, St.w_oR, St.w_oU, St.w_press, St.w_foam, St.w_pR, St.w_pU, St.w_seg, St.w_pit, St.w_away, St.w_mn, St.w_fc, St.w_fl, St.w_fo, St.w_n, St.w_ring, St.w_nh, St.w_hs, St.w_nb, St.w_bo, St.w_course, St.a_ring, St.a_house, St.a_bore]; exact Nat.le_refl _)]
    simp only [St.kinds, St.refs, St.depths, St.waters, St.bR, St.bU, St.wears, St.order, St.waits, St.hR, St.hU, St.oR, St.oU, St.press, St.foam, St.pR, St.pU, St.seg, St.pit, St.away, St.mn, St.fc, St.fl, St.fo, St.n, St.ring, St.nh, St.hs, St.nb, St.bo, St.w_kinds, St.w_refs, St.w_depths, St.w_waters, St.w_bR, St.w_bU, St.w_wears, St.w_order, St.w_waits, St.w_hR, St.w_hU, St.w_oR, St.w_oU, St.w_press, St.w_foam, St.w_pR, St.w_pU, St.w_seg, St.w_pit, St.w_away, St.w_mn, St.w_fc, St.w_fl, St.w_fo, St.w_n, St.w_ring, St.w_nh, St.w_hs, St.w_nb, St.w_bo, St.w_course, St.a_ring, St.a_house, St.a_bore] at m2 ⊢
    rw [m2]
    ac_rfl
  · exact qI_cg (σ := σ) (by simp only [cr0, St.kinds, St.refs, St.depths, St.waters, St.bR, St.bU, St.wears, St.order, St.waits, St.hR, St.hU, St.oR, St.oU, St.press, St.foam, St.pR, St.pU, St.seg, St.pit, St.away, St.mn, St.fc, St.fl, St.fo, St.n, St.ring, St.nh, St.hs, St.nb, St.bo, St.w_kinds, St.w_refs, St.w_depths, St.w_waters, St.w_bR, St.w_bU, St.w_wears, St.w_order, St.w_waits, St.w_hR, St.w_hU, St.w_oR, St.w_oU, St.w_press, St.w_foam, St.w_pR, St.w_pU, St.w_seg, St.w_pit, St.w_away, St.w_mn, St.w_fc, St.w_fl, St.w_fo, St.w_n, St.w_ring, St.w_nh, St.w_hs, St.w_nb, St.w_bo, St.w_course, St.a_ring, St.a_house, St.a_bore]) hq
theorem al_up (f : Nat → Int32) (c m : Int32) : alF (upd f (whF c).toNatClampNeg (atF 3 f (whF c) + m)) 3 = alF f 3 + m := by
  have h : whF c = 0 ∨ whF c = 1 ∨ whF c = 2 := by
    unfold whF
    (repeat' split) <;> simp
  rw [(whF_in c).2 f]
  rcases h with h | h | h <;> rw [h]
  · rw [show (0 : Int32).toNatClampNeg = 0 from rfl]
    simp only [alF, upd]
    simp
    ac_rfl
  · rw [show (1 : Int32).toNatClampNeg = 1 from rfl]
    simp only [alF, upd]
    simp
    ac_rfl
  · rw [show (2 : Int32).toNatClampNeg = 2 from rfl]
    simp only [alF, upd]
    simp
    ac_rfl
theorem Inv.m_pause {σ : St} (h : Inv σ) {m9 c9 d9 : Int32} (h0 : cd_pause σ m9 c9 d9 = 0) : Inv (nx_pause σ m9 c9 d9) := by
  obtain ⟨hg, hp, hr, hf, hh, ho, hm, hs, hc, hq⟩ := h
  unfold cd_pause at h0
  obtain ⟨c1, h0⟩ := if_0 h0 (by decide)
  obtain ⟨c2, h0⟩ := if_0 h0 (by decide)
  have c3 : σ.mn + m9 ≤ 99999 := by
    by_cases hd : d9 = 45
    · rw [if_pos hd] at h0
      obtain ⟨-, h0⟩ := if_1 h0 (by decide)
      exact (if_0 h0 (by decide)).1
    · rw [if_neg hd] at h0
      obtain ⟨-, h0⟩ := if_0 h0 (by decide)
      obtain ⟨-, h0⟩ := if_1 h0 (by decide)
      exact (if_0 h0 (by decide)).1
  have c4 := inR_sp c1
  rw [show (1 : Int32).toInt = 1 from rfl, show (1440 : Int32).toInt = 1440 from rfl] at c4
  unfold nx_pause adwF
  refine ⟨?_, ?_, ?_, ?_, ?_, ?_, ?_, ?_, ?_, ?_⟩
  · exact gI_cg (σ := σ) (by simp only [cr0, St.kinds, St.refs, St.depths, St.waters, St.bR, St.bU, St.wears, St.order, St.waits, St.hR, St.hU, St.oR, St.oU, St.press, St.foam, St.pR, St.pU, St.seg, St.pit, St.away, St.mn, St.fc, St.fl, St.fo, St.n, St.ring, St.nh, St.hs, St.nb, St.bo, St.w_kinds, St.w_refs, St.w_depths, St.w_waters, St.w_bR, St.w_bU, St.w_wears, St.w_order, St.w_waits, St.w_hR, St.w_hU, St.w_oR, St.w_oU, St.w_press, St.w_foam, St.w_pR, St.w_pU, St.w_seg, St.w_pit, St.w_away, St.w_mn, St.w_fc, St.w_fl, St.w_fo, St.w_n, St.w_ring, St.w_nh, St.w_hs, St.w_nb, St.w_bo, St.w_course, St.a_ring, St.a_house, St.a_bore]) (by simp only [cr0, St.kinds, St.refs, St.depths, St.waters, St.bR, St.bU, St.wears, St.order, St.waits, St.hR, St.hU, St.oR, St.oU, St.press, St.foam, St.pR, St.pU, St.seg, St.pit, St.away, St.mn, St.fc, St.fl, St.fo, St.n, St.ring, St.nh, St.hs, St.nb, St.bo, St.w_kinds, St.w_refs, St.w_depths, St.w_waters, St.w_bR, St.w_bU, St.w_wears, St.w_order, St.w_waits, St.w_hR, St.w_hU, St.w_oR, St.w_oU, St.w_press, St.w_foam, St.w_pR, St.w_pU, St.w_seg, St.w_pit, St.w_away, St.w_mn, St.w_fc, St.w_fl, St.w_fo, St.w_n, St.w_ring, St.w_nh, St.w_hs, St.w_nb, St.w_bo, St.w_course, St.a_ring, St.a_house, St.a_bore]) (by simp only [cr0, St.kinds, St.refs, St.depths, St.waters, St.bR, St.bU, St.wears, St.order, St.waits, St.hR, St.hU, St.oR, St.oU, St.press, St.foam, St.pR, St.pU, St.seg, St.pit, St.away, St.mn, St.fc, St.fl, St.fo, St.n, St.ring, St.nh, St.hs, St.nb, St.bo, St.w_kinds, St.w_refs, St.w_depths, St.w_waters, St.w_bR, St.w_bU, St.w_wears, St.w_order, St.w_waits, St.w_hR, St.w_hU, St.w_oR, St.w_oU, St.w_press, St.w_foam, St.w_pR, St.w_pU, St.w_seg, St.w_pit, St.w_away, St.w_mn, St.w_fc, St.w_fl, St.w_fo, St.w_n, St.w_ring, St.w_nh, St.w_hs, St.w_nb, St.w_bo, St.w_course, St.a_ring, St.a_house, St.a_bore]) (by simp only [cr0, St.kinds, St.refs, St.depths, St.waters, St.bR, St.bU, St.wears, St.order, St.waits, St.hR, St.hU, St.oR, St.oU, St.press, St.foam, St.pR, St.pU, St.seg, St.pit, St.away, St.mn, St.fc, St.fl, St.fo, St.n, St.ring, St.nh, St.hs, St.nb, St.bo, St.w_kinds, St.w_refs, St.w_depths, St.w_waters, St.w_bR, St.w_bU, St.w_wears, St.w_order, St.w_waits, St.w_hR, St.w_hU, St.w_oR, St.w_oU, St.w_press, St.w_foam, St.w_pR, St.w_pU, St.w_seg, St.w_pit, St.w_away, St.w_mn, St.w_fc, St.w_fl, St.w_fo, St.w_n, St.w_ring, St.w_nh, St.w_hs, St.w_nb, St.w_bo, St.w_course, St.a_ring, St.a_house, St.a_bore]) (by simp only [cr0, St.kinds, St.refs, St.depths, St.waters, St.bR, St.bU, St.wears, St.order, St.waits, St.hR, St.hU, St.oR, St.oU, St.press, St.foam, St.pR, St.pU, St.seg, St.pit, St.away, St.mn, St.fc, St.fl, St.fo, St.n, St.ring, St.nh, St.hs, St.nb, St.bo, St.w_kinds, St.w_refs, St.w_depths, St.w_waters, St.w_bR, St.w_bU, St.w_wears, St.w_order, St.w_waits, St.w_hR, St.w_hU, St.w_oR, St.w_oU, St.w_press, St.w_foam, St.w_pR, St.w_pU, St.w_seg, St.w_pit, St.w_away, St.w_mn, St.w_fc, St.w_fl, St.w_fo, St.w_n, St.w_ring, St.w_nh, St.w_hs, St.w_nb, St.w_bo, St.w_course, St.a_ring, St.a_house, St.a_bore]) hg
  · exact pI_cg (σ := σ) (by simp only [cr0, St.kinds, St.refs, St.depths, St.waters, St.bR, St.bU, St.wears, St.order, St.waits, St.hR, St.hU, St.oR, St.oU, St.press, St.foam, St.pR, St.pU, St.seg, St.pit, St.away, St.mn, St.fc, St.fl, St.fo, St.n, St.ring, St.nh, St.hs, St.nb, St.bo, St.w_kinds, St.w_refs, St.w_depths, St.w_waters, St.w_bR, St.w_bU, St.w_wears, St.w_order, St.w_waits, St.w_hR, St.w_hU, St.w_oR, St.w_oU, St.w_press, St.w_foam, St.w_pR, St.w_pU, St.w_seg, St.w_pit, St.w_away, St.w_mn, St.w_fc, St.w_fl, St.w_fo, St.w_n, St.w_ring, St.w_nh, St.w_hs, St.w_nb, St.w_bo, St.w_course, St.a_ring, St.a_house, St.a_bore]) (by simp only [cr0, St.kinds, St.refs, St.depths, St.waters, St.bR, St.bU, St.wears, St.order, St.waits, St.hR, St.hU, St.oR, St.oU, St.press, St.foam, St.pR, St.pU, St.seg, St.pit, St.away, St.mn, St.fc, St.fl, St.fo, St.n, St.ring, St.nh, St.hs, St.nb, St.bo, St.w_kinds, St.w_refs, St.w_depths, St.w_waters, St.w_bR, St.w_bU, St.w_wears, St.w_order, St.w_waits, St.w_hR, St.w_hU, St.w_oR, St.w_oU, St.w_press, St.w_foam, St.w_pR, St.w_pU, St.w_seg, St.w_pit, St.w_away, St.w_mn, St.w_fc, St.w_fl, St.w_fo, St.w_n, St.w_ring, St.w_nh, St.w_hs, St.w_nb, St.w_bo, St.w_course, St.a_ring, St.a_house, St.a_bore]) hp
  · exact rI_cg (σ := σ) (by simp only [cr0, St.kinds, St.refs, St.depths, St.waters, St.bR, St.bU, St.wears, St.order, St.waits, St.hR, St.hU, St.oR, St.oU, St.press, St.foam, St.pR, St.pU, St.seg, St.pit, St.away, St.mn, St.fc, St.fl, St.fo, St.n, St.ring, St.nh, St.hs, St.nb, St.bo, St.w_kinds, St.w_refs, St.w_depths, St.w_waters, St.w_bR, St.w_bU, St.w_wears, St.w_order, St.w_waits, St.w_hR, St.w_hU, St.w_oR, St.w_oU, St.w_press, St.w_foam, St.w_pR, St.w_pU, St.w_seg, St.w_pit, St.w_away, St.w_mn, St.w_fc, St.w_fl, St.w_fo, St.w_n, St.w_ring, St.w_nh, St.w_hs, St.w_nb, St.w_bo, St.w_course, St.a_ring, St.a_house, St.a_bore]) (rsm_all (by simp only [cr0, St.kinds, St.refs, St.depths, St.waters, St.bR, St.bU, St.wears, St.order, St.waits, St.hR, St.hU, St.oR, St.oU, St.press, St.foam, St.pR, St.pU, St.seg, St.pit, St.away, St.mn, St.fc, St.fl, St.fo, St.n, St.ring, St.nh, St.hs, St.nb, St.bo, St.w_kinds, St.w_refs, St.w_depths, St.w_waters, St.w_bR, St.w_bU, St.w_wears, St.w_order, St.w_waits, St.w_hR, St.w_hU, St.w_oR, St.w_oU, St.w_press, St.w_foam, St.w_pR, St.w_pU, St.w_seg, St.w_pit, St.w_away, St.w_mn, St.w_fc, St.w_fl, St.w_fo, St.w_n, St.w_ring, St.w_nh, St.w_hs, St.w_nb, St.w_bo, St.w_course, St.a_ring, St.a_house, St.a_bore])) (gnd_all (by simp only [cr0, St.kinds, St.refs, St.depths, St.waters, St.bR, St.bU, St.wears, St.order, St.waits, St.hR, St.hU, St.oR, St.oU, St.press, St.foam, St.pR, St.pU, St.seg, St.pit, St.away, St.mn, St.fc, St.fl, St.fo, St.n, St.ring, St.nh, St.hs, St.nb, St.bo, St.w_kinds, St.w_refs, St.w_depths, St.w_waters, St.w_bR, St.w_bU, St.w_wears, St.w_order, St.w_waits, St.w_hR, St.w_hU, St.w_oR, St.w_oU, St.w_press, St.w_foam, St.w_pR, St.w_pU, St.w_seg, St.w_pit, St.w_away, St.w_mn, St.w_fc, St.w_fl, St.w_fo, St.w_n, St.w_ring, St.w_nh, St.w_hs, St.w_nb, St.w_bo, St.w_course, St.a_ring, St.a_house, St.a_bore]) (by simp only [cr0, St.kinds, St.refs, St.depths, St.waters, St.bR, St.bU, St.wears, St.order, St.waits, St.hR, St.hU, St.oR, St.oU, St.press, St.foam, St.pR, St.pU, St.seg, St.pit, St.away, St.mn, St.fc, St.fl, St.fo, St.n, St.ring, St.nh, St.hs, St.nb, St.bo, St.w_kinds, St.w_refs, St.w_depths, St.w_waters, St.w_bR, St.w_bU, St.w_wears, St.w_order, St.w_waits, St.w_hR, St.w_hU, St.w_oR, St.w_oU, St.w_press, St.w_foam, St.w_pR, St.w_pU, St.w_seg, St.w_pit, St.w_away, St.w_mn, St.w_fc, St.w_fl, St.w_fo, St.w_n, St.w_ring, St.w_nh, St.w_hs, St.w_nb, St.w_bo, St.w_course, St.a_ring, St.a_house, St.a_bore]) (by simp only [cr0, St.kinds, St.refs, St.depths, St.waters, St.bR, St.bU, St.wears, St.order, St.waits, St.hR, St.hU, St.oR, St.oU, St.press, St.foam, St.pR, St.pU, St.seg, St.pit, St.away, St.mn, St.fc, St.fl, St.fo, St.n, St.ring, St.nh, St.hs, St.nb, St.bo, St.w_kinds, St.w_refs, St.w_depths, St.w_waters, St.w_bR, St.w_bU, St.w_wears, St.w_order, St.w_waits, St.w_hR, St.w_hU, St.w_oR, St.w_oU, St.w_press, St.w_foam, St.w_pR, St.w_pU, St.w_seg, St.w_pit, St.w_away, St.w_mn, St.w_fc, St.w_fl, St.w_fo, St.w_n, St.w_ring, St.w_nh, St.w_hs, St.w_nb, St.w_bo, St.w_course, St.a_ring, St.a_house, St.a_bore]) (by simp only [cr0, St.kinds, St.refs, St.depths, St.waters, St.bR, St.bU, St.wears, St.order, St.waits, St.hR, St.hU, St.oR, St.oU, St.press, St.foam, St.pR, St.pU, St.seg, St.pit, St.away, St.mn, St.fc, St.fl, St.fo, St.n, St.ring, St.nh, St.hs, St.nb, St.bo, St.w_kinds, St.w_refs, St.w_depths, St.w_waters, St.w_bR, St.w_bU, St.w_wears, St.w_order, St.w_waits, St.w_hR, St.w_hU, St.w_oR, St.w_oU, St.w_press, St.w_foam, St.w_pR, St.w_pU, St.w_seg, St.w_pit, St.w_away, St.w_mn, St.w_fc, St.w_fl, St.w_fo, St.w_n, St.w_ring, St.w_nh, St.w_hs, St.w_nb, St.w_bo, St.w_course, St.a_ring, St.a_house, St.a_bore])) (by simp only [cr0, St.kinds, St.refs, St.depths, St.waters, St.bR, St.bU, St.wears, St.order, St.waits, St.hR, St.hU, St.oR, St.oU, St.press, St.foam, St.pR, St.pU, St.seg, St.pit, St.away, St.mn, St.fc, St.fl, St.fo, St.n, St.ring, St.nh, St.hs, St.nb, St.bo, St.w_kinds, St.w_refs, St.w_depths, St.w_waters, St.w_bR, St.w_bU, St.w_wears, St.w_order, St.w_waits, St.w_hR, St.w_hU, St.w_oR, St.w_oU, St.w_press, St.w_foam, St.w_pR, St.w_pU, St.w_seg, St.w_pit, St.w_away, St.w_mn, St.w_fc, St.w_fl, St.w_fo, St.w_n, St.w_ring, St.w_nh, St.w_hs, St.w_nb, St.w_bo, St.w_course, St.a_ring, St.a_house, St.a_bore]) hr
  · exact fI_cg (σ := σ) (by simp only [cr0, St.kinds, St.refs, St.depths, St.waters, St.bR, St.bU, St.wears, St.order, St.waits, St.hR, St.hU, St.oR, St.oU, St.press, St.foam, St.pR, St.pU, St.seg, St.pit, St.away, St.mn, St.fc, St.fl, St.fo, St.n, St.ring, St.nh, St.hs, St.nb, St.bo, St.w_kinds, St.w_refs, St.w_depths, St.w_waters, St.w_bR, St.w_bU, St.w_wears, St.w_order, St.w_waits, St.w_hR, St.w_hU, St.w_oR, St.w_oU, St.w_press, St.w_foam, St.w_pR, St.w_pU, St.w_seg, St.w_pit, St.w_away, St.w_mn, St.w_fc, St.w_fl, St.w_fo, St.w_n, St.w_ring, St.w_nh, St.w_hs, St.w_nb, St.w_bo, St.w_course, St.a_ring, St.a_house, St.a_bore]) (by simp only [cr0, St.kinds, St.refs, St.depths, St.waters, St.bR, St.bU, St.wears, St.order, St.waits, St.hR, St.hU, St.oR, St.oU, St.press, St.foam, St.pR, St.pU, St.seg, St.pit, St.away, St.mn, St.fc, St.fl, St.fo, St.n, St.ring, St.nh, St.hs, St.nb, St.bo, St.w_kinds, St.w_refs, St.w_depths, St.w_waters, St.w_bR, St.w_bU, St.w_wears, St.w_order, St.w_waits, St.w_hR, St.w_hU, St.w_oR, St.w_oU, St.w_press, St.w_foam, St.w_pR, St.w_pU, St.w_seg, St.w_pit, St.w_away, St.w_mn, St.w_fc, St.w_fl, St.w_fo, St.w_n, St.w_ring, St.w_nh, St.w_hs, St.w_nb, St.w_bo, St.w_course, St.a_ring, St.a_house, St.a_bore]) hf
  · exact hI_cg (σ := σ) (by simp only [cr0, St.kinds, St.refs, St.depths, St.waters, St.bR, St.bU, St.wears, St.order, St.waits, St.hR, St.hU, St.oR, St.oU, St.press, St.foam, St.pR, St.pU, St.seg, St.pit, St.away, St.mn, St.fc, St.fl, St.fo, St.n, St.ring, St.nh, St.hs, St.nb, St.bo, St.w_kinds, St.w_refs, St.w_depths, St.w_waters, St.w_bR, St.w_bU, St.w_wears, St.w_order, St.w_waits, St.w_hR, St.w_hU, St.w_oR, St.w_oU, St.w_press, St.w_foam, St.w_pR, St.w_pU, St.w_seg, St.w_pit, St.w_away, St.w_mn, St.w_fc, St.w_fl, St.w_fo, St.w_n, St.w_ring, St.w_nh, St.w_hs, St.w_nb, St.w_bo, St.w_course, St.a_ring, St.a_house, St.a_bore]) (by simp only [cr0, St.kinds, St.refs, St.depths, St.waters, St.bR, St.bU, St.wears, St.order, St.waits, St.hR, St.hU, St.oR, St.oU, St.press, St.foam, St.pR, St.pU, St.seg, St.pit, St.away, St.mn, St.fc, St.fl, St.fo, St.n, St.ring, St.nh, St.hs, St.nb, St.bo, St.w_kinds, St.w_refs, St.w_depths, St.w_waters, St.w_bR, St.w_bU, St.w_wears, St.w_order, St.w_waits, St.w_hR, St.w_hU, St.w_oR, St.w_oU, St.w_press, St.w_foam, St.w_pR, St.w_pU, St.w_seg, St.w_pit, St.w_away, St.w_mn, St.w_fc, St.w_fl, St.w_fo, St.w_n, St.w_ring, St.w_nh, St.w_hs, St.w_nb, St.w_bo, St.w_course, St.a_ring, St.a_house, St.a_bore]) hh
  · exact oI_cg (σ := σ) (by simp only [cr0, St.kinds, St.refs, St.depths, St.waters, St.bR, St.bU, St.wears, St.order, St.waits, St.hR, St.hU, St.oR, St.oU, St.press, St.foam, St.pR, St.pU, St.seg, St.pit, St.away, St.mn, St.fc, St.fl, St.fo, St.n, St.ring, St.nh, St.hs, St.nb, St.bo, St.w_kinds, St.w_refs, St.w_depths, St.w_waters, St.w_bR, St.w_bU, St.w_wears, St.w_order, St.w_waits, St.w_hR, St.w_hU, St.w_oR, St.w_oU, St.w_press, St.w_foam, St.w_pR, St.w_pU, St.w_seg, St.w_pit, St.w_away, St.w_mn, St.w_fc, St.w_fl, St.w_fo, St.w_n, St.w_ring, St.w_nh, St.w_hs, St.w_nb, St.w_bo, St.w_course, St.a_ring, St.a_house, St.a_bore]) (by simp only [cr0, St.kinds, St.refs, St.depths, St.waters, St.bR, St.bU, St.wears, St.order, St.waits, St.hR, St.hU, St.oR, St.oU, St.press, St.foam, St.pR, St.pU, St.seg, St.pit, St.away, St.mn, St.fc, St.fl, St.fo, St.n, St.ring, St.nh, St.hs, St.nb, St.bo, St.w_kinds, St.w_refs, St.w_depths, St.w_waters, St.w_bR, St.w_bU, St.w_wears, St.w_order, St.w_waits, St.w_hR, St.w_hU, St.w_oR, St.w_oU, St.w_press, St.w_foam, St.w_pR, St.w_pU, St.w_seg, St.w_pit, St.w_away, St.w_mn, St.w_fc, St.w_fl, St.w_fo, St.w_n, St.w_ring, St.w_nh, St.w_hs, St.w_nb, St.w_bo, St.w_course, St.a_ring, St.a_house, St.a_bore]) ho
  · exact mI_cg (σ := σ) (by simp only [cr0, St.kinds, St.refs, St.depths, St.waters, St.bR, St.bU, St.wears, St.order, St.waits, St.hR, St.hU, St.oR, St.oU, St.press, St.foam, St.pR, St.pU, St.seg, St.pit, St.away, St.mn, St.fc, St.fl, St.fo, St.n, St.ring, St.nh, St.hs, St.nb, St.bo, St.w_kinds, St.w_refs, St.w_depths, St.w_waters, St.w_bR, St.w_bU, St.w_wears, St.w_order, St.w_waits, St.w_hR, St.w_hU, St.w_oR, St.w_oU, St.w_press, St.w_foam, St.w_pR, St.w_pU, St.w_seg, St.w_pit, St.w_away, St.w_mn, St.w_fc, St.w_fl, St.w_fo, St.w_n, St.w_ring, St.w_nh, St.w_hs, St.w_nb, St.w_bo, St.w_course, St.a_ring, St.a_house, St.a_bore]) (rsm_all (by simp only [cr0, St.kinds, St.refs, St.depths, St.waters, St.bR, St.bU, St.wears, St.order, St.waits, St.hR, St.hU, St.oR, St.oU, St.press, St.foam, St.pR, St.pU, St.seg, St.pit, St.away, St.mn, St.fc, St.fl, St.fo, St.n, St.ring, St.nh, St.hs, St.nb, St.bo, St.w_kinds, St.w_refs, St.w_depths, St.w_waters, St.w_bR, St.w_bU, St.w_wears, St.w_order, St.w_waits, St.w_hR, St.w_hU, St.w_oR, St.w_oU, St.w_press, St.w_foam, St.w_pR, St.w_pU, St.w_seg, St.w_pit, St.w_away, St.w_mn, St.w_fc, St.w_fl, St.w_fo, St.w_n, St.w_ring, St.w_nh, St.w_hs, St.w_nb, St.w_bo, St.w_course, St.a_ring, St.a_house, St.a_bore])) (by simp only [cr0, St.kinds, St.refs, St.depths, St.waters, St.bR, St.bU, St.wears, St.order, St.waits, St.hR, St.hU, St.oR, St.oU, St.press, St.foam, St.pR, St.pU, St.seg, St.pit, St.away, St.mn, St.fc, St.fl, St.fo, St.n, St.ring, St.nh, St.hs, St.nb, St.bo, St.w_kinds, St.w_refs, St.w_depths, St.w_waters, St.w_bR, St.w_bU, St.w_wears, St.w_order, St.w_waits, St.w_hR, St.w_hU, St.w_oR, St.w_oU, St.w_press, St.w_foam, St.w_pR, St.w_pU, St.w_seg, St.w_pit, St.w_away, St.w_mn, St.w_fc, St.w_fl, St.w_fo, St.w_n, St.w_ring, St.w_nh, St.w_hs, St.w_nb, St.w_bo, St.w_course, St.a_ring, St.a_house, St.a_bore]) (by simp only [cr0, St.kinds, St.refs, St.depths, St.waters, St.bR, St.bU, St.wears, St.order, St.waits, St.hR, St.hU, St.oR, St.oU, St.press, St.foam, St.pR, St.pU, St.seg, St.pit, St.away, St.mn, St.fc, St.fl, St.fo, St.n, St.ring, St.nh, St.hs, St.nb, St.bo, St.w_kinds, St.w_refs, St.w_depths, St.w_waters, St.w_bR, St.w_bU, St.w_wears, St.w_order, St.w_waits, St.w_hR, St.w_hU, St.w_oR, St.w_oU, St.w_press, St.w_foam, St.w_pR, St.w_pU, St.w_seg, St.w_pit, St.w_away, St.w_mn, St.w_fc, St.w_fl, St.w_fo, St.w_n, St.w_ring, St.w_nh, St.w_hs, St.w_nb, St.w_bo, St.w_course, St.a_ring, St.a_house, St.a_bore]) hm
  · exact sI_cg (σ := σ) (by simp only [cr0, St.kinds, St.refs, St.depths, St.waters, St.bR, St.bU, St.wears, St.order, St.waits, St.hR, St.hU, St.oR, St.oU, St.press, St.foam, St.pR, St.pU, St.seg, St.pit, St.away, St.mn, St.fc, St.fl, St.fo, St.n, St.ring, St.nh, St.hs, St.nb, St.bo, St.w_kinds, St.w_refs, St.w_depths, St.w_waters, St.w_bR, St.w_bU, St.w_wears, St.w_order, St.w_waits, St.w_hR, St.w_hU, St.w_oR, St.w_oU, St.w_press, St.w_foam, St.w_pR, St.w_pU, St.w_seg, St.w_pit, St.w_away, St.w_mn, St.w_fc, St.w_fl, St.w_fo, St.w_n, St.w_ring, St.w_nh, St.w_hs, St.w_nb, St.w_bo, St.w_course, St.a_ring, St.a_house, St.a_bore]) hs
  · obtain ⟨m1, m2⟩ := hc
    refine ⟨clk m1 ⟨by omega, by omega⟩ c3, ?_⟩
    rw [mrF_cg (σ := σ) (N := σ.n) (rsm_all (by simp only [St.kinds, St.refs, St.depths, St.waters, St.bR, St.bU, St.wears, St.order, St.waits, St.hR, St.hU, St.oR, St.oU, St.press, St.foam, St.pR, St.pU, St.seg, St.pit, St.away, St.mn, St.fc, St.fl, St.fo, St.n, St.ring, St.nh, St.hs, St.nb, St.bo, St.w_kinds, St.w_refs, St.w_depths, St.w_waters, St.w_bR, St.w_bU, St.w_wears, St.w_order, St.w_waits, St.w_hR, St.w_hU, St.w_oR, St.w_oU, St.w_press, St.w_foam, St.w_pR, St.w_pU, St.w_seg, St.w_pit, St.w_away, St.w_mn, St.w_fc, St.w_fl, St.w_fo, St.w_n, St.w_ring, St.w_nh, St.w_hs, St.w_nb, St.w_bo, St.w_course, St.a_ring, St.a_house, St.a_bore])) _ (by simp only [St.kinds, St.refs, St.depths, St.waters, St.bR, St.bU, St.wears, St.order, St.waits, St.hR, St.hU, St.oR, St.oU, St.press, St.foam, St.pR, St.pU, St.seg, St.pit, St.away, St.mn, St.fc, St.fl, St.fo, St.n, St.ring, St.nh, St.hs, St.nb, St.bo, St.w_kinds, St.w_refs, St.w_depths, St.w_waters, St.w_bR, St.w_bU, St.w_wears, St.w_order, St.w_waits, St.w_hR, St.w_hU, St.w_oR, St.w_oU, St.w_press, St.w_foam, St.w_pR, St.w_pU, St.w_seg, St.w_pit, St.w_away, St.w_mn, St.w_fc, St.w_fl, St.w_fo, St.w_n, St.w_ring, St.w_nh, St.w_hs, St.w_nb, St.w_bo, St.w_course, St.a_ring, St.a_house, St.a_bore]; exact Nat.le_refl _)]
    simp only [St.kinds, St.refs, St.depths, St.waters, St.bR, St.bU, St.wears, St.order, St.waits, St.hR, St.hU, St.oR, St.oU, St.press, St.foam, St.pR, St.pU, St.seg, St.pit, St.away, St.mn, St.fc, St.fl, St.fo, St.n, St.ring, St.nh, St.hs, St.nb, St.bo, St.w_kinds, St.w_refs, St.w_depths, St.w_waters, St.w_bR, St.w_bU, St.w_wears, St.w_order, St.w_waits, St.w_hR, St.w_hU, St.w_oR, St.w_oU, St.w_press, St.w_foam, St.w_pR, St.w_pU, St.w_seg, St.w_pit, St.w_away, St.w_mn, St.w_fc, St.w_fl, St.w_fo, St.w_n, St.w_ring, St.w_nh, St.w_hs, St.w_nb, St.w_bo, St.w_course, St.a_ring, St.a_house, St.a_bore] at m2 ⊢
    rw [al_up, m2]
    ac_rfl
  · exact qI_cg (σ := σ) (by simp only [cr0, St.kinds, St.refs, St.depths, St.waters, St.bR, St.bU, St.wears, St.order, St.waits, St.hR, St.hU, St.oR, St.oU, St.press, St.foam, St.pR, St.pU, St.seg, St.pit, St.away, St.mn, St.fc, St.fl, St.fo, St.n, St.ring, St.nh, St.hs, St.nb, St.bo, St.w_kinds, St.w_refs, St.w_depths, St.w_waters, St.w_bR, St.w_bU, St.w_wears, St.w_order, St.w_waits, St.w_hR, St.w_hU, St.w_oR, St.w_oU, St.w_press, St.w_foam, St.w_pR, St.w_pU, St.w_seg, St.w_pit, St.w_away, St.w_mn, St.w_fc, St.w_fl, St.w_fo, St.w_n, St.w_ring, St.w_nh, St.w_hs, St.w_nb, St.w_bo, St.w_course, St.a_ring, St.a_house, St.a_bore]) hq
theorem iMin_int (a b : Int32) : (iMin a b).toInt = min a.toInt b.toInt := by
  unfold iMin
  by_cases h : b < a
  · rw [if_pos h]
    have := Int32.lt_iff_toInt_lt.mp h
    omega
  · rw [if_neg h]
    rw [Int32.lt_iff_toInt_lt] at h
    omega
theorem lo_n {p : Nat} (hp : p ≤ 2000) : (nI p + 20 - 1) / 20 = nI ((p + 19) / 20) := by
  have h1 : nI p + 20 - 1 = nI (p + 19) := by
    rw [show (20 : Int32) = nI 20 from rfl, nI_add, show p + 20 = (p + 19) + 1 from rfl, nI_pred]
  rw [h1, show (20 : Int32) = nI 20 from rfl]
  have h2 : ∀ k, k < 2020 → nI k / nI 20 = nI (k / 20) := by decide +kernel
  exact h2 _ (by omega)
/-- what the lorries take, and their minutes -/
theorem lo_t {σ : St} {m9 : Int32} (hp : 0 ≤ σ.pit.toInt ∧ σ.pit.toInt ≤ 2000) (hm : inR m9 1 100 = true) : (0 ≤ (iMin (iMin m9 ((σ.pit + 20 - 1) / 20) * 20) σ.pit).toInt ∧ (iMin (iMin m9 ((σ.pit + 20 - 1) / 20) * 20) σ.pit).toInt ≤ σ.pit.toInt) ∧ 0 ≤ (iMin m9 ((σ.pit + 20 - 1) / 20) * 5).toInt ∧ (iMin m9 ((σ.pit + 20 - 1) / 20) * 5).toInt ≤ 99999 := by
  have c1 := inR_sp hm
  rw [show (1 : Int32).toInt = 1 from rfl, show (100 : Int32).toInt = 100 from rfl] at c1
  obtain ⟨p, hp9, he⟩ := nI_of (x := σ.pit) (by rw [Int32.lt_iff_toInt_lt, show (0 : Int32).toInt = 0 from rfl]; omega)
  rw [he] at hp ⊢
  rw [nI_toInt hp9] at hp ⊢
  rw [lo_n (by omega)]
  have h3 := iMin_int m9 (nI ((p + 19) / 20))
  rw [nI_toInt (by omega)] at h3
  generalize hz : iMin m9 (nI ((p + 19) / 20)) = z at h3 ⊢
  have h4 : (z * 20).toInt = z.toInt * 20 := by
    rw [Int32.toInt_mul, show (20 : Int32).toInt = 20 from rfl]
    exact Int.bmod_eq_of_le (by omega) (by omega)
  have h5 : (z * 5).toInt = z.toInt * 5 := by
    rw [Int32.toInt_mul, show (5 : Int32).toInt = 5 from rfl]
    exact Int.bmod_eq_of_le (by omega) (by omega)
  have h6 := iMin_int (z * 20) (nI p)
  rw [nI_toInt hp9] at h6
  omega
theorem Inv.m_lorries {σ : St} (h : Inv σ) {m9 : Int32} (h0 : cd_lorries σ m9 = 0) : Inv (nx_lorries σ m9) := by
  obtain ⟨hg, hp, hr, hf, hh, ho, hm, hs, hc, hq⟩ := h
  unfold cd_lorries at h0
  obtain ⟨c1, h0⟩ := if_0 h0 (by decide)
  obtain ⟨c2, h0⟩ := if_0 h0 (by decide)
  obtain ⟨c3, h0⟩ := if_1 h0 (by decide)
  obtain ⟨c4, -⟩ := if_0 h0 (by decide)
  obtain ⟨t1, t2⟩ := lo_t hm.1 c1
  unfold nx_lorries
  generalize iMin (iMin m9 ((σ.pit + 20 - 1) / 20) * 20) σ.pit = t at t1 c4 ⊢
  generalize iMin m9 ((σ.pit + 20 - 1) / 20) * 5 = v at t2 c4 ⊢
  refine ⟨?_, ?_, ?_, ?_, ?_, ?_, ?_, ?_, ?_, ?_⟩
  · exact gI_cg (σ := σ) (by simp only [cr0, St.kinds, St.refs, St.depths, St.waters, St.bR, St.bU, St.wears, St.order, St.waits, St.hR, St.hU, St.oR, St.oU, St.press, St.foam, St.pR, St.pU, St.seg, St.pit, St.away, St.mn, St.fc, St.fl, St.fo, St.n, St.ring, St.nh, St.hs, St.nb, St.bo, St.w_kinds, St.w_refs, St.w_depths, St.w_waters, St.w_bR, St.w_bU, St.w_wears, St.w_order, St.w_waits, St.w_hR, St.w_hU, St.w_oR, St.w_oU, St.w_press, St.w_foam, St.w_pR, St.w_pU, St.w_seg, St.w_pit, St.w_away, St.w_mn, St.w_fc, St.w_fl, St.w_fo, St.w_n, St.w_ring, St.w_nh, St.w_hs, St.w_nb, St.w_bo, St.w_course, St.a_ring, St.a_house, St.a_bore]) (by simp only [cr0, St.kinds, St.refs, St.depths, St.waters, St.bR, St.bU, St.wears, St.order, St.waits, St.hR, St.hU, St.oR, St.oU, St.press, St.foam, St.pR, St.pU, St.seg, St.pit, St.away, St.mn, St.fc, St.fl, St.fo, St.n, St.ring, St.nh, St.hs, St.nb, St.bo, St.w_kinds, St.w_refs, St.w_depths, St.w_waters, St.w_bR, St.w_bU, St.w_wears, St.w_order, St.w_waits, St.w_hR, St.w_hU, St.w_oR, St.w_oU, St.w_press, St.w_foam, St.w_pR, St.w_pU, St.w_seg, St.w_pit, St.w_away, St.w_mn, St.w_fc, St.w_fl, St.w_fo, St.w_n, St.w_ring, St.w_nh, St.w_hs, St.w_nb, St.w_bo, St.w_course, St.a_ring, St.a_house, St.a_bore]) (by simp only [cr0, St.kinds, St.refs, St.depths, St.waters, St.bR, St.bU, St.wears, St.order, St.waits, St.hR, St.hU, St.oR, St.oU, St.press, St.foam, St.pR, St.pU, St.seg, St.pit, St.away, St.mn, St.fc, St.fl, St.fo, St.n, St.ring, St.nh, St.hs, St.nb, St.bo, St.w_kinds, St.w_refs, St.w_depths, St.w_waters, St.w_bR, St.w_bU, St.w_wears, St.w_order, St.w_waits, St.w_hR, St.w_hU, St.w_oR, St.w_oU, St.w_press, St.w_foam, St.w_pR, St.w_pU, St.w_seg, St.w_pit, St.w_away, St.w_mn, St.w_fc, St.w_fl, St.w_fo, St.w_n, St.w_ring, St.w_nh, St.w_hs, St.w_nb, St.w_bo, St.w_course, St.a_ring, St.a_house, St.a_bore]) (by simp only [cr0, St.kinds, St.refs, St.depths, St.waters, St.bR, St.bU, St.wears, St.order, St.waits, St.hR, St.hU, St.oR, St.oU, St.press, St.foam, St.pR, St.pU, St.seg, St.pit, St.away, St.mn, St.fc, St.fl, St.fo, St.n, St.ring, St.nh, St.hs, St.nb, St.bo, St.w_kinds, St.w_refs, St.w_depths, St.w_waters, St.w_bR, St.w_bU, St.w_wears, St.w_order, St.w_waits, St.w_hR, St.w_hU, St.w_oR, St.w_oU, St.w_press, St.w_foam, St.w_pR, St.w_pU, St.w_seg, St.w_pit, St.w_away, St.w_mn, St.w_fc, St.w_fl, St.w_fo, St.w_n, St.w_ring, St.w_nh, St.w_hs, St.w_nb, St.w_bo, St.w_course, St.a_ring, St.a_house, St.a_bore]) (by simp only [cr0, St.kinds, St.refs, St.depths, St.waters, St.bR, St.bU, St.wears, St.order, St.waits, St.hR, St.hU, St.oR, St.oU, St.press, St.foam, St.pR, St.pU, St.seg, St.pit, St.away, St.mn, St.fc, St.fl, St.fo, St.n, St.ring, St.nh, St.hs, St.nb, St.bo, St.w_kinds, St.w_refs, St.w_depths, St.w_waters, St.w_bR, St.w_bU, St.w_wears, St.w_order, St.w_waits, St.w_hR, St.w_hU, St.w_oR, St.w_oU, St.w_press, St.w_foam, St.w_pR, St.w_pU, St.w_seg, St.w_pit, St.w_away, St.w_mn, St.w_fc, St.w_fl, St.w_fo, St.w_n, St.w_ring, St.w_nh, St.w_hs, St.w_nb, St.w_bo, St.w_course, St.a_ring, St.a_house, St.a_bore]) hg
  · exact pI_cg (σ := σ) (by simp only [cr0, St.kinds, St.refs, St.depths, St.waters, St.bR, St.bU, St.wears, St.order, St.waits, St.hR, St.hU, St.oR, St.oU, St.press, St.foam, St.pR, St.pU, St.seg, St.pit, St.away, St.mn, St.fc, St.fl, St.fo, St.n, St.ring, St.nh, St.hs, St.nb, St.bo, St.w_kinds, St.w_refs, St.w_depths, St.w_waters, St.w_bR, St.w_bU, St.w_wears, St.w_order, St.w_waits, St.w_hR, St.w_hU, St.w_oR, St.w_oU, St.w_press, St.w_foam, St.w_pR, St.w_pU, St.w_seg, St.w_pit, St.w_away, St.w_mn, St.w_fc, St.w_fl, St.w_fo, St.w_n, St.w_ring, St.w_nh, St.w_hs, St.w_nb, St.w_bo, St.w_course, St.a_ring, St.a_house, St.a_bore]) (by simp only [cr0, St.kinds, St.refs, St.depths, St.waters, St.bR, St.bU, St.wears, St.order, St.waits, St.hR, St.hU, St.oR, St.oU, St.press, St.foam, St.pR, St.pU, St.seg, St.pit, St.away, St.mn, St.fc, St.fl, St.fo, St.n, St.ring, St.nh, St.hs, St.nb, St.bo, St.w_kinds, St.w_refs, St.w_depths, St.w_waters, St.w_bR, St.w_bU, St.w_wears, St.w_order, St.w_waits, St.w_hR, St.w_hU, St.w_oR, St.w_oU, St.w_press, St.w_foam, St.w_pR, St.w_pU, St.w_seg, St.w_pit, St.w_away, St.w_mn, St.w_fc, St.w_fl, St.w_fo, St.w_n, St.w_ring, St.w_nh, St.w_hs, St.w_nb, St.w_bo, St.w_course, St.a_ring, St.a_house, St.a_bore]) hp
  · exact rI_cg (σ := σ) (by simp only [cr0, St.kinds, St.refs, St.depths, St.waters, St.bR, St.bU, St.wears, St.order, St.waits, St.hR, St.hU, St.oR, St.oU, St.press, St.foam, St.pR, St.pU, St.seg, St.pit, St.away, St.mn, St.fc, St.fl, St.fo, St.n, St.ring, St.nh, St.hs, St.nb, St.bo, St.w_kinds, St.w_refs, St.w_depths, St.w_waters, St.w_bR, St.w_bU, St.w_wears, St.w_order, St.w_waits, St.w_hR, St.w_hU, St.w_oR, St.w_oU, St.w_press, St.w_foam, St.w_pR, St.w_pU, St.w_seg, St.w_pit, St.w_away, St.w_mn, St.w_fc, St.w_fl, St.w_fo, St.w_n, St.w_ring, St.w_nh, St.w_hs, St.w_nb, St.w_bo, St.w_course, St.a_ring, St.a_house, St.a_bore]) (rsm_all (by simp only [cr0, St.kinds, St.refs, St.depths, St.waters, St.bR, St.bU, St.wears, St.order, St.waits, St.hR, St.hU, St.oR, St.oU, St.press, St.foam, St.pR, St.pU, St.seg, St.pit, St.away, St.mn, St.fc, St.fl, St.fo, St.n, St.ring, St.nh, St.hs, St.nb, St.bo, St.w_kinds, St.w_refs, St.w_depths, St.w_waters, St.w_bR, St.w_bU, St.w_wears, St.w_order, St.w_waits, St.w_hR, St.w_hU, St.w_oR, St.w_oU, St.w_press, St.w_foam, St.w_pR, St.w_pU, St.w_seg, St.w_pit, St.w_away, St.w_mn, St.w_fc, St.w_fl, St.w_fo, St.w_n, St.w_ring, St.w_nh, St.w_hs, St.w_nb, St.w_bo, St.w_course, St.a_ring, St.a_house, St.a_bore])) (gnd_all (by simp only [cr0, St.kinds, St.refs, St.depths, St.waters, St.bR, St.bU, St.wears, St.order, St.waits, St.hR, St.hU, St.oR, St.oU, St.press, St.foam, St.pR, St.pU, St.seg, St.pit, St.away, St.mn, St.fc, St.fl, St.fo, St.n, St.ring, St.nh, St.hs, St.nb, St.bo, St.w_kinds, St.w_refs, St.w_depths, St.w_waters, St.w_bR, St.w_bU, St.w_wears, St.w_order, St.w_waits, St.w_hR, St.w_hU, St.w_oR, St.w_oU, St.w_press, St.w_foam, St.w_pR, St.w_pU, St.w_seg, St.w_pit, St.w_away, St.w_mn, St.w_fc, St.w_fl, St.w_fo, St.w_n, St.w_ring, St.w_nh, St.w_hs, St.w_nb, St.w_bo, St.w_course, St.a_ring, St.a_house, St.a_bore]) (by simp only [cr0, St.kinds, St.refs, St.depths, St.waters, St.bR, St.bU, St.wears, St.order, St.waits, St.hR, St.hU, St.oR, St.oU, St.press, St.foam, St.pR, St.pU, St.seg, St.pit, St.away, St.mn, St.fc, St.fl, St.fo, St.n, St.ring, St.nh, St.hs, St.nb, St.bo, St.w_kinds, St.w_refs, St.w_depths, St.w_waters, St.w_bR, St.w_bU, St.w_wears, St.w_order, St.w_waits, St.w_hR, St.w_hU, St.w_oR, St.w_oU, St.w_press, St.w_foam, St.w_pR, St.w_pU, St.w_seg, St.w_pit, St.w_away, St.w_mn, St.w_fc, St.w_fl, St.w_fo, St.w_n, St.w_ring, St.w_nh, St.w_hs, St.w_nb, St.w_bo, St.w_course, St.a_ring, St.a_house, St.a_bore]) (by simp only [cr0, St.kinds, St.refs, St.depths, St.waters, St.bR, St.bU, St.wears, St.order, St.waits, St.hR, St.hU, St.oR, St.oU, St.press, St.foam, St.pR, St.pU, St.seg, St.pit, St.away, St.mn, St.fc, St.fl, St.fo, St.n, St.ring, St.nh, St.hs, St.nb, St.bo, St.w_kinds, St.w_refs, St.w_depths, St.w_waters, St.w_bR, St.w_bU, St.w_wears, St.w_order, St.w_waits, St.w_hR, St.w_hU, St.w_oR, St.w_oU, St.w_press, St.w_foam, St.w_pR, St.w_pU, St.w_seg, St.w_pit, St.w_away, St.w_mn, St.w_fc, St.w_fl, St.w_fo, St.w_n, St.w_ring, St.w_nh, St.w_hs, St.w_nb, St.w_bo, St.w_course, St.a_ring, St.a_house, St.a_bore]) (by simp only [cr0, St.kinds, St.refs, St.depths, St.waters, St.bR, St.bU, St.wears, St.order, St.waits, St.hR, St.hU, St.oR, St.oU, St.press, St.foam, St.pR, St.pU, St.seg, St.pit, St.away, St.mn, St.fc, St.fl, St.fo, St.n, St.ring, St.nh, St.hs, St.nb, St.bo, St.w_kinds, St.w_refs, St.w_depths, St.w_waters, St.w_bR, St.w_bU, St.w_wears, St.w_order, St.w_waits, St.w_hR, St.w_hU, St.w_oR, St.w_oU, St.w_press, St.w_foam, St.w_pR, St.w_pU, St.w_seg, St.w_pit, St.w_away, St.w_mn, St.w_fc, St.w_fl, St.w_fo, St.w_n, St.w_ring, St.w_nh, St.w_hs, St.w_nb, St.w_bo, St.w_course, St.a_ring, St.a_house, St.a_bore])) (by simp only [cr0, St.kinds, St.refs, St.depths, St.waters, St.bR, St.bU, St.wears, St.order, St.waits, St.hR, St.hU, St.oR, St.oU, St.press, St.foam, St.pR, St.pU, St.seg, St.pit, St.away, St.mn, St.fc, St.fl, St.fo, St.n, St.ring, St.nh, St.hs, St.nb, St.bo, St.w_kinds, St.w_refs, St.w_depths, St.w_waters, St.w_bR, St.w_bU, St.w_wears, St.w_order, St.w_waits, St.w_hR, St.w_hU, St.w_oR, St.w_oU, St.w_press, St.w_foam, St.w_pR, St.w_pU, St.w_seg, St.w_pit, St.w_away, St.w_mn, St.w_fc, St.w_fl, St.w_fo, St.w_n, St.w_ring, St.w_nh, St.w_hs, St.w_nb, St.w_bo, St.w_course, St.a_ring, St.a_house, St.a_bore]) hr
  · exact fI_cg (σ := σ) (by simp only [cr0, St.kinds, St.refs, St.depths, St.waters, St.bR, St.bU, St.wears, St.order, St.waits, St.hR, St.hU, St.oR, St.oU, St.press, St.foam, St.pR, St.pU, St.seg, St.pit, St.away, St.mn, St.fc, St.fl, St.fo, St.n, St.ring, St.nh, St.hs, St.nb, St.bo, St.w_kinds, St.w_refs, St.w_depths, St.w_waters, St.w_bR, St.w_bU, St.w_wears, St.w_order, St.w_waits, St.w_hR, St.w_hU, St.w_oR, St.w_oU, St.w_press, St.w_foam, St.w_pR, St.w_pU, St.w_seg, St.w_pit, St.w_away, St.w_mn, St.w_fc, St.w_fl, St.w_fo, St.w_n, St.w_ring, St.w_nh, St.w_hs, St.w_nb, St.w_bo, St.w_course, St.a_ring, St.a_house, St.a_bore]) (by simp only [cr0, St.kinds, St.refs, St.depths, St.waters, St.bR, St.bU, St.wears, St.order, St.waits, St.hR, St.hU, St.oR, St.oU, St.press, St.foam, St.pR, St.pU, St.seg, St.pit, St.away, St.mn, St.fc, St.fl, St.fo, St.n, St.ring, St.nh, St.hs, St.nb, St.bo, St.w_kinds, St.w_refs, St.w_depths, St.w_waters, St.w_bR, St.w_bU, St.w_wears, St.w_order, St.w_waits, St.w_hR, St.w_hU, St.w_oR, St.w_oU, St.w_press, St.w_foam, St.w_pR, St.w_pU, St.w_seg, St.w_pit, St.w_away, St.w_mn, St.w_fc, St.w_fl, St.w_fo, St.w_n, St.w_ring, St.w_nh, St.w_hs, St.w_nb, St.w_bo, St.w_course, St.a_ring, St.a_house, St.a_bore]) hf
  · exact hI_cg (σ := σ) (by simp only [cr0, St.kinds, St.refs, St.depths, St.waters, St.bR, St.bU, St.wears, St.order, St.waits, St.hR, St.hU, St.oR, St.oU, St.press, St.foam, St.pR, St.pU, St.seg, St.pit, St.away, St.mn, St.fc, St.fl, St.fo, St.n, St.ring, St.nh, St.hs, St.nb, St.bo, St.w_kinds, St.w_refs, St.w_depths, St.w_waters, St.w_bR, St.w_bU, St.w_wears, St.w_order, St.w_waits, St.w_hR, St.w_hU, St.w_oR, St.w_oU, St.w_press, St.w_foam, St.w_pR, St.w_pU, St.w_seg, St.w_pit, St.w_away, St.w_mn, St.w_fc, St.w_fl, St.w_fo, St.w_n, St.w_ring, St.w_nh, St.w_hs, St.w_nb, St.w_bo, St.w_course, St.a_ring, St.a_house, St.a_bore]) (by simp only [cr0, St.kinds, St.refs, St.depths, St.waters, St.bR, St.bU, St.wears, St.order, St.waits, St.hR, St.hU, St.oR, St.oU, St.press, St.foam, St.pR, St.pU, St.seg, St.pit, St.away, St.mn, St.fc, St.fl, St.fo, St.n, St.ring, St.nh, St.hs, St.nb, St.bo, St.w_kinds, St.w_refs, St.w_depths, St.w_waters, St.w_bR, St.w_bU, St.w_wears, St.w_order, St.w_waits, St.w_hR, St.w_hU, St.w_oR, St.w_oU, St.w_press, St.w_foam, St.w_pR, St.w_pU, St.w_seg, St.w_pit, St.w_away, St.w_mn, St.w_fc, St.w_fl, St.w_fo, St.w_n, St.w_ring, St.w_nh, St.w_hs, St.w_nb, St.w_bo, St.w_course, St.a_ring, St.a_house, St.a_bore]) hh
  · exact oI_cg (σ := σ) (by simp only [cr0, St.kinds, St.refs, St.depths, St.waters, St.bR, St.bU, St.wears, St.order, St.waits, St.hR, St.hU, St.oR, St.oU, St.press, St.foam, St.pR, St.pU, St.seg, St.pit, St.away, St.mn, St.fc, St.fl, St.fo, St.n, St.ring, St.nh, St.hs, St.nb, St.bo, St.w_kinds, St.w_refs, St.w_depths, St.w_waters, St.w_bR, St.w_bU, St.w_wears, St.w_order, St.w_waits, St.w_hR, St.w_hU, St.w_oR, St.w_oU, St.w_press, St.w_foam, St.w_pR, St.w_pU, St.w_seg, St.w_pit, St.w_away, St.w_mn, St.w_fc, St.w_fl, St.w_fo, St.w_n, St.w_ring, St.w_nh, St.w_hs, St.w_nb, St.w_bo, St.w_course, St.a_ring, St.a_house, St.a_bore]) (by simp only [cr0, St.kinds, St.refs, St.depths, St.waters, St.bR, St.bU, St.wears, St.order, St.waits, St.hR, St.hU, St.oR, St.oU, St.press, St.foam, St.pR, St.pU, St.seg, St.pit, St.away, St.mn, St.fc, St.fl, St.fo, St.n, St.ring, St.nh, St.hs, St.nb, St.bo, St.w_kinds, St.w_refs, St.w_depths, St.w_waters, St.w_bR, St.w_bU, St.w_wears, St.w_order, St.w_waits, St.w_hR, St.w_hU, St.w_oR, St.w_oU, St.w_press, St.w_foam, St.w_pR, St.w_pU, St.w_seg, St.w_pit, St.w_away, St.w_mn, St.w_fc, St.w_fl, St.w_fo, St.w_n, St.w_ring, St.w_nh, St.w_hs, St.w_nb, St.w_bo, St.w_course, St.a_ring, St.a_house, St.a_bore]) ho
  · obtain ⟨m1, m2⟩ := hm
    have he := i_sub (a := σ.pit) (b := t) (by omega) (by omega)
    refine ⟨?_, ?_⟩
    · simp only [St.kinds, St.refs, St.depths, St.waters, St.bR, St.bU, St.wears, St.order, St.waits, St.hR, St.hU, St.oR, St.oU, St.press, St.foam, St.pR, St.pU, St.seg, St.pit, St.away, St.mn, St.fc, St.fl, St.fo, St.n, St.ring, St.nh, St.hs, St.nb, St.bo, St.w_kinds, St.w_refs, St.w_depths, St.w_waters, St.w_bR, St.w_bU, St.w_wears, St.w_order, St.w_waits, St.w_hR, St.w_hU, St.w_oR, St.w_oU, St.w_press, St.w_foam, St.w_pR, St.w_pU, St.w_seg, St.w_pit, St.w_away, St.w_mn, St.w_fc, St.w_fl, St.w_fo, St.w_n, St.w_ring, St.w_nh, St.w_hs, St.w_nb, St.w_bo, St.w_course, St.a_ring, St.a_house, St.a_bore] at he m1 t1 ⊢
      omega
    · rw [mkF_cg (σ := σ) (N := σ.n) (rsm_all (by simp only [St.kinds, St.refs, St.depths, St.waters, St.bR, St.bU, St.wears, St.order, St.waits, St.hR, St.hU, St.oR, St.oU, St.press, St.foam, St.pR, St.pU, St.seg, St.pit, St.away, St.mn, St.fc, St.fl, St.fo, St.n, St.ring, St.nh, St.hs, St.nb, St.bo, St.w_kinds, St.w_refs, St.w_depths, St.w_waters, St.w_bR, St.w_bU, St.w_wears, St.w_order, St.w_waits, St.w_hR, St.w_hU, St.w_oR, St.w_oU, St.w_press, St.w_foam, St.w_pR, St.w_pU, St.w_seg, St.w_pit, St.w_away, St.w_mn, St.w_fc, St.w_fl, St.w_fo, St.w_n, St.w_ring, St.w_nh, St.w_hs, St.w_nb, St.w_bo, St.w_course, St.a_ring, St.a_house, St.a_bore])) _ (by simp only [St.kinds, St.refs, St.depths, St.waters, St.bR, St.bU, St.wears, St.order, St.waits, St.hR, St.hU, St.oR, St.oU, St.press, St.foam, St.pR, St.pU, St.seg, St.pit, St.away, St.mn, St.fc, St.fl, St.fo, St.n, St.ring, St.nh, St.hs, St.nb, St.bo, St.w_kinds, St.w_refs, St.w_depths, St.w_waters, St.w_bR, St.w_bU, St.w_wears, St.w_order, St.w_waits, St.w_hR, St.w_hU, St.w_oR, St.w_oU, St.w_press, St.w_foam, St.w_pR, St.w_pU, St.w_seg, St.w_pit, St.w_away, St.w_mn, St.w_fc, St.w_fl, St.w_fo, St.w_n, St.w_ring, St.w_nh, St.w_hs, St.w_nb, St.w_bo, St.w_course, St.a_ring, St.a_house, St.a_bore]; exact Nat.le_refl _)]
      simp only [St.kinds, St.refs, St.depths, St.waters, St.bR, St.bU, St.wears, St.order, St.waits, St.hR, St.hU, St.oR, St.oU, St.press, St.foam, St.pR, St.pU, St.seg, St.pit, St.away, St.mn, St.fc, St.fl, St.fo, St.n, St.ring, St.nh, St.hs, St.nb, St.bo, St.w_kinds, St.w_refs, St.w_depths, St.w_waters, St.w_bR, St.w_bU, St.w_wears, St.w_order, St.w_waits, St.w_hR, St.w_hU, St.w_oR, St.w_oU, St.w_press, St.w_foam, St.w_pR, St.w_pU, St.w_seg, St.w_pit, St.w_away, St.w_mn, St.w_fc, St.w_fl, St.w_fo, St.w_n, St.w_ring, St.w_nh, St.w_hs, St.w_nb, St.w_bo, St.w_course, St.a_ring, St.a_house, St.a_bore] at m2 ⊢
      rw [m2, Int32.sub_eq_add_neg]
      rw [show ∀ a b c : Int32, a + -c + (b + c) = a + b + (-c + c) from fun a b c => by ac_rfl, Int32.add_left_neg, Int32.add_zero]
  · exact sI_cg (σ := σ) (by simp only [cr0, St.kinds, St.refs, St.depths, St.waters, St.bR, St.bU, St.wears, St.order, St.waits, St.hR, St.hU, St.oR, St.oU, St.press, St.foam, St.pR, St.pU, St.seg, St.pit, St.away, St.mn, St.fc, St.fl, St.fo, St.n, St.ring, St.nh, St.hs, St.nb, St.bo, St.w_kinds, St.w_refs, St.w_depths, St.w_waters, St.w_bR, St.w_bU, St.w_wears, St.w_order, St.w_waits, St.w_hR, St.w_hU, St.w_oR, St.w_oU, St.w_press, St.w_foam, St.w_pR, St.w_pU, St.w_seg, St.w_pit, St.w_away, St.w_mn, St.w_fc, St.w_fl, St.w_fo, St.w_n, St.w_ring, St.w_nh, St.w_hs, St.w_nb, St.w_bo, St.w_course, St.a_ring, St.a_house, St.a_bore]) hs
  · obtain ⟨m1, m2⟩ := hc
    refine ⟨clk m1 t2 c4, ?_⟩
    rw [mrF_cg (σ := σ) (N := σ.n) (rsm_all (by simp only [St.kinds, St.refs, St.depths, St.waters, St.bR, St.bU, St.wears, St.order, St.waits, St.hR, St.hU, St.oR, St.oU, St.press, St.foam, St.pR, St.pU, St.seg, St.pit, St.away, St.mn, St.fc, St.fl, St.fo, St.n, St.ring, St.nh, St.hs, St.nb, St.bo, St.w_kinds, St.w_refs, St.w_depths, St.w_waters, St.w_bR, St.w_bU, St.w_wears, St.w_order, St.w_waits, St.w_hR, St.w_hU, St.w_oR, St.w_oU, St.w_press, St.w_foam, St.w_pR, St.w_pU, St.w_seg, St.w_pit, St.w_away, St.w_mn, St.w_fc, St.w_fl, St.w_fo, St.w_n, St.w_ring, St.w_nh, St.w_hs, St.w_nb, St.w_bo, St.w_course, St.a_ring, St.a_house, St.a_bore])) _ (by simp only [St.kinds, St.refs, St.depths, St.waters, St.bR, St.bU, St.wears, St.order, St.waits, St.hR, St.hU, St.oR, St.oU, St.press, St.foam, St.pR, St.pU, St.seg, St.pit, St.away, St.mn, St.fc, St.fl, St.fo, St.n, St.ring, St.nh, St.hs, St.nb, St.bo, St.w_kinds, St.w_refs, St.w_depths, St.w_waters, St.w_bR, St.w_bU, St.w_wears, St.w_order, St.w_waits, St.w_hR, St.w_hU, St.w_oR, St.w_oU, St.w_press, St.w_foam, St.w_pR, St.w_pU, St.w_seg, St.w_pit, St.w_away, St.w_mn, St.w_fc, St.w_fl, St.w_fo, St.w_n, St.w_ring, St.w_nh, St.w_hs, St.w_nb, St.w_bo, St.w_course, St.a_ring, St.a_house, St.a_bore]; exact Nat.le_refl _)]
    simp only [St.kinds, St.refs, St.depths, St.waters, St.bR, St.bU, St.wears, St.order, St.waits, St.hR, St.hU, St.oR, St.oU, St.press, St.foam, St.pR, St.pU, St.seg, St.pit, St.away, St.mn, St.fc, St.fl, St.fo, St.n, St.ring, St.nh, St.hs, St.nb, St.bo, St.w_kinds, St.w_refs, St.w_depths, St.w_waters, St.w_bR, St.w_bU, St.w_wears, St.w_order, St.w_waits, St.w_hR, St.w_hU, St.w_oR, St.w_oU, St.w_press, St.w_foam, St.w_pR, St.w_pU, St.w_seg, St.w_pit, St.w_away, St.w_mn, St.w_fc, St.w_fl, St.w_fo, St.w_n, St.w_ring, St.w_nh, St.w_hs, St.w_nb, St.w_bo, St.w_course, St.a_ring, St.a_house, St.a_bore] at m2 ⊢
    rw [m2]
    ac_rfl
  · exact qI_cg (σ := σ) (by simp only [cr0, St.kinds, St.refs, St.depths, St.waters, St.bR, St.bU, St.wears, St.order, St.waits, St.hR, St.hU, St.oR, St.oU, St.press, St.foam, St.pR, St.pU, St.seg, St.pit, St.away, St.mn, St.fc, St.fl, St.fo, St.n, St.ring, St.nh, St.hs, St.nb, St.bo, St.w_kinds, St.w_refs, St.w_depths, St.w_waters, St.w_bR, St.w_bU, St.w_wears, St.w_order, St.w_waits, St.w_hR, St.w_hU, St.w_oR, St.w_oU, St.w_press, St.w_foam, St.w_pR, St.w_pU, St.w_seg, St.w_pit, St.w_away, St.w_mn, St.w_fc, St.w_fl, St.w_fo, St.w_n, St.w_ring, St.w_nh, St.w_hs, St.w_nb, St.w_bo, St.w_course, St.a_ring, St.a_house, St.a_bore]) hq
theorem gr2_rs (σ : St) (j : Nat) (a : Int32) : ∃ r, gr2 σ j a = σ.w_ring (upT σ.ring j r) ∧ rsm r (σ.ring j) ∧ r.fi = (σ.ring j).fi + a ∧ r.ff = if (σ.ring j).fi = 0 then σ.mn else (σ.ring j).ff :=
  ⟨_, gr2_ring σ j a, ⟨rfl, rfl, rfl, rfl, rfl, rfl, rfl, rfl, rfl⟩, rfl, rfl⟩
theorem nt2_rs (σ : St) (j : Nat) : ∃ r, nt2 σ j = σ.w_ring (upT σ.ring j r) ∧ rsm r (σ.ring j) ∧ r.fi = (σ.ring j).fi ∧ r.ff = (σ.ring j).ff := by
  refine ⟨((σ.ring j).w_no true).w_it (decide (σ.mn - (σ.ring j).en ≤ 4320)), ?_, ⟨rfl, rfl, rfl, rfl, rfl, rfl, rfl, rfl, rfl⟩, rfl, rfl⟩
  have e : (nt1 σ j).ring j = (σ.ring j).w_no true := by
    show upT σ.ring j _ j = _
    rw [upT_s]
  unfold nt2
  rw [e, show (nt1 σ j).ring = upT σ.ring j ((σ.ring j).w_no true) by simp only [nt1, St.kinds, St.refs, St.depths, St.waters, St.bR, St.bU, St.wears, St.order, St.waits, St.hR, St.hU, St.oR, St.oU, St.press, St.foam, St.pR, St.pU, St.seg, St.pit, St.away, St.mn, St.fc, St.fl, St.fo, St.n, St.ring, St.nh, St.hs, St.nb, St.bo, St.w_kinds, St.w_refs, St.w_depths, St.w_waters, St.w_bR, St.w_bU, St.w_wears, St.w_order, St.w_waits, St.w_hR, St.w_hU, St.w_oR, St.w_oU, St.w_press, St.w_foam, St.w_pR, St.w_pU, St.w_seg, St.w_pit, St.w_away, St.w_mn, St.w_fc, St.w_fl, St.w_fo, St.w_n, St.w_ring, St.w_nh, St.w_hs, St.w_nb, St.w_bo, St.w_course, St.a_ring, St.a_house, St.a_bore], show (nt1 σ j).mn = σ.mn by simp only [nt1, St.kinds, St.refs, St.depths, St.waters, St.bR, St.bU, St.wears, St.order, St.waits, St.hR, St.hU, St.oR, St.oU, St.press, St.foam, St.pR, St.pU, St.seg, St.pit, St.away, St.mn, St.fc, St.fl, St.fo, St.n, St.ring, St.nh, St.hs, St.nb, St.bo, St.w_kinds, St.w_refs, St.w_depths, St.w_waters, St.w_bR, St.w_bU, St.w_wears, St.w_order, St.w_waits, St.w_hR, St.w_hU, St.w_oR, St.w_oU, St.w_press, St.w_foam, St.w_pR, St.w_pU, St.w_seg, St.w_pit, St.w_away, St.w_mn, St.w_fc, St.w_fl, St.w_fo, St.w_n, St.w_ring, St.w_nh, St.w_hs, St.w_nb, St.w_bo, St.w_course, St.a_ring, St.a_house, St.a_bore], show ((σ.ring j).w_no true).en = (σ.ring j).en from rfl]
  rw [show ∀ v, (nt1 σ j).w_ring v = σ.w_ring v from fun v => by simp only [nt1, St.kinds, St.refs, St.depths, St.waters, St.bR, St.bU, St.wears, St.order, St.waits, St.hR, St.hU, St.oR, St.oU, St.press, St.foam, St.pR, St.pU, St.seg, St.pit, St.away, St.mn, St.fc, St.fl, St.fo, St.n, St.ring, St.nh, St.hs, St.nb, St.bo, St.w_kinds, St.w_refs, St.w_depths, St.w_waters, St.w_bR, St.w_bU, St.w_wears, St.w_order, St.w_waits, St.w_hR, St.w_hU, St.w_oR, St.w_oU, St.w_press, St.w_foam, St.w_pR, St.w_pU, St.w_seg, St.w_pit, St.w_away, St.w_mn, St.w_fc, St.w_fl, St.w_fo, St.w_n, St.w_ring, St.w_nh, St.w_hs, St.w_nb, St.w_bo, St.w_course, St.a_ring, St.a_house, St.a_bore]]
  congr 1
  funext i
  by_cases he : i = j
  · rw [he, upT_s, upT_s]
  · rw [upT_n he, upT_n he, upT_n he]
theorem rsm_up {σ : St} {j : Nat} {r : Rg} (h : rsm r (σ.ring j)) (i : Nat) : rsm (upT σ.ring j r i) (σ.ring i) := by
  by_cases he : i = j
  · rw [he, upT_s]
    exact h
  · rw [upT_n he]
    exact rsm_rf _
theorem Inv.m_grout {σ : St} (h : Inv σ) {r9 a9 : Int32} (h0 : cd_grout σ r9 a9 = 0) : Inv (nx_grout σ r9 a9) := by
  obtain ⟨hg, hp, hr, hf, hh, ho, hm, hs, hc, hq⟩ := h
  unfold cd_grout at h0
  obtain ⟨c1, h0⟩ := if_0 h0 (by decide)
  obtain ⟨c2, h0⟩ := if_0 h0 (by decide)
  obtain ⟨c3, -⟩ := if_0 h0 (by decide)
  have hn : σ.n ≤ 120 := hr.1
  obtain ⟨j, rfl, hj⟩ := inL_of (by omega) c1
  rw [nI_clamp (by omega)] at c3
  unfold nx_grout
  rw [nI_clamp (by omega)]
  obtain ⟨r, e1, e2, e3, e4⟩ := gr2_rs σ j a9
  rw [e1]
  obtain ⟨⟨f, hf1, hfe⟩, -⟩ := hf.1 j hj
  obtain ⟨q, hq4, hk⟩ := hg.1 j (by omega)
  rw [← hr.2.1 j hj] at hk
  obtain ⟨G, hG, hG2⟩ := gap_q hq4
  have ha : ∃ a, a ≤ 200 ∧ a9 = nI a := by
    have c4 := inR_sp c2
    rw [show (1 : Int32).toInt = 1 from rfl, show (200 : Int32).toInt = 200 from rfl] at c4
    obtain ⟨a, ha, rfl⟩ := nI_of (x := a9) (by rw [Int32.lt_iff_toInt_lt, show (0 : Int32).toInt = 0 from rfl]; omega)
    rw [nI_toInt ha] at c4
    exact ⟨a, by omega, rfl⟩
  obtain ⟨a, ha, rfl⟩ := ha
  rw [roomF, hk, hG, hfe, i_le, i_sub (by rw [nI_toInt (by omega), nI_toInt (by omega)]; omega) (by rw [nI_toInt (by omega), nI_toInt (by omega)]; omega), nI_toInt (by omega), nI_toInt (by omega), nI_toInt (by omega)] at c3
  have c5 : f + a ≤ G := by omega
  refine ⟨?_, ?_, ?_, ?_, ?_, ?_, ?_, ?_, ?_, ?_⟩
  · exact gI_cg (σ := σ) rfl rfl rfl rfl rfl hg
  · exact pI_cg (σ := σ) rfl rfl hp
  · exact rI_cg (σ := σ) rfl (fun i _ => rsm_up e2 i) (gnd_all rfl rfl rfl rfl) rfl hr
  · obtain ⟨f1, f2⟩ := hf
    refine ⟨fun i hi => ?_, fun i hi => ?_⟩
    · have hi2 : i < σ.n := hi
      show (∃ f, f ≤ 180 ∧ (upT σ.ring j r i).fi = nI f) ∧ (¬ (upT σ.ring j r i).fi = 0 → ¬ (upT σ.ring j r i).ff = -1)
      by_cases he : i = j
      · rw [he, upT_s, e3, e4, hfe, nI_add]
        refine ⟨⟨f + a, by omega, rfl⟩, fun _ => ?_⟩
        rw [← hfe]
        split
        · intro z
          have := hc.1.1
          rw [z] at this
          exact absurd this (by decide)
        · rename_i z
          exact (f1 j hj).2 z
      · rw [upT_n he]
        exact f1 i hi2
    · have hi2 : i < σ.n := hi
      show 0 ≤ roomF (upT σ.ring j r i)
      by_cases he : i = j
      · rw [he, upT_s, roomF, e2.2.1, hk, hG, e3, hfe, nI_add, i_le, show (0 : Int32).toInt = 0 from rfl, i_sub (by rw [nI_toInt (by omega), nI_toInt (by omega)]; omega) (by rw [nI_toInt (by omega), nI_toInt (by omega)]; omega), nI_toInt (by omega), nI_toInt (by omega)]
        omega
      · rw [upT_n he]
        exact f2 i hi2
  · exact hI_cg (σ := σ) rfl rfl hh
  · exact oI_cg (σ := σ) rfl rfl ho
  · exact mI_cg (σ := σ) rfl (fun i _ => rsm_up e2 i) rfl rfl hm
  · exact sI_cg (σ := σ) rfl hs
  · exact cI_cg (σ := σ) rfl (fun i _ => rsm_up e2 i) rfl rfl rfl rfl rfl hc
  · exact qI_cg (σ := σ) rfl hq
theorem Inv.m_notice {σ : St} (h : Inv σ) (r9 : Int32)  : Inv (nx_notice σ r9) := by
  obtain ⟨hg, hp, hr, hf, hh, ho, hm, hs, hc, hq⟩ := h
  unfold nx_notice
  generalize r9.toNatClampNeg = j
  obtain ⟨r, e1, e2, e3, e4⟩ := nt2_rs σ j
  rw [e1]
  refine ⟨?_, ?_, ?_, ?_, ?_, ?_, ?_, ?_, ?_, ?_⟩
  · exact gI_cg (σ := σ) rfl rfl rfl rfl rfl hg
  · exact pI_cg (σ := σ) rfl rfl hp
  · exact rI_cg (σ := σ) rfl (fun i _ => rsm_up e2 i) (gnd_all rfl rfl rfl rfl) rfl hr
  · obtain ⟨f1, f2⟩ := hf
    have hff : ∀ i, (upT σ.ring j r i).fi = (σ.ring i).fi ∧ (upT σ.ring j r i).ff = (σ.ring i).ff ∧ (upT σ.ring j r i).kind = (σ.ring i).kind := fun i => by
      refine ⟨?_, ?_, (rsm_up e2 i).2.1⟩
      · by_cases he : i = j
        · rw [he, upT_s, e3]
        · rw [upT_n he]
      · by_cases he : i = j
        · rw [he, upT_s, e4]
        · rw [upT_n he]
    refine ⟨fun i hi => ?_, fun i hi => ?_⟩
    · show (∃ f, f ≤ 180 ∧ (upT σ.ring j r i).fi = nI f) ∧ (¬ (upT σ.ring j r i).fi = 0 → ¬ (upT σ.ring j r i).ff = -1)
      rw [(hff i).1, (hff i).2.1]
      exact f1 i hi
    · show 0 ≤ roomF (upT σ.ring j r i)
      rw [roomF, (hff i).1, (hff i).2.2]
      exact f2 i hi
  · exact hI_cg (σ := σ) rfl rfl hh
  · exact oI_cg (σ := σ) rfl rfl ho
  · exact mI_cg (σ := σ) rfl (fun i _ => rsm_up e2 i) rfl rfl hm
  · exact sI_cg (σ := σ) rfl hs
  · exact cI_cg (σ := σ) rfl (fun i _ => rsm_up e2 i) rfl rfl rfl rfl rfl hc
  · exact qI_cg (σ := σ) rfl hq
theorem ixm {f : Nat → Int32} {c : Int32} : 0 ≤ ixF f c 7 0 ↔ ∃ q, q < 7 ∧ f q = c := by
  constructor
  · intro h
    obtain ⟨q, h1, -, h3⟩ := ixF_in (by decide) h
    exact ⟨q, h1, h3⟩
  · rintro ⟨q, h1, h2⟩
    refine Classical.byContradiction fun h9 => ?_
    have key : ∀ n k, (∃ q, q < n ∧ f (k + q) = c) → k + n ≤ 7 → 0 ≤ ixF f c n k := by
      intro n
      induction n with
      | zero => exact fun k h _ => absurd h.choose_spec.1 (by omega)
      | succ n ih =>
        intro k h hk
        rw [ixF]
        by_cases z : f k = c
        · rw [if_pos z]
          exact nI_pos' (by omega)
        · rw [if_neg z]
          obtain ⟨q, q1, q2⟩ := h
          match q, q2 with
          | 0, q2 => exact absurd q2 z
          | q + 1, q2 => exact ih (k + 1) ⟨q, by omega, by rwa [show k + 1 + q = k + (q + 1) by omega]⟩ (by omega)
    exact h9 (key 7 0 ⟨q, h1, by rwa [Nat.zero_add]⟩ (by omega))
theorem pf_mem {f : Nat → Int32} {q : Nat} (hq : q < 7) (c : Int32) : (∃ k, k < 7 ∧ pfF f q k = c) ↔ ∃ k, k < 7 ∧ f k = c := by
  constructor
  · rintro ⟨k, h1, h2⟩
    unfold pfF at h2
    split at h2
    · exact ⟨q, hq, h2⟩
    · split at h2
      · exact ⟨k - 1, by omega, h2⟩
      · exact ⟨k, h1, h2⟩
  · rintro ⟨k, h1, h2⟩
    by_cases e : k = q
    · exact ⟨0, by omega, by rw [pfF, if_pos rfl, ← e]; exact h2⟩
    · by_cases e2 : k < q
      · exact ⟨k + 1, by omega, by rw [pfF, if_neg (by omega), if_pos (by omega), Nat.add_sub_cancel]; exact h2⟩
      · exact ⟨k, h1, by rw [pfF, if_neg (by omega), if_neg (by omega)]; exact h2⟩
theorem Inv.m_first {σ : St} (h : Inv σ) {c9 : Int32} (h0 : cd_first σ c9 = 0) : Inv (nx_first σ c9) := by
  obtain ⟨hg, hp, hr, hf, hh, ho, hm, hs, hc, hq⟩ := h
  unfold cd_first at h0
  obtain ⟨c1, -⟩ := if_0 h0 (by decide)
  obtain ⟨q, hq7, hqe, -⟩ := ixF_in (by decide) c1
  unfold nx_first
  rw [hqe, nI_clamp (by omega)]
  refine ⟨?_, ?_, ?_, ?_, ?_, ?_, ?_, ?_, ?_, ?_⟩
  · exact gI_cg (σ := σ) rfl rfl rfl rfl rfl hg
  · exact pI_cg (σ := σ) rfl rfl hp
  · exact rI_cg (σ := σ) rfl (rsm_all rfl) (gnd_all rfl rfl rfl rfl) rfl hr
  · exact fI_cg (σ := σ) rfl rfl hf
  · exact hI_cg (σ := σ) rfl rfl hh
  · exact oI_cg (σ := σ) rfl rfl ho
  · exact mI_cg (σ := σ) rfl (rsm_all rfl) rfl rfl hm
  · exact sI_cg (σ := σ) rfl hs
  · exact cI_cg (σ := σ) rfl (rsm_all rfl) rfl rfl rfl rfl rfl hc
  · obtain ⟨⟨q1, q2⟩, q3⟩ := hq
    refine ⟨⟨fun c => ?_, fun k hk => ?_⟩, fun k => ?_⟩
    · show (0 ≤ ixF (pfF σ.order q) c 7 0) = _
      rw [← q1 c]
      exact propext (ixm.trans ((pf_mem hq7 c).trans ixm.symm))
    · show ∃ b, b < 128 ∧ pfF σ.order q k = nI b
      unfold pfF
      split
      · exact q2 q hq7
      · split
        · exact q2 (k - 1) (by omega)
        · exact q2 k hk
    · show vp_nar .char (pfF σ.order q k) = pfF σ.order q k
      unfold pfF
      split
      · exact q3 q
      · split
        · exact q3 (k - 1)
        · exact q3 k
theorem nm_b {σ : St} (hg : gI σ) (hn : σ.n < 120) : 0 ≤ (nmF σ).toInt ∧ (nmF σ).toInt ≤ 99999 := by
  obtain ⟨q, hq, he⟩ := hg.1 σ.n (by omega)
  rw [nmF, atF_in (N := 200) (by decide) (by omega), he]
  have h : ∀ n, n < 120 → ∀ q, q < 4 → 0 ≤ (atF 4 (stF [30, 40, 90, 70]) (nI q) - iMin (nI n / 10) 10).toInt ∧ (atF 4 (stF [30, 40, 90, 70]) (nI q) - iMin (nI n / 10) 10).toInt ≤ 99999 := by decide +kernel
  exact h _ hn q hq
theorem mk_b {q : Nat} (hq : q < 4) (b : Bool) : 0 ≤ (muckF (nI q) (bI b)).toInt ∧ (muckF (nI q) (bI b)).toInt ≤ 2000 := by
  obtain rfl | rfl | rfl | rfl : q = 0 ∨ q = 1 ∨ q = 2 ∨ q = 3 := by omega
  all_goals cases b <;> decide
/-- what a ring that may be built tells -/
theorem bar_45 {σ : St} {t9 : Int32} (h : barF σ t9 = 45) : ¬ 120 ≤ nI σ.n ∧ ¬ σ.seg ≤ 0 ∧ muckF (atF 200 σ.kinds (nI σ.n)) (bI σ.foam) ≤ 2000 - σ.pit ∧ ¬ t9 = ltF σ := by
  unfold barF at h
  split at h
  · exact absurd h (by decide)
  rename_i c1
  split at h
  · exact absurd h (by decide)
  split at h
  · exact absurd h (by decide)
  split at h
  · exact absurd h (by decide)
  rename_i c4
  split at h
  · rename_i c5
    split at h
    · exact absurd h (by decide)
    · rename_i c6
      exact ⟨c1, c4, c5, c6⟩
  · exact absurd h (by decide)
theorem Inv.m_advance {σ : St} (h : Inv σ) {t9 : Int32} (h0 : cd_advance σ t9 = 0) : Inv (nx_advance σ t9) := by
  obtain ⟨hg, hp, hr, hf, hh, ho, hm, hs, hc, hq⟩ := h
  unfold cd_advance at h0
  obtain ⟨c1, h0⟩ := if_0 h0 (by decide)
  obtain ⟨c2, h0⟩ := if_0 h0 (by decide)
  obtain ⟨c3, -⟩ := if_0 h0 (by decide)
  obtain ⟨b1, b2, b3, b4⟩ := bar_45 c2
  have hn : σ.n ≤ 120 := hr.1
  have hn2 : σ.n < 120 := nI_ltc (n := 120) (by decide) hn b1
  have hnm := nm_b hg hn2
  obtain ⟨t, ht, rfl⟩ := inR_nn (N := 7) (by decide) c1
  obtain ⟨kq, hkq, hke⟩ := hg.1 σ.n (by omega)
  have hat : atF 200 σ.kinds (nI σ.n) = nI kq := by rw [atF_in (N := 200) (by decide) (by omega), hke]
  have hmk := mk_b hkq σ.foam
  unfold nx_advance
  generalize nmF σ = m9 at hnm c3 ⊢
  generalize hS : bl6 σ (nI t) m9 = S
  have e_kinds : S.kinds = σ.kinds := by rw [← hS]; simp only [bl6, bl5, bl4, bl3, bl2, bl1, St.kinds, St.refs, St.depths, St.waters, St.bR, St.bU, St.wears, St.order, St.waits, St.hR, St.hU, St.oR, St.oU, St.press, St.foam, St.pR, St.pU, St.seg, St.pit, St.away, St.mn, St.fc, St.fl, St.fo, St.n, St.ring, St.nh, St.hs, St.nb, St.bo, St.w_kinds, St.w_refs, St.w_depths, St.w_waters, St.w_bR, St.w_bU, St.w_wears, St.w_order, St.w_waits, St.w_hR, St.w_hU, St.w_oR, St.w_oU, St.w_press, St.w_foam, St.w_pR, St.w_pU, St.w_seg, St.w_pit, St.w_away, St.w_mn, St.w_fc, St.w_fl, St.w_fo, St.w_n, St.w_ring, St.w_nh, St.w_hs, St.w_nb, St.w_bo, St.w_course, St.a_ring, St.a_house, St.a_bore]
  have e_refs : S.refs = σ.refs := by rw [← hS]; simp only [bl6, bl5, bl4, bl3, bl2, bl1, St.kinds, St.refs, St.depths, St.waters, St.bR, St.bU, St.wears, St.order, St.waits, St.hR, St.hU, St.oR, St.oU, St.press, St.foam, St.pR, St.pU, St.seg, St.pit, St.away, St.mn, St.fc, St.fl, St.fo, St.n, St.ring, St.nh, St.hs, St.nb, St.bo, St.w_kinds, St.w_refs, St.w_depths, St.w_waters, St.w_bR, St.w_bU, St.w_wears, St.w_order, St.w_waits, St.w_hR, St.w_hU, St.w_oR, St.w_oU, St.w_press, St.w_foam, St.w_pR, St.w_pU, St.w_seg, St.w_pit, St.w_away, St.w_mn, St.w_fc, St.w_fl, St.w_fo, St.w_n, St.w_ring, St.w_nh, St.w_hs, St.w_nb, St.w_bo, St.w_course, St.a_ring, St.a_house, St.a_bore]
  have e_depths : S.depths = σ.depths := by rw [← hS]; simp only [bl6, bl5, bl4, bl3, bl2, bl1, St.kinds, St.refs, St.depths, St.waters, St.bR, St.bU, St.wears, St.order, St.waits, St.hR, St.hU, St.oR, St.oU, St.press, St.foam, St.pR, St.pU, St.seg, St.pit, St.away, St.mn, St.fc, St.fl, St.fo, St.n, St.ring, St.nh, St.hs, St.nb, St.bo, St.w_kinds, St.w_refs, St.w_depths, St.w_waters, St.w_bR, St.w_bU, St.w_wears, St.w_order, St.w_waits, St.w_hR, St.w_hU, St.w_oR, St.w_oU, St.w_press, St.w_foam, St.w_pR, St.w_pU, St.w_seg, St.w_pit, St.w_away, St.w_mn, St.w_fc, St.w_fl, St.w_fo, St.w_n, St.w_ring, St.w_nh, St.w_hs, St.w_nb, St.w_bo, St.w_course, St.a_ring, St.a_house, St.a_bore]
  have e_bR : S.bR = σ.bR := by rw [← hS]; simp only [bl6, bl5, bl4, bl3, bl2, bl1, St.kinds, St.refs, St.depths, St.waters, St.bR, St.bU, St.wears, St.order, St.waits, St.hR, St.hU, St.oR, St.oU, St.press, St.foam, St.pR, St.pU, St.seg, St.pit, St.away, St.mn, St.fc, St.fl, St.fo, St.n, St.ring, St.nh, St.hs, St.nb, St.bo, St.w_kinds, St.w_refs, St.w_depths, St.w_waters, St.w_bR, St.w_bU, St.w_wears, St.w_order, St.w_waits, St.w_hR, St.w_hU, St.w_oR, St.w_oU, St.w_press, St.w_foam, St.w_pR, St.w_pU, St.w_seg, St.w_pit, St.w_away, St.w_mn, St.w_fc, St.w_fl, St.w_fo, St.w_n, St.w_ring, St.w_nh, St.w_hs, St.w_nb, St.w_bo, St.w_course, St.a_ring, St.a_house, St.a_bore]
  have e_bU : S.bU = σ.bU := by rw [← hS]; simp only [bl6, bl5, bl4, bl3, bl2, bl1, St.kinds, St.refs, St.depths, St.waters, St.bR, St.bU, St.wears, St.order, St.waits, St.hR, St.hU, St.oR, St.oU, St.press, St.foam, St.pR, St.pU, St.seg, St.pit, St.away, St.mn, St.fc, St.fl, St.fo, St.n, St.ring, St.nh, St.hs, St.nb, St.bo, St.w_kinds, St.w_refs, St.w_depths, St.w_waters, St.w_bR, St.w_bU, St.w_wears, St.w_order, St.w_waits, St.w_hR, St.w_hU, St.w_oR, St.w_oU, St.w_press, St.w_foam, St.w_pR, St.w_pU, St.w_seg, St.w_pit, St.w_away, St.w_mn, St.w_fc, St.w_fl, St.w_fo, St.w_n, St.w_ring, St.w_nh, St.w_hs, St.w_nb, St.w_bo, St.w_course, St.a_ring, St.a_house, St.a_bore]
  have e_order : S.order = σ.order := by rw [← hS]; simp only [bl6, bl5, bl4, bl3, bl2, bl1, St.kinds, St.refs, St.depths, St.waters, St.bR, St.bU, St.wears, St.order, St.waits, St.hR, St.hU, St.oR, St.oU, St.press, St.foam, St.pR, St.pU, St.seg, St.pit, St.away, St.mn, St.fc, St.fl, St.fo, St.n, St.ring, St.nh, St.hs, St.nb, St.bo, St.w_kinds, St.w_refs, St.w_depths, St.w_waters, St.w_bR, St.w_bU, St.w_wears, St.w_order, St.w_waits, St.w_hR, St.w_hU, St.w_oR, St.w_oU, St.w_press, St.w_foam, St.w_pR, St.w_pU, St.w_seg, St.w_pit, St.w_away, St.w_mn, St.w_fc, St.w_fl, St.w_fo, St.w_n, St.w_ring, St.w_nh, St.w_hs, St.w_nb, St.w_bo, St.w_course, St.a_ring, St.a_house, St.a_bore]
  have e_waits : S.waits = σ.waits := by rw [← hS]; simp only [bl6, bl5, bl4, bl3, bl2, bl1, St.kinds, St.refs, St.depths, St.waters, St.bR, St.bU, St.wears, St.order, St.waits, St.hR, St.hU, St.oR, St.oU, St.press, St.foam, St.pR, St.pU, St.seg, St.pit, St.away, St.mn, St.fc, St.fl, St.fo, St.n, St.ring, St.nh, St.hs, St.nb, St.bo, St.w_kinds, St.w_refs, St.w_depths, St.w_waters, St.w_bR, St.w_bU, St.w_wears, St.w_order, St.w_waits, St.w_hR, St.w_hU, St.w_oR, St.w_oU, St.w_press, St.w_foam, St.w_pR, St.w_pU, St.w_seg, St.w_pit, St.w_away, St.w_mn, St.w_fc, St.w_fl, St.w_fo, St.w_n, St.w_ring, St.w_nh, St.w_hs, St.w_nb, St.w_bo, St.w_course, St.a_ring, St.a_house, St.a_bore]
  have e_pR : S.pR = σ.pR := by rw [← hS]; simp only [bl6, bl5, bl4, bl3, bl2, bl1, St.kinds, St.refs, St.depths, St.waters, St.bR, St.bU, St.wears, St.order, St.waits, St.hR, St.hU, St.oR, St.oU, St.press, St.foam, St.pR, St.pU, St.seg, St.pit, St.away, St.mn, St.fc, St.fl, St.fo, St.n, St.ring, St.nh, St.hs, St.nb, St.bo, St.w_kinds, St.w_refs, St.w_depths, St.w_waters, St.w_bR, St.w_bU, St.w_wears, St.w_order, St.w_waits, St.w_hR, St.w_hU, St.w_oR, St.w_oU, St.w_press, St.w_foam, St.w_pR, St.w_pU, St.w_seg, St.w_pit, St.w_away, St.w_mn, St.w_fc, St.w_fl, St.w_fo, St.w_n, St.w_ring, St.w_nh, St.w_hs, St.w_nb, St.w_bo, St.w_course, St.a_ring, St.a_house, St.a_bore]
  have e_pU : S.pU = σ.pU := by rw [← hS]; simp only [bl6, bl5, bl4, bl3, bl2, bl1, St.kinds, St.refs, St.depths, St.waters, St.bR, St.bU, St.wears, St.order, St.waits, St.hR, St.hU, St.oR, St.oU, St.press, St.foam, St.pR, St.pU, St.seg, St.pit, St.away, St.mn, St.fc, St.fl, St.fo, St.n, St.ring, St.nh, St.hs, St.nb, St.bo, St.w_kinds, St.w_refs, St.w_depths, St.w_waters, St.w_bR, St.w_bU, St.w_wears, St.w_order, St.w_waits, St.w_hR, St.w_hU, St.w_oR, St.w_oU, St.w_press, St.w_foam, St.w_pR, St.w_pU, St.w_seg, St.w_pit, St.w_away, St.w_mn, St.w_fc, St.w_fl, St.w_fo, St.w_n, St.w_ring, St.w_nh, St.w_hs, St.w_nb, St.w_bo, St.w_course, St.a_ring, St.a_house, St.a_bore]
  have e_nh : S.nh = σ.nh := by rw [← hS]; simp only [bl6, bl5, bl4, bl3, bl2, bl1, St.kinds, St.refs, St.depths, St.waters, St.bR, St.bU, St.wears, St.order, St.waits, St.hR, St.hU, St.oR, St.oU, St.press, St.foam, St.pR, St.pU, St.seg, St.pit, St.away, St.mn, St.fc, St.fl, St.fo, St.n, St.ring, St.nh, St.hs, St.nb, St.bo, St.w_kinds, St.w_refs, St.w_depths, St.w_waters, St.w_bR, St.w_bU, St.w_wears, St.w_order, St.w_waits, St.w_hR, St.w_hU, St.w_oR, St.w_oU, St.w_press, St.w_foam, St.w_pR, St.w_pU, St.w_seg, St.w_pit, St.w_away, St.w_mn, St.w_fc, St.w_fl, St.w_fo, St.w_n, St.w_ring, St.w_nh, St.w_hs, St.w_nb, St.w_bo, St.w_course, St.a_ring, St.a_house, St.a_bore]
  have e_hs : S.hs = σ.hs := by rw [← hS]; simp only [bl6, bl5, bl4, bl3, bl2, bl1, St.kinds, St.refs, St.depths, St.waters, St.bR, St.bU, St.wears, St.order, St.waits, St.hR, St.hU, St.oR, St.oU, St.press, St.foam, St.pR, St.pU, St.seg, St.pit, St.away, St.mn, St.fc, St.fl, St.fo, St.n, St.ring, St.nh, St.hs, St.nb, St.bo, St.w_kinds, St.w_refs, St.w_depths, St.w_waters, St.w_bR, St.w_bU, St.w_wears, St.w_order, St.w_waits, St.w_hR, St.w_hU, St.w_oR, St.w_oU, St.w_press, St.w_foam, St.w_pR, St.w_pU, St.w_seg, St.w_pit, St.w_away, St.w_mn, St.w_fc, St.w_fl, St.w_fo, St.w_n, St.w_ring, St.w_nh, St.w_hs, St.w_nb, St.w_bo, St.w_course, St.a_ring, St.a_house, St.a_bore]
  have e_nb : S.nb = σ.nb := by rw [← hS]; simp only [bl6, bl5, bl4, bl3, bl2, bl1, St.kinds, St.refs, St.depths, St.waters, St.bR, St.bU, St.wears, St.order, St.waits, St.hR, St.hU, St.oR, St.oU, St.press, St.foam, St.pR, St.pU, St.seg, St.pit, St.away, St.mn, St.fc, St.fl, St.fo, St.n, St.ring, St.nh, St.hs, St.nb, St.bo, St.w_kinds, St.w_refs, St.w_depths, St.w_waters, St.w_bR, St.w_bU, St.w_wears, St.w_order, St.w_waits, St.w_hR, St.w_hU, St.w_oR, St.w_oU, St.w_press, St.w_foam, St.w_pR, St.w_pU, St.w_seg, St.w_pit, St.w_away, St.w_mn, St.w_fc, St.w_fl, St.w_fo, St.w_n, St.w_ring, St.w_nh, St.w_hs, St.w_nb, St.w_bo, St.w_course, St.a_ring, St.a_house, St.a_bore]
  have e_bo : S.bo = σ.bo := by rw [← hS]; simp only [bl6, bl5, bl4, bl3, bl2, bl1, St.kinds, St.refs, St.depths, St.waters, St.bR, St.bU, St.wears, St.order, St.waits, St.hR, St.hU, St.oR, St.oU, St.press, St.foam, St.pR, St.pU, St.seg, St.pit, St.away, St.mn, St.fc, St.fl, St.fo, St.n, St.ring, St.nh, St.hs, St.nb, St.bo, St.w_kinds, St.w_refs, St.w_depths, St.w_waters, St.w_bR, St.w_bU, St.w_wears, St.w_order, St.w_waits, St.w_hR, St.w_hU, St.w_oR, St.w_oU, St.w_press, St.w_foam, St.w_pR, St.w_pU, St.w_seg, St.w_pit, St.w_away, St.w_mn, St.w_fc, St.w_fl, St.w_fo, St.w_n, St.w_ring, St.w_nh, St.w_hs, St.w_nb, St.w_bo, St.w_course, St.a_ring, St.a_house, St.a_bore]
  have e_away : S.away = σ.away := by rw [← hS]; simp only [bl6, bl5, bl4, bl3, bl2, bl1, St.kinds, St.refs, St.depths, St.waters, St.bR, St.bU, St.wears, St.order, St.waits, St.hR, St.hU, St.oR, St.oU, St.press, St.foam, St.pR, St.pU, St.seg, St.pit, St.away, St.mn, St.fc, St.fl, St.fo, St.n, St.ring, St.nh, St.hs, St.nb, St.bo, St.w_kinds, St.w_refs, St.w_depths, St.w_waters, St.w_bR, St.w_bU, St.w_wears, St.w_order, St.w_waits, St.w_hR, St.w_hU, St.w_oR, St.w_oU, St.w_press, St.w_foam, St.w_pR, St.w_pU, St.w_seg, St.w_pit, St.w_away, St.w_mn, St.w_fc, St.w_fl, St.w_fo, St.w_n, St.w_ring, St.w_nh, St.w_hs, St.w_nb, St.w_bo, St.w_course, St.a_ring, St.a_house, St.a_bore]
  have e_fc : S.fc = σ.fc := by rw [← hS]; simp only [bl6, bl5, bl4, bl3, bl2, bl1, St.kinds, St.refs, St.depths, St.waters, St.bR, St.bU, St.wears, St.order, St.waits, St.hR, St.hU, St.oR, St.oU, St.press, St.foam, St.pR, St.pU, St.seg, St.pit, St.away, St.mn, St.fc, St.fl, St.fo, St.n, St.ring, St.nh, St.hs, St.nb, St.bo, St.w_kinds, St.w_refs, St.w_depths, St.w_waters, St.w_bR, St.w_bU, St.w_wears, St.w_order, St.w_waits, St.w_hR, St.w_hU, St.w_oR, St.w_oU, St.w_press, St.w_foam, St.w_pR, St.w_pU, St.w_seg, St.w_pit, St.w_away, St.w_mn, St.w_fc, St.w_fl, St.w_fo, St.w_n, St.w_ring, St.w_nh, St.w_hs, St.w_nb, St.w_bo, St.w_course, St.a_ring, St.a_house, St.a_bore]
  have e_fl : S.fl = σ.fl := by rw [← hS]; simp only [bl6, bl5, bl4, bl3, bl2, bl1, St.kinds, St.refs, St.depths, St.waters, St.bR, St.bU, St.wears, St.order, St.waits, St.hR, St.hU, St.oR, St.oU, St.press, St.foam, St.pR, St.pU, St.seg, St.pit, St.away, St.mn, St.fc, St.fl, St.fo, St.n, St.ring, St.nh, St.hs, St.nb, St.bo, St.w_kinds, St.w_refs, St.w_depths, St.w_waters, St.w_bR, St.w_bU, St.w_wears, St.w_order, St.w_waits, St.w_hR, St.w_hU, St.w_oR, St.w_oU, St.w_press, St.w_foam, St.w_pR, St.w_pU, St.w_seg, St.w_pit, St.w_away, St.w_mn, St.w_fc, St.w_fl, St.w_fo, St.w_n, St.w_ring, St.w_nh, St.w_hs, St.w_nb, St.w_bo, St.w_course, St.a_ring, St.a_house, St.a_bore]
  have e_fo : S.fo = σ.fo := by rw [← hS]; simp only [bl6, bl5, bl4, bl3, bl2, bl1, St.kinds, St.refs, St.depths, St.waters, St.bR, St.bU, St.wears, St.order, St.waits, St.hR, St.hU, St.oR, St.oU, St.press, St.foam, St.pR, St.pU, St.seg, St.pit, St.away, St.mn, St.fc, St.fl, St.fo, St.n, St.ring, St.nh, St.hs, St.nb, St.bo, St.w_kinds, St.w_refs, St.w_depths, St.w_waters, St.w_bR, St.w_bU, St.w_wears, St.w_order, St.w_waits, St.w_hR, St.w_hU, St.w_oR, St.w_oU, St.w_press, St.w_foam, St.w_pR, St.w_pU, St.w_seg, St.w_pit, St.w_away, St.w_mn, St.w_fc, St.w_fl, St.w_fo, St.w_n, St.w_ring, St.w_nh, St.w_hs, St.w_nb, St.w_bo, St.w_course, St.a_ring, St.a_house, St.a_bore]
  have e_seg : S.seg = σ.seg - 1 := by rw [← hS]; simp only [bl6, bl5, bl4, bl3, bl2, bl1, St.kinds, St.refs, St.depths, St.waters, St.bR, St.bU, St.wears, St.order, St.waits, St.hR, St.hU, St.oR, St.oU, St.press, St.foam, St.pR, St.pU, St.seg, St.pit, St.away, St.mn, St.fc, St.fl, St.fo, St.n, St.ring, St.nh, St.hs, St.nb, St.bo, St.w_kinds, St.w_refs, St.w_depths, St.w_waters, St.w_bR, St.w_bU, St.w_wears, St.w_order, St.w_waits, St.w_hR, St.w_hU, St.w_oR, St.w_oU, St.w_press, St.w_foam, St.w_pR, St.w_pU, St.w_seg, St.w_pit, St.w_away, St.w_mn, St.w_fc, St.w_fl, St.w_fo, St.w_n, St.w_ring, St.w_nh, St.w_hs, St.w_nb, St.w_bo, St.w_course, St.a_ring, St.a_house, St.a_bore]
  have e_mn : S.mn = σ.mn + m9 := by rw [← hS]; simp only [bl6, bl5, bl4, bl3, bl2, bl1, St.kinds, St.refs, St.depths, St.waters, St.bR, St.bU, St.wears, St.order, St.waits, St.hR, St.hU, St.oR, St.oU, St.press, St.foam, St.pR, St.pU, St.seg, St.pit, St.away, St.mn, St.fc, St.fl, St.fo, St.n, St.ring, St.nh, St.hs, St.nb, St.bo, St.w_kinds, St.w_refs, St.w_depths, St.w_waters, St.w_bR, St.w_bU, St.w_wears, St.w_order, St.w_waits, St.w_hR, St.w_hU, St.w_oR, St.w_oU, St.w_press, St.w_foam, St.w_pR, St.w_pU, St.w_seg, St.w_pit, St.w_away, St.w_mn, St.w_fc, St.w_fl, St.w_fo, St.w_n, St.w_ring, St.w_nh, St.w_hs, St.w_nb, St.w_bo, St.w_course, St.a_ring, St.a_house, St.a_bore]
  have e_pit : S.pit = σ.pit + muckF (nI kq) (bI σ.foam) := by rw [← hat, ← hS]; simp only [blk, bl6, bl5, bl4, bl3, bl2, bl1, St.kinds, St.refs, St.depths, St.waters, St.bR, St.bU, St.wears, St.order, St.waits, St.hR, St.hU, St.oR, St.oU, St.press, St.foam, St.pR, St.pU, St.seg, St.pit, St.away, St.mn, St.fc, St.fl, St.fo, St.n, St.ring, St.nh, St.hs, St.nb, St.bo, St.w_kinds, St.w_refs, St.w_depths, St.w_waters, St.w_bR, St.w_bU, St.w_wears, St.w_order, St.w_waits, St.w_hR, St.w_hU, St.w_oR, St.w_oU, St.w_press, St.w_foam, St.w_pR, St.w_pU, St.w_seg, St.w_pit, St.w_away, St.w_mn, St.w_fc, St.w_fl, St.w_fo, St.w_n, St.w_ring, St.w_nh, St.w_hs, St.w_nb, St.w_bo, St.w_course, St.a_ring, St.a_house, St.a_bore]
  have e_n : S.n = σ.n + 1 := by rw [← hS]; simp only [bl6, bl5, bl4, bl3, bl2, bl1, St.kinds, St.refs, St.depths, St.waters, St.bR, St.bU, St.wears, St.order, St.waits, St.hR, St.hU, St.oR, St.oU, St.press, St.foam, St.pR, St.pU, St.seg, St.pit, St.away, St.mn, St.fc, St.fl, St.fo, St.n, St.ring, St.nh, St.hs, St.nb, St.bo, St.w_kinds, St.w_refs, St.w_depths, St.w_waters, St.w_bR, St.w_bU, St.w_wears, St.w_order, St.w_waits, St.w_hR, St.w_hU, St.w_oR, St.w_oU, St.w_press, St.w_foam, St.w_pR, St.w_pU, St.w_seg, St.w_pit, St.w_away, St.w_mn, St.w_fc, St.w_fl, St.w_fo, St.w_n, St.w_ring, St.w_nh, St.w_hs, St.w_nb, St.w_bo, St.w_course, St.a_ring, St.a_house, St.a_bore]
  have e_cr : cr0 S = bl0 σ (nI t) := by rw [← hS]; simp only [cr0, bl6, bl5, bl4, bl3, bl2, bl1, St.kinds, St.refs, St.depths, St.waters, St.bR, St.bU, St.wears, St.order, St.waits, St.hR, St.hU, St.oR, St.oU, St.press, St.foam, St.pR, St.pU, St.seg, St.pit, St.away, St.mn, St.fc, St.fl, St.fo, St.n, St.ring, St.nh, St.hs, St.nb, St.bo, St.w_kinds, St.w_refs, St.w_depths, St.w_waters, St.w_bR, St.w_bU, St.w_wears, St.w_order, St.w_waits, St.w_hR, St.w_hU, St.w_oR, St.w_oU, St.w_press, St.w_foam, St.w_pR, St.w_pU, St.w_seg, St.w_pit, St.w_away, St.w_mn, St.w_fc, St.w_fl, St.w_fo, St.w_n, St.w_ring, St.w_nh, St.w_hs, St.w_nb, St.w_bo, St.w_course, St.a_ring, St.a_house, St.a_bore]
  have hev : evF (bl2 σ (nI t) m9) (nI σ.n) = evF σ (nI σ.n) := evF_cg (by omega) (by simp only [bl6, bl5, bl4, bl3, bl2, bl1, St.kinds, St.refs, St.depths, St.waters, St.bR, St.bU, St.wears, St.order, St.waits, St.hR, St.hU, St.oR, St.oU, St.press, St.foam, St.pR, St.pU, St.seg, St.pit, St.away, St.mn, St.fc, St.fl, St.fo, St.n, St.ring, St.nh, St.hs, St.nb, St.bo, St.w_kinds, St.w_refs, St.w_depths, St.w_waters, St.w_bR, St.w_bU, St.w_wears, St.w_order, St.w_waits, St.w_hR, St.w_hU, St.w_oR, St.w_oU, St.w_press, St.w_foam, St.w_pR, St.w_pU, St.w_seg, St.w_pit, St.w_away, St.w_mn, St.w_fc, St.w_fl, St.w_fo, St.w_n, St.w_ring, St.w_nh, St.w_hs, St.w_nb, St.w_bo, St.w_course, St.a_ring, St.a_house, St.a_bore]) (by simp only [bl6, bl5, bl4, bl3, bl2, bl1, St.kinds, St.refs, St.depths, St.waters, St.bR, St.bU, St.wears, St.order, St.waits, St.hR, St.hU, St.oR, St.oU, St.press, St.foam, St.pR, St.pU, St.seg, St.pit, St.away, St.mn, St.fc, St.fl, St.fo, St.n, St.ring, St.nh, St.hs, St.nb, St.bo, St.w_kinds, St.w_refs, St.w_depths, St.w_waters, St.w_bR, St.w_bU, St.w_wears, St.w_order, St.w_waits, St.w_hR, St.w_hU, St.w_oR, St.w_oU, St.w_press, St.w_foam, St.w_pR, St.w_pU, St.w_seg, St.w_pit, St.w_away, St.w_mn, St.w_fc, St.w_fl, St.w_fo, St.w_n, St.w_ring, St.w_nh, St.w_hs, St.w_nb, St.w_bo, St.w_course, St.a_ring, St.a_house, St.a_bore])
  have e_ring : S.ring = upT σ.ring σ.n (nI t, nI kq, σ.pR, σ.pU, σ.foam, (bl0 σ (nI t)).2.2.1, (bl0 σ (nI t)).2.2.2, m9, σ.mn + m9, evF σ (nI σ.n), false, false, 0, 0) := by
    rw [← hS, ← hat, ← hev]
    simp only [bl6, blr, blk, bl6, bl5, bl4, bl3, bl2, bl1, St.kinds, St.refs, St.depths, St.waters, St.bR, St.bU, St.wears, St.order, St.waits, St.hR, St.hU, St.oR, St.oU, St.press, St.foam, St.pR, St.pU, St.seg, St.pit, St.away, St.mn, St.fc, St.fl, St.fo, St.n, St.ring, St.nh, St.hs, St.nb, St.bo, St.w_kinds, St.w_refs, St.w_depths, St.w_waters, St.w_bR, St.w_bU, St.w_wears, St.w_order, St.w_waits, St.w_hR, St.w_hU, St.w_oR, St.w_oU, St.w_press, St.w_foam, St.w_pR, St.w_pU, St.w_seg, St.w_pit, St.w_away, St.w_mn, St.w_fc, St.w_fl, St.w_fo, St.w_n, St.w_ring, St.w_nh, St.w_hs, St.w_nb, St.w_bo, St.w_course, St.a_ring, St.a_house, St.a_bore]
  clear hS hev
  have hrs : ∀ i, i < σ.n → S.ring i = σ.ring i := fun i hi => by rw [e_ring, upT_n (by omega)]
  have hsm : ∀ i, i < σ.n → rsm (S.ring i) (σ.ring i) := fun i hi => by rw [hrs i hi]; exact rsm_rf _
  have hrn : S.ring σ.n = (nI t, nI kq, σ.pR, σ.pU, σ.foam, (bl0 σ (nI t)).2.2.1, (bl0 σ (nI t)).2.2.2, m9, σ.mn + m9, evF σ (nI σ.n), false, false, 0, 0) := by rw [e_ring, upT_s]
  have hcr := crs_cg (σ := σ) (σ' := S) (N := σ.n) (by omega) hsm (fun i _ => ⟨by rw [e_bR], by rw [e_bU]⟩)
  have hcn : crs S (σ.n + 1) = bl0 σ (nI t) := by
    rw [crs, hcr _ (Nat.le_refl _), hrn]
    show go9 S (crs σ σ.n) (nI t) σ.pR σ.pU (nI σ.n) = _
    rw [← hr.2.2.2.1.2, go9_cg (σ := σ) _ _ _ _ (by omega) (by rw [e_bR]) (by rw [e_bU])]
    rfl
  refine ⟨gI_cg e_kinds e_refs e_depths e_bR e_bU hg, pI_cg e_pR e_pU hp, ?_, ?_, hI_cg e_nh e_hs hh, oI_cg e_nb e_bo ho, ?_, ?_, ?_, qI_cg e_order hq⟩
  · obtain ⟨r1, r2, r3, ⟨r4, r5⟩, r6, r7⟩ := hr
    refine ⟨by show S.n ≤ 120; omega, fun i hi => ?_, fun i hi => ?_, ⟨fun i hi => ?_, ?_⟩, fun i hi => ?_, fun i hi => ?_⟩
    · rw [e_n] at hi
      rw [e_kinds]
      by_cases he : i = σ.n
      · rw [he, hrn, hke]
        rfl
      · rw [hrs i (by omega)]
        exact r2 i (by omega)
    · rw [e_n] at hi
      by_cases he : i = σ.n
      · rw [he, hrn]
        exact ⟨⟨t, by omega, rfl⟩, hp.1, hp.2⟩
      · rw [hrs i (by omega)]
        exact r3 i (by omega)
    · rw [e_n] at hi
      by_cases he : i = σ.n
      · rw [he, hcn, hrn]
        exact ⟨rfl, rfl⟩
      · rw [hrs i (by omega), hcr (i + 1) (by omega)]
        exact r4 i (by omega)
    · rw [e_n, hcn, e_cr]
    · rw [e_n] at hi
      rw [evF_cg (σ := σ) (by omega) (by rw [e_kinds]) (by rw [e_refs])]
      by_cases he : i = σ.n
      · rw [he, hrn]
        rfl
      · rw [hrs i (by omega)]
        exact r6 i (by omega)
    · rw [e_n] at hi
      rw [ldF_cg hsm i (by omega)]
      by_cases he : i = σ.n
      · rw [he, hrn]
        show ¬ nI t = _
        rw [show ldF σ σ.n = ltF σ from ?_]
        · exact b4
        · unfold ltF
          cases hz : σ.n with
          | zero => rfl
          | succ k => rfl
      · rw [hrs i (by omega)]
        exact r7 i (by omega)
  · obtain ⟨f1, f2⟩ := hf
    refine ⟨fun i hi => ?_, fun i hi => ?_⟩
    · rw [e_n] at hi
      by_cases he : i = σ.n
      · rw [he, hrn]
        exact ⟨⟨0, by omega, rfl⟩, fun z => absurd rfl z⟩
      · rw [hrs i (by omega)]
        exact f1 i (by omega)
    · rw [e_n] at hi
      by_cases he : i = σ.n
      · rw [he, hrn]
        show 0 ≤ gapF (nI kq) + gapF (nI kq) / 5 - 0
        obtain ⟨G, hG, hG2⟩ := gap_q hkq
        rw [hG, Int32.sub_zero]
        exact nI_pos' (by omega)
      · rw [hrs i (by omega)]
        exact f2 i (by omega)
  · obtain ⟨m1, m2⟩ := hm
    rw [hat] at b3
    have h2 := i_le.mp b3
    rw [i_sub (by rw [show (2000 : Int32).toInt = 2000 from rfl]; omega) (by rw [show (2000 : Int32).toInt = 2000 from rfl]; omega), show (2000 : Int32).toInt = 2000 from rfl] at h2
    have h3 := i_add (a := σ.pit) (b := muckF (nI kq) (bI σ.foam)) (by omega) (by omega)
    refine ⟨by rw [e_pit]; omega, ?_⟩
    rw [e_n, mkF, mkF_cg hsm _ (Nat.le_refl _), hrn, e_pit, e_away, m2]
    show σ.pit + σ.away + muckF (nI kq) (bI σ.foam) = _
    ac_rfl
  · have h2 : ¬ σ.seg.toInt ≤ (0 : Int32).toInt := fun z => b2 (i_le.mpr z)
    rw [show (0 : Int32).toInt = 0 from rfl] at h2
    obtain ⟨s1, s2⟩ := hs
    have h3 := i_sub (a := σ.seg) (b := 1) (by rw [show (1 : Int32).toInt = 1 from rfl]; omega) (by rw [show (1 : Int32).toInt = 1 from rfl]; omega)
    rw [show (1 : Int32).toInt = 1 from rfl] at h3
    show 0 ≤ S.seg.toInt ∧ S.seg.toInt ≤ 40
    rw [e_seg]
    omega
  · obtain ⟨m1, m2⟩ := hc
    refine ⟨?_, ?_⟩
    · rw [e_mn]
      exact clk m1 hnm c3
    · rw [e_mn, e_n, mrF, mrF_cg hsm _ (Nat.le_refl _), hrn, e_waits, e_fc, e_fl, e_fo]
      show σ.mn + m9 = mrF σ σ.n + m9 + _ + _
      rw [m2]
      ac_rfl
theorem Inv.at_s00 : Inv s00 := by
  refine ⟨⟨fun i _ => ⟨0, by omega, rfl⟩, fun i _ => ⟨0, by omega, rfl⟩, fun i hi => ⟨20, by omega, by omega, ?_⟩, fun i _ => (⟨by decide, by decide⟩ : bds 0 20), fun i _ => (⟨by decide, by decide⟩ : bds 0 20)⟩, ⟨(⟨by decide, by decide⟩ : bds 0 5), (⟨by decide, by decide⟩ : bds 0 5)⟩, ⟨Nat.zero_le _, fun i hi => absurd hi (Nat.not_lt_zero _), fun i hi => absurd hi (Nat.not_lt_zero _), ⟨fun i hi => absurd hi (Nat.not_lt_zero _), rfl⟩, fun i hi => absurd hi (Nat.not_lt_zero _), fun i hi => absurd hi (Nat.not_lt_zero _)⟩, ⟨fun i hi => absurd hi (Nat.not_lt_zero _), fun i hi => absurd hi (Nat.not_lt_zero _)⟩, ⟨fun i hi => absurd hi (Nat.not_lt_zero _), fun i hi => absurd hi (Nat.not_lt_zero _), Nat.zero_le _⟩, ⟨Nat.zero_le _, fun i hi => absurd hi (Nat.not_lt_zero _)⟩, ⟨⟨by decide, by decide⟩, by decide⟩, ⟨by decide, by decide⟩, ⟨⟨by decide, by decide⟩, by decide⟩, ⟨⟨fun c => rfl, ?_⟩, fun k => ?_⟩⟩
  · show dp0 i = nI 20
    rw [dp0, fillN, if_pos ⟨Nat.zero_le _, by omega⟩]
    rfl
  · exact lat_st (xs := [103, 112, 99, 115, 109, 119, 104]) (by
      intro x hx
      simp only [List.mem_cons, List.not_mem_nil, or_false] at hx
      rcases hx with rfl | rfl | rfl | rfl | rfl | rfl | rfl
      · exact ⟨103, by decide, rfl⟩
      · exact ⟨112, by decide, rfl⟩
      · exact ⟨99, by decide, rfl⟩
      · exact ⟨115, by decide, rfl⟩
      · exact ⟨109, by decide, rfl⟩
      · exact ⟨119, by decide, rfl⟩
      · exact ⟨104, by decide, rfl⟩)
  · show vp_nar .char (stF [103, 112, 99, 115, 109, 119, 104] k) = stF [103, 112, 99, 115, 109, 119, 104] k
    rcases k with _ | _ | _ | _ | _ | _ | _ | k
    all_goals first | rfl | decide +kernel
