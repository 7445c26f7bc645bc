/-! no share and no mean is a NaN -/
theorem nn64 {a : UInt64} (h : FP.Core.val64 a ≠ .nan) : vf_n64 a := by
  have h1 : ¬ FP.Core.infBits FP.Core.b64 < FP.Core.mag FP.Core.b64 a.toNat := fun z => h ((FP.Core.decode_nan (f := FP.Core.b64) a.toNat).mpr z)
  unfold vf_n64
  rw [UInt64.le_iff_toNat_le, UInt64.toNat_and]
  rw [show (0x7fffffffffffffff : UInt64).toNat = 2 ^ 63 - 1 from rfl, Nat.and_two_pow_sub_one_eq_mod, show (0x7ff0000000000000 : UInt64).toNat = 9218868437227405312 from rfl]
  have h2 : FP.Core.infBits FP.Core.b64 = 9218868437227405312 := by decide +kernel
  have h3 : FP.Core.half FP.Core.b64 = 2 ^ 63 := by decide +kernel
  rw [h2, FP.Core.mag, h3] at h1
  omega
theorem nn32 {a : UInt32} (h : FP.Core.val32 a ≠ .nan) : vf_n32 a := by
  have h1 : ¬ FP.Core.infBits FP.Core.b32 < FP.Core.mag FP.Core.b32 a.toNat := fun z => h ((FP.Core.decode_nan (f := FP.Core.b32) a.toNat).mpr z)
  unfold vf_n32
  rw [UInt32.le_iff_toNat_le, UInt32.toNat_and]
  rw [show (0x7fffffff : UInt32).toNat = 2 ^ 31 - 1 from rfl, Nat.and_two_pow_sub_one_eq_mod, show (0x7f800000 : UInt32).toNat = 2139095040 from rfl]
  have h2 : FP.Core.infBits FP.Core.b32 = 2139095040 := by decide +kernel
  have h3 : FP.Core.half FP.Core.b32 = 2 ^ 31 := by decide +kernel
  rw [h2, FP.Core.mag, h3] at h1
  omega
theorem rnd_nn {f : FP.Core.Fmt} {d : FP.Core.Datum} (h : d ≠ .nan) : FP.Core.round f d ≠ .nan := by
  cases d with
  | nan => exact absurd rfl h
  | inf s => exact fun z => FP.Core.Datum.noConfusion z
  | fin s c q => exact FP.Core.roundRatio_ne_nan f s c 1 q
theorem quo_nn {f : FP.Core.Fmt} {x y : FP.Core.Datum} (hx : x ≠ .nan) (hy : ∃ s c q, y = .fin s c q ∧ ¬ c = 0) : FP.Core.quotient f x y ≠ .nan := by
  obtain ⟨t, d, r, rfl, hd⟩ := hy
  cases x with
  | nan => exact absurd rfl hx
  | inf s => exact fun z => FP.Core.Datum.noConfusion z
  | fin s c q =>
    show (if d = 0 then _ else FP.Core.roundRatio f (s != t) c d (q - r)) ≠ _
    rw [if_neg hd]
    exact FP.Core.roundRatio_ne_nan _ _ _ _ _
theorem rnd_fin {f : FP.Core.Fmt} (hf : FP.Core.Good f) (h1 : f.qmin ≤ 0) (h2 : 0 ≤ f.qmax) {n : Nat} (hn : ¬ n = 0) (hp : n < 2 ^ f.p) (hb : n < 2 ^ 31) : ∃ s c q, FP.Core.round f (FP.Core.ofInt (nI n).toInt) = .fin s c q ∧ ¬ c = 0 := by
  obtain ⟨c, q, e1, e2⟩ := FP.Core.round_exact hf (decide ((nI n).toInt < 0)) (c := n) (q := 0) hp h1 h2
  refine ⟨decide ((nI n).toInt < 0), c, q, ?_, fun z => ?_⟩
  · rw [← e1]
    unfold FP.Core.ofInt
    rw [nI_toInt hb]
    rfl
  · rw [z] at e2
    unfold FP.Core.inUnits at e2
    rw [Nat.zero_mul] at e2
    have := Nat.mul_pos (Nat.pos_of_ne_zero hn) (Nat.two_pow_pos ((0 : Int) - f.qmin).toNat)
    omega
theorem gp_b {σ : St} (hg : gI σ) (hr : rI σ) (j : Nat) (hj : j ≤ σ.n) : ∃ v, 110 * j ≤ v ∧ v ≤ 150 * j ∧ gpF σ j = nI v := by
  have hn : σ.n ≤ 120 := hr.1
  induction j with
  | zero => exact ⟨0, by omega, by omega, rfl⟩
  | succ j ih =>
    obtain ⟨v, v1, v2, v3⟩ := ih (by omega)
    obtain ⟨q, hq, he⟩ := hg.1 j (by omega)
    have hgap : ∀ q, q < 4 → ∃ G, G ≤ 150 ∧ 110 ≤ G ∧ gapF (nI q) = nI G := by
      intro q hq
      obtain rfl | rfl | rfl | rfl : q = 0 ∨ q = 1 ∨ q = 2 ∨ q = 3 := by omega
      · exact ⟨120, by decide, by decide, by decide⟩
      · exact ⟨150, by decide, by decide, by decide⟩
      · exact ⟨110, by decide, by decide, by decide⟩
      · exact ⟨140, by decide, by decide, by decide⟩
    obtain ⟨G, g1, g2, g3⟩ := hgap q hq
    rw [gpF, v3, hr.2.1 j (by omega), he, g3, nI_add]
    exact ⟨v + G, by omega, by omega, rfl⟩
theorem Inv.nvM {σ : St} (h : Inv σ) (h0 : ¬ σ.n = 0) : FP.Core.val64 (FP.ddiv (FP.i2d (mrF σ σ.n)) (FP.i2d (nI σ.n))) ≠ .nan := by
  have hn : σ.n ≤ 120 := h.2.2.1.1
  rw [FP.Core.val64_ddiv, FP.Core.val64_i2d, FP.Core.val64_i2d]
  exact quo_nn (rnd_nn (fun z => FP.Core.Datum.noConfusion z)) (rnd_fin FP.Core.good_b64 (by decide) (by decide) h0 (by show σ.n < 2 ^ 53; omega) (by omega))
theorem Inv.nnM {σ : St} (h : Inv σ) (h0 : ¬ σ.n = 0) : vf_n64 (FP.ddiv (FP.i2d (mrF σ σ.n)) (FP.i2d (nI σ.n))) := nn64 (h.nvM h0)
theorem Inv.nnF {σ : St} (h : Inv σ) (h0 : ¬ σ.n = 0) : FP.Core.val32 (FP.fdiv (FP.i2f (fiF σ σ.n)) (FP.i2f (gpF σ σ.n))) ≠ .nan := by
  have hn : σ.n ≤ 120 := h.2.2.1.1
  obtain ⟨v, v1, v2, v3⟩ := gp_b h.1 h.2.2.1 σ.n (Nat.le_refl _)
  rw [v3, FP.Core.val32_fdiv, FP.Core.val32_i2f, FP.Core.val32_i2f]
  exact quo_nn (rnd_nn (fun z => FP.Core.Datum.noConfusion z)) (rnd_fin FP.Core.good_b32 (by decide) (by decide) (by omega) (by show v < 2 ^ 24; omega) (by omega))
theorem Inv.nnG {σ : St} (h : Inv σ) (h0 : ¬ σ.n = 0) : vf_n32 (FP.fdiv (FP.i2f (fiF σ σ.n)) (FP.i2f (gpF σ σ.n))) := nn32 (h.nnF h0)
theorem Inv.nvD {σ : St} (h : Inv σ) (h0 : ¬ σ.n = 0) : FP.Core.val64 (FP.f2d (vl_groutShare σ)) ≠ .nan := by
  have h1 := h.nnF h0
  unfold vl_groutShare FP.f2d
  rw [if_neg (show ¬ FP.Core.fIsNaN _ = true from fun z => h1 (of_decide_eq_true z)), FP.Core.val64_f2d]
  exact rnd_nn h1
theorem Inv.nnD {σ : St} (h : Inv σ) (h0 : ¬ σ.n = 0) : vf_n64 (FP.f2d (vl_groutShare σ)) := nn64 (h.nvD h0)
theorem dcmp_0 {x : UInt64} (h : FP.Core.val64 x ≠ .nan) : Op.cmpValue (FP.dcmp x x) .l = 0 := by
  rw [show FP.dcmp x x = some .eq from FP.Core.dcmp_self h]
  rfl
