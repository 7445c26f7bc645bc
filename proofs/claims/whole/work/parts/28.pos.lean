theorem nI_mul9 (a b : Nat) : nI a * nI b = nI (a * b) := (Int32.ofNat_mul a b).symm
theorem nI_sub9 {a b : Nat} (h : b ≤ a) : nI a - nI b = nI (a - b) := by
  obtain ⟨c, rfl⟩ : ∃ c, a = b + c := ⟨a - b, by omega⟩
  rw [← nI_add, Nat.add_sub_cancel_left, Int32.add_comm, Int32.add_sub_cancel]
theorem nI_sq9 (b c : Nat) : ∃ k, (nI b - nI c) * (nI b - nI c) = nI (k * k) ∧ k ≤ b + c := by
  rcases Nat.le_total c b with h | h
  · exact ⟨b - c, by rw [nI_sub9 h, nI_mul9], by omega⟩
  · refine ⟨c - b, ?_, by omega⟩
    rw [← nI_mul9, ← nI_sub9 h]
    have : nI b - nI c = -(nI c - nI b) := by rw [Int32.neg_sub]
    rw [this, Int32.neg_mul, Int32.mul_neg, Int32.neg_neg]
theorem div_pos9 {a b c e : Nat} (ha : 10 ≤ a) (ha2 : a ≤ 60) (hb : b < 200) (hc : c < 200) (he : e ≤ 60) : ¬ 10 * (nI a * nI a + (nI b - nI c) * (nI b - nI c) + nI e * nI e) ≤ 0 := by
  obtain ⟨k, hk, hk2⟩ := nI_sq9 b c
  have h1 : a * a ≤ 60 * 60 := Nat.mul_le_mul ha2 ha2
  have h2 : 10 * 10 ≤ a * a := Nat.mul_le_mul ha ha
  have h3 : k * k ≤ 400 * 400 := Nat.mul_le_mul (by omega) (by omega)
  have h4 : e * e ≤ 60 * 60 := Nat.mul_le_mul he he
  rw [hk, nI_mul9, nI_mul9, nI_add, nI_add, show (10 : Int32) = nI 10 from rfl, nI_mul9]
  exact nI_nle (by omega) (by omega)
