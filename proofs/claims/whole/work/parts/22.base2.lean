theorem clamp_def (p : Int32) : p.toNatClampNeg = p.toInt.toNat := rfl
theorem clamp_lt (p : Int32) : p.toNatClampNeg < 2 ^ 31 := by
  have h := Int32.toInt_lt p
  rw [clamp_def]
  omega
theorem le_clamp {p : Int32} {i : Nat} (hi : i ≤ p.toNatClampNeg) (h : p ≤ nI i) : i = p.toNatClampNeg := by
  have h1 := clamp_lt p
  rw [Int32.le_iff_toInt_le, nI_toInt (by omega)] at h
  rw [clamp_def] at hi ⊢
  omega
theorem lt_clamp {p : Int32} {i : Nat} (hi : i ≤ p.toNatClampNeg) (h : ¬ p ≤ nI i) : i < p.toNatClampNeg := by
  have h1 := clamp_lt p
  rw [Int32.le_iff_toInt_le, nI_toInt (by omega)] at h
  rw [clamp_def] at hi ⊢
  omega
