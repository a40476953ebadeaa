theorem ile_refl (x : Int32) : x ≤ x := Int32.le_iff_toInt_le.mpr (Int.le_refl _)
theorem in_0 : vp_in 0 60 := in_lt (M := 60) (by decide) (by decide) (by decide)
theorem in_le {i : Int32} (h : vp_in i 60) : i.toNatClampNeg ≤ 60 := by
  rw [vp_in_iff] at h
  rw [clamp_def]
  omega
theorem isThere_in {mf1 mf2 p0 : Int32} (hN : mf2.toNatClampNeg ≤ 60) (h : ¬ fX1_isThere mf1 mf2 p0 = 0) (h2 : ¬ p0 = (-1)) : vp_in p0 60 := by
  unfold fX1_isThere at h
  by_cases h1 : p0 < 0
  · rw [if_pos h1, if_neg h2] at h; exact absurd rfl h
  · rw [if_neg h1] at h
    by_cases h3 : p0 < mf2
    · rw [Int32.lt_iff_toInt_lt] at h3
      rw [Int32.lt_iff_toInt_lt, Int32.toInt_zero] at h1
      rw [clamp_def] at hN
      rw [vp_in_iff]
      omega
    · rw [if_neg h3, if_neg h2] at h; exact absurd rfl h
theorem inc_dec (x : Int32) : x + 1 - 1 = x := Int32.add_sub_cancel x 1
theorem add_in {x : Int32} (h0 : ¬ x < 0) (hN : x.toNatClampNeg ≤ 60) (h : ¬ x = 60) : vp_in x 60 := by
  have h1 := ne_toInt h
  rw [Int32.lt_iff_toInt_lt, Int32.toInt_zero] at h0
  rw [clamp_def] at hN
  rw [vp_in_iff]
  have h2 : (60 : Int32).toInt = 60 := by decide
  rw [h2] at h1
  omega
