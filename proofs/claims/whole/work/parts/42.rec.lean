/-! a record that can be: the class's test and the reference's are one -/
theorem le0_lt1 {x : Int32} : x ≤ 0 ↔ x < 1 := by
  rw [Int32.le_iff_toInt_le, Int32.lt_iff_toInt_lt, Int32.toInt_zero, show (1 : Int32).toInt = 1 from by decide]
  omega
theorem rec_in {size al : Int32} {d : Nat} (hd : al = nI d) (h0 : 0 < d) (h8 : d ≤ 8) (hf : ∀ a, a < 2 ^ 30 → fX0_fill (nI a) al = nI ((a + (d - 1)) / d * d)) (hq : ∀ a : Nat, a % d = 0 ↔ (a + (d - 1)) / d * d = a) :
    (if size ≤ 0 then (0 : Int32) else if 65536 < size then 0 else if (size - size / al * al) = 0 then 1 else 0) = (if size < 1 then 0 else if 65536 < size then 0 else if (fX0_fill size al) = size then 1 else 0) := by
  by_cases h1 : size < 1
  · rw [if_pos h1, if_pos (le0_lt1.mpr h1)]
  · rw [if_neg h1, if_neg (fun h => h1 (le0_lt1.mp h))]
    by_cases h2 : 65536 < size
    · rw [if_pos h2, if_pos h2]
    · rw [if_neg h2, if_neg h2]
      obtain ⟨a, ha, rfl⟩ : ∃ a : Nat, a ≤ 65536 ∧ size = nI a := by
        refine nI_of2 (M := 65536) (by decide) (fun h => h1 ?_) ?_
        · rw [Int32.lt_iff_toInt_lt] at h ⊢
          rw [Int32.toInt_zero] at h
          rw [show (1 : Int32).toInt = 1 from by decide]
          omega
        · rw [Int32.lt_iff_toInt_lt] at h2
          rw [Int32.le_iff_toInt_le]
          omega
      rw [hf a (by omega), hd, pk_rem (by omega) h0 (by omega)]
      have hb : (a + (d - 1)) / d * d ≤ a + (d - 1) := Nat.div_mul_le_self _ _
      by_cases h3 : a % d = 0
      · rw [if_pos (by rw [h3]; rfl), if_pos (by rw [(hq a).mp h3])]
      · have hm : a % d < d := Nat.mod_lt _ h0
        have hz : ¬ nI (a % d) = 0 := fun h => h3 ((nI_eq (b := 0) (by omega) (by decide)).mp h)
        rw [if_neg hz, if_neg (fun h => h3 ((hq a).mpr ((nI_eq (by omega) (by omega)).mp h)))]
theorem rec1 (size : Int32) : (if size ≤ 0 then (0 : Int32) else if 65536 < size then 0 else if (size - size / 1 * 1) = 0 then 1 else 0) = (if size < 1 then 0 else if 65536 < size then 0 else if (fX0_fill size 1) = size then 1 else 0) :=
  rec_in (d := 1) rfl (by decide) (by decide) (fun a h => by rw [fill1 h, show (a + (1 - 1)) / 1 * 1 = a by omega]) (fun a => by omega)
theorem rec2 (size : Int32) : (if size ≤ 0 then (0 : Int32) else if 65536 < size then 0 else if (size - size / 2 * 2) = 0 then 1 else 0) = (if size < 1 then 0 else if 65536 < size then 0 else if (fX0_fill size 2) = size then 1 else 0) :=
  rec_in (d := 2) rfl (by decide) (by decide) (fun a h => fill2 h) (fun a => by omega)
theorem rec4 (size : Int32) : (if size ≤ 0 then (0 : Int32) else if 65536 < size then 0 else if (size - size / 4 * 4) = 0 then 1 else 0) = (if size < 1 then 0 else if 65536 < size then 0 else if (fX0_fill size 4) = size then 1 else 0) :=
  rec_in (d := 4) rfl (by decide) (by decide) (fun a h => fill4 h) (fun a => by omega)
theorem rec8 (size : Int32) : (if size ≤ 0 then (0 : Int32) else if 65536 < size then 0 else if (size - size / 8 * 8) = 0 then 1 else 0) = (if size < 1 then 0 else if 65536 < size then 0 else if (fX0_fill size 8) = size then 1 else 0) :=
  rec_in (d := 8) rfl (by decide) (by decide) (fun a h => fill8 h) (fun a => by omega)
theorem good_eq (k most size al : Int32) : fX1_isGood k most size al = if k < 0 then 0 else if k ≤ most then (if k = 3 then fX0_isRecord size al else 1) else 0 := by
  rw [fX1_isGood]
  by_cases h1 : k < 0
  · rw [if_pos h1, if_pos h1]
  · rw [if_neg h1, if_neg h1]
    by_cases h2 : k ≤ most
    · rw [if_pos h2, if_pos h2]
      by_cases h3 : k = 3
      · rw [if_pos h3, if_pos h3, fX0_isRecord]
        by_cases a1 : al = 1
        · subst a1
          rw [if_pos rfl, if_pos rfl, rec1]
        · rw [if_neg a1, if_neg a1]
          by_cases a2 : al = 2
          · subst a2
            rw [if_pos rfl, if_pos rfl, rec2]
          · rw [if_neg a2, if_neg a2]
            by_cases a4 : al = 4
            · subst a4
              rw [if_pos rfl, if_pos rfl, rec4]
            · rw [if_neg a4, if_neg a4]
              by_cases a8 : al = 8
              · subst a8
                rw [if_pos rfl, if_pos rfl, rec8]
              · rw [if_neg a8, if_neg a8]
      · rw [if_neg h3, if_neg h3]
    · rw [if_neg h2, if_neg h2]
/-- what is known of a record that can be -/
theorem rec_size {size al : Int32} (h : ¬ fX0_isRecord size al = 0) : ∃ a : Nat, 1 ≤ a ∧ a ≤ 65536 ∧ size = nI a := by
  have key : ¬ size < 1 ∧ ¬ 65536 < size := by
    rw [fX0_isRecord] at h
    by_cases h1 : size < 1
    · exfalso
      apply h
      simp only [if_pos h1, ite_self]
    · by_cases h2 : 65536 < size
      · exfalso
        apply h
        simp only [if_neg h1, if_pos h2, ite_self]
      · exact ⟨h1, h2⟩
  obtain ⟨h1, h2⟩ := key
  rw [Int32.lt_iff_toInt_lt] at h1 h2
  rw [show (1 : Int32).toInt = 1 from by decide] at h1
  have h3 : ¬ size < 0 := by
    rw [Int32.lt_iff_toInt_lt, Int32.toInt_zero]
    omega
  obtain ⟨a, ha, rfl⟩ := nI_of2 (x := size) (M := 65536) (n := 65536) (by decide) h3 (by rw [Int32.le_iff_toInt_le]; omega)
  rw [nI_toInt (by omega)] at h1
  exact ⟨a, by omega, ha, rfl⟩
