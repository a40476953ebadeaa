/-! numbers: filling up, at Nat -/
theorem and_m8 {b : Nat} (h : b < 2 ^ 32) : b &&& 4294967288 = b / 8 * 8 := by
  have e : b / 8 * 8 = (b >>> 3) <<< 3 := by rw [Nat.shiftLeft_eq, Nat.shiftRight_eq_div_pow]
  rw [e]
  apply Nat.eq_of_testBit_eq
  intro i
  rw [Nat.testBit_and, Nat.testBit_shiftLeft, Nat.testBit_shiftRight]
  by_cases hi : i < 32
  · have hm : ∀ k, k < 32 → Nat.testBit 4294967288 k = decide (3 ≤ k) := by decide
    rw [hm i hi]
    by_cases h3 : 3 ≤ i
    · rw [show 3 + (i - 3) = i by omega]
      simp [h3]
    · simp [h3]
  · have hb : b.testBit i = false := Nat.testBit_lt_two_pow (Nat.lt_of_lt_of_le h (Nat.pow_le_pow_right (by decide) (by omega)))
    by_cases h3 : 3 ≤ i
    · rw [show 3 + (i - 3) = i by omega, hb]
      simp
    · omega
theorem and_m4 {b : Nat} (h : b < 2 ^ 32) : b &&& 4294967292 = b / 4 * 4 := by
  have e : b / 4 * 4 = (b >>> 2) <<< 2 := by rw [Nat.shiftLeft_eq, Nat.shiftRight_eq_div_pow]
  rw [e]
  apply Nat.eq_of_testBit_eq
  intro i
  rw [Nat.testBit_and, Nat.testBit_shiftLeft, Nat.testBit_shiftRight]
  by_cases hi : i < 32
  · have hm : ∀ k, k < 32 → Nat.testBit 4294967292 k = decide (2 ≤ k) := by decide
    rw [hm i hi]
    by_cases h3 : 2 ≤ i
    · rw [show 2 + (i - 2) = i by omega]
      simp [h3]
    · simp [h3]
  · have hb : b.testBit i = false := Nat.testBit_lt_two_pow (Nat.lt_of_lt_of_le h (Nat.pow_le_pow_right (by decide) (by omega)))
    by_cases h3 : 2 ≤ i
    · rw [show 2 + (i - 2) = i by omega, hb]
      simp
    · omega
theorem and_m2 {b : Nat} (h : b < 2 ^ 32) : b &&& 4294967294 = b / 2 * 2 := by
  have e : b / 2 * 2 = (b >>> 1) <<< 1 := by rw [Nat.shiftLeft_eq, Nat.shiftRight_eq_div_pow]
  rw [e]
  apply Nat.eq_of_testBit_eq
  intro i
  rw [Nat.testBit_and, Nat.testBit_shiftLeft, Nat.testBit_shiftRight]
  by_cases hi : i < 32
  · have hm : ∀ k, k < 32 → Nat.testBit 4294967294 k = decide (1 ≤ k) := by decide
    rw [hm i hi]
    by_cases h3 : 1 ≤ i
    · rw [show 1 + (i - 1) = i by omega]
      simp [h3]
    · simp [h3]
  · have hb : b.testBit i = false := Nat.testBit_lt_two_pow (Nat.lt_of_lt_of_le h (Nat.pow_le_pow_right (by decide) (by omega)))
    by_cases h3 : 1 ≤ i
    · rw [show 1 + (i - 1) = i by omega, hb]
      simp
    · omega
theorem nI_and {a b : Nat} (ha : a < 2 ^ 32) (hb : b < 2 ^ 32) {m : Int32} (hm : m.toBitVec.toNat = b) : nI a &&& m = nI (a &&& b) := by
  apply Int32.toBitVec_inj.mp
  apply BitVec.eq_of_toNat_eq
  rw [Int32.toBitVec_and, BitVec.toNat_and, pk_tn ha, hm, pk_tn (Nat.lt_of_le_of_lt Nat.and_le_left ha)]
theorem fill8 {a : Nat} (h : a < 2 ^ 30) : fX0_fill (nI a) 8 = nI ((a + 7) / 8 * 8) := by
  have e : nI a + 8 - 1 = nI (a + 7) := by
    rw [show (8 : Int32) = nI 8 from rfl, nI_add, show (1 : Int32) = nI 1 from rfl, pk_sub (by omega)]
    rfl
  rw [fX0_fill, e, nI_and (b := 4294967288) (by omega) (by decide) (by decide), and_m8 (by omega)]
theorem fill4 {a : Nat} (h : a < 2 ^ 30) : fX0_fill (nI a) 4 = nI ((a + 3) / 4 * 4) := by
  have e : nI a + 4 - 1 = nI (a + 3) := by
    rw [show (4 : Int32) = nI 4 from rfl, nI_add, show (1 : Int32) = nI 1 from rfl, pk_sub (by omega)]
    rfl
  rw [fX0_fill, e, nI_and (b := 4294967292) (by omega) (by decide) (by decide), and_m4 (by omega)]
theorem fill2 {a : Nat} (h : a < 2 ^ 30) : fX0_fill (nI a) 2 = nI ((a + 1) / 2 * 2) := by
  have e : nI a + 2 - 1 = nI (a + 1) := by
    rw [show (2 : Int32) = nI 2 from rfl, nI_add, show (1 : Int32) = nI 1 from rfl, pk_sub (by omega)]
    rfl
  rw [fX0_fill, e, nI_and (b := 4294967294) (by omega) (by decide) (by decide), and_m2 (by omega)]
theorem fill1 {a : Nat} (h : a < 2 ^ 30) : fX0_fill (nI a) 1 = nI a := by
  have e : nI a + 1 - 1 = nI a := inc_dec _
  have h2 : a &&& 4294967295 = a := (Nat.and_two_pow_sub_one_eq_mod a 32).trans (Nat.mod_eq_of_lt (by omega))
  rw [fX0_fill, e, nI_and (b := 4294967295) (by omega) (by decide) (by decide), h2]
theorem filled8 {a : Nat} (h : a < 2 ^ 30) : fX1_filled (nI a) 8 = nI ((a + 7) / 8 * 8) := by
  have e : nI a + 8 - 1 = nI (a + 7) := by
    rw [show (8 : Int32) = nI 8 from rfl, nI_add, show (1 : Int32) = nI 1 from rfl, pk_sub (by omega)]
    rfl
  rw [fX1_filled, e, show (8 : Int32) = nI 8 from rfl, pk_div (by omega) (by decide) (by decide), pk_mul]
theorem filled4 {a : Nat} (h : a < 2 ^ 30) : fX1_filled (nI a) 4 = nI ((a + 3) / 4 * 4) := by
  have e : nI a + 4 - 1 = nI (a + 3) := by
    rw [show (4 : Int32) = nI 4 from rfl, nI_add, show (1 : Int32) = nI 1 from rfl, pk_sub (by omega)]
    rfl
  rw [fX1_filled, e, show (4 : Int32) = nI 4 from rfl, pk_div (by omega) (by decide) (by decide), pk_mul]
theorem ff8 {a : Nat} (h : a < 2 ^ 30) : fX0_fill (nI a) 8 = fX1_filled (nI a) 8 := by rw [fill8 h, filled8 h]
theorem ff4 {a : Nat} (h : a < 2 ^ 30) : fX0_fill (nI a) 4 = fX1_filled (nI a) 4 := by rw [fill4 h, filled4 h]
theorem clampN {a : Nat} (h : a < 2 ^ 31) : (nI a).toNatClampNeg = a := nI_clamp h
