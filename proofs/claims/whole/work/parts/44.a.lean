def bt (x : Int32) (i : Nat) : Bool := x.toBitVec.getLsbD i
theorem b_ext {x y : Int32} (h : ∀ i, i < 32 → bt x i = bt y i) : x = y := Int32.toBitVec_inj.mp (BitVec.eq_of_getLsbD_eq (fun i hi => h i hi))
theorem b_or (x y : Int32) (i : Nat) : bt (x ||| y) i = (bt x i || bt y i) := by unfold bt; rw [Int32.toBitVec_or, BitVec.getLsbD_or]
theorem b_and (x y : Int32) (i : Nat) : bt (x &&& y) i = (bt x i && bt y i) := by unfold bt; rw [Int32.toBitVec_and, BitVec.getLsbD_and]
theorem b_xor (x y : Int32) (i : Nat) : bt (x ^^^ y) i = (bt x i ^^ bt y i) := by unfold bt; rw [Int32.toBitVec_xor, BitVec.getLsbD_xor]
theorem b_big {x : Int32} {i : Nat} (h : 32 ≤ i) : bt x i = false := BitVec.getLsbD_of_ge _ _ h
theorem b_255 (i : Nat) : bt 255 i = decide (i < 8) := by
  rcases Nat.lt_or_ge i 32 with h | h
  · exact (by decide +kernel : ∀ i, i < 32 → bt 255 i = decide (i < 8)) i h
  · rw [b_big h, decide_eq_false (by omega)]
theorem b_65535 (i : Nat) : bt 65535 i = decide (i < 16) := by
  rcases Nat.lt_or_ge i 32 with h | h
  · exact (by decide +kernel : ∀ i, i < 32 → bt 65535 i = decide (i < 16)) i h
  · rw [b_big h, decide_eq_false (by omega)]
theorem b_m1 : ∀ i, i < 32 → bt (-1) i = true := by decide +kernel
theorem b_0 (i : Nat) : bt 0 i = false := BitVec.getLsbD_zero
theorem s_l : ∀ n, n < 32 → ((nI n &&& 31).toBitVec.smod 32).toNat = n := by decide +kernel
theorem s_u : ∀ n, n < 32 → (((nI n).toUInt32 &&& Int32.toUInt32 31).toBitVec % 32).toNat = n := by decide +kernel
theorem b_shl (n : Nat) (hn : n < 32) (x : Int32) {i : Nat} (hi : i < 32) : bt (x <<< (nI n &&& 31)) i = (decide (n ≤ i) && bt x (i - n)) := by
  unfold bt
  rw [Int32.toBitVec_shiftLeft]
  show (x.toBitVec <<< ((nI n &&& 31).toBitVec.smod 32).toNat).getLsbD i = _
  rw [s_l n hn, BitVec.getLsbD_shiftLeft]
  rcases Nat.lt_or_ge i n with h | h
  · simp [h, Nat.not_le.mpr h]
  · simp [hi, h, Nat.not_lt.mpr h]
theorem b_ushr (n : Nat) (hn : n < 32) (x : Int32) (i : Nat) : bt ((x.toUInt32 >>> ((nI n).toUInt32 &&& Int32.toUInt32 31)).toInt32) i = bt x (n + i) := by
  show (x.toUInt32 >>> ((nI n).toUInt32 &&& Int32.toUInt32 31)).toBitVec.getLsbD i = x.toUInt32.toBitVec.getLsbD (n + i)
  rw [UInt32.toBitVec_shiftRight]
  show (x.toUInt32.toBitVec >>> (((nI n).toUInt32 &&& Int32.toUInt32 31).toBitVec % 32).toNat).getLsbD i = _
  rw [s_u n hn, BitVec.getLsbD_ushiftRight]
theorem b_sshr (n : Nat) (hn : n < 32) (x : Int32) {i : Nat} (hi : i < 32) : bt (x >>> (nI n &&& 31)) i = if n + i < 32 then bt x (n + i) else bt x 31 := by
  unfold bt
  rw [Int32.toBitVec_shiftRight]
  show (x.toBitVec.sshiftRight ((nI n &&& 31).toBitVec.smod 32).toNat).getLsbD i = _
  rw [s_l n hn, BitVec.getLsbD_sshiftRight, BitVec.msb_eq_getLsbD_last]
  simp [hi]
theorem b_shl8 (x : Int32) {i : Nat} (hi : i < 32) : bt (x <<< ((8 : Int32) &&& 31)) i = (decide (8 ≤ i) && bt x (i - 8)) := b_shl 8 (by omega) x hi
theorem b_shl16 (x : Int32) {i : Nat} (hi : i < 32) : bt (x <<< ((16 : Int32) &&& 31)) i = (decide (16 ≤ i) && bt x (i - 16)) := b_shl 16 (by omega) x hi
theorem b_shl24 (x : Int32) {i : Nat} (hi : i < 32) : bt (x <<< ((24 : Int32) &&& 31)) i = (decide (24 ≤ i) && bt x (i - 24)) := b_shl 24 (by omega) x hi
theorem b_sshr8 (x : Int32) {i : Nat} (hi : i < 32) : bt (x >>> ((8 : Int32) &&& 31)) i = if 8 + i < 32 then bt x (8 + i) else bt x 31 := b_sshr 8 (by omega) x hi
theorem bt1 : ∀ i, i < 32 → bt 1 i = decide (i = 0) := by decide +kernel
theorem bt_one (n : Nat) (hn : n < 32) (i : Nat) (hi : i < 32) : bt (1 <<< (nI n &&& 31)) i = decide (i = n) := by
  rw [b_shl n hn 1 hi, bt1 (i - n) (by omega)]
  by_cases h : n ≤ i
  · by_cases e : i = n
    · subst e
      simp
    · rw [decide_eq_false e, decide_eq_false (show ¬ i - n = 0 by omega), Bool.and_false]
  · rw [decide_eq_false h, decide_eq_false (show ¬ i = n by omega), Bool.false_and]
theorem bt_nI {a : Nat} (ha : a < 2 ^ 32) {i : Nat} : bt (nI a) i = a.testBit i := by
  unfold bt
  rw [← BitVec.testBit_toNat, pk_tn ha]
theorem low_nI : ∀ n, n < 32 → ((1 : Int32) <<< (nI n &&& 31)) - 1 = nI (2 ^ n - 1) := by decide +kernel
theorem bt_low (n : Nat) (hn : n < 32) (i : Nat) (hi : i < 32) : bt ((1 <<< (nI n &&& 31)) - 1) i = decide (i < n) := by
  have h1 : 2 ^ n ≤ 2 ^ 31 := Nat.pow_le_pow_right (by decide) (by omega)
  rw [low_nI n hn, bt_nI (by omega), Nat.testBit_two_pow_sub_one]
theorem bitv (x : Int32) {k : Nat} (hk : k < 32) : ((x >>> (nI k &&& 31)) &&& 1) = if bt x k then 1 else 0 := by
  apply b_ext
  intro i hi
  rw [b_and, b_sshr k hk x hi, bt1 i hi]
  by_cases h0 : i = 0
  · subst h0
    rw [if_pos (by omega), Nat.add_zero]
    cases bt x k <;> decide
  · cases bt x k
    · simp [h0, b_0]
    · simp [h0, bt1 i hi]
theorem bit_and (x : Int32) {n : Nat} (hn : n < 32) : (x &&& (1 <<< (nI n &&& 31))) = 0 ↔ bt x n = false := by
  constructor
  · intro h
    have h2 := congrArg (fun z => bt z n) h
    have h3 : bt (x &&& (1 <<< (nI n &&& 31))) n = bt 0 n := h2
    rw [b_and, bt_one n hn n hn, b_0] at h3
    simpa using h3
  · intro h
    apply b_ext
    intro i hi
    rw [b_and, bt_one n hn i hi, b_0]
    by_cases e : i = n
    · subst e
      simp [h]
    · simp [e]
theorem bit_shr (x : Int32) {n : Nat} (hn : n < 32) : ((x >>> (nI n &&& 31)) &&& 1) = 0 ↔ bt x n = false := by
  rw [bitv x hn]
  cases bt x n <;> decide
theorem svM_and (s p2 : Int32) {n : Nat} (hn : n < 32) : ∀ k, k ≤ 32 → svM (s &&& ((1 <<< (nI n &&& 31)) - 1)) p2 k = svM s p2 (if k < n then k else n)
  | 0, _ => by
    by_cases h : 0 < n
    · rw [if_pos h]; rfl
    · rw [if_neg h, show n = 0 by omega]; rfl
  | k + 1, h => by
    rw [svM, svM_and s p2 hn k (by omega), bitv _ (by omega : k < 32), b_and, bt_low n hn k (by omega)]
    by_cases h1 : k < n
    · rw [if_pos h1, decide_eq_true h1, Bool.and_true]
      have e : svM s p2 (k + 1) = svM s p2 k + (if bt s k then 1 else 0) * p2 := by rw [svM, bitv s (by omega : k < 32)]
      by_cases h2 : k + 1 < n
      · rw [if_pos h2, e]
      · rw [if_neg h2, show n = k + 1 by omega, e]
    · rw [if_neg h1, decide_eq_false h1, Bool.and_false, if_neg (show ¬ k + 1 < n by omega)]
      simp
