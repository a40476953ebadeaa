/-! bits of the sets of registers -/
theorem ofN (s : Int32) : s = nI s.toBitVec.toNat := by
  apply Int32.toBitVec_inj.mp
  apply BitVec.eq_of_toNat_eq
  rw [pk_tn s.toBitVec.isLt]
theorem msk_nat {s m : Int32} (h : s &&& m = 0) : s.toBitVec.toNat &&& m.toBitVec.toNat = 0 := by
  have h2 := congrArg (fun z : Int32 => z.toBitVec.toNat) h
  have h3 : (s &&& m).toBitVec.toNat = (0 : Int32).toBitVec.toNat := h2
  rw [Int32.toBitVec_and, BitVec.toNat_and] at h3
  exact h3
theorem bit0 {x m : Nat} (i : Nat) (h : x &&& m = 0) (hm : m.testBit i = true) : x / 2 ^ i % 2 = 0 := by
  have h2 := congrArg (fun z : Nat => z.testBit i) h
  have h3 : (x &&& m).testBit i = (0 : Nat).testBit i := h2
  rw [Nat.testBit_and, hm, Nat.zero_testBit, Bool.and_true, Nat.testBit_eq_decide_div_mod_eq, decide_eq_false_iff_not] at h3
  omega
theorem low0 {x m : Nat} (k : Nat) (h : x &&& m = 0) (hm : m &&& (2 ^ k - 1) = 2 ^ k - 1) : x % 2 ^ k = 0 := by
  rw [← Nat.and_two_pow_sub_one_eq_mod, ← hm, ← Nat.and_assoc, h, Nat.zero_and]
theorem shr0 {x m : Nat} (k : Nat) (h : x &&& m = 0) : (x >>> k) &&& (m >>> k) = 0 := by
  rw [← Nat.shiftRight_and_distrib, h, Nat.zero_shiftRight]
theorem gen_n {x : Nat} (hx : x < 4294967296) (h1 : x % 65536 = 0) (h2 : x / 16777216 % 64 = 0) : x = x / 1073741824 * 1073741824 + x / 65536 % 256 * 65536 := by omega
theorem gen_of {s : Int32} (h : s &&& 1057030143 = 0) : ∃ c b : Nat, c < 4 ∧ b < 256 ∧ s = nI (c * 1073741824 + b * 65536) := by
  have hx := s.toBitVec.isLt
  have e := ofN s
  have hm : (1057030143 : Int32).toBitVec.toNat = 1057030143 := by decide
  have h0 := msk_nat h
  rw [hm] at h0
  generalize s.toBitVec.toNat = x at hx e h0
  have h1 := low0 16 h0 (by decide)
  have h2 := shr0 24 h0
  rw [show 1057030143 >>> 24 = 2 ^ 6 - 1 from by decide, Nat.and_two_pow_sub_one_eq_mod, Nat.shiftRight_eq_div_pow] at h2
  exact ⟨x / 1073741824, x / 65536 % 256, by omega, by omega, by rw [e]; exact congrArg nI (gen_n hx h1 h2)⟩
theorem frac_y : (List.range 64).all (fun a => (List.range 64).all (fun b => decide ((a * 64 + b) &&& 2730 = 0 → (a * 64 + b) = (a * 64 + b) % 2 + (a * 64 + b) / 4 % 2 * 4 + (a * 64 + b) / 16 % 2 * 16 + (a * 64 + b) / 64 % 2 * 64 + (a * 64 + b) / 256 % 2 * 256 + (a * 64 + b) / 1024 % 2 * 1024))) = true := by decide +kernel
theorem frac_of {s : Int32} (h : s &&& (-1431306241) = 0) : ∃ e0 e1 e2 e3 e4 e5 : Nat, e0 < 2 ∧ e1 < 2 ∧ e2 < 2 ∧ e3 < 2 ∧ e4 < 2 ∧ e5 < 2 ∧ s = nI ((e0 + e1 * 4 + e2 * 16 + e3 * 64 + e4 * 256 + e5 * 1024) * 1048576) := by
  have hx := s.toBitVec.isLt
  have e := ofN s
  have hm : (-1431306241 : Int32).toBitVec.toNat = 2863661055 := by decide
  have h0 := msk_nat h
  rw [hm] at h0
  generalize s.toBitVec.toNat = x at hx e h0
  have h1 := low0 20 h0 (by decide)
  have h2 := shr0 20 h0
  rw [show 2863661055 >>> 20 = 2730 from by decide, Nat.shiftRight_eq_div_pow] at h2
  have hy : x / 2 ^ 20 < 4096 := by omega
  have hxy : x = x / 2 ^ 20 * 1048576 := by omega
  generalize x / 2 ^ 20 = y at h2 hy hxy
  have h3 := List.all_eq_true.mp frac_y (y / 64) (List.mem_range.mpr (by omega))
  have h4 := of_decide_eq_true (List.all_eq_true.mp h3 (y % 64) (List.mem_range.mpr (by omega)))
  rw [show y / 64 * 64 + y % 64 = y by omega] at h4
  have h5 := h4 h2
  refine ⟨y % 2, y / 4 % 2, y / 16 % 2, y / 64 % 2, y / 256 % 2, y / 1024 % 2, Nat.mod_lt _ (by decide), Nat.mod_lt _ (by decide), Nat.mod_lt _ (by decide), Nat.mod_lt _ (by decide), Nat.mod_lt _ (by decide), Nat.mod_lt _ (by decide), ?_⟩
  rw [← h5, ← hxy]
  exact e
