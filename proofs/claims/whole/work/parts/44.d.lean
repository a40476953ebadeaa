theorem cntG {s : Int32} (h : s &&& 1057030143 = 0) : (4 : Int32) * fJ0_bitCount s = svM s 4 32 := by
  obtain ⟨c, b, hc, hb, rfl⟩ := gen_of h
  have h1 := List.all_eq_true.mp enumG c (List.mem_range.mpr hc)
  have h2 := of_decide_eq_true (List.all_eq_true.mp h1 b (List.mem_range.mpr hb))
  have hx : c * 1073741824 + b * 65536 < 4294967296 := by omega
  rw [bc_nat hx, svM_cnt hx 4 32 (Nat.le_refl _), h2, Int32.mul_comm]
theorem cntF {s : Int32} (h : s &&& (-1431306241) = 0) : (8 : Int32) * fJ0_bitCount s = svM s 8 32 := by
  obtain ⟨e0, e1, e2, e3, e4, e5, h0, h1, h2, h3, h4, h5, rfl⟩ := frac_of h
  have a0 := List.all_eq_true.mp enumF e0 (List.mem_range.mpr h0)
  have a1 := List.all_eq_true.mp a0 e1 (List.mem_range.mpr h1)
  have a2 := List.all_eq_true.mp a1 e2 (List.mem_range.mpr h2)
  have a3 := List.all_eq_true.mp a2 e3 (List.mem_range.mpr h3)
  have a4 := List.all_eq_true.mp a3 e4 (List.mem_range.mpr h4)
  have a5 := of_decide_eq_true (List.all_eq_true.mp a4 e5 (List.mem_range.mpr h5))
  have hx : (e0 + e1 * 4 + e2 * 16 + e3 * 64 + e4 * 256 + e5 * 1024) * 1048576 < 4294967296 := by omega
  rw [bc_nat hx, svM_cnt hx 8 32 (Nat.le_refl _), a5, Int32.mul_comm]
/-- the place of register n among those that are saved -/
theorem cntGn {s : Int32} (h : s &&& 1057030143 = 0) {n : Nat} (hn : n < 32) : (4 : Int32) * fJ0_bitCount (s &&& ((1 <<< (nI n &&& 31)) - 1)) = svM s 4 n := by
  have h2 : (s &&& ((1 <<< (nI n &&& 31)) - 1)) &&& 1057030143 = 0 := by
    rw [Int32.and_assoc, Int32.and_comm ((1 <<< (nI n &&& 31)) - 1), ← Int32.and_assoc, h, Int32.zero_and]
  rw [cntG h2, svM_and s 4 hn 32 (Nat.le_refl _), if_neg (by omega)]
theorem cntFn {s : Int32} (h : s &&& (-1431306241) = 0) {n : Nat} (hn : n < 32) : (8 : Int32) * fJ0_bitCount (s &&& ((1 <<< (nI n &&& 31)) - 1)) = svM s 8 n := by
  have h2 : (s &&& ((1 <<< (nI n &&& 31)) - 1)) &&& (-1431306241) = 0 := by
    rw [Int32.and_assoc, Int32.and_comm ((1 <<< (nI n &&& 31)) - 1), ← Int32.and_assoc, h, Int32.zero_and]
  rw [cntF h2, svM_and s 8 hn 32 (Nat.le_refl _), if_neg (by omega)]
