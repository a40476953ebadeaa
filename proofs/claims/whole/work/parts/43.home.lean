/-! homes -/
def hA (mk1 mk2 mk3 : Nat → Int32) (mf1 : Int32) (j : Nat) : Int32 := if fX1_isWide mk1 mk3 (nI j) = 0 then hM mk1 mk2 mk3 mf1 j else fX1_filled (hM mk1 mk2 mk3 mf1 j) 8
theorem home_lt {mk1 mk2 mk3 : Nat → Int32} {mf1 : Int32} {n j : Nat} (hj : j < n) (hn : n ≤ 60) : fX1_home mk1 mk2 mk3 mf1 (nI n) (nI j) = hA mk1 mk2 mk3 mf1 j := by
  rw [fX1_home, if_neg (nI_ge hj (by omega)), clampN (by omega), hA]
theorem home_eq {mk1 mk2 mk3 : Nat → Int32} {mf1 : Int32} {n : Nat} (hn : n ≤ 60) : fX1_home mk1 mk2 mk3 mf1 (nI n) (nI n) = hM mk1 mk2 mk3 mf1 n := by
  rw [fX1_home, if_pos (ile_refl _), clampN (by omega)]
theorem hM_succ (mk1 mk2 mk3 : Nat → Int32) (mf1 : Int32) (j : Nat) : hM mk1 mk2 mk3 mf1 (j + 1) = hA mk1 mk2 mk3 mf1 j + fX1_filled (fX1_bytes mk1 mk2 (nI j)) 4 := by
  rw [hM, hA]
  by_cases h : fX1_isWide mk1 mk3 (nI j) = 0
  · rw [if_pos h, if_pos h]
  · rw [if_neg h, if_neg h]
theorem upd_ne {f : Nat → Int32} {k j : Nat} {x : Int32} (h : j ≠ k) : upd f k x j = f j := pk_un h
theorem wide_ne {mk1 mk3 : Nat → Int32} {n j : Nat} {a c : Int32} (h : j < n) (hn : n ≤ 60) : fX1_isWide (upd mk1 n a) (upd mk3 n c) (nI j) = fX1_isWide mk1 mk3 (nI j) := by
  rw [fX1_isWide, fX1_isWide, clampN (by omega), upd_ne (by omega), upd_ne (by omega)]
theorem bytes_ne {mk1 mk2 : Nat → Int32} {n j : Nat} {a c : Int32} (h : j < n) (hn : n ≤ 60) : fX1_bytes (upd mk1 n a) (upd mk2 n c) (nI j) = fX1_bytes mk1 mk2 (nI j) := by
  rw [fX1_bytes, fX1_bytes, clampN (by omega), upd_ne (by omega), upd_ne (by omega)]
theorem hM_upd {mk1 mk2 mk3 : Nat → Int32} {mf1 a b c : Int32} {n : Nat} (hn : n ≤ 60) : ∀ k, k ≤ n → hM (upd mk1 n a) (upd mk2 n b) (upd mk3 n c) mf1 k = hM mk1 mk2 mk3 mf1 k
  | 0, _ => rfl
  | k + 1, h => by rw [hM, hM, hM_upd hn k (by omega), wide_ne (by omega) hn, bytes_ne (by omega) hn]
theorem hA_upd {mk1 mk2 mk3 : Nat → Int32} {mf1 a b c : Int32} {n j : Nat} (hn : n ≤ 60) (h : j < n) : hA (upd mk1 n a) (upd mk2 n b) (upd mk3 n c) mf1 j = hA mk1 mk2 mk3 mf1 j := by
  rw [hA, hA, hM_upd hn j (by omega), wide_ne h hn]
theorem bytes_new {mk1 mk2 : Nat → Int32} {n : Nat} {a b : Int32} (hn : n ≤ 60) : fX1_bytes (upd mk1 n a) (upd mk2 n b) (nI n) = fX0_bytesOf a b := by
  rw [fX1_bytes, fX0_bytesOf, clampN (by omega), pk_us, pk_us]
  by_cases h2 : a = 2
  · subst h2
    rw [if_pos rfl, if_neg (by decide), if_pos rfl]
  · rw [if_neg h2, if_neg h2]
theorem wide_new {mk1 mk3 : Nat → Int32} {n : Nat} {a c : Int32} (hn : n ≤ 60) : fX1_isWide (upd mk1 n a) (upd mk3 n c) (nI n) = if fX0_homeAlignment a c = 4 then 0 else 1 := by
  rw [fX1_isWide, fX0_homeAlignment, clampN (by omega), pk_us, pk_us]
  by_cases h2 : a = 2
  · rw [if_pos h2, if_pos h2]; rfl
  · rw [if_neg h2, if_neg h2]
    by_cases h3 : a = 3
    · rw [if_pos h3, if_pos h3]
      by_cases h8 : c = 8
      · rw [if_pos h8, if_pos h8]; rfl
      · rw [if_neg h8, if_neg h8]; rfl
    · rw [if_neg h3, if_neg h3]; rfl
theorem al_cases (a c : Int32) : fX0_homeAlignment a c = 4 ∨ fX0_homeAlignment a c = 8 := by
  rw [fX0_homeAlignment]
  repeat' split
  all_goals first | exact Or.inl rfl | exact Or.inr rfl
/-- the new argument's home: the class's number is the reference's -/
theorem home_new {mk1 mk2 mk3 : Nat → Int32} {mf1 a b c : Int32} {n e : Nat} (hn : n ≤ 60) (he : e ≤ 250000) (h : hM mk1 mk2 mk3 mf1 n = nI (4 * e)) :
    hA (upd mk1 n a) (upd mk2 n b) (upd mk3 n c) mf1 n = fX0_fill (nI (4 * e)) (fX0_homeAlignment a c) ∧ ∃ h : Nat, h ≤ 250001 ∧ fX0_fill (nI (4 * e)) (fX0_homeAlignment a c) = nI (4 * h) := by
  rw [hA, wide_new hn, hM_upd hn n (Nat.le_refl n), h]
  rcases al_cases a c with h4 | h8
  · rw [h4, if_pos rfl, if_pos rfl, fill4 (by omega), show (4 * e + 3) / 4 * 4 = 4 * e by omega]
    exact ⟨rfl, e, by omega, rfl⟩
  · rw [h8, if_neg (by decide), fill8 (by omega), filled8 (by omega)]
    exact ⟨rfl, (4 * e + 7) / 8 * 2, by omega, by rw [show 4 * ((4 * e + 7) / 8 * 2) = (4 * e + 7) / 8 * 8 by omega]⟩
def RA (xk1 xk2 xk3 mk1 mk2 mk3 : Nat → Int32) (mf1 : Int32) (j : Nat) : Prop := xk1 j = mk1 j ∧ xk2 j = hA mk1 mk2 mk3 mf1 j ∧ xk3 j = fX1_bytes mk1 mk2 (nI j) ∧ (∃ h : Nat, h ≤ 250000 ∧ xk2 j = nI (4 * h)) ∧ ∃ b : Nat, 1 ≤ b ∧ b ≤ 65536 ∧ xk3 j = nI b
/-- the signature at hand -/
def RS (xk1 xk2 xk3 : Nat → Int32) (xf3 xf4 xf5 xf6 : Int32) (mk1 mk2 mk3 : Nat → Int32) (mf1 mf2 mf9 : Int32) : Prop :=
  ∃ n e : Nat, n ≤ 60 ∧ xf3 = nI n ∧ mf2 = nI n ∧ xf4 = mf1 ∧ xf5 = mf9 ∧ (mf1 = 0 ∨ mf1 = 1 ∨ mf1 = 2 ∨ mf1 = 3 ∨ mf1 = 4) ∧ xf6 = nI (4 * e) ∧ e ≤ 250000 ∧ hM mk1 mk2 mk3 mf1 n = nI (4 * e) ∧ ∀ j, j < n → RA xk1 xk2 xk3 mk1 mk2 mk3 mf1 j
/-- the calls that were told -/
def RC (t : Nat) (xf7 xf8 mf3 mf4 : Int32) : Prop := ∃ k a : Nat, k ≤ t ∧ xf7 = nI k ∧ mf3 = nI k ∧ xf8 = nI (8 * a) ∧ mf4 = nI (8 * a) ∧ a ≤ 125001 ∧ (k = 0 → a = 0)
/-- the frame -/
def RF (xf9 xf10 xf11 xf12 xf13 mf5 mf6 mf7 mf8 : Int32) : Prop := ∃ a lc : Nat, xf9 = nI (8 * a) ∧ mf8 = nI (8 * a) ∧ a ≤ 125001 ∧ mf7 = nI lc ∧ lc ≤ 1000000 ∧ xf10 = fX1_fractionsAt mf7 mf8 ∧ xf11 = fX1_generalAt mf6 mf7 mf8 ∧ xf12 = mf5 ∧ xf13 = mf6 ∧ mf5 &&& 1057030143 = 0 ∧ mf6 &&& (-1431306241) = 0
