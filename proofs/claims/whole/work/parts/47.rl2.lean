theorem words_m1 (xk3 : Nat → Int32) (x : Int32) : fX0_wordsAt xk3 x (-1) = 1 := by
  rw [fX0_wordsAt, fX0_bytesAt, if_pos (added_m1 _)]
  decide
theorem words_j {xk1 xk2 xk3 mk1 mk2 mk3 : Nat → Int32} {mf1 : Int32} {n j : Nat} (hn : n ≤ 60) (hj : j < n) (h : RA xk1 xk2 xk3 mk1 mk2 mk3 mf1 j) : fX0_wordsAt xk3 (nI n) (nI j) = fX1_words mk1 mk2 (nI j) := by
  obtain ⟨-, -, h3, -, b, hb1, hb2, h5⟩ := h
  rw [fX0_wordsAt, fX1_words, if_neg (nI_m1 (by omega)), fX0_bytesAt, if_neg (added hn hj), clampN (by omega), ← h3, h5, ff4 (by omega)]
theorem rc_about {t : Nat} {xk1 xk2 xk3 : Nat → Int32} {xf3 xf4 xf5 xf6 xf7 xf8 xf9 xf10 xf11 xf12 xf13 : Int32} {mk1 mk2 mk3 : Nat → Int32} {mf0 mf1 mf2 mf3 mf4 mf5 mf6 mf7 mf8 mf9 : Int32} (ht : t ≤ 512) (hS : RS xk1 xk2 xk3 xf3 xf4 xf5 xf6 mk1 mk2 mk3 mf1 mf2 mf9) (hC : RC t xf7 xf8 mf3 mf4) (hF : RF xf9 xf10 xf11 xf12 xf13 mf5 mf6 mf7 mf8) (p0 p1 : Int32) : Rel (t + 1) (fX0_about xk1 xk2 xk3 xf3 xf4 xf5 xf6 xf7 xf8 xf9 xf10 xf11 xf12 xf13 p0 p1).2.2 (fX1_about mk1 mk2 mk3 mf0 mf1 mf2 mf3 mf4 mf5 mf6 mf7 mf8 mf9 p0 p1).2.2 ∧ (fX1_about mk1 mk2 mk3 mf0 mf1 mf2 mf3 mf4 mf5 mf6 mf7 mf8 mf9 p0 p1).2.2.2.2.2.1 = (fX0_about xk1 xk2 xk3 xf3 xf4 xf5 xf6 xf7 xf8 xf9 xf10 xf11 xf12 xf13 p0 p1).1 ∧ ((fX0_about xk1 xk2 xk3 xf3 xf4 xf5 xf6 xf7 xf8 xf9 xf10 xf11 xf12 xf13 p0 p1).1 = 0 → (fX0_about xk1 xk2 xk3 xf3 xf4 xf5 xf6 xf7 xf8 xf9 xf10 xf11 xf12 xf13 p0 p1).2.1 = (fX1_about mk1 mk2 mk3 mf0 mf1 mf2 mf3 mf4 mf5 mf6 mf7 mf8 mf9 p0 p1).2.1) := by
  have hK := hS
  obtain ⟨n, e, hn, h1, h2, h3, h4, h5, h6, h7, h8, h9⟩ := hS
  rw [fX0_about, fX1_about, there_eq hn h1 h2 h3 p0]
  by_cases ha : fX0_isArgument xf3 xf4 p0 = 0
  · rw [if_pos ha, if_pos ha]
    exact ⟨⟨hK, hC.mono, hF⟩, rfl, fun q => absurd q n10⟩
  rw [if_neg ha, if_neg ha]
  by_cases q0 : p1 = 0
  · subst q0
    rw [if_pos rfl, if_neg (show ¬ ((0 : Int32) < 0) by decide), if_pos (show (0 : Int32) ≤ 2 by decide)]
    subst h1
    rcases arg_cases hn ha with ⟨rfl, -⟩ | ⟨j, hj, rfl⟩
    · rw [if_pos rfl, if_pos rfl]
      exact ⟨⟨hK, hC.mono, hF⟩, rfl, fun _ => by show fX0_homeAt xk2 (nI n) (-1) = 0; rw [fX0_homeAt, if_pos (added_m1 _)]⟩
    · rw [if_neg (nI_m1 (by omega)), if_pos rfl]
      refine ⟨⟨hK, hC.mono, hF⟩, rfl, fun _ => ?_⟩
      show fX0_homeAt xk2 (nI n) (nI j) = fX1_home mk1 mk2 mk3 mf1 mf2 (nI j)
      rw [fX0_homeAt, if_neg (added hn hj), clampN (by omega), h2, home_lt hj hn]
      exact (h9 j hj).2.1
  rw [if_neg q0]
  by_cases q1 : p1 = 1
  · subst q1
    rw [if_pos rfl, if_neg (show ¬ ((1 : Int32) < 0) by decide), if_pos (show (1 : Int32) ≤ 2 by decide)]
    subst h1
    rcases arg_cases hn ha with ⟨rfl, -⟩ | ⟨j, hj, rfl⟩
    · rw [if_pos rfl, if_neg q0, if_pos rfl]
      exact ⟨⟨hK, hC.mono, hF⟩, rfl, fun _ => by show fX0_bytesAt xk3 (nI n) (-1) = 4; rw [fX0_bytesAt, if_pos (added_m1 _)]⟩
    · rw [if_neg (nI_m1 (by omega)), if_neg q0, if_pos rfl]
      refine ⟨⟨hK, hC.mono, hF⟩, rfl, fun _ => ?_⟩
      show fX0_bytesAt xk3 (nI n) (nI j) = fX1_bytes mk1 mk2 (nI j)
      rw [fX0_bytesAt, if_neg (added hn hj), clampN (by omega)]
      exact (h9 j hj).2.2.1
  rw [if_neg q1]
  by_cases q2 : p1 = 2
  · subst q2
    rw [if_pos rfl, if_neg (show ¬ ((2 : Int32) < 0) by decide), if_pos (show (2 : Int32) ≤ 2 by decide)]
    subst h1
    rcases arg_cases hn ha with ⟨rfl, -⟩ | ⟨j, hj, rfl⟩
    · rw [if_pos rfl, if_neg q0, if_neg q1]
      exact ⟨⟨hK, hC.mono, hF⟩, rfl, fun _ => by show fX0_wordsAt xk3 (nI n) (-1) = 1; exact words_m1 _ _⟩
    · rw [if_neg (nI_m1 (by omega)), if_neg q0, if_neg q1]
      exact ⟨⟨hK, hC.mono, hF⟩, rfl, fun _ => words_j hn hj (h9 j hj)⟩
  rw [if_neg q2]
  by_cases hneg : p1 < 0
  · rw [if_pos hneg]
    exact ⟨⟨hK, hC.mono, hF⟩, rfl, fun q => absurd q n10⟩
  · rw [if_neg hneg]
    by_cases hle : p1 ≤ 2
    · exfalso
      obtain ⟨j, hj, rfl⟩ := nI_of2 (M := 2) (n := 2) (by decide) hneg hle
      rcases (show j = 0 ∨ j = 1 ∨ j = 2 by omega) with rfl | rfl | rfl
      · exact q0 rfl
      · exact q1 rfl
      · exact q2 rfl
    · rw [if_neg hle]
      exact ⟨⟨hK, hC.mono, hF⟩, rfl, fun q => absurd q n10⟩
theorem rl_about {t : Nat} (ht : t ≤ 512) {σ : xWS} {μ : mWS} (h : Rel t σ μ) (p0 p1 : Int32) : Rel (t + 1) (XF_about σ p0 p1).2.2 (MF_about μ p0 p1).2.2 ∧ (MF_about μ p0 p1).2.2.2.2.2.1 = (XF_about σ p0 p1).1 ∧ ((XF_about σ p0 p1).1 = 0 → (XF_about σ p0 p1).2.1 = (MF_about μ p0 p1).2.1) := rc_about (mf0 := μ.2.2.2.1) ht h.1 h.2.1 h.2.2 p0 p1
theorem rc_place {t : Nat} {xk1 xk2 xk3 : Nat → Int32} {xf3 xf4 xf5 xf6 xf7 xf8 xf9 xf10 xf11 xf12 xf13 : Int32} {mk1 mk2 mk3 : Nat → Int32} {mf0 mf1 mf2 mf3 mf4 mf5 mf6 mf7 mf8 mf9 : Int32} (ht : t ≤ 512) (hS : RS xk1 xk2 xk3 xf3 xf4 xf5 xf6 mk1 mk2 mk3 mf1 mf2 mf9) (hC : RC t xf7 xf8 mf3 mf4) (hF : RF xf9 xf10 xf11 xf12 xf13 mf5 mf6 mf7 mf8) (p0 p1 : Int32) : Rel (t + 1) (fX0_place xk1 xk2 xk3 xf3 xf4 xf5 xf6 xf7 xf8 xf9 xf10 xf11 xf12 xf13 p0 p1).2.2 (fX1_place mk1 mk2 mk3 mf0 mf1 mf2 mf3 mf4 mf5 mf6 mf7 mf8 mf9 p0 p1).2.2 ∧ (fX1_place mk1 mk2 mk3 mf0 mf1 mf2 mf3 mf4 mf5 mf6 mf7 mf8 mf9 p0 p1).2.2.2.2.2.1 = (fX0_place xk1 xk2 xk3 xf3 xf4 xf5 xf6 xf7 xf8 xf9 xf10 xf11 xf12 xf13 p0 p1).1 ∧ ((fX0_place xk1 xk2 xk3 xf3 xf4 xf5 xf6 xf7 xf8 xf9 xf10 xf11 xf12 xf13 p0 p1).1 = 0 → (fX0_place xk1 xk2 xk3 xf3 xf4 xf5 xf6 xf7 xf8 xf9 xf10 xf11 xf12 xf13 p0 p1).2.1 = (fX1_place mk1 mk2 mk3 mf0 mf1 mf2 mf3 mf4 mf5 mf6 mf7 mf8 mf9 p0 p1).2.1) := by
  have hK := hS
  have hG := hF
  obtain ⟨a, lc, g1, g2, g3, g4, g5, g6, g7, g8, g9, g10, g11⟩ := hF
  rw [fX0_place, fX1_place]
  by_cases n0 : p1 < 0
  · rw [if_pos n0]
    by_cases c1 : p0 < 0
    · rw [if_pos c1]; exact ⟨⟨hK, hC.mono, hG⟩, rfl, fun q => absurd q n10⟩
    · rw [if_neg c1]
      by_cases c2 : 2 < p0
      · rw [if_pos c2]; exact ⟨⟨hK, hC.mono, hG⟩, rfl, fun q => absurd q n10⟩
      · rw [if_neg c2, if_pos n0]; exact ⟨⟨hK, hC.mono, hG⟩, rfl, fun q => absurd q n10⟩
  rw [if_neg n0]
  obtain ⟨q, hq, rfl⟩ := nI_of n0
  by_cases n1 : q < 32
  · rw [if_pos (show nI q < 32 from (nI_ltI (b := 32) hq (by decide)).mpr n1)]
    have le31 : nI q ≤ 31 := (nI_leI (b := 31) hq (by decide)).mpr (by omega)
    by_cases e0 : p0 = 0
    · subst e0
      rw [if_pos rfl, if_neg (show ¬ ((0 : Int32) < 0) by decide), if_neg (show ¬ ((2 : Int32) < 0) by decide), if_neg n0, if_pos le31, if_pos rfl]
      exact ⟨⟨hK, hC.mono, hG⟩, rfl, fun _ => g1.trans g2.symm⟩
    rw [if_neg e0]
    by_cases e1 : p0 = 1
    · subst e1
      rw [if_pos rfl, if_neg (show ¬ ((1 : Int32) < 0) by decide), if_neg (show ¬ ((2 : Int32) < 1) by decide), if_neg n0, if_pos le31, if_neg e0, if_pos rfl, fX0_savedPlace]
      by_cases hb : bt xf12 q = false
      · rw [if_pos ((bit_and xf12 n1).mpr hb), if_pos ((bit_shr mf5 n1).mpr (by rw [← g8]; exact hb))]
        exact ⟨⟨hK, hC.mono, hG⟩, rfl, fun _ => rfl⟩
      · rw [if_neg (fun z => hb ((bit_and xf12 n1).mp z)), if_neg (fun z => hb (by rw [g8]; exact (bit_shr mf5 n1).mp z))]
        refine ⟨⟨hK, hC.mono, hG⟩, rfl, fun _ => ?_⟩
        show xf11 + (4 : Int32) * fJ0_bitCount (xf12 &&& (((1 : Int32) <<< (nI q &&& 31)) - 1)) = fX1_generalAt mf6 mf7 mf8 + fX1_saved mf5 (nI q) 4
        rw [g8, cntGn g10 n1, g7, fX1_saved, clampN hq]
    rw [if_neg e1]
    by_cases e2 : p0 = 2
    · subst e2
      rw [if_pos rfl, if_neg (show ¬ ((2 : Int32) < 0) by decide), if_neg (show ¬ ((2 : Int32) < 2) by decide), if_neg n0, if_pos le31, if_neg e0, if_neg e1, fX0_savedPlace]
      by_cases hb : bt xf13 q = false
      · rw [if_pos ((bit_and xf13 n1).mpr hb), if_pos ((bit_shr mf6 n1).mpr (by rw [← g9]; exact hb))]
        exact ⟨⟨hK, hC.mono, hG⟩, rfl, fun _ => rfl⟩
      · rw [if_neg (fun z => hb ((bit_and xf13 n1).mp z)), if_neg (fun z => hb (by rw [g9]; exact (bit_shr mf6 n1).mp z))]
        refine ⟨⟨hK, hC.mono, hG⟩, rfl, fun _ => ?_⟩
        show xf10 + (8 : Int32) * fJ0_bitCount (xf13 &&& (((1 : Int32) <<< (nI q &&& 31)) - 1)) = fX1_fractionsAt mf7 mf8 + fX1_saved mf6 (nI q) 8
        rw [g9, cntFn g11 n1, g6, fX1_saved, clampN hq]
    rw [if_neg e2]
    by_cases c1 : p0 < 0
    · rw [if_pos c1]; exact ⟨⟨hK, hC.mono, hG⟩, rfl, fun q => absurd q n10⟩
    · rw [if_neg c1]
      by_cases c2 : 2 < p0
      · rw [if_pos c2]; exact ⟨⟨hK, hC.mono, hG⟩, rfl, fun q => absurd q n10⟩
      · exfalso
        obtain ⟨j, hj, rfl⟩ := nI_of2 (M := 2) (n := 2) (by decide) c1 (by
          rw [Int32.lt_iff_toInt_lt] at c2
          rw [Int32.le_iff_toInt_le]
          omega)
        rcases (show j = 0 ∨ j = 1 ∨ j = 2 by omega) with rfl | rfl | rfl
        · exact e0 rfl
        · exact e1 rfl
        · exact e2 rfl
  · rw [if_neg (show ¬ nI q < 32 from fun z => n1 ((nI_ltI (b := 32) hq (by decide)).mp z))]
    have gt31 : ¬ nI q ≤ 31 := fun z => n1 (by have z2 := (nI_leI (b := 31) hq (by decide)).mp z; omega)
    by_cases c1 : p0 < 0
    · rw [if_pos c1]; exact ⟨⟨hK, hC.mono, hG⟩, rfl, fun q => absurd q n10⟩
    · rw [if_neg c1]
      by_cases c2 : 2 < p0
      · rw [if_pos c2]; exact ⟨⟨hK, hC.mono, hG⟩, rfl, fun q => absurd q n10⟩
      · rw [if_neg c2, if_neg n0, if_neg gt31]; exact ⟨⟨hK, hC.mono, hG⟩, rfl, fun q => absurd q n10⟩
theorem rl_place {t : Nat} (ht : t ≤ 512) {σ : xWS} {μ : mWS} (h : Rel t σ μ) (p0 p1 : Int32) : Rel (t + 1) (XF_place σ p0 p1).2.2 (MF_place μ p0 p1).2.2 ∧ (MF_place μ p0 p1).2.2.2.2.2.1 = (XF_place σ p0 p1).1 ∧ ((XF_place σ p0 p1).1 = 0 → (XF_place σ p0 p1).2.1 = (MF_place μ p0 p1).2.1) := rc_place (mf0 := μ.2.2.2.1) ht h.1 h.2.1 h.2.2 p0 p1
theorem bc_small (s : Int32) : ∃ c : Nat, c ≤ 63 ∧ fJ0_bitCount s = nI c := ⟨bcN s.toBitVec.toNat, Nat.and_le_right, by
  have h := bc_nat (x := s.toBitVec.toNat) s.toBitVec.isLt
  rw [← ofN s] at h
  exact h⟩
theorem or_msk {p : Int32} (h : p &&& 1057030143 = 0) : (p ||| (-2147483648)) &&& 1057030143 = 0 := by
  apply b_ext
  intro i hi
  have h1 : bt (p &&& 1057030143) i = bt 0 i := by rw [h]
  have h2 : bt ((-2147483648) &&& 1057030143) i = bt 0 i := by rw [show ((-2147483648 : Int32) &&& 1057030143) = 0 from by decide]
  rw [b_and, b_0] at h1 h2
  rw [b_and, b_or, Bool.and_or_distrib_right, h1, h2, b_0]
  rfl
/-- the numbers of a frame: the class's are the reference's -/
theorem frame_num {a lc : Nat} (ha : a ≤ 125001) (hlc : lc ≤ 1000000) {gs fs : Int32} (hg : gs &&& 1057030143 = 0) (hf : fs &&& (-1431306241) = 0) :
    fX0_fill (nI (8 * a)) 8 = nI (8 * a) ∧ fX0_fill (nI (8 * a) + nI lc) 8 = fX1_fractionsAt (nI lc) (nI (8 * a)) ∧
    fX0_fill (nI (8 * a) + nI lc) 8 + 8 * fJ0_bitCount fs = fX1_generalAt fs (nI lc) (nI (8 * a)) ∧
    fX0_fill (fX0_fill (nI (8 * a) + nI lc) 8 + 8 * fJ0_bitCount fs + 4 * fJ0_bitCount gs) 8 = fX1_filled (fX1_generalAt fs (nI lc) (nI (8 * a)) + fX1_saved gs 32 4) 8 := by
  have e1 : fX0_fill (nI (8 * a)) 8 = nI (8 * a) := by rw [fill8 (by omega), show (8 * a + 7) / 8 * 8 = 8 * a by omega]
  have e2 : fX0_fill (nI (8 * a) + nI lc) 8 = fX1_fractionsAt (nI lc) (nI (8 * a)) := by rw [fX1_fractionsAt, nI_add, ff8 (by omega)]
  have e3 : fX0_fill (nI (8 * a) + nI lc) 8 + 8 * fJ0_bitCount fs = fX1_generalAt fs (nI lc) (nI (8 * a)) := by
    rw [e2, cntF hf, fX1_generalAt, fX1_saved]
    rfl
  refine ⟨e1, e2, e3, ?_⟩
  have e4 : (4 : Int32) * fJ0_bitCount gs = fX1_saved gs 32 4 := by
    rw [cntG hg, fX1_saved]
    rfl
  rw [← e4, ← e3]
  obtain ⟨c, hc, ec⟩ := bc_small fs
  obtain ⟨d, hd, ed⟩ := bc_small gs
  rw [ec, ed, nI_add, fill8 (by omega), show (8 : Int32) * nI c = nI (8 * c) from pk_mul 8 c, show (4 : Int32) * nI d = nI (4 * d) from pk_mul 4 d, nI_add, nI_add, ff8 (by omega)]
theorem rc_frame {t : Nat} {xk1 xk2 xk3 : Nat → Int32} {xf3 xf4 xf5 xf6 xf7 xf8 xf9 xf10 xf11 xf12 xf13 : Int32} {mk1 mk2 mk3 : Nat → Int32} {mf0 mf1 mf2 mf3 mf4 mf5 mf6 mf7 mf8 mf9 : Int32} (ht : t ≤ 512) (hS : RS xk1 xk2 xk3 xf3 xf4 xf5 xf6 mk1 mk2 mk3 mf1 mf2 mf9) (hC : RC t xf7 xf8 mf3 mf4) (hF : RF xf9 xf10 xf11 xf12 xf13 mf5 mf6 mf7 mf8) (p0 p1 p2 : Int32) : Rel (t + 1) (fX0_frame xk1 xk2 xk3 xf3 xf4 xf5 xf6 xf7 xf8 xf9 xf10 xf11 xf12 xf13 p0 p1 p2).2.2 (fX1_frame mk1 mk2 mk3 mf0 mf1 mf2 mf3 mf4 mf5 mf6 mf7 mf8 mf9 p0 p1 p2).2.2 ∧ (fX1_frame mk1 mk2 mk3 mf0 mf1 mf2 mf3 mf4 mf5 mf6 mf7 mf8 mf9 p0 p1 p2).2.2.2.2.2.1 = (fX0_frame xk1 xk2 xk3 xf3 xf4 xf5 xf6 xf7 xf8 xf9 xf10 xf11 xf12 xf13 p0 p1 p2).1 ∧ ((fX0_frame xk1 xk2 xk3 xf3 xf4 xf5 xf6 xf7 xf8 xf9 xf10 xf11 xf12 xf13 p0 p1 p2).1 = 0 → (fX0_frame xk1 xk2 xk3 xf3 xf4 xf5 xf6 xf7 xf8 xf9 xf10 xf11 xf12 xf13 p0 p1 p2).2.1 = (fX1_frame mk1 mk2 mk3 mf0 mf1 mf2 mf3 mf4 mf5 mf6 mf7 mf8 mf9 p0 p1 p2).2.1) := by
  have hK := hS
  have hC2 := hC
  obtain ⟨k, a, h1, h2, h3, h4, h5, h6, h7⟩ := hC
  rw [fX0_frame, fX1_frame]
  by_cases c1 : p0 < 0
  · rw [if_pos c1, if_pos c1]; exact ⟨⟨hK, hC2.mono, hF⟩, rfl, fun q => absurd q n10⟩
  rw [if_neg c1, if_neg c1]
  by_cases c2 : p0 ≤ 1000000
  · have c2b : ¬ 1000000 < p0 := by
      rw [Int32.le_iff_toInt_le] at c2
      rw [Int32.lt_iff_toInt_lt]
      omega
    rw [if_pos c2, if_neg c2b, show ((-1057030144 : Int32) ^^^ (-1)) = 1057030143 from by decide, show ((1431306240 : Int32) ^^^ (-1)) = (-1431306241) from by decide]
    by_cases c3 : p1 &&& 1057030143 = 0
    · rw [if_pos c3, if_pos c3]
      by_cases c4 : p2 &&& (-1431306241) = 0
      · rw [if_pos c4, if_pos c4]
        obtain ⟨lc, hlc, rfl⟩ := nI_of2 (M := 1000000) (n := 1000000) (by decide) c1 c2
        subst h2; subst h3; subst h4; subst h5
        by_cases c5 : nI k ≤ 0
        · have k0 : k = 0 := by
            rcases Nat.eq_zero_or_pos k with z | z
            · exact z
            · exact absurd c5 (nI_nle z (by omega))
          have a0 := h7 k0
          subst a0
          rw [if_pos c5, if_pos c5]
          obtain ⟨e1, e2, e3, e4⟩ := frame_num (a := 0) (by omega) hlc c3 c4
          refine ⟨⟨hK, hC2.mono, ⟨0, lc, ?_, rfl, by omega, rfl, hlc, ?_, ?_, rfl, rfl, c3, c4⟩⟩, rfl, fun _ => ?_⟩
          · exact e1
          · show fX0_fill (fX0_fill (nI (8 * 0)) 8 + nI lc) 8 = _
            rw [e1]; exact e2
          · show fX0_fill (fX0_fill (nI (8 * 0)) 8 + nI lc) 8 + 8 * fJ0_bitCount p2 = _
            rw [e1]; exact e3
          · show fX0_fill (fX0_fill (fX0_fill (nI (8 * 0)) 8 + nI lc) 8 + 8 * fJ0_bitCount p2 + 4 * fJ0_bitCount p1) 8 = _
            rw [e1]; exact e4
        · rw [if_neg c5, if_neg c5]
          obtain ⟨e1, e2, e3, e4⟩ := frame_num h6 hlc (or_msk c3) c4
          refine ⟨⟨hK, hC2.mono, ⟨a, lc, e1, rfl, h6, rfl, hlc, ?_, ?_, rfl, rfl, or_msk c3, c4⟩⟩, rfl, fun _ => ?_⟩
          · show fX0_fill (fX0_fill (nI (8 * a)) 8 + nI lc) 8 = _
            rw [e1]; exact e2
          · show fX0_fill (fX0_fill (nI (8 * a)) 8 + nI lc) 8 + 8 * fJ0_bitCount p2 = _
            rw [e1]; exact e3
          · show fX0_fill (fX0_fill (fX0_fill (nI (8 * a)) 8 + nI lc) 8 + 8 * fJ0_bitCount p2 + 4 * fJ0_bitCount (p1 ||| (-2147483648))) 8 = _
            rw [e1]; exact e4
      · rw [if_neg c4, if_neg c4]; exact ⟨⟨hK, hC2.mono, hF⟩, rfl, fun q => absurd q n10⟩
    · rw [if_neg c3, if_neg c3]; exact ⟨⟨hK, hC2.mono, hF⟩, rfl, fun q => absurd q n10⟩
  · have c2b : 1000000 < p0 := by
      rw [Int32.le_iff_toInt_le] at c2
      rw [Int32.lt_iff_toInt_lt]
      omega
    rw [if_neg c2, if_pos c2b]; exact ⟨⟨hK, hC2.mono, hF⟩, rfl, fun q => absurd q n10⟩
theorem rl_frame {t : Nat} (ht : t ≤ 512) {σ : xWS} {μ : mWS} (h : Rel t σ μ) (p0 p1 p2 : Int32) : Rel (t + 1) (XF_frame σ p0 p1 p2).2.2 (MF_frame μ p0 p1 p2).2.2 ∧ (MF_frame μ p0 p1 p2).2.2.2.2.2.1 = (XF_frame σ p0 p1 p2).1 ∧ ((XF_frame σ p0 p1 p2).1 = 0 → (XF_frame σ p0 p1 p2).2.1 = (MF_frame μ p0 p1 p2).2.1) := rc_frame (mf0 := μ.2.2.2.1) ht h.1 h.2.1 h.2.2 p0 p1 p2
