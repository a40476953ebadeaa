theorem rc_begin {t : Nat} {xk1 xk2 xk3 : Nat → Int32} {xf3 xf4 xf5 xf6 xf7 xf8 xf9 xf10 xf11 xf12 xf13 : Int32} {mk1 mk2 mk3 : Nat → Int32} {mf0 mf1 mf2 mf3 mf4 mf5 mf6 mf7 mf8 mf9 : Int32} (ht : t ≤ 512) (hS : RS xk1 xk2 xk3 xf3 xf4 xf5 xf6 mk1 mk2 mk3 mf1 mf2 mf9) (hC : RC t xf7 xf8 mf3 mf4) (hF : RF xf9 xf10 xf11 xf12 xf13 mf5 mf6 mf7 mf8) (p0 p1 p2 p3 : Int32) : Rel (t + 1) (fX0_begin xk1 xk2 xk3 xf3 xf4 xf5 xf6 xf7 xf8 xf9 xf10 xf11 xf12 xf13 p0 p1 p2 p3).2.2 (fX1_begin mk1 mk2 mk3 mf0 mf1 mf2 mf3 mf4 mf5 mf6 mf7 mf8 mf9 p0 p1 p2 p3).2.2 ∧ (fX1_begin mk1 mk2 mk3 mf0 mf1 mf2 mf3 mf4 mf5 mf6 mf7 mf8 mf9 p0 p1 p2 p3).2.2.2.2.2.1 = (fX0_begin xk1 xk2 xk3 xf3 xf4 xf5 xf6 xf7 xf8 xf9 xf10 xf11 xf12 xf13 p0 p1 p2 p3).1 ∧ True := by
  have hK := hS
  obtain ⟨n, e, hn, h1, h2, h3, h4, h5, h6, h7, h8, h9⟩ := hS
  rw [fX0_begin, fX1_begin, good_eq]
  by_cases c1 : p0 < 0
  · rw [if_pos c1, if_pos c1, if_pos rfl]; exact ⟨⟨hK, hC.mono, hF⟩, rfl, trivial⟩
  rw [if_neg c1, if_neg c1]
  by_cases c2 : p0 ≤ 4
  · rw [if_pos c2, if_pos c2]
    obtain ⟨j, hj, rfl⟩ := nI_of2 (M := 4) (n := 4) (by decide) c1 c2
    have hk : nI j = 0 ∨ nI j = 1 ∨ nI j = 2 ∨ nI j = 3 ∨ nI j = 4 := by
      rcases (show j = 0 ∨ j = 1 ∨ j = 2 ∨ j = 3 ∨ j = 4 by omega) with rfl | rfl | rfl | rfl | rfl
      · exact Or.inl rfl
      · exact Or.inr (Or.inl rfl)
      · exact Or.inr (Or.inr (Or.inl rfl))
      · exact Or.inr (Or.inr (Or.inr (Or.inl rfl)))
      · exact Or.inr (Or.inr (Or.inr (Or.inr rfl)))
    by_cases c3 : nI j = 3
    · rw [if_pos c3, if_pos c3]
      by_cases c4 : fX0_isRecord p1 p2 = 0
      · rw [if_pos c4, if_pos c4]; exact ⟨⟨hK, hC.mono, hF⟩, rfl, trivial⟩
      · rw [if_neg c4, if_neg c4]
        exact ⟨⟨⟨0, 1, by omega, rfl, rfl, rfl, rfl, hk, rfl, by omega, by show hM mk1 mk2 mk3 (nI j) 0 = _; rw [hM, if_pos c3]; rfl, fun j h => absurd h (Nat.not_lt_zero j)⟩, hC.mono, hF⟩, rfl, trivial⟩
    · rw [if_neg c3, if_neg c3, if_neg n10]
      exact ⟨⟨⟨0, 0, by omega, rfl, rfl, rfl, rfl, hk, rfl, by omega, by show hM mk1 mk2 mk3 (nI j) 0 = _; rw [hM, if_neg c3]; rfl, fun j h => absurd h (Nat.not_lt_zero j)⟩, hC.mono, hF⟩, rfl, trivial⟩
  · rw [if_neg c2, if_neg c2, if_pos rfl]; exact ⟨⟨hK, hC.mono, hF⟩, rfl, trivial⟩
theorem rl_begin {t : Nat} (ht : t ≤ 512) {σ : xWS} {μ : mWS} (h : Rel t σ μ) (p0 p1 p2 p3 : Int32) : Rel (t + 1) (XF_begin σ p0 p1 p2 p3).2.2 (MF_begin μ p0 p1 p2 p3).2.2 ∧ (MF_begin μ p0 p1 p2 p3).2.2.2.2.2.1 = (XF_begin σ p0 p1 p2 p3).1 ∧ True := rc_begin (mf0 := μ.2.2.2.1) ht h.1 h.2.1 h.2.2 p0 p1 p2 p3
/-- one more argument: the signature's relation goes on -/
theorem RS.add {xk1 xk2 xk3 : Nat → Int32} {xf4 xf5 : Int32} {mk1 mk2 mk3 : Nat → Int32} {mf1 mf9 p0 p1 p2 : Int32} {n e h b : Nat} (hn : n < 60) (h3 : xf4 = mf1) (h4 : xf5 = mf9) (h5 : mf1 = 0 ∨ mf1 = 1 ∨ mf1 = 2 ∨ mf1 = 3 ∨ mf1 = 4) (he : e ≤ 250000) (h8 : hM mk1 mk2 mk3 mf1 n = nI (4 * e)) (h9 : ∀ j, j < n → RA xk1 xk2 xk3 mk1 mk2 mk3 mf1 j)
    (hA9 : hA (upd mk1 n p0) (upd mk2 n p1) (upd mk3 n p2) mf1 n = nI (4 * h)) (hb1 : 1 ≤ b) (hb2 : b ≤ 65536) (hb : fX0_bytesOf p0 p1 = nI b) (hfar : 4 * h + (b + 3) / 4 * 4 ≤ 1000000) :
    RS (upd xk1 n p0) (upd xk2 n (nI (4 * h))) (upd xk3 n (nI b)) (nI n + 1) xf4 xf5 (nI (4 * h) + nI ((b + 3) / 4 * 4)) (upd mk1 n p0) (upd mk2 n p1) (upd mk3 n p2) mf1 (nI n + 1) mf9 := by
  have hb9 : fX1_bytes (upd mk1 n p0) (upd mk2 n p1) (nI n) = nI b := (bytes_new (by omega)).trans hb
  refine ⟨n + 1, h + (b + 3) / 4, by omega, nI_1 n, nI_1 n, h3, h4, h5, ?_, by omega, ?_, ?_⟩
  · rw [nI_add, show 4 * h + (b + 3) / 4 * 4 = 4 * (h + (b + 3) / 4) by omega]
  · rw [hM_succ, hA9, hb9, filled4 (by omega), nI_add, show 4 * h + (b + 3) / 4 * 4 = 4 * (h + (b + 3) / 4) by omega]
  · intro j hj
    by_cases e9 : j = n
    · subst e9
      refine ⟨?_, ?_, ?_, ⟨h, by omega, pk_us⟩, ⟨b, hb1, hb2, pk_us⟩⟩
      · rw [pk_us, pk_us]
      · rw [pk_us, hA9]
      · rw [pk_us, hb9]
    · obtain ⟨a1, a2, a3, a4, a5⟩ := h9 j (by omega)
      refine ⟨?_, ?_, ?_, ?_, ?_⟩
      · rw [upd_ne e9, upd_ne e9]; exact a1
      · rw [upd_ne e9, hA_upd (by omega) (by omega)]; exact a2
      · rw [upd_ne e9, bytes_ne (by omega) (by omega)]; exact a3
      · rw [upd_ne e9]; exact a4
      · rw [upd_ne e9]; exact a5
/-- an argument that can't be there: what was written lies behind the others -/
theorem RS.over {xk1 xk2 xk3 : Nat → Int32} {xf3 xf4 xf5 xf6 : Int32} {mk1 mk2 mk3 : Nat → Int32} {mf1 mf2 mf9 p0 p1 p2 : Int32} {n : Nat} (hn : n ≤ 60) (h2 : mf2 = nI n) (h : RS xk1 xk2 xk3 xf3 xf4 xf5 xf6 mk1 mk2 mk3 mf1 mf2 mf9) : RS xk1 xk2 xk3 xf3 xf4 xf5 xf6 (upd mk1 n p0) (upd mk2 n p1) (upd mk3 n p2) mf1 mf2 mf9 := by
  obtain ⟨n2, e, hn2, q1, q2, q3, q4, q5, q6, q7, q8, q9⟩ := h
  have en : n2 = n := (nI_eq (by omega) (by omega)).mp (q2.symm.trans h2)
  subst en
  refine ⟨n2, e, hn, q1, q2, q3, q4, q5, q6, q7, ?_, ?_⟩
  · rw [hM_upd hn n2 (Nat.le_refl _)]; exact q8
  · intro j hj
    obtain ⟨a1, a2, a3, a4, a5⟩ := q9 j hj
    have ne : j ≠ n2 := by omega
    refine ⟨?_, ?_, ?_, a4, a5⟩
    · rw [upd_ne ne]; exact a1
    · rw [hA_upd hn hj]; exact a2
    · rw [bytes_ne hj hn]; exact a3
theorem bytes_of {p0 p1 p2 : Int32} (h : p0 = 3 → ¬ fX0_isRecord p1 p2 = 0) : ∃ b : Nat, 1 ≤ b ∧ b ≤ 65536 ∧ fX0_bytesOf p0 p1 = nI b := by
  rw [fX0_bytesOf]
  by_cases c3 : p0 = 3
  · rw [if_pos c3]
    exact rec_size (h c3)
  · rw [if_neg c3]
    by_cases c2 : p0 = 2
    · rw [if_pos c2]
      exact ⟨8, by omega, by omega, rfl⟩
    · rw [if_neg c2]
      exact ⟨4, by omega, by omega, rfl⟩
theorem add_eq (xk1 xk2 xk3 : Nat → Int32) (xf3 xf4 xf5 xf6 xf7 xf8 xf9 xf10 xf11 xf12 xf13 : Int32) (p0 p1 p2 : Int32) : fX0_add xk1 xk2 xk3 xf3 xf4 xf5 xf6 xf7 xf8 xf9 xf10 xf11 xf12 xf13 p0 p1 p2 = if p0 < 0 then (1, 0, (xk1, xk2, xk3, xf3, xf4, xf5, xf6, xf7, xf8, xf9, xf10, xf11, xf12, xf13)) else if p0 ≤ 3 then (if p0 = 3 ∧ fX0_isRecord p1 p2 = 0 then (1, 0, (xk1, xk2, xk3, xf3, xf4, xf5, xf6, xf7, xf8, xf9, xf10, xf11, xf12, xf13)) else (if xf3 < 0 then ((2, 0, (xk1, xk2, xk3, xf3, xf4, xf5, xf6, xf7, xf8, xf9, xf10, xf11, xf12, xf13)) : Int32 × Int32 × xWS) else if xf3 < 60 then (if ((fX0_fill xf6 (fX0_homeAlignment p0 p2)) + (fX0_fill (fX0_bytesOf p0 p1) 4)) ≤ 1000000 then (0, (fX0_fill xf6 (fX0_homeAlignment p0 p2)), ((upd xk1 (xf3 : Int32).toNatClampNeg p0), (upd xk2 (xf3 : Int32).toNatClampNeg (fX0_fill xf6 (fX0_homeAlignment p0 p2))), (upd xk3 (xf3 : Int32).toNatClampNeg (fX0_bytesOf p0 p1)), (xf3 + 1), xf4, xf5, ((fX0_fill xf6 (fX0_homeAlignment p0 p2)) + (fX0_fill (fX0_bytesOf p0 p1) 4)), xf7, xf8, xf9, xf10, xf11, xf12, xf13)) else (2, 0, (xk1, xk2, xk3, xf3, xf4, xf5, xf6, xf7, xf8, xf9, xf10, xf11, xf12, xf13))) else (2, 0, (xk1, xk2, xk3, xf3, xf4, xf5, xf6, xf7, xf8, xf9, xf10, xf11, xf12, xf13)))) else (1, 0, (xk1, xk2, xk3, xf3, xf4, xf5, xf6, xf7, xf8, xf9, xf10, xf11, xf12, xf13)) := by
  rw [fX0_add]
  by_cases c1 : p0 < 0
  · rw [if_pos c1, if_pos c1]
  rw [if_neg c1, if_neg c1]
  by_cases c2 : p0 ≤ 3
  · rw [if_pos c2, if_pos c2]
    by_cases c3 : p0 = 3
    · rw [if_pos c3]
      by_cases c4 : fX0_isRecord p1 p2 = 0
      · rw [if_pos c4, if_pos ⟨c3, c4⟩]
      · rw [if_neg c4, if_neg (show ¬ (p0 = 3 ∧ fX0_isRecord p1 p2 = 0) from fun z => c4 z.2)]
    · rw [if_neg c3, if_neg (show ¬ (p0 = 3 ∧ fX0_isRecord p1 p2 = 0) from fun z => c3 z.1)]
  · rw [if_neg c2, if_neg c2]
theorem rc_add {t : Nat} {xk1 xk2 xk3 : Nat → Int32} {xf3 xf4 xf5 xf6 xf7 xf8 xf9 xf10 xf11 xf12 xf13 : Int32} {mk1 mk2 mk3 : Nat → Int32} {mf0 mf1 mf2 mf3 mf4 mf5 mf6 mf7 mf8 mf9 : Int32} (ht : t ≤ 512) (hS : RS xk1 xk2 xk3 xf3 xf4 xf5 xf6 mk1 mk2 mk3 mf1 mf2 mf9) (hC : RC t xf7 xf8 mf3 mf4) (hF : RF xf9 xf10 xf11 xf12 xf13 mf5 mf6 mf7 mf8) (p0 p1 p2 : Int32) : Rel (t + 1) (fX0_add xk1 xk2 xk3 xf3 xf4 xf5 xf6 xf7 xf8 xf9 xf10 xf11 xf12 xf13 p0 p1 p2).2.2 (fX1_add mk1 mk2 mk3 mf0 mf1 mf2 mf3 mf4 mf5 mf6 mf7 mf8 mf9 p0 p1 p2).2.2 ∧ (fX1_add mk1 mk2 mk3 mf0 mf1 mf2 mf3 mf4 mf5 mf6 mf7 mf8 mf9 p0 p1 p2).2.2.2.2.2.1 = (fX0_add xk1 xk2 xk3 xf3 xf4 xf5 xf6 xf7 xf8 xf9 xf10 xf11 xf12 xf13 p0 p1 p2).1 ∧ ((fX0_add xk1 xk2 xk3 xf3 xf4 xf5 xf6 xf7 xf8 xf9 xf10 xf11 xf12 xf13 p0 p1 p2).1 = 0 → (fX0_add xk1 xk2 xk3 xf3 xf4 xf5 xf6 xf7 xf8 xf9 xf10 xf11 xf12 xf13 p0 p1 p2).2.1 = (fX1_add mk1 mk2 mk3 mf0 mf1 mf2 mf3 mf4 mf5 mf6 mf7 mf8 mf9 p0 p1 p2).2.1) := by
  have hK := hS
  obtain ⟨n, e, hn, h1, h2, h3, h4, h5, h6, h7, h8, h9⟩ := hS
  rw [add_eq, fX1_add, good_eq]
  by_cases c1 : p0 < 0
  · rw [if_pos c1, if_pos c1, if_pos rfl]; exact ⟨⟨hK, hC.mono, hF⟩, rfl, fun q => absurd q n10⟩
  rw [if_neg c1, if_neg c1]
  by_cases c2 : p0 ≤ 3
  · rw [if_pos c2, if_pos c2]
    by_cases c3 : p0 = 3 ∧ fX0_isRecord p1 p2 = 0
    · rw [if_pos c3, if_pos c3.1, if_pos c3.2]; exact ⟨⟨hK, hC.mono, hF⟩, rfl, fun q => absurd q n10⟩
    · have g0 : ¬ (if p0 = 3 then fX0_isRecord p1 p2 else 1) = 0 := by
        by_cases q3 : p0 = 3
        · rw [if_pos q3]; exact fun z => c3 ⟨q3, z⟩
        · rw [if_neg q3]; exact n10
      rw [if_neg c3, if_neg g0]
      subst h1; subst h2; subst h6
      rw [if_neg (nI_pos (n := n) (by omega))]
      by_cases c5 : n < 60
      · rw [if_pos (show nI n < 60 from (nI_ltI (b := 60) (by omega) (by decide)).mpr c5), if_neg (show ¬ nI n = 60 from fun z => absurd ((nI_eq (b := 60) (by omega) (by decide)).mp z) (by omega))]
        obtain ⟨b, hb1, hb2, hb⟩ := bytes_of (p0 := p0) (p1 := p1) (p2 := p2) (fun z y => c3 ⟨z, y⟩)
        obtain ⟨hA9, h, hh, hf⟩ := home_new (mk1 := mk1) (mk2 := mk2) (mk3 := mk3) (mf1 := mf1) (a := p0) (b := p1) (c := p2) hn h7 h8
        have hM9 : fX1_home (upd mk1 n p0) (upd mk2 n p1) (upd mk3 n p2) mf1 (nI n + 1) (nI n) = nI (4 * h) := by
          rw [nI_1, home_lt (Nat.lt_succ_self n) (by omega), hA9, hf]
        have hb9 : fX1_bytes (upd mk1 n p0) (upd mk2 n p1) (nI n) = nI b := (bytes_new hn).trans hb
        rw [clampN (show n < 2 ^ 31 by omega), inc_dec, hM9, hb9, hb, hf, fill4 (show b < 2 ^ 30 by omega), filled4 (show b < 2 ^ 30 by omega)]
        by_cases c6 : nI (4 * h) + nI ((b + 3) / 4 * 4) ≤ 1000000
        · rw [if_pos c6, if_pos c6]
          have hfar : 4 * h + (b + 3) / 4 * 4 ≤ 1000000 := by
            rw [nI_add] at c6
            exact (nI_leI (b := 1000000) (by omega) (by decide)).mp c6
          exact ⟨⟨RS.add c5 h3 h4 h5 h7 h8 h9 (hA9.trans hf) hb1 hb2 hb hfar, hC.mono, hF⟩, rfl, fun _ => rfl⟩
        · rw [if_neg c6, if_neg c6]
          exact ⟨⟨RS.over hn rfl hK, hC.mono, hF⟩, rfl, fun q => absurd q n20⟩
      · have n60 : n = 60 := by omega
        subst n60
        rw [if_neg (show ¬ nI 60 < 60 by decide), if_pos (show nI 60 = 60 from rfl)]
        exact ⟨⟨hK, hC.mono, hF⟩, rfl, fun q => absurd q n20⟩
  · rw [if_neg c2, if_neg c2, if_pos rfl]; exact ⟨⟨hK, hC.mono, hF⟩, rfl, fun q => absurd q n10⟩
theorem rl_add {t : Nat} (ht : t ≤ 512) {σ : xWS} {μ : mWS} (h : Rel t σ μ) (p0 p1 p2 : Int32) : Rel (t + 1) (XF_add σ p0 p1 p2).2.2 (MF_add μ p0 p1 p2).2.2 ∧ (MF_add μ p0 p1 p2).2.2.2.2.2.1 = (XF_add σ p0 p1 p2).1 ∧ ((XF_add σ p0 p1 p2).1 = 0 → (XF_add σ p0 p1 p2).2.1 = (MF_add μ p0 p1 p2).2.1) := rc_add (mf0 := μ.2.2.2.1) ht h.1 h.2.1 h.2.2 p0 p1 p2
