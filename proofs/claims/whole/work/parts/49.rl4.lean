theorem whereM (mk1 mk2 mk3 : Nat → Int32) (mf0 mf1 mf2 mf3 mf4 mf5 mf6 mf7 mf8 mf9 : Int32) (p0 p1 : Int32) : fX1_where mk1 mk2 mk3 mf0 mf1 mf2 mf3 mf4 mf5 mf6 mf7 mf8 mf9 p0 p1 = if (fX1_isThere mf1 mf2 p0) = 0 then ((0, 0, (mk1, mk2, mk3, 1, mf1, mf2, mf3, mf4, mf5, mf6, mf7, mf8, mf9)) : Int32 × Int32 × mWS) else if p1 < 0 then (0, 0, (mk1, mk2, mk3, 1, mf1, mf2, mf3, mf4, mf5, mf6, mf7, mf8, mf9)) else if p1 < (fX1_words mk1 mk2 p0) then (0, (if p0 = (-1) then 4 else if (mf9 = 0 ∧ ¬ mf1 = 3 ∧ ¬ 2 ≤ p0 ∧ ¬ (fX1_isFraction mk1 0) = 0 ∧ ¬ (fX1_isFraction mk1 p0) = 0) then (if (mk1 (p0 : Int32).toNatClampNeg) = 2 then (if p1 = 0 then ((44 + (2 * p0)) + 1) else (44 + (2 * p0))) else (44 + (2 * p0))) else (if 4 ≤ (((fX1_home mk1 mk2 mk3 mf1 mf2 p0) / 4) + p1) then (-1) else (4 + (((fX1_home mk1 mk2 mk3 mf1 mf2 p0) / 4) + p1)))), (mk1, mk2, mk3, 0, mf1, mf2, mf3, mf4, mf5, mf6, mf7, mf8, mf9)) else (0, 0, (mk1, mk2, mk3, 1, mf1, mf2, mf3, mf4, mf5, mf6, mf7, mf8, mf9)) := by
  rw [fX1_where]
  by_cases a1 : (fX1_isThere mf1 mf2 p0) = 0
  · rw [if_pos a1, if_pos a1]
  rw [if_neg a1, if_neg a1]
  by_cases a2 : p1 < 0
  · rw [if_pos a2, if_pos a2]
  rw [if_neg a2, if_neg a2]
  by_cases a3 : p1 < (fX1_words mk1 mk2 p0)
  · rw [if_pos a3, if_pos a3]
    by_cases a4 : p0 = (-1)
    · rw [if_pos a4, if_pos a4]
    rw [if_neg a4, if_neg a4]
    by_cases f1 : mf9 = 0
    · rw [if_pos f1]
      by_cases f2 : mf1 = 3
      · rw [if_pos f2, if_neg (show ¬ (mf9 = 0 ∧ ¬ mf1 = 3 ∧ ¬ 2 ≤ p0 ∧ ¬ (fX1_isFraction mk1 0) = 0 ∧ ¬ (fX1_isFraction mk1 p0) = 0) from fun z => z.2.1 f2)]
        by_cases g : 4 ≤ (((fX1_home mk1 mk2 mk3 mf1 mf2 p0) / 4) + p1)
        · rw [if_pos g, if_pos g]
        · rw [if_neg g, if_neg g]
      rw [if_neg f2]
      by_cases f3 : 2 ≤ p0
      · rw [if_pos f3, if_neg (show ¬ (mf9 = 0 ∧ ¬ mf1 = 3 ∧ ¬ 2 ≤ p0 ∧ ¬ (fX1_isFraction mk1 0) = 0 ∧ ¬ (fX1_isFraction mk1 p0) = 0) from fun z => z.2.2.1 f3)]
        by_cases g : 4 ≤ (((fX1_home mk1 mk2 mk3 mf1 mf2 p0) / 4) + p1)
        · rw [if_pos g, if_pos g]
        · rw [if_neg g, if_neg g]
      rw [if_neg f3]
      by_cases f4 : (fX1_isFraction mk1 0) = 0
      · rw [if_pos f4, if_neg (show ¬ (mf9 = 0 ∧ ¬ mf1 = 3 ∧ ¬ 2 ≤ p0 ∧ ¬ (fX1_isFraction mk1 0) = 0 ∧ ¬ (fX1_isFraction mk1 p0) = 0) from fun z => z.2.2.2.1 f4)]
        by_cases g : 4 ≤ (((fX1_home mk1 mk2 mk3 mf1 mf2 p0) / 4) + p1)
        · rw [if_pos g, if_pos g]
        · rw [if_neg g, if_neg g]
      rw [if_neg f4]
      by_cases f5 : (fX1_isFraction mk1 p0) = 0
      · rw [if_pos f5, if_neg (show ¬ (mf9 = 0 ∧ ¬ mf1 = 3 ∧ ¬ 2 ≤ p0 ∧ ¬ (fX1_isFraction mk1 0) = 0 ∧ ¬ (fX1_isFraction mk1 p0) = 0) from fun z => z.2.2.2.2 f5)]
        by_cases g : 4 ≤ (((fX1_home mk1 mk2 mk3 mf1 mf2 p0) / 4) + p1)
        · rw [if_pos g, if_pos g]
        · rw [if_neg g, if_neg g]
      rw [if_neg f5, if_pos (show (mf9 = 0 ∧ ¬ mf1 = 3 ∧ ¬ 2 ≤ p0 ∧ ¬ (fX1_isFraction mk1 0) = 0 ∧ ¬ (fX1_isFraction mk1 p0) = 0) from ⟨f1, f2, f3, f4, f5⟩)]
      by_cases f6 : (mk1 (p0 : Int32).toNatClampNeg) = 2
      · rw [if_pos f6, if_pos f6]
        by_cases f7 : p1 = 0
        · rw [if_pos f7, if_pos f7]
        · rw [if_neg f7, if_neg f7]
      · rw [if_neg f6, if_neg f6]
    · rw [if_neg f1, if_neg (show ¬ (mf9 = 0 ∧ ¬ mf1 = 3 ∧ ¬ 2 ≤ p0 ∧ ¬ (fX1_isFraction mk1 0) = 0 ∧ ¬ (fX1_isFraction mk1 p0) = 0) from fun z => f1 z.1)]
      by_cases g : 4 ≤ (((fX1_home mk1 mk2 mk3 mf1 mf2 p0) / 4) + p1)
      · rw [if_pos g, if_pos g]
      · rw [if_neg g, if_neg g]
  · rw [if_neg a3, if_neg a3]
theorem reg_eq {h q : Nat} (hh : h ≤ 250000) (hq : q ≤ 16384) : fX0_registerOrMemory (nI (4 * h) + 4 * nI q) = if 4 ≤ nI (4 * h) / 4 + nI q then (-1) else 4 + (nI (4 * h) / 4 + nI q) := by
  have e1 : nI (4 * h) + 4 * nI q = nI (4 * h + 4 * q) := by rw [show (4 : Int32) * nI q = nI (4 * q) from pk_mul 4 q, nI_add]
  have e2 : nI (4 * h) / 4 = nI h := by
    have z := pk_div (a := 4 * h) (d := 4) (by omega) (by decide) (by decide)
    rw [show 4 * h / 4 = h by omega] at z
    exact z
  have e3 : nI (4 * h + 4 * q) / 4 = nI (h + q) := by
    have z := pk_div (a := 4 * h + 4 * q) (d := 4) (by omega) (by decide) (by decide)
    rw [show (4 * h + 4 * q) / 4 = h + q by omega] at z
    exact z
  rw [e1, e2, fX0_registerOrMemory, e3, nI_add]
  by_cases g : 4 ≤ h + q
  · rw [if_pos ((le16 (by omega)).mpr (by omega)), if_pos (show (4 : Int32) ≤ nI (h + q) from (nI_leI (a := 4) (by decide) (by omega)).mpr g)]
  · rw [if_neg (mt (le16 (by omega)).mp (by omega)), if_neg (show ¬ (4 : Int32) ≤ nI (h + q) from fun z => g ((nI_leI (a := 4) (by decide) (by omega)).mp z))]
theorem frac_i {xk1 xk2 xk3 mk1 mk2 mk3 : Nat → Int32} {mf1 : Int32} {n i : Nat} (hn : n ≤ 60) (hi : i < n) (h : RA xk1 xk2 xk3 mk1 mk2 mk3 mf1 i) : fX0_isFractional xk1 (nI n) (nI i) = fX1_isFraction mk1 (nI i) := by
  rw [fX0_isFractional, fX1_isFraction, if_neg (added hn hi), clampN (by omega), h.1]
theorem frac_v {xk1 xk2 xk3 mk1 mk2 mk3 : Nat → Int32} {mf1 : Int32} {n j q : Nat} (hn : n ≤ 60) (hj : j < n) (h : RA xk1 xk2 xk3 mk1 mk2 mk3 mf1 j) (hf : ¬ fX1_isFraction mk1 (nI j) = 0) (hq : q < 2 ^ 31) (hw : nI q < fX0_wordsAt xk3 (nI n) (nI j)) :
    fX0_fractionOf xk3 (nI n) (nI j) (nI q) = (if (mk1 (nI j : Int32).toNatClampNeg) = 2 then (if nI q = 0 then ((44 + (2 * nI j)) + 1) else (44 + (2 * nI j))) else (44 + (2 * nI j))) := by
  obtain ⟨-, -, h3, -, -⟩ := h
  have ew : fX0_wordsAt xk3 (nI n) (nI j) = fX0_fill (xk3 j) 4 / 4 := by rw [fX0_wordsAt, fX0_bytesAt, if_neg (added hn hj), clampN (by omega)]
  rw [fX1_bytes, clampN (by omega)] at h3
  rw [fX1_isFraction, clampN (by omega)] at hf
  rw [fX0_fractionOf, clampN (show j < 2 ^ 31 by omega)]
  by_cases c2 : mk1 j = 2
  · rw [if_pos c2] at h3
    have w2 : fX0_wordsAt xk3 (nI n) (nI j) = 2 := by rw [ew, h3]; decide
    rw [if_pos w2, if_pos c2]
    rw [w2] at hw
    have q2 : q < 2 := (nI_ltI (b := 2) hq (by decide)).mp hw
    rcases (show q = 0 ∨ q = 1 by omega) with rfl | rfl
    · rw [if_pos (show nI 0 = 0 from rfl), nI_0, Int32.sub_zero]
    · rw [if_neg (show ¬ nI 1 = 0 by decide)]
      exact inc_dec _
  · rw [if_neg c2] at h3
    have c1 : mk1 j = 1 := by
      by_cases c1 : mk1 j = 1
      · exact c1
      · rw [if_neg c1, if_neg c2] at hf; exact absurd rfl hf
    rw [if_neg (by rw [c1]; decide)] at h3
    have w1 : ¬ fX0_wordsAt xk3 (nI n) (nI j) = 2 := by rw [ew, h3]; decide
    rw [if_neg w1, if_neg c2]
theorem rc_where {t : Nat} {xk1 xk2 xk3 : Nat → Int32} {xf3 xf4 xf5 xf6 xf7 xf8 xf9 xf10 xf11 xf12 xf13 : Int32} {mk1 mk2 mk3 : Nat → Int32} {mf0 mf1 mf2 mf3 mf4 mf5 mf6 mf7 mf8 mf9 : Int32} (ht : t ≤ 512) (hS : RS xk1 xk2 xk3 xf3 xf4 xf5 xf6 mk1 mk2 mk3 mf1 mf2 mf9) (hC : RC t xf7 xf8 mf3 mf4) (hF : RF xf9 xf10 xf11 xf12 xf13 mf5 mf6 mf7 mf8) (p0 p1 : Int32) : Rel (t + 1) (fX0_where xk1 xk2 xk3 xf3 xf4 xf5 xf6 xf7 xf8 xf9 xf10 xf11 xf12 xf13 p0 p1).2.2 (fX1_where mk1 mk2 mk3 mf0 mf1 mf2 mf3 mf4 mf5 mf6 mf7 mf8 mf9 p0 p1).2.2 ∧ (fX1_where mk1 mk2 mk3 mf0 mf1 mf2 mf3 mf4 mf5 mf6 mf7 mf8 mf9 p0 p1).2.2.2.2.2.1 = (fX0_where xk1 xk2 xk3 xf3 xf4 xf5 xf6 xf7 xf8 xf9 xf10 xf11 xf12 xf13 p0 p1).1 ∧ ((fX0_where xk1 xk2 xk3 xf3 xf4 xf5 xf6 xf7 xf8 xf9 xf10 xf11 xf12 xf13 p0 p1).1 = 0 → (fX0_where xk1 xk2 xk3 xf3 xf4 xf5 xf6 xf7 xf8 xf9 xf10 xf11 xf12 xf13 p0 p1).2.1 = (fX1_where mk1 mk2 mk3 mf0 mf1 mf2 mf3 mf4 mf5 mf6 mf7 mf8 mf9 p0 p1).2.1) := by
  have hK := hS
  obtain ⟨n, e, hn, h1, h2, h3, h4, h5, h6, h7, h8, h9⟩ := hS
  rw [fX0_where, whereM, there_eq hn h1 h2 h3 p0]
  by_cases ha : fX0_isArgument xf3 xf4 p0 = 0
  · rw [if_pos ha, if_pos ha]
    exact ⟨⟨hK, hC.mono, hF⟩, rfl, fun q => absurd q n10⟩
  rw [if_neg ha, if_neg ha]
  by_cases n0 : p1 < 0
  · rw [if_pos n0, if_pos n0]
    exact ⟨⟨hK, hC.mono, hF⟩, rfl, fun q => absurd q n10⟩
  rw [if_neg n0, if_neg n0]
  obtain ⟨q, hq, rfl⟩ := nI_of n0
  subst h1
  rcases arg_cases hn ha with ⟨rfl, hx⟩ | ⟨j, hj, rfl⟩
  · rw [words_m1, show fX1_words mk1 mk2 (-1) = 1 from if_pos rfl]
    by_cases w : nI q < 1
    · rw [if_pos w, if_pos w, if_pos (show fX0_isInFraction xk1 (nI n) xf4 xf5 (-1) = 0 from by
        rw [fX0_isInFraction]
        by_cases o : xf5 = 0
        · rw [if_pos o, if_pos hx]
        · rw [if_neg o])]
      have q0 : q = 0 := by
        have z := (nI_ltI (b := 1) hq (by decide)).mp w
        omega
      subst q0
      exact ⟨⟨hK, hC.mono, hF⟩, rfl, fun _ => by
        show fX0_registerOrMemory (fX0_homeAt xk2 (nI n) (-1) + 4 * nI 0) = 4
        rw [fX0_homeAt, if_pos (added_m1 _)]
        decide⟩
    · rw [if_neg w, if_neg w]
      exact ⟨⟨hK, hC.mono, hF⟩, rfl, fun q => absurd q n10⟩
  · have r9 := h9 j hj
    rw [← words_j hn hj r9]
    by_cases w : nI q < fX0_wordsAt xk3 (nI n) (nI j)
    · rw [if_pos w, if_pos w]
      have hreg : fX0_registerOrMemory (fX0_homeAt xk2 (nI n) (nI j) + 4 * nI q) = (if 4 ≤ ((fX1_home mk1 mk2 mk3 mf1 mf2 (nI j)) / 4) + nI q then (-1) else (4 + (((fX1_home mk1 mk2 mk3 mf1 mf2 (nI j)) / 4) + nI q))) := by
        obtain ⟨-, a2, a3, ⟨h, hh, ah⟩, ⟨b, hb1, hb2, ab⟩⟩ := r9
        have hqb : q ≤ 16384 := by
          rw [fX0_wordsAt, fX0_bytesAt, if_neg (added hn hj), clampN (show j < 2 ^ 31 by omega), ab, fill4 (by omega), show (4 : Int32) = nI 4 from rfl, pk_div (by omega) (by decide) (by decide)] at w
          have z := (nI_ltI hq (by omega)).mp w
          omega
        rw [fX0_homeAt, if_neg (added hn hj), clampN (show j < 2 ^ 31 by omega), h2, home_lt hj hn, ← a2, ah]
        exact reg_eq hh hqb
      by_cases fr : (mf9 = 0 ∧ ¬ mf1 = 3 ∧ ¬ 2 ≤ (nI j) ∧ ¬ (fX1_isFraction mk1 0) = 0 ∧ ¬ (fX1_isFraction mk1 (nI j)) = 0)
      · obtain ⟨f1, f2, f3, f4, f5⟩ := id fr
        have j2 : j < 2 := by
          rcases Nat.lt_or_ge j 2 with z | z
          · exact z
          · exact absurd ((nI_leI (a := 2) (by decide) (by omega)).mpr z) f3
        have r0 := h9 0 (by omega)
        have i1 : ¬ fX0_isInFraction xk1 (nI n) xf4 xf5 (nI j) = 0 := by
          rw [fX0_isInFraction, if_pos (h4.trans f1), if_neg (by rw [h3]; exact f2)]
          rcases (show j = 0 ∨ j = 1 by omega) with rfl | rfl
          · rw [if_pos (show nI 0 = 0 from rfl)]
            have z := frac_i hn (show 0 < n by omega) r0
            rw [nI_0] at z
            rw [z]
            exact f4
          · rw [if_neg (show ¬ nI 1 = 0 by decide), if_pos (show nI 1 = 1 from rfl)]
            have z := frac_i hn (show 0 < n by omega) r0
            rw [nI_0] at z
            have z1 := frac_i hn hj r9
            rw [show nI 1 = 1 from rfl] at z1 f5
            rw [z, z1, if_neg f4, if_neg f5]
            exact n10
        rw [if_neg i1, if_neg (nI_m1 (by omega)), if_pos fr]
        exact ⟨⟨hK, hC.mono, hF⟩, rfl, fun _ => frac_v hn hj r9 f5 hq w⟩
      · have i0 : fX0_isInFraction xk1 (nI n) xf4 xf5 (nI j) = 0 := by
          rw [fX0_isInFraction]
          by_cases o1 : xf5 = 0
          · rw [if_pos o1]
            by_cases o2 : xf4 = 3
            · rw [if_pos o2]
            · rw [if_neg o2]
              by_cases o3 : nI j = 0
              · rw [if_pos o3]
                have j0 : j = 0 := (nI_eq (b := 0) (by omega) (by decide)).mp o3
                subst j0
                have z := frac_i hn hj r9
                rw [nI_0] at z
                rw [z]
                by_cases o4 : fX1_isFraction mk1 0 = 0
                · exact o4
                · exact absurd ⟨h4.symm.trans o1, fun y => o2 (h3.trans y), by decide, o4, o4⟩ fr
              · rw [if_neg o3]
                by_cases o5 : nI j = 1
                · rw [if_pos o5]
                  have j1 : j = 1 := (nI_eq (b := 1) (by omega) (by decide)).mp o5
                  subst j1
                  have z := frac_i hn (show 0 < n by omega) (h9 0 (by omega))
                  rw [nI_0] at z
                  have z1 := frac_i hn hj r9
                  rw [show nI 1 = 1 from rfl] at z1
                  rw [z, z1]
                  by_cases o4 : fX1_isFraction mk1 0 = 0
                  · rw [if_pos o4]
                  · rw [if_neg o4]
                    by_cases o6 : fX1_isFraction mk1 1 = 0
                    · rw [if_pos o6]
                    · exact absurd ⟨h4.symm.trans o1, fun y => o2 (h3.trans y), by decide, o4, o6⟩ fr
                · rw [if_neg o5]
          · rw [if_neg o1]
        rw [if_pos i0, if_neg (nI_m1 (by omega)), if_neg fr]
        exact ⟨⟨hK, hC.mono, hF⟩, rfl, fun _ => hreg⟩
    · rw [if_neg w, if_neg w]
      exact ⟨⟨hK, hC.mono, hF⟩, rfl, fun q => absurd q n10⟩
theorem rl_where {t : Nat} (ht : t ≤ 512) {σ : xWS} {μ : mWS} (h : Rel t σ μ) (p0 p1 : Int32) : Rel (t + 1) (XF_where σ p0 p1).2.2 (MF_where μ p0 p1).2.2 ∧ (MF_where μ p0 p1).2.2.2.2.2.1 = (XF_where σ p0 p1).1 ∧ ((XF_where σ p0 p1).1 = 0 → (XF_where σ p0 p1).2.1 = (MF_where μ p0 p1).2.1) := rc_where (mf0 := μ.2.2.2.1) ht h.1 h.2.1 h.2.2 p0 p1
