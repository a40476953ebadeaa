theorem RF0 : RF 0 0 0 0 0 0 0 0 0 := ⟨0, 0, rfl, rfl, by omega, rfl, by omega, by decide, by decide, rfl, rfl, by decide, by decide⟩
theorem le16 {x : Nat} (hx : x < 2 ^ 31) : (16 : Int32) ≤ nI x ↔ 16 ≤ x := nI_leI (a := 16) (by decide) hx
theorem lt16 {x : Nat} (hx : x < 2 ^ 31) : nI x < (16 : Int32) ↔ x < 16 := nI_ltI (b := 16) hx (by decide)
theorem le60 {x : Nat} (hx : x < 2 ^ 31) : (60 : Int32) ≤ nI x ↔ 60 ≤ x := nI_leI (a := 60) (by decide) hx
theorem area_eq {xk1 xk2 xk3 : Nat → Int32} {xf3 xf4 xf5 xf6 : Int32} {mk1 mk2 mk3 : Nat → Int32} {mf1 mf2 mf9 : Int32} (hS : RS xk1 xk2 xk3 xf3 xf4 xf5 xf6 mk1 mk2 mk3 mf1 mf2 mf9) : fX0_areaSize xf6 = fX1_area mk1 mk2 mk3 mf1 mf2 ∧ ∃ a : Nat, 1 ≤ a ∧ a ≤ 125001 ∧ fX0_areaSize xf6 = nI (8 * a) := by
  obtain ⟨n, e, hn, h1, h2, h3, h4, h5, h6, h7, h8, h9⟩ := hS
  subst h1; subst h2; subst h6
  rw [fX0_areaSize, fX1_area, home_eq hn, h8, fill8 (by omega), filled8 (by omega)]
  by_cases h : (4 * e + 7) / 8 * 8 < 16
  · rw [if_pos ((lt16 (by omega)).mpr h), if_neg (mt (le16 (by omega)).mp (by omega))]
    exact ⟨rfl, 2, by omega, by omega, rfl⟩
  · rw [if_neg (mt (lt16 (by omega)).mp h), if_pos ((le16 (by omega)).mpr (show 16 ≤ (4 * e + 7) / 8 * 8 by omega))]
    exact ⟨rfl, (4 * e + 7) / 8, by omega, by omega, by rw [Nat.mul_comm]⟩
theorem there_eq {xf3 xf4 mf1 mf2 : Int32} {n : Nat} (hn : n ≤ 60) (h1 : xf3 = nI n) (h2 : mf2 = nI n) (h3 : xf4 = mf1) (p0 : Int32) : fX1_isThere mf1 mf2 p0 = fX0_isArgument xf3 xf4 p0 := by
  subst h1; subst h2; subst h3
  rw [fX1_isThere, fX0_isArgument, fX0_isAdded]
  by_cases hm : p0 = (-1)
  · subst hm
    rw [if_pos (by decide), if_pos rfl, if_pos rfl]
  · rw [if_neg hm, if_neg hm]
    by_cases h0 : p0 < 0
    · rw [if_pos h0, if_pos h0]
    · rw [if_neg h0, if_neg h0]
      obtain ⟨j, hj, rfl⟩ := nI_of h0
      by_cases hl : j < n
      · rw [if_pos ((nI_ltI hj (by omega)).mpr hl), if_neg (fun q => absurd ((nI_leI (by omega) hj).mp q) (by omega)), if_neg (mt (le60 hj).mp (by omega))]
      · rw [if_neg (fun q => hl ((nI_ltI hj (by omega)).mp q)), if_pos ((nI_leI (by omega) hj).mpr (by omega))]
theorem arg_cases {xf4 p0 : Int32} {n : Nat} (hn : n ≤ 60) (h : ¬ fX0_isArgument (nI n) xf4 p0 = 0) : (p0 = (-1) ∧ xf4 = 3) ∨ ∃ j : Nat, j < n ∧ p0 = nI j := by
  rw [fX0_isArgument, fX0_isAdded] at h
  by_cases hm : p0 = (-1)
  · rw [if_pos hm] at h
    by_cases h3 : xf4 = 3
    · exact Or.inl ⟨hm, h3⟩
    · rw [if_neg h3] at h; exact absurd rfl h
  · rw [if_neg hm] at h
    by_cases h0 : p0 < 0
    · rw [if_pos h0] at h; exact absurd rfl h
    · rw [if_neg h0] at h
      obtain ⟨j, hj, rfl⟩ := nI_of h0
      by_cases hl : j < n
      · exact Or.inr ⟨j, hl, rfl⟩
      · rw [if_pos ((nI_leI (by omega) hj).mpr (by omega))] at h; exact absurd rfl h
theorem added {n j : Nat} (hn : n ≤ 60) (hj : j < n) : ¬ fX0_isAdded (nI n) (nI j) = 0 := by
  rw [fX0_isAdded, if_neg (nI_pos (by omega)), if_neg (nI_ge hj (by omega)), if_neg (mt (le60 (show j < 2 ^ 31 by omega)).mp (by omega))]
  decide
theorem added_m1 (x : Int32) : fX0_isAdded x (-1) = 0 := by rw [fX0_isAdded, if_pos (by decide)]
theorem nI_m1 {j : Nat} (h : j ≤ 60) : ¬ nI j = (-1) := fun e => nI_pos (n := j) (by omega) (by rw [e]; decide)
theorem rc_clear {t : Nat} {xk1 xk2 xk3 : Nat → Int32} {xf3 xf4 xf5 xf6 xf7 xf8 xf9 xf10 xf11 xf12 xf13 : Int32} {mk1 mk2 mk3 : Nat → Int32} {mf0 mf1 mf2 mf3 mf4 mf5 mf6 mf7 mf8 mf9 : Int32} (ht : t ≤ 512) (hS : RS xk1 xk2 xk3 xf3 xf4 xf5 xf6 mk1 mk2 mk3 mf1 mf2 mf9) (hC : RC t xf7 xf8 mf3 mf4) (hF : RF xf9 xf10 xf11 xf12 xf13 mf5 mf6 mf7 mf8) : Rel (t + 1) (fX0_clear xk1 xk2 xk3 xf3 xf4 xf5 xf6 xf7 xf8 xf9 xf10 xf11 xf12 xf13).2.2 (fX1_clear mk1 mk2 mk3 mf0 mf1 mf2 mf3 mf4 mf5 mf6 mf7 mf8 mf9).2.2 ∧ (fX0_clear xk1 xk2 xk3 xf3 xf4 xf5 xf6 xf7 xf8 xf9 xf10 xf11 xf12 xf13).2.1 = (fX1_clear mk1 mk2 mk3 mf0 mf1 mf2 mf3 mf4 mf5 mf6 mf7 mf8 mf9).2.1 := by
  obtain ⟨k, a, h1, h2, h3, h4, h5, h6, h7⟩ := hC
  exact ⟨⟨hS, ⟨0, 0, by omega, rfl, rfl, rfl, rfl, by omega, fun _ => rfl⟩, RF0⟩, h2.trans h3.symm⟩
theorem rl_clear {t : Nat} (ht : t ≤ 512) {σ : xWS} {μ : mWS} (h : Rel t σ μ) : Rel (t + 1) (XF_clear σ).2.2 (MF_clear μ).2.2 ∧ (XF_clear σ).2.1 = (MF_clear μ).2.1 := rc_clear (mf0 := μ.2.2.2.1) ht h.1 h.2.1 h.2.2
theorem rc_call {t : Nat} {xk1 xk2 xk3 : Nat → Int32} {xf3 xf4 xf5 xf6 xf7 xf8 xf9 xf10 xf11 xf12 xf13 : Int32} {mk1 mk2 mk3 : Nat → Int32} {mf0 mf1 mf2 mf3 mf4 mf5 mf6 mf7 mf8 mf9 : Int32} (ht : t ≤ 512) (hS : RS xk1 xk2 xk3 xf3 xf4 xf5 xf6 mk1 mk2 mk3 mf1 mf2 mf9) (hC : RC t xf7 xf8 mf3 mf4) (hF : RF xf9 xf10 xf11 xf12 xf13 mf5 mf6 mf7 mf8) : Rel (t + 1) (fX0_call xk1 xk2 xk3 xf3 xf4 xf5 xf6 xf7 xf8 xf9 xf10 xf11 xf12 xf13).2.2 (fX1_call mk1 mk2 mk3 mf0 mf1 mf2 mf3 mf4 mf5 mf6 mf7 mf8 mf9).2.2 ∧ (fX0_call xk1 xk2 xk3 xf3 xf4 xf5 xf6 xf7 xf8 xf9 xf10 xf11 xf12 xf13).2.1 = (fX1_call mk1 mk2 mk3 mf0 mf1 mf2 mf3 mf4 mf5 mf6 mf7 mf8 mf9).2.1 := by
  obtain ⟨hA, a1, ha1, ha2, hA1⟩ := area_eq hS
  obtain ⟨k, a, h1, h2, h3, h4, h5, h6, h7⟩ := hC
  subst h2; subst h3; subst h4; subst h5
  rw [fX0_call, fX1_call, ← hA, hA1]
  by_cases h : a < a1
  · rw [if_pos ((nI_ltI (by omega) (by omega)).mpr (show 8 * a < 8 * a1 by omega)), if_neg (fun q => absurd ((nI_leI (by omega) (by omega)).mp q) (show ¬ 8 * a1 ≤ 8 * a by omega))]
    exact ⟨⟨hS, ⟨k + 1, a1, by omega, nI_1 k, nI_1 k, rfl, rfl, ha2, fun q => absurd q (by omega)⟩, hF⟩, rfl⟩
  · rw [if_neg (fun q => absurd ((nI_ltI (by omega) (by omega)).mp q) (show ¬ 8 * a < 8 * a1 by omega)), if_pos ((nI_leI (by omega) (by omega)).mpr (show 8 * a1 ≤ 8 * a by omega))]
    exact ⟨⟨hS, ⟨k + 1, a, by omega, nI_1 k, nI_1 k, rfl, rfl, h6, fun q => absurd q (by omega)⟩, hF⟩, rfl⟩
theorem rl_call {t : Nat} (ht : t ≤ 512) {σ : xWS} {μ : mWS} (h : Rel t σ μ) : Rel (t + 1) (XF_call σ).2.2 (MF_call μ).2.2 ∧ (XF_call σ).2.1 = (MF_call μ).2.1 := rc_call (mf0 := μ.2.2.2.1) ht h.1 h.2.1 h.2.2
theorem rc_signature {t : Nat} {xk1 xk2 xk3 : Nat → Int32} {xf3 xf4 xf5 xf6 xf7 xf8 xf9 xf10 xf11 xf12 xf13 : Int32} {mk1 mk2 mk3 : Nat → Int32} {mf0 mf1 mf2 mf3 mf4 mf5 mf6 mf7 mf8 mf9 : Int32} (ht : t ≤ 512) (hS : RS xk1 xk2 xk3 xf3 xf4 xf5 xf6 mk1 mk2 mk3 mf1 mf2 mf9) (hC : RC t xf7 xf8 mf3 mf4) (hF : RF xf9 xf10 xf11 xf12 xf13 mf5 mf6 mf7 mf8) (p0 : Int32) : Rel (t + 1) (fX0_signature xk1 xk2 xk3 xf3 xf4 xf5 xf6 xf7 xf8 xf9 xf10 xf11 xf12 xf13 p0).2.2 (fX1_signature mk1 mk2 mk3 mf0 mf1 mf2 mf3 mf4 mf5 mf6 mf7 mf8 mf9 p0).2.2 ∧ (fX1_signature mk1 mk2 mk3 mf0 mf1 mf2 mf3 mf4 mf5 mf6 mf7 mf8 mf9 p0).2.2.2.2.2.1 = (fX0_signature xk1 xk2 xk3 xf3 xf4 xf5 xf6 xf7 xf8 xf9 xf10 xf11 xf12 xf13 p0).1 ∧ ((fX0_signature xk1 xk2 xk3 xf3 xf4 xf5 xf6 xf7 xf8 xf9 xf10 xf11 xf12 xf13 p0).1 = 0 → (fX0_signature xk1 xk2 xk3 xf3 xf4 xf5 xf6 xf7 xf8 xf9 xf10 xf11 xf12 xf13 p0).2.1 = (fX1_signature mk1 mk2 mk3 mf0 mf1 mf2 mf3 mf4 mf5 mf6 mf7 mf8 mf9 p0).2.1) := by
  have hK := hS
  obtain ⟨hA, -⟩ := area_eq hS
  obtain ⟨n, e, hn, h1, h2, h3, h4, h5, h6, h7, h8, h9⟩ := hS
  by_cases p0e : p0 = 0
  · subst p0e
    rw [fX0_signature, if_pos rfl, fX1_signature]
    simp only [if_neg (show ¬ ((0 : Int32) < 0) by decide), if_pos (show ((0 : Int32) ≤ 3) by decide), if_pos (show ((0 : Int32) = 0) by decide), if_true, ite_self]
    exact ⟨⟨hK, hC.mono, hF⟩, trivial, fun _ => hA⟩
  by_cases p1e : p0 = 1
  · subst p1e
    rw [fX0_signature, if_neg p0e, if_pos rfl, fX1_signature]
    simp only [if_neg (show ¬ ((1 : Int32) < 0) by decide), if_pos (show ((1 : Int32) ≤ 3) by decide), if_neg (show ¬ ((1 : Int32) = 0) by decide), if_pos (show ((1 : Int32) = 1) by decide), if_true, ite_self]
    exact ⟨⟨hK, hC.mono, hF⟩, trivial, fun _ => h1.trans h2.symm⟩
  by_cases p2e : p0 = 2
  · subst p2e
    rw [fX0_signature, if_neg p0e, if_neg p1e, if_pos rfl, fX1_signature]
    simp only [if_neg (show ¬ ((2 : Int32) < 0) by decide), if_pos (show ((2 : Int32) ≤ 3) by decide), if_neg (show ¬ ((2 : Int32) = 0) by decide), if_neg (show ¬ ((2 : Int32) = 1) by decide), if_true]
    rcases h5 with q | q | q | q | q
    · rw [if_neg (by rw [q]; decide), if_pos q]
      exact ⟨⟨hK, hC.mono, hF⟩, rfl, fun _ => by rw [h3, q]; rfl⟩
    · rw [if_neg (by rw [q]; decide), if_neg (by rw [q]; decide), if_neg (by rw [q]; decide)]
      exact ⟨⟨hK, hC.mono, hF⟩, rfl, fun _ => by rw [h3, q]; rfl⟩
    · rw [if_neg (by rw [q]; decide), if_neg (by rw [q]; decide), if_neg (by rw [q]; decide)]
      exact ⟨⟨hK, hC.mono, hF⟩, rfl, fun _ => by rw [h3, q]; rfl⟩
    · rw [if_neg (by rw [q]; decide), if_neg (by rw [q]; decide), if_pos q]
      exact ⟨⟨hK, hC.mono, hF⟩, rfl, fun _ => by rw [h3, q]; rfl⟩
    · rw [if_pos q]
      exact ⟨⟨hK, hC.mono, hF⟩, rfl, fun _ => by rw [h3, q]; rfl⟩
  by_cases p3e : p0 = 3
  · subst p3e
    rw [fX0_signature, if_neg p0e, if_neg p1e, if_neg p2e, if_pos rfl, fX1_signature]
    simp only [if_neg (show ¬ ((3 : Int32) < 0) by decide), if_pos (show ((3 : Int32) ≤ 3) by decide), if_neg (show ¬ ((3 : Int32) = 0) by decide), if_neg (show ¬ ((3 : Int32) = 1) by decide), if_neg (show ¬ ((3 : Int32) = 2) by decide), if_true, ite_self]
    exact ⟨⟨hK, hC.mono, hF⟩, trivial, fun _ => by rw [h2, home_eq hn, h8]; exact h6⟩
  rw [fX0_signature, if_neg p0e, if_neg p1e, if_neg p2e, if_neg p3e, fX1_signature]
  by_cases hneg : p0 < 0
  · rw [if_pos hneg]
    exact ⟨⟨hK, hC.mono, hF⟩, rfl, fun q => absurd q n10⟩
  · rw [if_neg hneg]
    by_cases hle : p0 ≤ 3
    · exfalso
      obtain ⟨j, hj, rfl⟩ := nI_of2 (M := 3) (n := 3) (by decide) hneg hle
      rcases (show j = 0 ∨ j = 1 ∨ j = 2 ∨ j = 3 by omega) with rfl | rfl | rfl | rfl
      · exact p0e rfl
      · exact p1e rfl
      · exact p2e rfl
      · exact p3e rfl
    · rw [if_neg hle]
      exact ⟨⟨hK, hC.mono, hF⟩, rfl, fun q => absurd q n10⟩
theorem rl_signature {t : Nat} (ht : t ≤ 512) {σ : xWS} {μ : mWS} (h : Rel t σ μ) (p0 : Int32) : Rel (t + 1) (XF_signature σ p0).2.2 (MF_signature μ p0).2.2 ∧ (MF_signature μ p0).2.2.2.2.2.1 = (XF_signature σ p0).1 ∧ ((XF_signature σ p0).1 = 0 → (XF_signature σ p0).2.1 = (MF_signature μ p0).2.1) := rc_signature (mf0 := μ.2.2.2.1) ht h.1 h.2.1 h.2.2 p0
