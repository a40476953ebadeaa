def Rel (t : Nat) (σ : xWS) (μ : mWS) : Prop := RS σ.1 σ.2.1 σ.2.2.1 σ.2.2.2.1 σ.2.2.2.2.1 σ.2.2.2.2.2.1 σ.2.2.2.2.2.2.1 μ.1 μ.2.1 μ.2.2.1 μ.2.2.2.2.1 μ.2.2.2.2.2.1 μ.2.2.2.2.2.2.2.2.2.2.2.2 ∧ RC t σ.2.2.2.2.2.2.2.1 σ.2.2.2.2.2.2.2.2.1 μ.2.2.2.2.2.2.1 μ.2.2.2.2.2.2.2.1 ∧ RF σ.2.2.2.2.2.2.2.2.2.1 σ.2.2.2.2.2.2.2.2.2.2.1 σ.2.2.2.2.2.2.2.2.2.2.2.1 σ.2.2.2.2.2.2.2.2.2.2.2.2.1 σ.2.2.2.2.2.2.2.2.2.2.2.2.2 μ.2.2.2.2.2.2.2.2.1 μ.2.2.2.2.2.2.2.2.2.1 μ.2.2.2.2.2.2.2.2.2.2.1 μ.2.2.2.2.2.2.2.2.2.2.2.1
theorem RC.mono {t : Nat} {xf7 xf8 mf3 mf4 : Int32} (h : RC t xf7 xf8 mf3 mf4) : RC (t + 1) xf7 xf8 mf3 mf4 := by
  obtain ⟨k, a, h1, h2⟩ := h
  exact ⟨k, a, by omega, h2⟩
theorem rl_mono {t : Nat} {σ : xWS} {μ : mWS} (h : Rel t σ μ) : Rel (t + 1) σ μ := ⟨h.1, h.2.1.mono, h.2.2⟩
theorem rl_N {t : Nat} {σ : xWS} {μ : mWS} (h : Rel t σ μ) : (μ.2.2.2.2.2.1).toNatClampNeg ≤ 60 := by
  obtain ⟨⟨n, e, hn, -, h2, -⟩, -, -⟩ := h
  rw [h2, clampN (by omega)]
  exact hn
theorem rl_0 {t : Nat} {σ : xWS} {μ : mWS} (h : Rel t σ μ) : ¬ μ.2.2.2.2.2.1 < 0 := by
  obtain ⟨⟨n, e, hn, -, h2, -⟩, -, -⟩ := h
  rw [h2]
  exact nI_pos (by omega)
theorem rl_start : Rel 0 xWI mWI := by
  refine ⟨⟨0, 0, by omega, rfl, rfl, rfl, rfl, by decide, rfl, by omega, by decide, fun j h => absurd h (Nat.not_lt_zero j)⟩, ⟨0, 0, by omega, rfl, rfl, rfl, rfl, by omega, fun _ => rfl⟩, ⟨0, 0, rfl, rfl, by omega, rfl, by omega, by decide, by decide, rfl, rfl, by decide, by decide⟩⟩
