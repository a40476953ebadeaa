def Rel (σ : xWS) (μ : mWS) : Prop := σ.2.2.2.1 = μ.2.2.2.2.2.1
theorem rl_N {σ : xWS} {μ : mWS} (h : Rel σ μ) : (μ.2.2.2.2.2.1).toNatClampNeg ≤ 60 := sorry
theorem rl_0 {σ : xWS} {μ : mWS} (h : Rel σ μ) : ¬ μ.2.2.2.2.2.1 < 0 := sorry
theorem rl_begin {σ : xWS} {μ : mWS} (h : Rel σ μ) (p0 p1 p2 p3 : Int32) : Rel (XF_begin σ p0 p1 p2 p3).2.2 (MF_begin μ p0 p1 p2 p3).2.2 ∧ (MF_begin μ p0 p1 p2 p3).2.2.2.2.2.1 = (XF_begin σ p0 p1 p2 p3).1 ∧ True := sorry
theorem rl_add {σ : xWS} {μ : mWS} (h : Rel σ μ) (p0 p1 p2 : Int32) : Rel (XF_add σ p0 p1 p2).2.2 (MF_add μ p0 p1 p2).2.2 ∧ (MF_add μ p0 p1 p2).2.2.2.2.2.1 = (XF_add σ p0 p1 p2).1 ∧ ((XF_add σ p0 p1 p2).1 = 0 → (XF_add σ p0 p1 p2).2.1 = (MF_add μ p0 p1 p2).2.1) := sorry
theorem rl_where {σ : xWS} {μ : mWS} (h : Rel σ μ) (p0 p1 : Int32) : Rel (XF_where σ p0 p1).2.2 (MF_where μ p0 p1).2.2 ∧ (MF_where μ p0 p1).2.2.2.2.2.1 = (XF_where σ p0 p1).1 ∧ ((XF_where σ p0 p1).1 = 0 → (XF_where σ p0 p1).2.1 = (MF_where μ p0 p1).2.1) := sorry
theorem rl_about {σ : xWS} {μ : mWS} (h : Rel σ μ) (p0 p1 : Int32) : Rel (XF_about σ p0 p1).2.2 (MF_about μ p0 p1).2.2 ∧ (MF_about μ p0 p1).2.2.2.2.2.1 = (XF_about σ p0 p1).1 ∧ ((XF_about σ p0 p1).1 = 0 → (XF_about σ p0 p1).2.1 = (MF_about μ p0 p1).2.1) := sorry
theorem rl_signature {σ : xWS} {μ : mWS} (h : Rel σ μ) (p0 : Int32) : Rel (XF_signature σ p0).2.2 (MF_signature μ p0).2.2 ∧ (MF_signature μ p0).2.2.2.2.2.1 = (XF_signature σ p0).1 ∧ ((XF_signature σ p0).1 = 0 → (XF_signature σ p0).2.1 = (MF_signature μ p0).2.1) := sorry
theorem rl_call {σ : xWS} {μ : mWS} (h : Rel σ μ) : Rel (XF_call σ).2.2 (MF_call μ).2.2 ∧ (XF_call σ).2.1 = (MF_call μ).2.1 := sorry
theorem rl_frame {σ : xWS} {μ : mWS} (h : Rel σ μ) (p0 p1 p2 : Int32) : Rel (XF_frame σ p0 p1 p2).2.2 (MF_frame μ p0 p1 p2).2.2 ∧ (MF_frame μ p0 p1 p2).2.2.2.2.2.1 = (XF_frame σ p0 p1 p2).1 ∧ ((XF_frame σ p0 p1 p2).1 = 0 → (XF_frame σ p0 p1 p2).2.1 = (MF_frame μ p0 p1 p2).2.1) := sorry
theorem rl_place {σ : xWS} {μ : mWS} (h : Rel σ μ) (p0 p1 : Int32) : Rel (XF_place σ p0 p1).2.2 (MF_place μ p0 p1).2.2 ∧ (MF_place μ p0 p1).2.2.2.2.2.1 = (XF_place σ p0 p1).1 ∧ ((XF_place σ p0 p1).1 = 0 → (XF_place σ p0 p1).2.1 = (MF_place μ p0 p1).2.1) := sorry
theorem rl_clear {σ : xWS} {μ : mWS} (h : Rel σ μ) : Rel (XF_clear σ).2.2 (MF_clear μ).2.2 ∧ (XF_clear σ).2.1 = (MF_clear μ).2.1 := sorry
theorem rl_start : Rel xWI mWI := sorry
