theorem IM_0 {τ u : Tau} (h : IM τ) (hw : WI τ) (e1 : u 94 2 = τ 23 2) (e2 : u 101 8 = τ 30 8) (e3 : u 112 2 = τ 112 2) (e4 : u 119 8 = τ 119 8) : IM u := by
  unfold IM; rw [e1, e2, e3, e4]; exact ⟨hw, h.2⟩
theorem IM_1 {τ u : Tau} (h : IM τ) (hw : WI τ) (e1 : u 112 2 = τ 23 2) (e2 : u 119 8 = τ 30 8) (e3 : u 94 2 = τ 94 2) (e4 : u 101 8 = τ 101 8) : IM u := by
  unfold IM; rw [e1, e2, e3, e4]; exact ⟨h.1, hw⟩
theorem WI_0 {τ u : Tau} (h : IM τ) (e1 : u 23 2 = τ 94 2) (e2 : u 30 8 = τ 101 8) : WI u := by unfold WI; rw [e1, e2]; exact h.1
theorem WI_1 {τ u : Tau} (h : IM τ) (e1 : u 23 2 = τ 112 2) (e2 : u 30 8 = τ 119 8) : WI u := by unfold WI; rw [e1, e2]; exact h.2
