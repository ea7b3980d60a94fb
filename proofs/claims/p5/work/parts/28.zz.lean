/-! images: which are kept -/
theorem bx4 {x : Int32} (h : R 0 3 x) : x = 0 ∨ x = 1 ∨ x = 2 ∨ x = 3 := by
  rcases (show x.toInt = 0 ∨ x.toInt = 1 ∨ x.toInt = 2 ∨ x.toInt = 3 by have := h.1; have := h.2; omega) with h | h | h | h
  · exact Or.inl (Int32.toInt_inj.mp (by rw [h]; rfl))
  · exact Or.inr (Or.inl (Int32.toInt_inj.mp (by rw [h]; rfl)))
  · exact Or.inr (Or.inr (Or.inl (Int32.toInt_inj.mp (by rw [h]; rfl))))
  · exact Or.inr (Or.inr (Or.inr (Int32.toInt_inj.mp (by rw [h]; rfl))))
theorem bx2 {x : Int32} (h : R 0 1 x) : x = 0 ∨ x = 1 := by
  rcases (show x.toInt = 0 ∨ x.toInt = 1 by have := h.1; have := h.2; omega) with h | h
  · exact Or.inl (Int32.toInt_inj.mp (by rw [h]; rfl))
  · exact Or.inr (Int32.toInt_inj.mp (by rw [h]; rfl))
theorem bx_bit {x k v o z : Int32} (hx : R 0 3 x) (hk : R 0 1 k) (hv : v = x >>> (k &&& 31)) (ho : o.toInt = 1) (hz : z = v &&& o) : (k.toInt = 0 → z.toInt = x.toInt % 2) ∧ (k.toInt = 1 → z.toInt = x.toInt / 2) := by
  have e : o = 1 := Int32.toInt_inj.mp (by rw [ho]; rfl)
  subst e hz hv
  rcases bx4 hx with rfl | rfl | rfl | rfl <;> rcases bx2 hk with rfl | rfl <;> exact ⟨by decide, by decide⟩
theorem bx_or {x k o v z : Int32} (hx : R 0 3 x) (hk : R 0 1 k) (ho : o.toInt = 1) (hv : v = o <<< (k &&& 31)) (hz : z = x ||| v) : (k.toInt = 0 → z.toInt = x.toInt / 2 * 2 + 1) ∧ (k.toInt = 1 → z.toInt = x.toInt % 2 + 2) := by
  have e : o = 1 := Int32.toInt_inj.mp (by rw [ho]; rfl)
  subst e hz hv
  rcases bx4 hx with rfl | rfl | rfl | rfl <;> rcases bx2 hk with rfl | rfl <;> exact ⟨by decide, by decide⟩
theorem kr_rd {τ t : Tau} {a v : Int32} (z : t 152 a.toNatClampNeg = v) (h : ∀ j, t 152 j = τ 152 j) : (a.toInt = 0 → v.toInt = (τ 152 0).toInt) ∧ (a.toInt = 1 → v.toInt = (τ 152 1).toInt) := by
  refine ⟨fun e => ?_, fun e => ?_⟩
  · have q := tn (i := a) (by omega)
    rw [← z, h, show a.toNatClampNeg = 0 by omega]
  · have q := tn (i := a) (by omega)
    rw [← z, h, show a.toNatClampNeg = 1 by omega]
theorem kp_mu {τ t u : Tau} {a v : Int32} (hM : Mu t u 152 a.toNatClampNeg v) (hv : v.toInt = 1) (ha : R 0 1 a) (h : ∀ j, t 152 j = τ 152 j) : (a.toInt = 0 → (u 152 0).toInt = 1 ∧ u 152 1 = τ 152 1) ∧ (a.toInt = 1 → (u 152 1).toInt = 1 ∧ u 152 0 = τ 152 0) := by
  have q := tn (i := a) ha.1
  refine ⟨fun e => ⟨?_, ?_⟩, fun e => ⟨?_, ?_⟩⟩
  · have h1 := hM.1
    rw [show a.toNatClampNeg = 0 by omega] at h1
    rw [h1]; exact hv
  · rw [hM.2 152 1 (Or.inr (by omega)), h]
  · have h1 := hM.1
    rw [show a.toNatClampNeg = 1 by omega] at h1
    rw [h1]; exact hv
  · rw [hM.2 152 0 (Or.inr (by omega)), h]
