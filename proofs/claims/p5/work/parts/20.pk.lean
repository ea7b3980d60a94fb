/-- what the model's tape has at its place: -1 behind its end -/
def pkv (τ : Tau) : Int := if (τ 131 4).toInt < (τ 131 3).toInt then ((τ 132 (τ 131 4).toNatClampNeg) &&& 255).toInt else -1
theorem pkv_eq {τ u : Tau} (e1 : u 131 4 = τ 131 4) (e2 : u 131 3 = τ 131 3) (e3 : ∀ j, u 132 j = τ 132 j) : pkv u = pkv τ := by unfold pkv; rw [e1, e2, e3]
theorem pkv_out {τ : Tau} {a b r : Int32} (e1 : τ 131 4 = a) (e2 : τ 131 3 = b) (h : b.toInt ≤ a.toInt) (hr : r.toInt = -1) : r.toInt = pkv τ := by
  unfold pkv; rw [e1, e2, if_neg (by omega)]; exact hr
theorem pkv_in {τ : Tau} {a b x o r : Int32} (e1 : τ 131 4 = a) (e2 : τ 131 3 = b) (h : a.toInt < b.toInt) (hx : τ 132 a.toNatClampNeg = x) (ho : o.toInt = 255) (hr : r = x &&& o) : r.toInt = pkv τ := by
  have eo : o = 255 := Int32.toInt_inj.mp ho
  subst eo
  unfold pkv; rw [e1, e2, if_pos h, hx, hr]
