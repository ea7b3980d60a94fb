theorem res_0 : ∀ i : Nat, i < 0 → (((fun _ => 0 : Nat → Int64)) i).toInt = e256 (kwm.getD i []) := fun i hi => absurd hi (Nat.not_lt_zero i)
theorem res_up {f g : Nat → Int64} {k : Int32} {x : Int64} {n : Nat} (h : ∀ i, i < n → (f i).toInt = e256 (kwm.getD i [])) (hg : g = vp_updL f k.toNatClampNeg x) (hk : k.toInt = n) (hx : x.toInt = e256 (kwm.getD n [])) : ∀ i, i < n + 1 → (g i).toInt = e256 (kwm.getD i []) := by
  intro i hi
  have c : k.toNatClampNeg = n := by show k.toInt.toNat = n; omega
  rw [hg, c]
  by_cases e : i = n
  · subst e; simp [vp_updL, hx]
  · simp only [vp_updL, if_neg e]; exact h i (by omega)
