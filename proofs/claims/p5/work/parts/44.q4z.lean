/-! the start of a FERRY's text -/
def RB0 (bb : Nat → Int) (nb : Nat) (τ : Tau) : Prop := (τ 1 1).toInt = nb ∧ nb ≤ 940 ∧ ∀ j, j < nb → (τ 2 j).toInt = bb j
theorem RB0_eq {bb : Nat → Int} {nb : Nat} {τ u : Tau} (h : RB0 bb nb τ) (h1 : u 1 1 = τ 1 1) (h2 : ∀ j, u 2 j = τ 2 j) : RB0 bb nb u :=
  ⟨by rw [h1]; exact h.1, h.2.1, fun j hj => by rw [h2]; exact h.2.2 j hj⟩
theorem RB_of {bb : Nat → Int} {nb L : Nat} {τ : Tau} {x : Int32} (h : RB0 bb nb τ) (h2 : τ 1 2 = x) (hx : x.toInt = L) : RB bb nb L τ := ⟨h.1, h.2.1, by rw [h2]; exact hx, h.2.2⟩
noncomputable def sFe (bb : Nat → Int) (nb : Nat) : Rs (Nat × FS) := sRd bb nb 940 (stp bb nb ((0, 0, 0), ps0)) 0
theorem kb_0 (j : Nat) : ¬ kb 0 j := by
  unfold kb
  show ¬ (0#32).getLsbD j = true
  simp
theorem RP_0 {u : Tau} (h5 : (u 3 5).toInt = 0) (h6 : (u 3 6).toInt = 0) (h0 : (u 4 0).toInt = 4) (h1 : (u 4 1).toInt = 0) (h2 : (u 4 2).toInt = 0) (h3 : (u 4 3).toInt = 0) (h4 : (u 4 4).toInt = 0) (p6 : ∀ j, j < 10 → (u 6 j).toInt = -1) (p7 : ∀ j, j < 10 → (u 7 j).toInt = 0) (p8 : ∀ j, j < 90 → (u 8 j).toInt = 0) : RP u ps0 := by
  refine ⟨h5, h6, h0, h1, Int32.toInt_inj.mp (by rw [h4]; rfl), ⟨by rw [h2]; rfl, fun i hi => absurd hi (Nat.not_lt_zero _), fun l hl => by cases hl⟩, ⟨by rw [h3]; rfl, fun i hi => absurd hi (Nat.not_lt_zero _), fun l hl => by cases hl⟩, fun i hi => ?_, fun i j hi hj => ?_, fun j _ hj => p8 j hj⟩
  · rw [p6 i hi]
    exact ⟨fun h => absurd rfl h, fun h => absurd h (by show ¬ false = true; decide)⟩
  · rw [show u 7 i = 0 from Int32.toInt_inj.mp (by rw [p7 i hi]; rfl)]
    exact ⟨fun h => absurd h (kb_0 j), fun h => absurd h (by show ¬ false = true; decide)⟩
theorem fill_up {t u : Tau} {k : Nat} {i i' x : Int32} (h : ∀ j : Nat, (j : Int) < i.toInt → t k j = x) (hM : Mu t u k i.toNatClampNeg x) (hi : i'.toInt = i.toInt + 1) (h0 : 0 ≤ i.toInt) : ∀ j : Nat, (j : Int) < i'.toInt → u k j = x := by
  intro j hj
  have c : i.toNatClampNeg = i.toInt.toNat := rfl
  by_cases e : j = i.toNatClampNeg
  · rw [e]; exact hM.1
  · rw [hM.2 k j (Or.inr e)]; exact h j (by omega)
