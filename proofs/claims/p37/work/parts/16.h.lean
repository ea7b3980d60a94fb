theorem oth8 {τ u : Tau} (j : Nat) (h0 : 0 ≠ j → u 52 8 = τ 52 8) (h1 : 1 ≠ j → u 57 8 = τ 57 8) (h2 : 2 ≠ j → u 62 8 = τ 62 8) (h3 : 3 ≠ j → u 67 8 = τ 67 8) (h4 : 4 ≠ j → u 72 8 = τ 72 8) (h5 : 5 ≠ j → u 77 8 = τ 77 8) (h6 : 6 ≠ j → u 82 8 = τ 82 8) (h7 : 7 ≠ j → u 87 8 = τ 87 8) : ∀ i, i < 8 → i ≠ j → u (52 + 5 * i) 8 = τ (52 + 5 * i) 8 := by
  intro i hi hne
  match i, hi, hne with
  | 0, _, hne => exact h0 hne
  | 1, _, hne => exact h1 hne
  | 2, _, hne => exact h2 hne
  | 3, _, hne => exact h3 hne
  | 4, _, hne => exact h4 hne
  | 5, _, hne => exact h5 hne
  | 6, _, hne => exact h6 hne
  | 7, _, hne => exact h7 hne
  | i + 8, hi, _ => omega
theorem HI_rem1 {τ u : Tau} {j : Nat} (h : HI τ) (hw : WI τ) (hj : j < 8) (e1 : u 23 2 = τ 23 2) (eo : u 0 8 = τ 0 8) (ek : (u 0 9).toInt = (τ 0 9).toInt + 1) (hidx : (j : Int) = ((τ 0 8).toInt + (τ 0 9).toInt) % 8) (hslot : u (52 + 5 * j) 8 = τ 30 8) (hoth : ∀ i, i < 8 → i ≠ j → u (52 + 5 * i) 8 = τ (52 + 5 * i) 8) : HI u := by
  intro i hi h1 h2
  by_cases hij : i = j
  · subst hij
    rw [hslot]
    exact hw (by rw [← e1]; exact h2)
  · rw [hoth i hi hij]
    refine h i hi ?_ (by rw [← e1]; exact h2)
    rw [eo, ek] at h1
    generalize (τ 0 8).toInt = o at *
    generalize (τ 0 9).toInt = k at *
    omega
theorem HI_rem2 {τ u : Tau} {j : Nat} (h : HI τ) (hw : WI τ) (hj : j < 8) (e1 : u 23 2 = τ 23 2) (hk : (τ 0 9).toInt = 8) (hslot : u (52 + 5 * j) 8 = τ 30 8) (hoth : ∀ i, i < 8 → i ≠ j → u (52 + 5 * i) 8 = τ (52 + 5 * i) 8) : HI u := by
  intro i hi h1 h2
  by_cases hij : i = j
  · subst hij
    rw [hslot]
    exact hw (by rw [← e1]; exact h2)
  · rw [hoth i hi hij]
    refine h i hi ?_ (by rw [← e1]; exact h2)
    rw [hk]
    generalize (τ 0 8).toInt = o at *
    omega
theorem HI_undo {τ u : Tau} (h : HI τ) (e1 : u 23 2 = τ 23 2) (eo : u 0 8 = τ 0 8) (ek : (u 0 9).toInt ≤ (τ 0 9).toInt) (hoth : ∀ i, i < 8 → i ≠ 8 → u (52 + 5 * i) 8 = τ (52 + 5 * i) 8) : HI u := by
  intro i hi h1 h2
  rw [hoth i hi (by omega)]
  refine h i hi ?_ (by rw [← e1]; exact h2)
  rw [eo] at h1
  omega
theorem WI_undo {τ u : Tau} {j : Nat} (h : HI τ) (hj : j < 8) (e1 : u 23 2 = τ 23 2) (e2 : u 30 8 = τ (52 + 5 * j) 8) (hidx : (j : Int) = ((τ 0 8).toInt + (τ 0 9).toInt - 1) % 8) (hk : 0 < (τ 0 9).toInt ∧ (τ 0 9).toInt ≤ 8) : WI u := by
  intro h2
  rw [e2]
  refine h j hj ?_ (by rw [← e1]; exact h2)
  generalize (τ 0 8).toInt = o at *
  generalize (τ 0 9).toInt = k at *
  omega
theorem HI_0 {τ : Tau} {x : Int32} (e : τ 0 9 = x) (h : x.toInt = 0) : HI τ := by
  intro i hi h1
  rw [e, h] at h1
  omega
