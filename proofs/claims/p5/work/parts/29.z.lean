/-! what the texts of LOGS and sentences keep -/
def LB (x y z : Int32) : Prop := (x.toInt = 0 → 0 ≤ y.toInt) ∧ (x.toInt = 1 → 0 ≤ z.toInt) ∧ (x.toInt = 2 → 0 ≤ y.toInt ∧ y.toInt ≤ 9) ∧ (x.toInt = 3 ∨ x.toInt = 4 → 0 ≤ y.toInt ∧ y.toInt ≤ 9 ∧ 0 ≤ z.toInt)
def LR (τ : Tau) : Prop := ∀ j, LB (τ 12 j) (τ 13 j) (τ 14 j)
theorem LR_eq {τ u : Tau} (h : LR τ) (e1 : ∀ j, u 12 j = τ 12 j) (e2 : ∀ j, u 13 j = τ 13 j) (e3 : ∀ j, u 14 j = τ 14 j) : LR u := fun j => by rw [e1, e2, e3]; exact h j
theorem LR_put {τ a b c d : Tau} {i x y z s : Int32} (h : LR τ) (M0 : Mu τ a 12 i.toNatClampNeg x) (M1 : Mu a b 13 i.toNatClampNeg y) (M2 : Mu b c 14 i.toNatClampNeg z) (M3 : Mu c d 15 i.toNatClampNeg s) (hb : LB x y z) : LR d := fun j => by
  rw [M3.2 12 j (Or.inl (by decide)), M2.2 12 j (Or.inl (by decide)), M1.2 12 j (Or.inl (by decide)), M3.2 13 j (Or.inl (by decide)), M2.2 13 j (Or.inl (by decide)), M3.2 14 j (Or.inl (by decide))]
  by_cases q : j = i.toNatClampNeg
  · subst q; rw [M0.1, M1.1, M2.1]; exact hb
  · rw [M0.2 12 j (Or.inr q), M1.2 13 j (Or.inr q), M0.2 13 j (Or.inl (by decide)), M2.2 14 j (Or.inr q), M1.2 14 j (Or.inl (by decide)), M0.2 14 j (Or.inl (by decide))]; exact h j
theorem LB_mk {x y z : Int32} (h : (x.toInt = 0 → 0 ≤ y.toInt) ∧ (x.toInt = 1 → 0 ≤ z.toInt) ∧ (x.toInt = 2 → 0 ≤ y.toInt ∧ y.toInt ≤ 9) ∧ (x.toInt = 3 ∨ x.toInt = 4 → 0 ≤ y.toInt ∧ y.toInt ≤ 9 ∧ 0 ≤ z.toInt)) : LB x y z := h
theorem LR_at {τ : Tau} {i x y z : Int32} (h : LR τ) (z0 : τ 12 i.toNatClampNeg = x) (z1 : τ 13 i.toNatClampNeg = y) (z2 : τ 14 i.toNatClampNeg = z) : (x.toInt = 0 → 0 ≤ y.toInt) ∧ (x.toInt = 1 → 0 ≤ z.toInt) ∧ (x.toInt = 2 → 0 ≤ y.toInt ∧ y.toInt ≤ 9) ∧ (x.toInt = 3 ∨ x.toInt = 4 → 0 ≤ y.toInt ∧ y.toInt ≤ 9 ∧ 0 ≤ z.toInt) := by
  have := h i.toNatClampNeg
  rw [z0, z1, z2] at this; exact this
/-- a part YES or NO has the number of an ASK -/
def YD (k : Nat) (τ : Tau) : Prop := ∀ j, (τ (k + 1) j).toInt = 5 ∨ (τ (k + 1) j).toInt = 6 → (τ (k + 2) j).toInt ≤ 8
def YW (τ : Tau) : Prop := YD 35 τ
def YT (τ : Tau) : Prop := YD 17 τ
def YA (τ : Tau) : Prop := YD 106 τ
def YB (τ : Tau) : Prop := YD 124 τ
theorem YW_eq {τ u : Tau} (h : YW τ) (e1 : ∀ j, u 36 j = τ 36 j) (e2 : ∀ j, u 37 j = τ 37 j) : YW u := fun j => by show (u 36 j).toInt = 5 ∨ (u 36 j).toInt = 6 → (u 37 j).toInt ≤ 8; rw [e1, e2]; exact h j
theorem YT_eq {τ u : Tau} (h : YT τ) (e1 : ∀ j, u 18 j = τ 18 j) (e2 : ∀ j, u 19 j = τ 19 j) : YT u := fun j => by show (u 18 j).toInt = 5 ∨ (u 18 j).toInt = 6 → (u 19 j).toInt ≤ 8; rw [e1, e2]; exact h j
theorem YA_eq {τ u : Tau} (h : YA τ) (e1 : ∀ j, u 107 j = τ 107 j) (e2 : ∀ j, u 108 j = τ 108 j) : YA u := fun j => by show (u 107 j).toInt = 5 ∨ (u 107 j).toInt = 6 → (u 108 j).toInt ≤ 8; rw [e1, e2]; exact h j
theorem YB_eq {τ u : Tau} (h : YB τ) (e1 : ∀ j, u 125 j = τ 125 j) (e2 : ∀ j, u 126 j = τ 126 j) : YB u := fun j => by show (u 125 j).toInt = 5 ∨ (u 125 j).toInt = 6 → (u 126 j).toInt ≤ 8; rw [e1, e2]; exact h j
theorem YD_at {k : Nat} {τ : Tau} {i x y : Int32} (h : YD k τ) (z0 : τ (k + 1) i.toNatClampNeg = x) (z1 : τ (k + 2) i.toNatClampNeg = y) : x.toInt = 5 ∨ x.toInt = 6 → y.toInt ≤ 8 := by
  have := h i.toNatClampNeg
  rw [z0, z1] at this; exact this
/-- one row written -/
theorem YD_put {k : Nat} {τ u : Tau} {i x y : Int32} (h : YD k τ) (e0 : ∀ j, j ≠ i.toNatClampNeg → u (k + 1) j = τ (k + 1) j) (e1 : ∀ j, j ≠ i.toNatClampNeg → u (k + 2) j = τ (k + 2) j) (z0 : u (k + 1) i.toNatClampNeg = x) (z1 : u (k + 2) i.toNatClampNeg = y) (hb : x.toInt = 5 ∨ x.toInt = 6 → y.toInt ≤ 8) : YD k u := fun j => by
  by_cases q : j = i.toNatClampNeg
  · subst q; rw [z0, z1]; exact hb
  · rw [e0 j q, e1 j q]; exact h j
