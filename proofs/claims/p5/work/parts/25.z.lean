/-! the model's log: rows of read -/
def MB (w k a v : Int32) : Prop := (w.toInt = 0 ∧ 0 ≤ k.toInt ∧ k.toInt ≤ 1023) ∨ (w.toInt = 1 ∧ 0 ≤ k.toInt ∧ k.toInt ≤ 8) ∨ (w.toInt = 2 ∧ 0 ≤ k.toInt ∧ k.toInt ≤ 9) ∨ ((w.toInt = 3 ∨ w.toInt = 4) ∧ 0 ≤ k.toInt ∧ k.toInt ≤ 9 ∧ 0 ≤ a.toInt ∧ a.toInt ≤ 8 ∧ -9 ≤ v.toInt ∧ v.toInt ≤ 9)
def MBr (τ : Tau) (n : Nat) : Prop := MB (τ 135 n) (τ 135 (n + 1)) (τ 135 (n + 2)) (τ 135 (n + 3))
def RW (τ : Tau) (n : Int32) : Prop := ∀ i : Nat, (i : Int) < n.toInt → MBr τ (4 * i)
theorem RW_eq {τ u : Tau} {n : Int32} (h : RW τ n) (e : ∀ j, u 135 j = τ 135 j) : RW u n := fun i hi => by
  have := h i hi
  unfold MBr at this ⊢
  rw [e, e, e, e]; exact this
theorem RW_0 {τ : Tau} {n : Int32} (h : n.toInt = 0) : RW τ n := fun i hi => by exfalso; omega
theorem RW_step {τ u : Tau} {n n' x : Int32} (h : RW τ n) (ex : τ 131 37 = n) (keep : ∀ j : Nat, (j : Int) < 4 * (τ 131 37).toInt → u 135 j = τ 135 j) (new : MBr u (4 * (τ 131 37).toInt).toNat) (e : n'.toInt = n.toInt + 1) : RW u n' := fun i hi => by
  rw [ex] at keep new
  by_cases q : (i : Int) < n.toInt
  · have := h i q
    unfold MBr at this ⊢
    rw [keep _ (by omega), keep _ (by omega), keep _ (by omega), keep _ (by omega)]; exact this
  · have e2 : (4 * n.toInt).toNat = 4 * i := by omega
    rw [e2] at new; exact new
theorem RW_at {τ : Tau} {n i i0 i1 i2 i3 v0 v1 v2 v3 : Int32} (h : RW τ n) (hi : 0 ≤ i.toInt ∧ i.toInt < n.toInt) (z0 : τ 135 i0.toNatClampNeg = v0) (z1 : τ 135 i1.toNatClampNeg = v1) (z2 : τ 135 i2.toNatClampNeg = v2) (z3 : τ 135 i3.toNatClampNeg = v3) (e0 : i0.toInt = 4 * i.toInt) (e1 : i1.toInt = 4 * i.toInt + 1) (e2 : i2.toInt = 4 * i.toInt + 2) (e3 : i3.toInt = 4 * i.toInt + 3) : MB v0 v1 v2 v3 := by
  have t := tn hi.1
  have t0 := tn (i := i0) (by omega)
  have t1 := tn (i := i1) (by omega)
  have t2 := tn (i := i2) (by omega)
  have t3 := tn (i := i3) (by omega)
  have := h i.toNatClampNeg (by omega)
  unfold MBr at this
  rw [show 4 * i.toNatClampNeg = i0.toNatClampNeg by omega, z0, show i0.toNatClampNeg + 1 = i1.toNatClampNeg by omega, z1, show i0.toNatClampNeg + 2 = i2.toNatClampNeg by omega, z2, show i0.toNatClampNeg + 3 = i3.toNatClampNeg by omega, z3] at this
  exact this
theorem MB_0 {w k a v : Int32} (h : MB w k a v) (hw : w.toInt = 0) : R 0 1023 k := by unfold MB at h; constructor <;> omega
theorem MB_1 {w k a v : Int32} (h : MB w k a v) (hw : w.toInt = 1) : R 0 8 k := by unfold MB at h; constructor <;> omega
theorem MB_2 {w k a v : Int32} (h : MB w k a v) (hw : w.toInt = 2) : R 0 9 k := by unfold MB at h; constructor <;> omega
theorem MB_3 {w k a v : Int32} (h : MB w k a v) (hw : w.toInt ≠ 0 ∧ w.toInt ≠ 1 ∧ w.toInt ≠ 2) : R 0 9 k ∧ R 0 8 a ∧ R (-9) 9 v ∧ R 3 4 w := by unfold MB at h; refine ⟨⟨?_, ?_⟩, ⟨?_, ?_⟩, ⟨?_, ?_⟩, ?_, ?_⟩ <;> omega
theorem MB_k {w k a v : Int32} (h : (w.toInt = 0 ∧ 0 ≤ k.toInt ∧ k.toInt ≤ 1023) ∨ (w.toInt = 1 ∧ 0 ≤ k.toInt ∧ k.toInt ≤ 8) ∨ (w.toInt = 2 ∧ 0 ≤ k.toInt ∧ k.toInt ≤ 9) ∨ ((w.toInt = 3 ∨ w.toInt = 4) ∧ 0 ≤ k.toInt ∧ k.toInt ≤ 9 ∧ 0 ≤ a.toInt ∧ a.toInt ≤ 8 ∧ -9 ≤ v.toInt ∧ v.toInt ≤ 9)) : MB w k a v := h
theorem tnk {i j : Int32} (k : Nat) (hj : 0 ≤ j.toInt) (e : i.toInt = j.toInt + (k : Int)) : i.toNatClampNeg = j.toNatClampNeg + k := by
  have := tn hj
  have := tn (i := i) (by omega)
  omega
theorem at_k {f : Nat → Int32} {i x : Int32} {n : Nat} (h : f i.toNatClampNeg = x) (e : i.toNatClampNeg = n) : f n = x := by rw [← e]; exact h
