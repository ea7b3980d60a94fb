/-! ranges by place: what is copied from place to place -/
def subR (r t : Int × Int) : Bool := decide (t.1 ≤ r.1 ∧ r.2 ≤ t.2)
theorem subR_use {r t : Int × Int} {x : Int32} (h : subR r t = true) (hx : r.1 ≤ x.toInt ∧ x.toInt ≤ r.2) : t.1 ≤ x.toInt ∧ x.toInt ≤ t.2 := by
  have h := of_decide_eq_true h
  exact ⟨Int.le_trans h.1 hx.1, Int.le_trans hx.2 h.2⟩
/-- place i2 of kind K2 to place i = i2 + d of kind K -/
theorem seg_c {K K2 a b n : Nat} {i i2 x : Int32} (h : Rg K2 i2.toNatClampNeg x) (r : R (a : Int) ((a : Int) + n - 1) i2) (e : i.toInt + (a : Int) = i2.toInt + (b : Int)) (hs : ((List.range n).all fun j => subR (rg K2 (a + j)) (rg K (b + j))) = true) : Rg K i.toNatClampNeg x := by
  have e1 : i.toNatClampNeg = i.toInt.toNat := rfl
  have e2 : i2.toNatClampNeg = i2.toInt.toNat := rfl
  have hj : i2.toInt.toNat - a < n := by omega
  have h3 := List.all_eq_true.mp hs (i2.toInt.toNat - a) (List.mem_range.mpr hj)
  have e3 : a + (i2.toInt.toNat - a) = i2.toNatClampNeg := by omega
  have e4 : b + (i2.toInt.toNat - a) = i.toNatClampNeg := by omega
  rw [e3, e4] at h3
  exact subR_use h3 h
/-- place c + k of kind K2 to place m * u + k of kind K -/
theorem seg_to {K K2 c m U n : Nat} {i i2 x u k : Int32} (h : Rg K2 i2.toNatClampNeg x) (ru : R 0 ((U : Int) - 1) u) (rk : R 0 ((n : Int) - 1) k) (e : i.toInt = (m : Int) * u.toInt + k.toInt) (e2 : i2.toInt = (c : Int) + k.toInt) (hs : ((List.range U).all fun q => (List.range n).all fun j => subR (rg K2 (c + j)) (rg K (m * q + j))) = true) : Rg K i.toNatClampNeg x := by
  have f1 : i.toNatClampNeg = i.toInt.toNat := rfl
  have f2 : i2.toNatClampNeg = i2.toInt.toNat := rfl
  have hq : u.toInt.toNat < U := by omega
  have hj : k.toInt.toNat < n := by omega
  have h3 := List.all_eq_true.mp (List.all_eq_true.mp hs _ (List.mem_range.mpr hq)) _ (List.mem_range.mpr hj)
  have e3 : c + k.toInt.toNat = i2.toNatClampNeg := by omega
  have e4 : m * u.toInt.toNat + k.toInt.toNat = i.toNatClampNeg := by
    have hz : ((m * u.toInt.toNat : Nat) : Int) = (m : Int) * u.toInt := by
      rw [Int.natCast_mul, Int.toNat_of_nonneg ru.1]
    omega
  rw [e3, e4] at h3
  exact subR_use h3 h
/-- place m * u + k of kind K2 to place c + k of kind K -/
theorem seg_fr {K K2 c m U n : Nat} {i i2 x u k : Int32} (h : Rg K2 i2.toNatClampNeg x) (ru : R 0 ((U : Int) - 1) u) (rk : R 0 ((n : Int) - 1) k) (e : i2.toInt = (m : Int) * u.toInt + k.toInt) (e2 : i.toInt = (c : Int) + k.toInt) (hs : ((List.range U).all fun q => (List.range n).all fun j => subR (rg K2 (m * q + j)) (rg K (c + j))) = true) : Rg K i.toNatClampNeg x := by
  have f1 : i.toNatClampNeg = i.toInt.toNat := rfl
  have f2 : i2.toNatClampNeg = i2.toInt.toNat := rfl
  have hq : u.toInt.toNat < U := by omega
  have hj : k.toInt.toNat < n := by omega
  have h3 := List.all_eq_true.mp (List.all_eq_true.mp hs _ (List.mem_range.mpr hq)) _ (List.mem_range.mpr hj)
  have e3 : c + k.toInt.toNat = i.toNatClampNeg := by omega
  have e4 : m * u.toInt.toNat + k.toInt.toNat = i2.toNatClampNeg := by
    have hz : ((m * u.toInt.toNat : Nat) : Int) = (m : Int) * u.toInt := by
      rw [Int.natCast_mul, Int.toNat_of_nonneg ru.1]
    omega
  rw [e3, e4] at h3
  exact subR_use h3 h
