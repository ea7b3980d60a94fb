theorem i_remabs {x y z : Int32} (h : z = x - x / y * y) (hy : y.toInt ≠ 0) : z.toInt.natAbs < y.toInt.natAbs := by
  have hx1 := x.le_toInt
  have hx2 := x.toInt_lt
  have hy1 := y.le_toInt
  have hy2 := y.toInt_lt
  have hlt : (x.toInt.tmod y.toInt).natAbs < y.toInt.natAbs := by
    rw [Int.natAbs_tmod]
    exact Nat.mod_lt _ (by omega)
  have e : z.toInt = x.toInt.tmod y.toInt := by
    rw [h, Int32.toInt_sub, Int32.toInt_mul, Int32.toInt_div, Int.sub_bmod_bmod, ← Int.sub_bmod_bmod, Int.bmod_mul_bmod, Int.sub_bmod_bmod]
    rw [show x.toInt - x.toInt.tdiv y.toInt * y.toInt = x.toInt.tmod y.toInt by
      have := Int.tmod_add_mul_tdiv x.toInt y.toInt
      rw [Int.mul_comm] at this
      omega]
    exact Int.bmod_eq_of_le (by omega) (by omega)
  rw [e]; exact hlt
theorem bit_no {x k s o o2 a : Int32} (zs : s = x >>> (k &&& 31)) (ho : o.toInt = 1) (za : a = s &&& o) (ho2 : o2.toInt = 1) (h : a.toInt ≠ o2.toInt) : (x >>> (k &&& 31)) &&& 1 ≠ 1 := by
  have e1 : o = 1 := Int32.toInt_inj.mp ho
  have e2 : o2 = 1 := Int32.toInt_inj.mp ho2
  subst e1; subst e2; subst zs
  intro q
  apply h
  rw [za, q]
/-- the lowest places of x below m are empty -/
def LZ (x m : Int32) : Prop := x.toBitVec.toNat % 2 ^ m.toInt.toNat = 0
theorem LZ_0 {x m : Int32} (h : m.toInt = 0) : LZ x m := by unfold LZ; rw [h]; exact Nat.mod_one _
theorem LZ_le {x m : Int32} (h : LZ x m) (hx : 1 ≤ x.toInt ∧ x.toInt ≤ 1023) (hm : 0 ≤ m.toInt) : m.toInt ≤ 9 := by
  unfold LZ at h
  have e := (bt_nn (x := x) (by omega)).1
  apply Int.not_lt.mp
  intro q
  have h1 : 2 ^ 10 ≤ 2 ^ m.toInt.toNat := Nat.pow_le_pow_right (by decide) (by omega)
  rw [Nat.mod_eq_of_lt (by omega)] at h
  omega
theorem LZ_step {x m m' : Int32} (h : LZ x m) (hx : 1 ≤ x.toInt ∧ x.toInt ≤ 1023) (hm : 0 ≤ m.toInt) (hb : (x >>> (m &&& 31)) &&& 1 ≠ 1) (e : m'.toInt = m.toInt + 1) : LZ x m' := by
  have hm9 := LZ_le h hx hm
  obtain ⟨n, rfl, hn, en⟩ := bn (x := x) (by omega)
  obtain ⟨k, rfl, hk, ek⟩ := bn (x := m) hm
  have hz : (nI n : Int32) >>> (nI k &&& 31) = nI (n / 2 ^ k) := pk_shrN hn _ k (bs_l k (by omega))
  rw [hz] at hb
  have hle : n / 2 ^ k ≤ n := Nat.div_le_self _ _
  have htn : (nI n).toBitVec.toNat = n := pk_tn (n := n) (by omega)
  have htq : (nI (n / 2 ^ k)).toBitVec.toNat = n / 2 ^ k := pk_tn (n := n / 2 ^ k) (by omega)
  have h0 : (n / 2 ^ k) % 2 = 0 := by
    rcases (show (n / 2 ^ k) % 2 = 0 ∨ (n / 2 ^ k) % 2 = 1 by omega) with q | q
    · exact q
    · exfalso
      apply hb
      apply Int32.toBitVec_inj.mp
      apply BitVec.eq_of_toNat_eq
      have : ((nI (n / 2 ^ k)) &&& 1).toBitVec.toNat = (nI (n / 2 ^ k)).toBitVec.toNat &&& 1 := BitVec.toNat_and _ _
      rw [this, htq, Nat.and_one_is_mod, q]
      rfl
  unfold LZ at h ⊢
  rw [htn] at h ⊢
  have ek2 : (nI k).toInt.toNat = k := by omega
  have ek3 : m'.toInt.toNat = k + 1 := by omega
  rw [ek2] at h
  rw [ek3, Nat.mod_pow_succ, h, h0, Nat.mul_zero]
/-! jokes: where the ways can be -/
def WS (τ : Tau) (c : Nat) (b : Int) : Prop := ∀ i : Nat, i < 221 → (τ c i).toInt ≠ 0 → 110 - b ≤ (i : Int) ∧ (i : Int) ≤ 110 + b
theorem WS_mono {τ : Tau} {c : Nat} {a b : Int} (h : WS τ c a) (hab : a ≤ b) : WS τ c b := fun i hi hn => by
  have := h i hi hn
  omega
theorem WS_at {τ : Tau} {c : Nat} {b : Int} {i x : Int32} (h : WS τ c b) (hi : 0 ≤ i.toInt ∧ i.toInt < 221) (z : τ c i.toNatClampNeg = x) (hx : x.toInt ≠ 0) : 110 - b ≤ i.toInt ∧ i.toInt ≤ 110 + b := by
  have e := tn hi.1
  have := h i.toNatClampNeg (by omega) (by rw [z]; exact hx)
  omega
theorem WS_st {τ u : Tau} {c : Nat} {b : Int} {i x : Int32} (h : WS τ c b) (hM : Mu τ u c i.toNatClampNeg x) (hi : 0 ≤ i.toInt) (hb : x.toInt ≠ 0 → 110 - b ≤ i.toInt ∧ i.toInt ≤ 110 + b) : WS u c b := fun j hj hn => by
  have e := tn hi
  by_cases q : j = i.toNatClampNeg
  · subst q
    rw [hM.1] at hn
    have := hb hn
    omega
  · rw [hM.2 c j (Or.inr q)] at hn
    exact h j hj hn
theorem WS_ot {τ u : Tau} {c c' j : Nat} {b : Int} {x : Int32} (h : WS τ c b) (hM : Mu τ u c' j x) (hc : c ≠ c') : WS u c b := fun i hi hn => by
  rw [hM.2 c i (Or.inl hc)] at hn
  exact h i hi hn
theorem WS_0 {τ : Tau} {c : Nat} {b : Int} (h : ∀ j : Nat, j < 221 → (τ c j).toInt = 0) : WS τ c b := fun i hi hn => absurd (h i hi) hn
theorem ws_step {τ u : Tau} {c : Nat} {i x i' : Int32} (h : ∀ j : Nat, (j : Int) < i.toInt → (τ c j).toInt ≠ 0 → j = 110) (hM : Mu τ u c i.toNatClampNeg x) (hx : x.toInt ≠ 0 → i.toInt = 110) (hi : 0 ≤ i.toInt) (e : i'.toInt = i.toInt + 1) : ∀ j : Nat, (j : Int) < i'.toInt → (u c j).toInt ≠ 0 → j = 110 := by
  intro j hj hn
  have e2 := tn hi
  by_cases q : j = i.toNatClampNeg
  · subst q; rw [hM.1] at hn; have := hx hn; omega
  · rw [hM.2 c j (Or.inr q)] at hn; exact h j (by omega) hn
def P4 (b m : Int32) : Prop := 1 ≤ b.toInt ∧ b.toInt ≤ ((4 ^ m.toInt.toNat : Nat) : Int)
theorem P4_0 {b m : Int32} (hb : b.toInt = 1) (hm : m.toInt = 0) : P4 b m := by unfold P4; rw [hb, hm]; decide
theorem P4_le {b m : Int32} (h : P4 b m) (hm : m.toInt ≤ 9) : 1 ≤ b.toInt ∧ b.toInt ≤ 262144 := by
  refine ⟨h.1, Int.le_trans h.2 ?_⟩
  have : 4 ^ m.toInt.toNat ≤ 4 ^ 9 := Nat.pow_le_pow_right (by decide) (by omega)
  omega
theorem P4_mono {b m m' : Int32} (h : P4 b m) (hm : m.toInt ≤ m'.toInt) : P4 b m' := by
  refine ⟨h.1, Int.le_trans h.2 ?_⟩
  exact Int.ofNat_le.mpr (Nat.pow_le_pow_right (by decide) (by omega))
theorem P4_step {b m b' m' : Int32} (h : P4 b m) (hm : m'.toInt = m.toInt + 1) (h0 : 0 ≤ m.toInt) (hb : b'.toInt = b.toInt * 4) : P4 b' m' := by
  refine ⟨by have := h.1; omega, ?_⟩
  have e : m'.toInt.toNat = m.toInt.toNat + 1 := by omega
  have h2 := h.2
  rw [e, Nat.pow_succ]
  omega
theorem bit_yes {x k s o o2 a : Int32} (zs : s = x >>> (k &&& 31)) (ho : o.toInt = 1) (za : a = s &&& o) (ho2 : o2.toInt = 1) (h : a.toInt = o2.toInt) : (x >>> (k &&& 31)) &&& 1 = 1 := by
  have e1 : o = 1 := Int32.toInt_inj.mp ho
  have e2 : o2 = 1 := Int32.toInt_inj.mp ho2
  subst e1; subst e2; subst zs
  rw [← za]; exact Int32.toInt_inj.mp h
theorem and_clr0 : ∀ n, n < 1024 → ∀ k, k < 10 → ((nI n) >>> (nI k &&& 31)) &&& 1 = 1 → ((nI n) &&& (((1 : Int32) <<< (nI k &&& 31)) ^^^ (-1))).toInt < (nI n).toInt := by decide +kernel
theorem and_clr {x m o s q g z : Int32} (ho : o.toInt = 1) (zs : s = o <<< (m &&& 31)) (hq : q.toInt = -1) (zg : g = s ^^^ q) (zz : z = x &&& g) (hx : 0 ≤ x.toInt ∧ x.toInt ≤ 1023) (hm : 0 ≤ m.toInt ∧ m.toInt ≤ 9) (hb : (x >>> (m &&& 31)) &&& 1 = 1) : z.toInt < x.toInt := by
  have e1 : o = 1 := Int32.toInt_inj.mp ho
  have e2 : q = -1 := Int32.toInt_inj.mp hq
  obtain ⟨n, rfl, hn, en⟩ := bn (x := x) hx.1
  obtain ⟨k, rfl, hk, ek⟩ := bn (x := m) hm.1
  rw [zz, zg, zs, e1, e2]
  exact and_clr0 n (by omega) k (by omega) hb
