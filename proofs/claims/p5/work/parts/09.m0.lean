theorem zc {τ : Tau} {k n : Nat} {i x : Int32} (h : i.toInt = (n : Int)) (z : τ k i.toNatClampNeg = x) : τ k n = x := by
  have e : i.toNatClampNeg = n := by show i.toInt.toNat = n; omega
  rw [← e]; exact z
theorem zc' {τ : Tau} {k n : Nat} {i x : Int32} (h : i.toInt = (n : Int)) (z : τ k n = x) : τ k i.toNatClampNeg = x := by
  have e : i.toNatClampNeg = n := by show i.toInt.toNat = n; omega
  rw [e]; exact z
theorem ixne {i : Int32} {lo hi : Int} {b : Nat} (r : R lo hi i) (hd : decide (0 ≤ lo ∧ ((b : Int) < lo ∨ hi < (b : Int))) = true) : b ≠ i.toNatClampNeg := by
  have hd := of_decide_eq_true hd
  intro e
  have e2 : i.toNatClampNeg = i.toInt.toNat := rfl
  omega
/-- what a place of a range holds, where the ranges go by place -/
def segR (K a n : Nat) (lo hi : Int) : Bool := (List.range n).all fun j => decide (lo ≤ (rg K (a + j)).1 ∧ (rg K (a + j)).2 ≤ hi)
def segW (K a n : Nat) (lo hi : Int) : Bool := (List.range n).all fun j => decide ((rg K (a + j)).1 ≤ lo ∧ hi ≤ (rg K (a + j)).2)
theorem rds {τ : Tau} {k K a n : Nat} {i x : Int32} {lo hi : Int} (hI : Inv τ) (hkd : kd k = K) (z : τ k i.toNatClampNeg = x) (r : R (a : Int) ((a : Int) + n - 1) i) (hs : segR K a n lo hi = true) : R lo hi x := by
  have h := rd hI hkd z
  have e2 : i.toNatClampNeg = i.toInt.toNat := rfl
  have hj : i.toInt.toNat - a < n := by omega
  have h3 := of_decide_eq_true (List.all_eq_true.mp hs (i.toInt.toNat - a) (List.mem_range.mpr hj))
  have e3 : a + (i.toInt.toNat - a) = i.toNatClampNeg := by omega
  rw [e3] at h3
  exact ⟨Int.le_trans h3.1 h.1, Int.le_trans h.2 h3.2⟩
theorem wrs {K a n : Nat} {i x : Int32} {lo hi : Int} (r : R (a : Int) ((a : Int) + n - 1) i) (rx : R lo hi x) (hs : segW K a n lo hi = true) : Rg K i.toNatClampNeg x := by
  have e2 : i.toNatClampNeg = i.toInt.toNat := rfl
  have hj : i.toInt.toNat - a < n := by omega
  have h3 := of_decide_eq_true (List.all_eq_true.mp hs (i.toInt.toNat - a) (List.mem_range.mpr hj))
  have e3 : a + (i.toInt.toNat - a) = i.toNatClampNeg := by omega
  rw [e3] at h3
  exact ⟨Int.le_trans h3.1 rx.1, Int.le_trans rx.2 h3.2⟩
theorem Fr_mus {fs : List (Nat × Nat)} {cs : List Nat} {τ u v : Tau} {k a n : Nat} {i x : Int32} (h : Fr fs cs τ u) (hM : Mu u v k i.toNatClampNeg x) (r : R (a : Int) ((a : Int) + n - 1) i) (hz : ((List.range n).all fun j => fz fs cs k (a + j)) = true) : Fr fs cs τ v := by
  refine Fr_mu h hM ?_
  have e2 : i.toNatClampNeg = i.toInt.toNat := rfl
  have hj : i.toInt.toNat - a < n := by omega
  have h3 := List.all_eq_true.mp hz (i.toInt.toNat - a) (List.mem_range.mpr hj)
  have e3 : a + (i.toInt.toNat - a) = i.toNatClampNeg := by omega
  rw [e3] at h3
  exact h3
theorem i_remlt {x y z : Int32} {a b c d : Int} (h : z = x - x / y * y) (hx : R a b x) (hy : R c d y) (hd : decide (0 ≤ a ∧ 0 < c) = true) : z.toInt < y.toInt := by
  have hd := of_decide_eq_true hd
  obtain ⟨m, rfl, hm, e⟩ := bn (x := x) (by omega)
  obtain ⟨k, rfl, hk, e'⟩ := bn (x := y) (by omega)
  have hz : z = nI (m % k) := by rw [h]; exact pk_rem hm (by omega) hk
  have hle : m % k < k := Nat.mod_lt _ (by omega)
  have ez : z.toInt = ((m % k : Nat) : Int) := by rw [hz]; exact nI_toInt (by omega)
  omega
theorem and_pred {v w o z : Int32} (hw : w = v - o) (ho : o.toInt = 1) (hz : z = v &&& w) (hv : v.toInt ≠ 0) : z.toBitVec.toNat < v.toBitVec.toNat := by
  have e1 : o = 1 := Int32.toInt_inj.mp ho
  subst e1
  have hv0 : v.toBitVec.toNat ≠ 0 := by
    intro q
    apply hv
    have : v = 0 := Int32.toBitVec_inj.mp (BitVec.eq_of_toNat_eq (by rw [q]; rfl))
    rw [this]; rfl
  have e2 : w.toBitVec.toNat = v.toBitVec.toNat - 1 := by
    have : w.toBitVec = v.toBitVec - 1#32 := by rw [hw]; rfl
    rw [this, BitVec.toNat_sub]
    have hlt := v.toBitVec.isLt
    have e3 : (1#32).toNat = 1 := rfl
    rw [e3]
    omega
  have e4 : z.toBitVec.toNat = v.toBitVec.toNat &&& w.toBitVec.toNat := by rw [hz]; exact BitVec.toNat_and _ _
  have := Nat.and_le_right (n := v.toBitVec.toNat) (m := w.toBitVec.toNat)
  omega
section R4
variable {p : Program} {l : Launch} {e : Env} {Rr : Room} {s : State} {m : MethodId} {args : Array Value} {below : List Frame} {meth : Method} {c : Code} {H : Heap} {locs : List Loc} {cells slots : Nat} {Q : State → Prop}
variable {cc : ByteArray} {nL pc : Nat} {ls : Array Slot} {rest : List Value} {G : Gx} {own : String} {τ : Tau} {n k K : Nat}
theorem r_aldi {i x : Int32} (S : Sx G p m c cc nL s args own) (X : Xd G s H locs τ) (hk : k < NC) (hkd : kd k = K) (hs : ∀ q, (shL G k (τ k) q)[K]? = some (.inl (G.2.1 0, n, .inl (τ k)))) (hin : 0 ≤ i.toInt ∧ i.toInt < n) (hx : τ k i.toNatClampNeg = x) (hdg : decode cc pc = .ok (.iaload, 1))
    (kk : W p l e Rr s m args below meth c H locs cells slots Q (F0 m (pc + 1) ls (.int x :: rest))) : W p l e Rr s m args below meth c H locs cells slots Q (F0 m pc ls (.int i :: .ref (G.2.2.2.1 k) :: rest)) := r_ald (cn := 0) S X hk hkd hs hin hdg (hx ▸ kk)
end R4
