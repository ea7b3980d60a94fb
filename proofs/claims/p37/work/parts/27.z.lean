theorem dpf_le (f : Nat → Int32) (o : Nat) : ∀ n : Nat, dpf f o n ≤ n
  | 0 => Int.le_refl _
  | n + 1 => by
    have := dpf_le f o n
    show dpf f o n + cdw (f (o + 3 * n)) ≤ _
    have e : cdw (f (o + 3 * n)) ≤ 1 := by unfold cdw; split <;> (try split) <;> omega
    omega
theorem dpf_nn {f : Nat → Int32} {o : Nat} {m : Int} (h : PFn f o m) : ∀ n : Nat, (n : Int) ≤ m → 0 ≤ dpf f o n
  | 0, _ => Int.le_refl _
  | n + 1, hn => by
    have h1 := dpf_nn h n (by omega)
    have h2 := h n (by omega)
    unfold rok at h2
    show 0 ≤ dpf f o n + cdw (f (o + 3 * n))
    unfold cdw
    split
    · omega
    · split
      · have := h2.2.1 (by assumption); omega
      · omega
theorem PF_row {τ : Tau} {i n c ix v : Int32} (h : PF τ) (hi : 0 ≤ i.toInt) (ec : τ 133 332 = c) (hlt : i.toInt < c.toInt) (hn : n.toInt = dpf (τ 133) 333 i.toInt.toNat) (hx : ix.toInt = 333 + 3 * i.toInt) (z : τ 133 ix.toNatClampNeg = v) : (0 ≤ n.toInt ∧ n.toInt ≤ i.toInt ∧ i.toInt ≤ 39) ∧ (v.toInt = 20 → 1 ≤ n.toInt) ∧ (v.toInt = 21 ∨ v.toInt = 22 → 2 ≤ n.toInt) := by
  obtain ⟨h1, h2, h3⟩ := h
  rw [Nat.zero_add, ec] at h1 h2 h3
  have tx := tn (i := ix) (by omega)
  have a := dpf_le (τ 133) 333 i.toInt.toNat
  have b := dpf_nn (f := τ 133) (o := 333) h3 i.toInt.toNat (by omega)
  have r := h3 i.toInt.toNat (by omega)
  unfold rok at r
  rw [show 0 + 333 + 3 * i.toInt.toNat = ix.toNatClampNeg by omega, z] at r
  rw [hn]
  exact ⟨⟨b, by omega, by omega⟩, r.1, r.2.1⟩
theorem PF_leaf {τ : Tau} {i c ix v ix2 v2 : Int32} (h : PF τ) (hi : 0 ≤ i.toInt) (ec : τ 133 332 = c) (hlt : i.toInt < c.toInt) (hx : ix.toInt = 333 + 3 * i.toInt) (z : τ 133 ix.toNatClampNeg = v) (hx2 : ix2.toInt = ix.toInt + 2) (z2 : τ 133 ix2.toNatClampNeg = v2) : v.toInt = 4 ∨ v.toInt = 5 → 0 ≤ v2.toInt ∧ v2.toInt ≤ 8 := by
  obtain ⟨h1, h2, h3⟩ := h
  rw [Nat.zero_add, ec] at h1 h2 h3
  have tx := tn (i := ix) (by omega)
  have tx2 := tn (i := ix2) (by omega)
  have r := h3 i.toInt.toNat (by omega)
  unfold rok at r
  rw [show 0 + 333 + 3 * i.toInt.toNat = ix.toNatClampNeg by omega, show ix.toNatClampNeg + 2 = ix2.toNatClampNeg by omega, z, z2] at r
  exact r.2.2
theorem PF_dp {τ : Tau} {i i' n n' ix v : Int32} (hi : 0 ≤ i.toInt) (hn : n.toInt = dpf (τ 133) 333 i.toInt.toNat) (hx : ix.toInt = 333 + 3 * i.toInt) (z : τ 133 ix.toNatClampNeg = v) (e : i'.toInt = i.toInt + 1) (hd : n'.toInt = n.toInt + cdw v) : n'.toInt = dpf (τ 133) 333 i'.toInt.toNat := by
  have tx := tn (i := ix) (by omega)
  rw [show i'.toInt.toNat = i.toInt.toNat + 1 by omega, hd, hn]
  show _ = dpf (τ 133) 333 i.toInt.toNat + cdw (τ 133 (333 + 3 * i.toInt.toNat))
  rw [show 333 + 3 * i.toInt.toNat = ix.toNatClampNeg by omega, z]
theorem PF_mk {u : Tau} {c o t w i : Int32} (h : SI u) (e1 : u 131 41 = c) (e2 : u 131 42 = o) (e3 : u 131 43 = t) (e4 : u 131 45 = w) (ho : o.toInt ≤ 20) (hw : 0 ≤ w.toInt) (ec : u 133 332 = c) (hcp : ∀ j : Nat, (j : Int) < i.toInt → u 133 (333 + j) = u 135 j) (hi : 3 * c.toInt ≤ i.toInt) : PF u := by
  have b := SI_b h e1 e2 e3 e4
  obtain ⟨h1, h2, hp, -, -⟩ := h
  rw [e1] at h1 hp
  unfold PF PFo
  rw [Nat.zero_add, ec]
  refine ⟨h1, by omega, ?_⟩
  exact PFn_eq (fun j hj => by rw [Nat.zero_add, Nat.zero_add]; exact hcp j (by omega)) hp
theorem cp_step {τ u : Tau} {c d k : Nat} {i ix x i' : Int32} (h : ∀ j : Nat, (j : Int) < i.toInt → τ c (k + j) = τ d j) (hM : Mu τ u c ix.toNatClampNeg x) (hcd : c ≠ d) (hix : ix.toInt = (k : Int) + i.toInt) (hi : 0 ≤ i.toInt) (z : τ d i.toNatClampNeg = x) (e : i'.toInt = i.toInt + 1) : ∀ j : Nat, (j : Int) < i'.toInt → u c (k + j) = u d j := by
  intro j hj
  have e2 := tn hi
  have e3 := tn (i := ix) (by omega)
  rw [hM.2 d j (Or.inl (Ne.symm hcd))]
  by_cases q : k + j = ix.toNatClampNeg
  · rw [q, hM.1, ← z, show j = i.toNatClampNeg by omega]
  · rw [hM.2 c _ (Or.inr q)]; exact h j (by omega)
theorem cdw_c (v : Int32) : (v.toInt = 20 → cdw v = 0) ∧ (v.toInt = 21 ∨ v.toInt = 22 → cdw v = -1) ∧ (v.toInt ≠ 20 → v.toInt ≠ 21 → v.toInt ≠ 22 → cdw v = 1) := by
  unfold cdw
  refine ⟨fun h => if_pos h, fun h => ?_, fun h1 h2 h3 => ?_⟩
  · rw [if_neg (by omega), if_pos h]
  · rw [if_neg h1, if_neg (by omega)]
