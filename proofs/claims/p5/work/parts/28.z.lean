theorem f332_step {τ u : Tau} {i x i' : Int32} (h : 332 < i.toInt → (τ 133 332).toInt = 0) (hM : Mu τ u 133 i.toNatClampNeg x) (hx : 125 ≤ i.toInt → x.toInt = 0) (hi : 0 ≤ i.toInt) (e : i'.toInt = i.toInt + 1) : 332 < i'.toInt → (u 133 332).toInt = 0 := by
  intro q
  have e2 := tn hi
  by_cases r : 332 = i.toNatClampNeg
  · rw [r, hM.1]; exact hx (by omega)
  · rw [hM.2 133 332 (Or.inr r)]; exact h (by omega)
theorem img_a {τ u : Tau} {f : Nat → Int32} {c : Nat} {k i ix x i' : Int32} (h : ∀ j : Nat, (j : Int) < i.toInt → τ c ((513 * k.toInt).toNat + j) = f j) (hM : Mu τ u c ix.toNatClampNeg x) (hk : 0 ≤ k.toInt) (hix : ix.toInt = 513 * k.toInt + i.toInt) (hi : 0 ≤ i.toInt) (z : f i.toNatClampNeg = x) (e : i'.toInt = i.toInt + 1) : ∀ j : Nat, (j : Int) < i'.toInt → u c ((513 * k.toInt).toNat + j) = f j := by
  intro j hj
  have e2 := tn hi
  have e3 := tn (i := ix) (by omega)
  by_cases q : (513 * k.toInt).toNat + j = ix.toNatClampNeg
  · rw [q, hM.1, ← z, show j = i.toNatClampNeg by omega]
  · rw [hM.2 c _ (Or.inr q)]; exact h j (by omega)
theorem img_b {τ u : Tau} {f : Nat → Int32} {k i ix x : Int32} (h : ∀ j : Nat, ((j : Int) < 513 * k.toInt ∨ 513 * k.toInt + 513 ≤ (j : Int)) → τ 150 j = f j) (hM : Mu τ u 150 ix.toNatClampNeg x) (hk : 0 ≤ k.toInt) (hix : ix.toInt = 513 * k.toInt + i.toInt) (hi : 0 ≤ i.toInt ∧ i.toInt < 513) : ∀ j : Nat, ((j : Int) < 513 * k.toInt ∨ 513 * k.toInt + 513 ≤ (j : Int)) → u 150 j = f j := by
  intro j hj
  have e3 := tn (i := ix) (by omega)
  rw [hM.2 150 j (Or.inr (by omega))]; exact h j hj
theorem rst_a {τ u : Tau} {g : Nat → Int32} {k i ix x i' : Int32} (h : ∀ j : Nat, (j : Int) < i.toInt → τ 133 j = g ((513 * k.toInt).toNat + j)) (hM : Mu τ u 133 i.toNatClampNeg x) (hk : 0 ≤ k.toInt) (hix : ix.toInt = 513 * k.toInt + i.toInt) (hi : 0 ≤ i.toInt) (z : g ix.toNatClampNeg = x) (e : i'.toInt = i.toInt + 1) : ∀ j : Nat, (j : Int) < i'.toInt → u 133 j = g ((513 * k.toInt).toNat + j) := by
  intro j hj
  have e2 := tn hi
  have e3 := tn (i := ix) (by omega)
  by_cases q : j = i.toNatClampNeg
  · rw [q, hM.1, ← z, show (513 * k.toInt).toNat + i.toNatClampNeg = ix.toNatClampNeg by omega]
  · rw [hM.2 133 _ (Or.inr q)]; exact h j (by omega)
theorem PK_img {τ u : Tau} {k i : Int32} (hp : PF τ) (hq : PK τ) (hk : 0 ≤ k.toInt ∧ k.toInt ≤ 1) (hi : 513 ≤ i.toInt) (ha : ∀ j : Nat, (j : Int) < i.toInt → u 150 ((513 * k.toInt).toNat + j) = τ 133 j) (hb : ∀ j : Nat, ((j : Int) < 513 * k.toInt ∨ 513 * k.toInt + 513 ≤ (j : Int)) → u 150 j = τ 150 j) : PK u := by
  rcases (show k.toInt = 0 ∨ k.toInt = 1 by omega) with e | e
  · rw [e] at ha hb
    refine ⟨PFo_eq (fun j _ h2 => ?_) hp, PFo_eq (fun j _ h2 => hb _ (by omega)) hq.2⟩
    have := ha j (by omega)
    rw [show (513 * (0 : Int)).toNat + j = 0 + j from rfl] at this
    rw [this, Nat.zero_add]
  · rw [e] at ha hb
    refine ⟨PFo_eq (fun j _ h2 => hb _ (by omega)) hq.1, PFo_eq (fun j _ h2 => ?_) hp⟩
    have := ha j (by omega)
    rw [show (513 * (1 : Int)).toNat + j = 513 + j from rfl] at this
    rw [this, Nat.zero_add]
theorem PF_rst {τ u : Tau} {k i : Int32} (hq : PK τ) (hk : 0 ≤ k.toInt ∧ k.toInt ≤ 1) (hi : 513 ≤ i.toInt) (ha : ∀ j : Nat, (j : Int) < i.toInt → u 133 j = τ 150 ((513 * k.toInt).toNat + j)) : PF u := by
  rcases (show k.toInt = 0 ∨ k.toInt = 1 by omega) with e | e
  · rw [e] at ha
    refine PFo_eq (fun j _ h2 => ?_) hq.1
    rw [Nat.zero_add, ha j (by omega), show (513 * (0 : Int)).toNat + j = j from Nat.zero_add j]
  · rw [e] at ha
    refine PFo_eq (fun j _ h2 => ?_) hq.2
    rw [Nat.zero_add, ha j (by omega)]; rfl
theorem PK_eq {τ u : Tau} (h : PK τ) (e : ∀ j, u 150 j = τ 150 j) : PK u := by
  have f : u 150 = τ 150 := funext e
  unfold PK at h ⊢; rw [f]; exact h
theorem fz_ge {fs : List (Nat × Nat)} {cs : List Nat} {c lo : Nat} (h : (fs.all (fun q => q.1 != c || decide (q.2 < lo)) && cs.all (fun k => k != c)) = true) : ∀ j, lo ≤ j → fz fs cs c j = false := by
  intro j hj
  rw [Bool.and_eq_true] at h
  unfold fz
  rw [Bool.or_eq_false_iff]
  constructor
  · rw [List.any_eq_false]
    intro q hq
    have := List.all_eq_true.mp h.1 q hq
    simp only [Bool.or_eq_true, bne_iff_ne, decide_eq_true_eq] at this
    simp only [Bool.and_eq_true, beq_iff_eq, not_and]
    intro e1 e2
    rcases this with r | r
    · exact r e1
    · omega
  · rw [List.any_eq_false]
    intro k hk
    have := List.all_eq_true.mp h.2 k hk
    simp only [bne_iff_ne] at this
    simp only [beq_iff_eq]
    exact this
theorem PF_fr {fs : List (Nat × Nat)} {cs : List Nat} {τ u : Tau} (h : PF τ) (f : Fr fs cs τ u) (hz : (fs.all (fun q => q.1 != 133 || decide (q.2 < 332)) && cs.all (fun k => k != 133)) = true) : PF u := PF_eq h fun j hj => f 133 j (fz_ge hz j hj)
theorem PK_fr {fs : List (Nat × Nat)} {cs : List Nat} {τ u : Tau} (h : PK τ) (f : Fr fs cs τ u) (hz : (fs.all (fun q => q.1 != 150 || decide (q.2 < 0)) && cs.all (fun k => k != 150)) = true) : PK u := PK_eq h fun j => f 150 j (fz_ge hz j (Nat.zero_le _))
