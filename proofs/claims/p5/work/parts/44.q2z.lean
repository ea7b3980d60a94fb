/-! bits of the kin, and what is told of one man -/
theorem kb_cases {x : Int32} (h : R 0 9 x) : x = 0 ∨ x = 1 ∨ x = 2 ∨ x = 3 ∨ x = 4 ∨ x = 5 ∨ x = 6 ∨ x = 7 ∨ x = 8 ∨ x = 9 := by
  have e : ∀ k : Int32, x.toInt = k.toInt → x = k := fun k h => Int32.toInt_inj.mp h
  rcases (show x.toInt = 0 ∨ x.toInt = 1 ∨ x.toInt = 2 ∨ x.toInt = 3 ∨ x.toInt = 4 ∨ x.toInt = 5 ∨ x.toInt = 6 ∨ x.toInt = 7 ∨ x.toInt = 8 ∨ x.toInt = 9 by omega) with h | h | h | h | h | h | h | h | h | h
  · exact Or.inl (e 0 h)
  · exact Or.inr (Or.inl (e 1 h))
  · exact Or.inr (Or.inr (Or.inl (e 2 h)))
  · exact Or.inr (Or.inr (Or.inr (Or.inl (e 3 h))))
  · exact Or.inr (Or.inr (Or.inr (Or.inr (Or.inl (e 4 h)))))
  · exact Or.inr (Or.inr (Or.inr (Or.inr (Or.inr (Or.inl (e 5 h))))))
  · exact Or.inr (Or.inr (Or.inr (Or.inr (Or.inr (Or.inr (Or.inl (e 6 h)))))))
  · exact Or.inr (Or.inr (Or.inr (Or.inr (Or.inr (Or.inr (Or.inr (Or.inl (e 7 h))))))))
  · exact Or.inr (Or.inr (Or.inr (Or.inr (Or.inr (Or.inr (Or.inr (Or.inr (Or.inl (e 8 h)))))))))
  · exact Or.inr (Or.inr (Or.inr (Or.inr (Or.inr (Or.inr (Or.inr (Or.inr (Or.inr (e 9 h)))))))))
theorem bit0 (x : BitVec 32) : (x &&& 1#32 = 1#32) ↔ x.getLsbD 0 = true := by
  constructor
  · intro h
    have h2 := congrArg (fun z => z.getLsbD 0) h
    simpa using h2
  · intro h
    apply BitVec.eq_of_getLsbD_eq
    intro i hi
    by_cases e : i = 0
    · subst e; simp [h]
    · simp [e]
theorem kb_shr {x y : Int32} (hy : R 0 9 y) : (x >>> (y &&& 31)) &&& 1 = 1 ↔ kb x y.toInt.toNat := by
  have key : ∀ k : Nat, k < 10 → ((x.toBitVec.sshiftRight k) &&& 1#32 = 1#32 ↔ x.toBitVec.getLsbD k = true) := by
    intro k hk
    rw [bit0]
    rw [BitVec.getLsbD_sshiftRight]
    simp [show k < 32 by omega]
  have tb : ∀ z : Int32, (z = 1 ↔ z.toBitVec = 1#32) := fun z => ⟨fun h => by rw [h]; rfl, fun h => Int32.toBitVec_inj.mp h⟩
  unfold kb
  rw [tb, Int32.toBitVec_and]
  rcases kb_cases hy with rfl | rfl | rfl | rfl | rfl | rfl | rfl | rfl | rfl | rfl
  · exact key 0 (by decide)
  · exact key 1 (by decide)
  · exact key 2 (by decide)
  · exact key 3 (by decide)
  · exact key 4 (by decide)
  · exact key 5 (by decide)
  · exact key 6 (by decide)
  · exact key 7 (by decide)
  · exact key 8 (by decide)
  · exact key 9 (by decide)
theorem kb_or {x y : Int32} {i : Nat} (hy : R 0 9 y) (hi : i < 10) : kb (x ||| ((1 : Int32) <<< (y &&& 31))) i ↔ (kb x i ∨ i = y.toInt.toNat) := by
  have one : ∀ k : Nat, k < 10 → ∀ i, i < 10 → ((1#32 <<< k).getLsbD i = decide (i = k)) := by decide
  unfold kb
  rw [Int32.toBitVec_or, BitVec.getLsbD_or, Bool.or_eq_true]
  have fin : ∀ k : Nat, k < 10 → ((1#32 <<< k).getLsbD i = true ↔ i = k) := fun k hk => by rw [one k hk i hi]; exact decide_eq_true_iff
  rcases kb_cases hy with rfl | rfl | rfl | rfl | rfl | rfl | rfl | rfl | rfl | rfl
  · exact or_congr_right (fin 0 (by decide))
  · exact or_congr_right (fin 1 (by decide))
  · exact or_congr_right (fin 2 (by decide))
  · exact or_congr_right (fin 3 (by decide))
  · exact or_congr_right (fin 4 (by decide))
  · exact or_congr_right (fin 5 (by decide))
  · exact or_congr_right (fin 6 (by decide))
  · exact or_congr_right (fin 7 (by decide))
  · exact or_congr_right (fin 8 (by decide))
  · exact or_congr_right (fin 9 (by decide))
theorem ki_bits {τ t u : Tau} {s : PS} {x1 x2 : Int32} {K1 K2 : Nat} (h : ∀ i j, i < 10 → j < 10 → (kb (τ 7 i) j ↔ gki s i j = true)) (hne : K1 ≠ K2) (h1 : Mu τ t 7 K1 x1) (h2 : Mu t u 7 K2 x2) (b1 : ∀ j, j < 10 → (kb x1 j ↔ (kb (τ 7 K1) j ∨ j = K2))) (b2 : ∀ j, j < 10 → (kb x2 j ↔ (kb (t 7 K2) j ∨ j = K1))) (i j : Nat) (hi : i < 10) (hj : j < 10) : kb (u 7 i) j ↔ (gki s i j || (i == K1 && j == K2) || (i == K2 && j == K1)) = true := by
  have o := h i j hi hj
  simp only [Bool.or_eq_true, Bool.and_eq_true, beq_iff_eq]
  by_cases g1 : i = K1
  · subst g1
    rw [h2.2 7 i (Or.inr hne), h1.1, b1 j hj, o]
    simp [hne]
  · by_cases g2 : i = K2
    · subst g2
      rw [h2.1, b2 j hj, h1.2 7 i (Or.inr g1), o]
      simp [g1]
    · rw [h2.2 7 i (Or.inr g2), h1.2 7 i (Or.inr g1), o]
      simp [g1, g2]
/-- kin on both sides, and their number -/
theorem RP_ki {τ t u v : Tau} {s : PS} {x1 x2 y k1 k2 o1 o2 : Int32} (h : RP τ s) (hk : R 0 9 k1) (hj : R 0 9 k2) (hne : k1.toInt ≠ k2.toInt) (h1 : Mu τ t 7 k1.toNatClampNeg x1) (h2 : Mu t u 7 k2.toNatClampNeg x2) (h3 : Mu u v 4 4 y) (e1 : τ 7 k1.toNatClampNeg = o1) (e2 : t 7 k2.toNatClampNeg = o2) (hx1 : x1 = o1 ||| ((1 : Int32) <<< (k2 &&& 31))) (hx2 : x2 = o2 ||| ((1 : Int32) <<< (k1 &&& 31))) (hy : y = Int32.ofNat (gkn s + 1)) : RP v (uki s k1.toInt.toNat k2.toInt.toNat) := by
  obtain ⟨a1, a2, a3, a4, a5, a6, a7, a8, a9, a10⟩ := h
  have e : ∀ a, a ≠ 7 → a ≠ 4 → ∀ i, v a i = τ a i := fun a g1 g2 i => ((Mu_ne h3 g2 i).trans (Mu_ne h2 g1 i)).trans (Mu_ne h1 g1 i)
  have e4 : ∀ i, i ≠ 4 → v 4 i = τ 4 i := fun i g => ((h3.2 4 i (Or.inr g)).trans (Mu_ne h2 (by decide) i)).trans (Mu_ne h1 (by decide) i)
  have n : k1.toInt.toNat ≠ k2.toInt.toNat := by omega
  have b1 : ∀ j, j < 10 → (kb x1 j ↔ (kb (τ 7 k1.toInt.toNat) j ∨ j = k2.toInt.toNat)) := fun j hj2 => by
    have e1 : τ 7 k1.toInt.toNat = o1 := e1
    rw [hx1, kb_or hj hj2, e1]
  have b2 : ∀ j, j < 10 → (kb x2 j ↔ (kb (t 7 k2.toInt.toNat) j ∨ j = k1.toInt.toNat)) := fun j hj2 => by
    have e2 : t 7 k2.toInt.toNat = o2 := e2
    rw [hx2, kb_or hk hj2, e2]
  refine ⟨by rw [e 3 (by decide) (by decide)]; exact a1, by rw [e 3 (by decide) (by decide)]; exact a2, by rw [e4 0 (by decide)]; exact a3, by rw [e4 1 (by decide)]; exact a4, by rw [h3.1]; exact hy, NM_eq a6 (e4 2 (by decide)) (e _ (by decide) (by decide)), NM_eq a7 (e4 3 (by decide)) (e _ (by decide) (by decide)), fun i hi => by rw [e 6 (by decide) (by decide)]; exact a8 i hi, fun i j hi hj => ?_, fun j hj => by rw [e 8 (by decide) (by decide)]; exact a10 j hj⟩
  rw [Mu_ne h3 (by decide)]
  exact ki_bits a9 n h1 h2 b1 b2 i j hi hj
/-- what is told of man m -/
def RO (τ : Tau) (m : Nat) (op : Nat → Bool) : Prop := ∀ a, a < 9 → ((τ 8 (9 * m + a)).toInt ≠ 0 ↔ op a = true)
theorem RO_0 {τ : Tau} {s : PS} {m : Nat} (h : RP τ s) (hm : (gmn s).length ≤ m) (hm2 : m < 10) : RO τ m (fun _ => false) := by
  intro a ha
  have h2 := h.2.2.2.2.2.2.2.2.2 (9 * m + a) (by omega) (by omega)
  rw [h2]; simp
theorem RO_eq {τ u : Tau} {m : Nat} {op : Nat → Bool} (h : RO τ m op) (e : ∀ j, u 8 j = τ 8 j) : RO u m op := fun a ha => by rw [e]; exact h a ha
theorem RO_put {τ u : Tau} {m i k : Nat} {op : Nat → Bool} {x : Int32} (h : RO τ m op) (hM : Mu τ u 8 k x) (hk : k = 9 * m + i) (hi : i < 9) (hx : x.toInt ≠ 0) : RO u m (fun j => op j || j == i) := by
  intro a ha
  show (u 8 (9 * m + a)).toInt ≠ 0 ↔ (op a || a == i) = true
  by_cases e : a = i
  · subst e
    rw [← hk, hM.1]
    simp [hx]
  · rw [hM.2 8 _ (Or.inr (by omega)), Bool.or_eq_true, beq_iff_eq]
    simp only [e, or_false]
    exact h a ha
theorem RP_kn {τ : Tau} {s : PS} (h : RP τ s) : τ 4 4 = Int32.ofNat (gkn s) := h.2.2.2.2.1
theorem i32_succ (k : Nat) : Int32.ofNat (k + 1) = Int32.ofNat k + 1 := by rw [Int32.ofNat_add]; rfl
theorem RP_kb {τ : Tau} {s : PS} (h : RP τ s) {i j : Nat} (hi : i < 10) (hj : j < 10) : kb (τ 7 i) j ↔ gki s i j = true := h.2.2.2.2.2.2.2.2.1 i j hi hj
theorem RP_par {τ : Tau} {s : PS} (h : RP τ s) {i : Nat} (hi : i < 10) : (τ 6 i).toInt ≠ -1 ↔ gpa s i = true := h.2.2.2.2.2.2.2.1 i hi
theorem sNum_s {b : Nat → Int} {n : Nat} {lo hi : Int} {f : FS} {v : Int × FS} (h : sNum b n lo hi f = .inr v) : v.2.2 = f.2 := by
  by_cases e : f.1.1 = 2
  · by_cases e2 : nbr b f.1 < lo ∨ hi < nbr b f.1
    · rw [sNum_b2 e e2] at h; cases h
    · rw [sNum_g e e2] at h; cases h; rfl
  · rw [sNum_b1 e] at h; cases h
theorem sYN_s {b : Nat → Int} {n : Nat} {f g : FS} (h : sYN b n f = .inr g) : g.2 = f.2 := by
  by_cases e : isW b 4 f.1 ∨ isW b 5 f.1
  · rw [sYN_g e] at h; cases h; rfl
  · rw [sYN_b e] at h; cases h
