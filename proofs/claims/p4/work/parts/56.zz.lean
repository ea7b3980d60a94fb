/-! what is alike in both systems between the law's calls -/
def BR (τ : Tau) : Prop := ∀ j : Nat, (j : Int) < (τ 1 1).toInt → (τ 132 j).toInt % 256 = (τ 2 j).toInt
def P5 (a : Nat → Int32) (b : Nat → Int32) : Prop := a 0 = b 2 ∧ a 1 = b 3 ∧ a 2 = b 0 ∧ a 3 = b 1 ∧ a 4 = b 4
def PEQ (τ : Tau) : Prop := P5 (τ 23) (τ 133)
def IEQ (τ : Tau) : Prop := ((τ 152 0).toInt = 1 → P5 (τ 94) (τ 150)) ∧ ((τ 152 1).toInt = 1 → P5 (τ 112) (fun j => τ 150 (513 + j)))
def ZZ (τ : Tau) : Prop := BR τ ∧ RS τ ∧ PEQ τ ∧ IEQ τ
/-- what a call keeps: 0 the class's bytes, 1 the model's, 2 the kept words, 3 the plan, 4 its numbers in the model, 5, 6 the images, 7 the model's images, 8 which are kept -/
def ZK (m : Nat → Bool) (τ u : Tau) : Prop := (m 0 = true → ∀ j, u 2 j = τ 2 j) ∧ (m 1 = true → ∀ j, u 132 j = τ 132 j) ∧ (m 2 = true → ∀ j, u 337 j = τ 337 j) ∧ (m 3 = true → ∀ j, j < 5 → u 23 j = τ 23 j) ∧ (m 4 = true → ∀ j, j < 5 → u 133 j = τ 133 j) ∧ (m 5 = true → ∀ j, j < 5 → u 94 j = τ 94 j) ∧ (m 6 = true → ∀ j, j < 5 → u 112 j = τ 112 j) ∧ (m 7 = true → ∀ j, u 150 j = τ 150 j) ∧ (m 8 = true → u 152 0 = τ 152 0 ∧ u 152 1 = τ 152 1)
abbrev mAll : Nat → Bool := fun _ => true
theorem ZK_rfl {m : Nat → Bool} {τ : Tau} : ZK m τ τ := ⟨fun _ _ => rfl, fun _ _ => rfl, fun _ _ => rfl, fun _ _ _ => rfl, fun _ _ _ => rfl, fun _ _ _ => rfl, fun _ _ _ => rfl, fun _ _ => rfl, fun _ => ⟨rfl, rfl⟩⟩
theorem f5 {fs : List (Nat × Nat)} {cs : List Nat} {c : Nat} (h : (List.range 5).all (fun j => !fz fs cs c j) = true) : ∀ j, j < 5 → fz fs cs c j = false := fun j hj => by
  have := List.all_eq_true.mp h j (List.mem_range.mpr hj)
  simpa using this
theorem ZK_two {m m' n : Nat → Bool} {τ t u : Tau} (h : ZK m τ t) (h' : ZK m' t u) (hm : ∀ i, i < 9 → n i = true → m i = true ∧ m' i = true) : ZK n τ u := by
  obtain ⟨a0, a1, a2, a3, a4, a5, a6, a7, a8⟩ := h
  obtain ⟨b0, b1, b2, b3, b4, b5, b6, b7, b8⟩ := h'
  refine ⟨fun k j => (b0 (hm 0 (by decide) k).2 j).trans (a0 (hm 0 (by decide) k).1 j), fun k j => (b1 (hm 1 (by decide) k).2 j).trans (a1 (hm 1 (by decide) k).1 j), fun k j => (b2 (hm 2 (by decide) k).2 j).trans (a2 (hm 2 (by decide) k).1 j), fun k j q => (b3 (hm 3 (by decide) k).2 j q).trans (a3 (hm 3 (by decide) k).1 j q), fun k j q => (b4 (hm 4 (by decide) k).2 j q).trans (a4 (hm 4 (by decide) k).1 j q), fun k j q => (b5 (hm 5 (by decide) k).2 j q).trans (a5 (hm 5 (by decide) k).1 j q), fun k j q => (b6 (hm 6 (by decide) k).2 j q).trans (a6 (hm 6 (by decide) k).1 j q), fun k j => (b7 (hm 7 (by decide) k).2 j).trans (a7 (hm 7 (by decide) k).1 j), fun k => ⟨(b8 (hm 8 (by decide) k).2).1.trans (a8 (hm 8 (by decide) k).1).1, (b8 (hm 8 (by decide) k).2).2.trans (a8 (hm 8 (by decide) k).1).2⟩⟩
theorem P5_eq {a b a' b' : Nat → Int32} (h : P5 a b) (ha : ∀ j, j < 5 → a' j = a j) (hb : ∀ j, j < 5 → b' j = b j) : P5 a' b' := by
  obtain ⟨h0, h1, h2, h3, h4⟩ := h
  exact ⟨by rw [ha 0 (by decide), hb 2 (by decide)]; exact h0, by rw [ha 1 (by decide), hb 3 (by decide)]; exact h1, by rw [ha 2 (by decide), hb 0 (by decide)]; exact h2, by rw [ha 3 (by decide), hb 1 (by decide)]; exact h3, by rw [ha 4 (by decide), hb 4 (by decide)]; exact h4⟩
theorem BR_kp {m : Nat → Bool} {τ u : Tau} (h : BR τ) (k : ZK m τ u) (m0 : m 0 = true) (m1 : m 1 = true) (hl : (u 1 1).toInt ≤ (τ 1 1).toInt) : BR u := fun j hj => by
  rw [k.1 m0, k.2.1 m1]; exact h j (by omega)
theorem PEQ_kp {m : Nat → Bool} {τ u : Tau} (h : PEQ τ) (k : ZK m τ u) (m3 : m 3 = true) (m4 : m 4 = true) : PEQ u := P5_eq h (k.2.2.2.1 m3) (k.2.2.2.2.1 m4)
theorem IEQ_kp {m : Nat → Bool} {τ u : Tau} (h : IEQ τ) (k : ZK m τ u) (m5 : m 5 = true) (m6 : m 6 = true) (m7 : m 7 = true) (m8 : m 8 = true) : IEQ u := by
  obtain ⟨k0, k1, k2, k3, k4, k5, k6, k7, k8⟩ := k
  refine ⟨fun q => P5_eq (h.1 (by rw [← (k8 m8).1]; exact q)) (k5 m5) (fun j _ => k7 m7 j), fun q => P5_eq (h.2 (by rw [← (k8 m8).2]; exact q)) (k6 m6) (fun j _ => k7 m7 _)⟩
theorem ZZ_kp {τ t u : Tau} (h : ZZ τ) (k1 : ZK mAll τ t) (k2 : ZK mAll t u) (hl : (u 1 1).toInt ≤ (τ 1 1).toInt) : ZZ u := by
  have k := ZK_two (n := mAll) k1 k2 (fun _ _ _ => ⟨rfl, rfl⟩)
  exact ⟨BR_kp h.1 k rfl rfl hl, RS_fr h.2.1 (k.2.2.1 rfl), PEQ_kp h.2.2.1 k rfl rfl, IEQ_kp h.2.2.2 k rfl rfl rfl rfl⟩
abbrev mBut (l : List Nat) : Nat → Bool := fun i => !l.contains i
/-- both are fed -/
theorem ZZ_feed {τ t u : Tau} {f : Nat → Int} (h : ZZ τ) (k1 : ZK (mBut [0]) τ t) (k2 : ZK (mBut [1]) t u) (hI : Inv u) (hl : (τ 1 1).toInt = (τ 131 2).toInt) (hl2 : (t 131 2).toInt = (τ 131 2).toInt) (hl3 : (u 1 1).toInt = (t 1 1).toInt) (h0 : 0 ≤ (τ 1 1).toInt)
    (y1 : (τ 1 1).toInt + 20 ≤ 940 → AP τ t 2 (τ 1 1).toInt.toNat 20 f ∧ (t 1 1).toInt = (τ 1 1).toInt + 20) (y2 : (t 131 2).toInt + 20 ≤ 940 → AP t u 132 (t 131 2).toInt.toNat 20 f) (n1 : 940 < (τ 1 1).toInt + 20 → (∀ j, t 2 j = τ 2 j) ∧ (t 1 1).toInt = (τ 1 1).toInt) (n2 : 940 < (t 131 2).toInt + 20 → ∀ j, u 132 j = t 132 j) : ZZ u := by
  have k := ZK_two (n := mBut [0, 1]) k1 k2 (by decide)
  refine ⟨?_, RS_fr h.2.1 (k.2.2.1 rfl), PEQ_kp h.2.2.1 k rfl rfl, IEQ_kp h.2.2.2 k rfl rfl rfl rfl⟩
  intro j hj
  have e2 : ∀ j, u 2 j = t 2 j := k2.1 rfl
  have e132 : ∀ j, t 132 j = τ 132 j := k1.2.1 rfl
  by_cases c : (τ 1 1).toInt + 20 ≤ 940
  · obtain ⟨p1, l1⟩ := y1 c
    have p2 := y2 (by omega)
    rw [e2]
    have hR : R 0 255 (t 2 j) := by rw [← e2]; exact rd (K := 2) hI rfl rfl
    by_cases g : (j : Int) < (τ 1 1).toInt
    · rw [p2.1 j (by omega), e132, p1.1 j (by omega)]
      exact h.1 j g
    · have q1 := p1.2 (j - (τ 1 1).toInt.toNat) (by omega)
      have q2 := p2.2 (j - (τ 1 1).toInt.toNat) (by omega)
      rw [show (τ 1 1).toInt.toNat + (j - (τ 1 1).toInt.toNat) = j by omega] at q1
      rw [show (t 131 2).toInt.toNat + (j - (τ 1 1).toInt.toNat) = j by omega] at q2
      rw [q2, ← q1]
      omega
  · have p1 := n1 (by omega)
    have p2 := n2 (by omega)
    rw [p2, e132, e2, p1.1]
    exact h.1 j (by omega)
theorem P5_pl {a b : Nat → Int32} {s : PS} (ha : (a 2).toInt = (gan s).length ∧ (a 3).toInt = (gmn s).length ∧ (a 0).toInt = gse s ∧ (a 1).toInt = gsl s ∧ a 4 = Int32.ofNat (gkn s)) (hb : (b 0).toInt = (gan s).length ∧ (b 1).toInt = (gmn s).length ∧ (b 2).toInt = gse s ∧ (b 3).toInt = gsl s ∧ b 4 = Int32.ofNat (gkn s)) : P5 a b := by
  obtain ⟨a2, a3, a0, a1, a4⟩ := ha
  obtain ⟨b0, b1, b2, b3, b4⟩ := hb
  exact ⟨Int32.toInt_inj.mp (by rw [a0, b2]), Int32.toInt_inj.mp (by rw [a1, b3]), Int32.toInt_inj.mp (by rw [a2, b0]), Int32.toInt_inj.mp (by rw [a3, b1]), by rw [a4, b4]⟩
/-- both have read a FERRY -/
theorem ZZ_ferry {τ t u : Tau} {x : Rs (Nat × FS)} {r r' : Int32} (h : ZZ τ) (k1 : ZK (mBut [3]) τ t) (k2 : ZK (mBut [4]) t u) (q1 : QF x r (∀ j, t 23 j = τ 23 j) (fun f => PLc t f.2)) (q2 : QF x r' (∀ j, u 133 j = t 133 j) (fun f => PLm u f.2)) (hl : (u 1 1).toInt ≤ (τ 1 1).toInt) : ZZ u := by
  have k := ZK_two (n := mBut [3, 4]) k1 k2 (by decide)
  have e23 : ∀ j, j < 5 → u 23 j = t 23 j := k2.2.2.2.1 rfl
  have e133 : ∀ j, j < 5 → t 133 j = τ 133 j := k1.2.2.2.2.1 rfl
  refine ⟨BR_kp h.1 k rfl rfl hl, RS_fr h.2.1 (k.2.2.1 rfl), ?_, IEQ_kp h.2.2.2 k rfl rfl rfl rfl⟩
  cases x with
  | inl q =>
    have g1 := (q1.1 q rfl).2
    have g2 := (q2.1 q rfl).2
    exact P5_eq h.2.2.1 (fun j hj => (e23 j hj).trans (g1 j)) (fun j hj => (g2 j).trans (e133 j hj))
  | inr g =>
    have g1 := (q1.2 g rfl).2
    have g2 := (q2.2 g rfl).2
    exact P5_eq (P5_pl g1 g2) e23 (fun j _ => rfl)
