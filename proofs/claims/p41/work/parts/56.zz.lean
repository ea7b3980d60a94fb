/-! what is alike in both systems between the law's calls -/
def BR (τ : Tau) : Prop := ∀ j : Nat, (j : Int) < (τ 1 1).toInt → (τ 132 j).toInt % 256 = (τ 2 j).toInt
def P5 (a : Nat → Int32) (b : Nat → Int32) : Prop := a 0 = b 2 ∧ a 1 = b 3 ∧ a 2 = b 0 ∧ a 3 = b 1 ∧ a 4 = b 4
def PEQ (τ : Tau) : Prop := P5 (τ 23) (τ 133)
def IEQ (τ : Tau) : Prop := ((τ 152 0).toInt = 1 → P5 (τ 94) (τ 150)) ∧ ((τ 152 1).toInt = 1 → P5 (τ 112) (fun j => τ 150 (513 + j)))
def ZZ (τ : Tau) : Prop := BR τ ∧ RS τ ∧ PEQ τ ∧ IEQ τ
/-- what a call keeps: 0 the class's bytes, 1 the model's, 2 the kept words, 3 the plan, 4 its numbers in the model, 5, 6 the images, 7 the model's images, 8 which are kept -/
def ZK (m : Nat → Bool) (τ u : Tau) : Prop := (m 0 = true → ∀ j, u 2 j = τ 2 j) ∧ (m 1 = true → ∀ j, u 132 j = τ 132 j) ∧ (m 2 = true → ∀ j, u 337 j = τ 337 j) ∧ (m 3 = true → ∀ j, j < 5 → u 23 j = τ 23 j) ∧ (m 4 = true → ∀ j, j < 5 → u 133 j = τ 133 j) ∧ (m 5 = true → ∀ j, j < 5 → u 94 j = τ 94 j) ∧ (m 6 = true → ∀ j, j < 5 → u 112 j = τ 112 j) ∧ (m 7 = true → ∀ j, u 150 j = τ 150 j) ∧ (m 8 = true → u 152 0 = τ 152 0 ∧ u 152 1 = τ 152 1)
abbrev mAll : Nat → Bool := fun _ => true
theorem ZK_rfl {m : Nat → Bool} {τ : Tau} : ZK m τ τ := ⟨fun _ _ => rfl, fun _ _ => rfl, fun _ _ => rfl, fun _ _ _ => rfl, fun _ _ _ => rfl, fun _ _ _ => rfl, fun _ _ _ => rfl, fun _ _ => rfl, fun _ => ⟨rfl, rfl⟩⟩
theorem f5 {fs : List (Nat × Nat)} {cs : List Nat} {c : Nat} (h : (List.range 5).all (fun j => !fz fs cs c j) = true) : ∀ j, j < 5 → fz fs cs c j = false := fun j hj => by
  have := List.all_eq_true.mp h j (List.mem_range.mpr hj)
  simpa using this
theorem ZK_two {m m' n : Nat → Bool} {τ t u : Tau} (h : ZK m τ t) (h' : ZK m' t u) (hm : ∀ i, i < 9 → n i = true → m i = true ∧ m' i = true) : ZK n τ u := by
  obtain ⟨a0, a1, a2, a3, a4, a5, a6, a7, a8⟩ := h
  obtain ⟨b0, b1, b2, b3, b4, b5, b6, b7, b8⟩ := h'
  refine ⟨fun k j => (b0 (hm 0 (by decide) k).2 j).trans (a0 (hm 0 (by decide) k).1 j), fun k j => (b1 (hm 1 (by decide) k).2 j).trans (a1 (hm 1 (by decide) k).1 j), fun k j => (b2 (hm 2 (by decide) k).2 j).trans (a2 (hm 2 (by decide) k).1 j), fun k j q => (b3 (hm 3 (by decide) k).2 j q).trans (a3 (hm 3 (by decide) k).1 j q), fun k j q => (b4 (hm 4 (by decide) k).2 j q).trans (a4 (hm 4 (by decide) k).1 j q), fun k j q => (b5 (hm 5 (by decide) k).2 j q).trans (a5 (hm 5 (by decide) k).1 j q), fun k j q => (b6 (hm 6 (by decide) k).2 j q).trans (a6 (hm 6 (by decide) k).1 j q), fun k j => (b7 (hm 7 (by decide) k).2 j).trans (a7 (hm 7 (by decide) k).1 j), fun k => ⟨(b8 (hm 8 (by decide) k).2).1.trans (a8 (hm 8 (by decide) k).1).1, (b8 (hm 8 (by decide) k).2).2.trans (a8 (hm 8 (by decide) k).1).2⟩⟩
theorem P5_eq {a b a' b' : Nat → Int32} (h : P5 a b) (ha : ∀ j, j < 5 → a' j = a j) (hb : ∀ j, j < 5 → b' j = b j) : P5 a' b' := by
  obtain ⟨h0, h1, h2, h3, h4⟩ := h
  exact ⟨by rw [ha 0 (by decide), hb 2 (by decide)]; exact h0, by rw [ha 1 (by decide), hb 3 (by decide)]; exact h1, by rw [ha 2 (by decide), hb 0 (by decide)]; exact h2, by rw [ha 3 (by decide), hb 1 (by decide)]; exact h3, by rw [ha 4 (by decide), hb 4 (by decide)]; exact h4⟩
theorem BR_kp {m : Nat → Bool} {τ u : Tau} (h : BR τ) (k : ZK m τ u) (m0 : m 0 = true) (m1 : m 1 = true) (hl : (u 1 1).toInt ≤ (τ 1 1).toInt) : BR u := fun j hj => by
  rw [k.1 m0, k.2.1 m1]; exact h j (by omega)
theorem PEQ_kp {m : Nat → Bool} {τ u : Tau} (h : PEQ τ) (k : ZK m τ u) (m3 : m 3 = true) (m4 : m 4 = true) : PEQ u := P5_eq h (k.2.2.2.1 m3) (k.2.2.2.2.1 m4)
theorem IEQ_kp {m : Nat → Bool} {τ u : Tau} (h : IEQ τ) (k : ZK m τ u) (m5 : m 5 = true) (m6 : m 6 = true) (m7 : m 7 = true) (m8 : m 8 = true) : IEQ u := by
  obtain ⟨k0, k1, k2, k3, k4, k5, k6, k7, k8⟩ := k
  refine ⟨fun q => P5_eq (h.1 (by rw [← (k8 m8).1]; exact q)) (k5 m5) (fun j _ => k7 m7 j), fun q => P5_eq (h.2 (by rw [← (k8 m8).2]; exact q)) (k6 m6) (fun j _ => k7 m7 _)⟩
theorem ZZ_kp {τ t u : Tau} (h : ZZ τ) (k1 : ZK mAll τ t) (k2 : ZK mAll t u) (hl : (u 1 1).toInt ≤ (τ 1 1).toInt) : ZZ u := by
  have k := ZK_two (n := mAll) k1 k2 (fun _ _ _ => ⟨rfl, rfl⟩)
  exact ⟨BR_kp h.1 k rfl rfl hl, RS_fr h.2.1 (k.2.2.1 rfl), PEQ_kp h.2.2.1 k rfl rfl, IEQ_kp h.2.2.2 k rfl rfl rfl rfl⟩
abbrev mBut (l : List Nat) : Nat → Bool := fun i => !l.contains i
/-- both are fed -/
theorem ZZ_feed {τ t u : Tau} {f : Nat → Int} (h : ZZ τ) (k1 : ZK (mBut [0]) τ t) (k2 : ZK (mBut [1]) t u) (hI : Inv u) (hl : (τ 1 1).toInt = (τ 131 2).toInt) (hl2 : (t 131 2).toInt = (τ 131 2).toInt) (hl3 : (u 1 1).toInt = (t 1 1).toInt) (h0 : 0 ≤ (τ 1 1).toInt)
    (y1 : (τ 1 1).toInt + 20 ≤ 940 → AP τ t 2 (τ 1 1).toInt.toNat 20 f ∧ (t 1 1).toInt = (τ 1 1).toInt + 20) (y2 : (t 131 2).toInt + 20 ≤ 940 → AP t u 132 (t 131 2).toInt.toNat 20 f) (n1 : 940 < (τ 1 1).toInt + 20 → (∀ j, t 2 j = τ 2 j) ∧ (t 1 1).toInt = (τ 1 1).toInt) (n2 : 940 < (t 131 2).toInt + 20 → ∀ j, u 132 j = t 132 j) : ZZ u := by
  have k := ZK_two (n := mBut [0, 1]) k1 k2 (by decide)
  refine ⟨?_, RS_fr h.2.1 (k.2.2.1 rfl), PEQ_kp h.2.2.1 k rfl rfl, IEQ_kp h.2.2.2 k rfl rfl rfl rfl⟩
  intro j hj
  have e2 : ∀ j, u 2 j = t 2 j := k2.1 rfl
  have e132 : ∀ j, t 132 j = τ 132 j := k1.2.1 rfl
  by_cases c : (τ 1 1).toInt + 20 ≤ 940
  · obtain ⟨p1, l1⟩ := y1 c
    have p2 := y2 (by omega)
    rw [e2]
    have hR : R 0 255 (t 2 j) := by rw [← e2]; exact rd (K := 2) hI rfl rfl
    by_cases g : (j : Int) < (τ 1 1).toInt
    · rw [p2.1 j (by omega), e132, p1.1 j (by omega)]
      exact h.1 j g
    · have q1 := p1.2 (j - (τ 1 1).toInt.toNat) (by omega)
      have q2 := p2.2 (j - (τ 1 1).toInt.toNat) (by omega)
      rw [show (τ 1 1).toInt.toNat + (j - (τ 1 1).toInt.toNat) = j by omega] at q1
      rw [show (t 131 2).toInt.toNat + (j - (τ 1 1).toInt.toNat) = j by omega] at q2
      rw [q2, ← q1]
      omega
  · have p1 := n1 (by omega)
    have p2 := n2 (by omega)
    rw [p2, e132, e2, p1.1]
    exact h.1 j (by omega)
theorem P5_pl {a b : Nat → Int32} {s : PS} (ha : (a 2).toInt = (gan s).length ∧ (a 3).toInt = (gmn s).length ∧ (a 0).toInt = gse s ∧ (a 1).toInt = gsl s ∧ a 4 = Int32.ofNat (gkn s)) (hb : (b 0).toInt = (gan s).length ∧ (b 1).toInt = (gmn s).length ∧ (b 2).toInt = gse s ∧ (b 3).toInt = gsl s ∧ b 4 = Int32.ofNat (gkn s)) : P5 a b := by
  obtain ⟨a2, a3, a0, a1, a4⟩ := ha
  obtain ⟨b0, b1, b2, b3, b4⟩ := hb
  exact ⟨Int32.toInt_inj.mp (by rw [a0, b2]), Int32.toInt_inj.mp (by rw [a1, b3]), Int32.toInt_inj.mp (by rw [a2, b0]), Int32.toInt_inj.mp (by rw [a3, b1]), by rw [a4, b4]⟩
/-- both have read a FERRY -/
theorem ZZ_ferry {τ t u : Tau} {x : Rs (Nat × FS)} {r r' : Int32} (h : ZZ τ) (k1 : ZK (mBut [3]) τ t) (k2 : ZK (mBut [4]) t u) (q1 : QF x r (∀ j, t 23 j = τ 23 j) (fun f => PLc t f.2)) (q2 : QF x r' (∀ j, u 133 j = t 133 j) (fun f => PLm u f.2)) (hl : (u 1 1).toInt ≤ (τ 1 1).toInt) : ZZ u := by
  have k := ZK_two (n := mBut [3, 4]) k1 k2 (by decide)
  have e23 : ∀ j, j < 5 → u 23 j = t 23 j := k2.2.2.2.1 rfl
  have e133 : ∀ j, j < 5 → t 133 j = τ 133 j := k1.2.2.2.2.1 rfl
  refine ⟨BR_kp h.1 k rfl rfl hl, RS_fr h.2.1 (k.2.2.1 rfl), ?_, IEQ_kp h.2.2.2 k rfl rfl rfl rfl⟩
  cases x with
  | inl q =>
    have g1 := (q1.1 q rfl).2
    have g2 := (q2.1 q rfl).2
    exact P5_eq h.2.2.1 (fun j hj => (e23 j hj).trans (g1 j)) (fun j hj => (g2 j).trans (e133 j hj))
  | inr g =>
    have g1 := (q1.2 g rfl).2
    have g2 := (q2.2 g rfl).2
    exact P5_eq (P5_pl g1 g2) e23 (fun j _ => rfl)
/-- both keep an image -/
theorem ZZ_image {τ t u : Tau} {a r : Int32} (h : ZZ τ) (k1 : ZK (mBut [5, 6]) τ t) (k2 : ZK (mBut [7, 8]) t u)
    (c0 : (a.toInt = 0 → ∀ j, j < 5 → t 94 j = τ 23 j) ∧ (a.toInt ≠ 0 → ∀ j, t 94 j = τ 94 j)) (c1 : (a.toInt = 1 → ∀ j, j < 5 → t 112 j = τ 23 j) ∧ (a.toInt ≠ 1 → ∀ j, t 112 j = τ 112 j))
    (m0 : (a.toInt = 0 → (u 152 0).toInt = 1 ∧ u 152 1 = t 152 1) ∧ (a.toInt = 1 → (u 152 1).toInt = 1 ∧ u 152 0 = t 152 0)) (m1 : a.toInt < 0 ∨ 1 < a.toInt → u 152 0 = t 152 0 ∧ u 152 1 = t 152 1)
    (m5 : (r.toInt = 1 → (∀ j : Nat, j < 5 → u 150 ((513 * a.toInt).toNat + j) = t 133 j) ∧ ∀ j : Nat, ((j : Int) < 513 * a.toInt ∨ 513 * a.toInt + 513 ≤ (j : Int)) → u 150 j = t 150 j) ∧ (r.toInt = 0 → ∀ j, u 150 j = t 150 j)) (hin : 0 ≤ a.toInt ∧ a.toInt ≤ 1 → r.toInt = 1) (hout : a.toInt < 0 ∨ 1 < a.toInt → r.toInt = 0) (hl : (u 1 1).toInt ≤ (τ 1 1).toInt) : ZZ u := by
  have k := ZK_two (n := mBut [5, 6, 7, 8]) k1 k2 (by decide)
  have e94 : ∀ j, j < 5 → u 94 j = t 94 j := k2.2.2.2.2.2.1 rfl
  have e112 : ∀ j, j < 5 → u 112 j = t 112 j := k2.2.2.2.2.2.2.1 rfl
  have e133 : ∀ j, j < 5 → t 133 j = τ 133 j := k1.2.2.2.2.1 rfl
  have e150 : ∀ j, t 150 j = τ 150 j := k1.2.2.2.2.2.2.2.1 rfl
  have e152 : t 152 0 = τ 152 0 ∧ t 152 1 = τ 152 1 := k1.2.2.2.2.2.2.2.2 rfl
  refine ⟨BR_kp h.1 k rfl rfl hl, RS_fr h.2.1 (k.2.2.1 rfl), PEQ_kp h.2.2.1 k rfl rfl, ?_⟩
  by_cases a0 : a.toInt = 0
  · have m5 := m5.1 (hin (by omega))
    rw [a0] at m5
    refine ⟨fun _ => P5_eq h.2.2.1 (fun j hj => (e94 j hj).trans (c0.1 a0 j hj)) (fun j hj => ?_), fun q => P5_eq (h.2.2.2.2 ?_) (fun j hj => (e112 j hj).trans (c1.2 (by omega) j)) (fun j _ => (m5.2 (513 + j) (by omega)).trans (e150 _))⟩
    · have := m5.1 j hj
      rw [show ((513 * (0 : Int)).toNat + j) = j by simp] at this
      exact this.trans (e133 j hj)
    · rw [← e152.2, ← (m0.1 a0).2]; exact q
  · by_cases a1 : a.toInt = 1
    · have m5 := m5.1 (hin (by omega))
      rw [a1] at m5
      refine ⟨fun q => P5_eq (h.2.2.2.1 ?_) (fun j hj => (e94 j hj).trans (c0.2 a0 j)) (fun j hj => (m5.2 j (by omega)).trans (e150 _)), fun _ => P5_eq h.2.2.1 (fun j hj => (e112 j hj).trans (c1.1 a1 j hj)) (fun j hj => (m5.1 j hj).trans (e133 j hj))⟩
      rw [← e152.1, ← (m0.2 a1).2]; exact q
    · have m5 := m5.2 (hout (by omega))
      have m1 := m1 (by omega)
      refine ⟨fun q => P5_eq (h.2.2.2.1 ?_) (fun j hj => (e94 j hj).trans (c0.2 a0 j)) (fun j hj => (m5 j).trans (e150 _)), fun q => P5_eq (h.2.2.2.2 ?_) (fun j hj => (e112 j hj).trans (c1.2 a1 j)) (fun j hj => (m5 _).trans (e150 _))⟩
      · rw [← e152.1, ← m1.1]; exact q
      · rw [← e152.2, ← m1.2]; exact q
/-- both take an image back -/
theorem ZZ_restore {τ t u : Tau} {a r r' : Int32} (h : ZZ τ) (k1 : ZK (mBut [3]) τ t) (k2 : ZK (mBut [4]) t u)
    (c0 : (r.toInt = 0 → ∀ j, t 23 j = τ 23 j) ∧ (r.toInt = 1 → a.toInt = 0 → ∀ j, j < 5 → t 23 j = τ 94 j) ∧ (r.toInt = 1 → a.toInt = 1 → ∀ j, j < 5 → t 23 j = τ 112 j))
    (m0 : (r'.toInt = 1 → ∀ j : Nat, j < 5 → u 133 j = t 150 ((513 * a.toInt).toNat + j)) ∧ (r'.toInt = 0 → ∀ j, u 133 j = t 133 j)) (f0 : a.toInt = 0 → r'.toInt = (t 152 0).toInt) (f1 : a.toInt = 1 → r'.toInt = (t 152 1).toInt) (hout : a.toInt < 0 ∨ 1 < a.toInt → r'.toInt = 0) (hr : r.toInt = r'.toInt) (h01 : r.toInt = 0 ∨ r.toInt = 1) (hl : (u 1 1).toInt ≤ (τ 1 1).toInt) : ZZ u := by
  have k := ZK_two (n := mBut [3, 4]) k1 k2 (by decide)
  have e23 : ∀ j, j < 5 → u 23 j = t 23 j := k2.2.2.2.1 rfl
  have e133 : ∀ j, j < 5 → t 133 j = τ 133 j := k1.2.2.2.2.1 rfl
  have e150 : ∀ j, t 150 j = τ 150 j := k1.2.2.2.2.2.2.2.1 rfl
  have e152 : t 152 0 = τ 152 0 ∧ t 152 1 = τ 152 1 := k1.2.2.2.2.2.2.2.2 rfl
  refine ⟨BR_kp h.1 k rfl rfl hl, RS_fr h.2.1 (k.2.2.1 rfl), ?_, IEQ_kp h.2.2.2 k rfl rfl rfl rfl⟩
  rcases h01 with z | z
  · exact P5_eq h.2.2.1 (fun j hj => (e23 j hj).trans (c0.1 z j)) (fun j hj => (m0.2 (by omega) j).trans (e133 j hj))
  · by_cases a0 : a.toInt = 0
    · have q := h.2.2.2.1 (by rw [← e152.1, ← f0 a0]; omega)
      refine P5_eq q (fun j hj => (e23 j hj).trans (c0.2.1 z a0 j hj)) (fun j hj => ?_)
      have := m0.1 (by omega) j hj
      rw [a0, show ((513 * (0 : Int)).toNat + j) = j by simp, e150] at this
      exact this
    · by_cases a1 : a.toInt = 1
      · have q := h.2.2.2.2 (by rw [← e152.2, ← f1 a1]; omega)
        refine P5_eq q (fun j hj => (e23 j hj).trans (c0.2.2 z a1 j hj)) (fun j hj => ?_)
        have := m0.1 (by omega) j hj
        rw [a1, e150] at this
        exact this
      · have := hout (by omega)
        omega
/-- count's two answers -/
theorem ct_eq {τ t : Tau} {a a' r r' : Int32} (h : PEQ τ) (hl : (τ 1 1).toInt = (τ 131 2).toInt) (e : a'.toInt = a.toInt) (e1 : t = τ) (x0 : a.toInt = 0 → r = τ 23 2) (x1 : a.toInt = 1 → r = τ 23 3) (x2 : a.toInt = 2 → r = τ 23 0) (x3 : a.toInt = 3 → r = τ 23 1) (x4 : a.toInt = 4 → r = τ 23 4) (x5 : a.toInt = 5 → r = τ 1 1) (x6 : a.toInt < 0 ∨ 5 < a.toInt → r.toInt = -1) (y5 : a'.toInt = 5 → r' = t 131 2) (y0 : 0 ≤ a'.toInt ∧ a'.toInt ≤ 4 → r' = t 133 a'.toNatClampNeg) (y6 : a'.toInt < 0 ∨ 5 < a'.toInt → r'.toInt = -1) : r.toInt = r'.toInt := by
  subst e1
  have c : a'.toNatClampNeg = a'.toInt.toNat := rfl
  obtain ⟨p0, p1, p2, p3, p4⟩ := h
  rcases (show a.toInt = 0 ∨ a.toInt = 1 ∨ a.toInt = 2 ∨ a.toInt = 3 ∨ a.toInt = 4 ∨ a.toInt = 5 ∨ (a.toInt < 0 ∨ 5 < a.toInt) by omega) with z | z | z | z | z | z | z
  · rw [x0 z, y0 (by omega), show a'.toNatClampNeg = 0 by omega, p2]
  · rw [x1 z, y0 (by omega), show a'.toNatClampNeg = 1 by omega, p3]
  · rw [x2 z, y0 (by omega), show a'.toNatClampNeg = 2 by omega, p0]
  · rw [x3 z, y0 (by omega), show a'.toNatClampNeg = 3 by omega, p1]
  · rw [x4 z, y0 (by omega), show a'.toNatClampNeg = 4 by omega, p4]
  · rw [x5 z, y5 (by omega)]; exact hl
  · rw [x6 z, y6 (by omega)]
