/-! what is alike in both systems between the law's calls: bytes, names, faults -/
def BR (τ : Tau) : Prop := ∀ j : Nat, (j : Int) < (τ 1 1).toInt → (τ 132 j).toInt % 256 = (τ 2 j).toInt
def NT (τ : Tau) (c d e f g : Nat) : Prop := ∃ an mn : List (List Int), (NM τ c 2 (c + 5) an ∧ NM τ c 3 (c + 6) mn) ∧ NMM τ d e f g an ∧ NMM τ d (e + 1) f (g + 9) mn
def NI (τ : Tau) : Prop := ((τ 152 0).toInt = 1 → NT τ 94 150 0 151 0) ∧ ((τ 152 1).toInt = 1 → NT τ 112 150 513 151 19)
def FE (τ : Tau) : Prop := (τ 0 12).toInt = (τ 131 15).toInt
def ZZ (τ : Tau) : Prop := BR τ ∧ RS τ ∧ NT τ 23 133 0 136 0 ∧ NI τ
def KC (c : Nat) (τ u : Tau) : Prop := u c 2 = τ c 2 ∧ u c 3 = τ c 3 ∧ (∀ j, u (c + 205) j = τ (c + 205) j) ∧ ∀ j, u (c + 206) j = τ (c + 206) j
/-- what a call keeps: 0 the class's bytes, 1 the model's, 2 the kept words, 3 the class's names, 4 the model's, 5, 6 the class's images, 7 the model's images, 8 which are kept, 9 the class's fault, 10 the model's -/
def ZK (m : Nat → Bool) (τ u : Tau) : Prop := (m 0 = true → ∀ j, u 2 j = τ 2 j) ∧ (m 1 = true → ∀ j, u 132 j = τ 132 j) ∧ (m 2 = true → ∀ j, u 337 j = τ 337 j) ∧ (m 3 = true → KC 23 τ u) ∧ (m 4 = true → u 133 0 = τ 133 0 ∧ u 133 1 = τ 133 1 ∧ ∀ j, u 336 j = τ 336 j) ∧ (m 5 = true → KC 94 τ u) ∧ (m 6 = true → KC 112 τ u) ∧ (m 7 = true → (∀ j, u 150 j = τ 150 j) ∧ ∀ j, u 351 j = τ 351 j) ∧ (m 8 = true → u 152 0 = τ 152 0 ∧ u 152 1 = τ 152 1) ∧ (m 9 = true → u 0 12 = τ 0 12) ∧ (m 10 = true → u 131 15 = τ 131 15)
abbrev mAll : Nat → Bool := fun _ => true
abbrev mBut (l : List Nat) : Nat → Bool := fun i => !l.contains i
theorem KC_rfl {c : Nat} {τ : Tau} : KC c τ τ := ⟨rfl, rfl, fun _ => rfl, fun _ => rfl⟩
theorem KC_two {c : Nat} {τ t u : Tau} (h : KC c τ t) (h' : KC c t u) : KC c τ u := ⟨h'.1.trans h.1, h'.2.1.trans h.2.1, fun j => (h'.2.2.1 j).trans (h.2.2.1 j), fun j => (h'.2.2.2 j).trans (h.2.2.2 j)⟩
theorem ZK_rfl {m : Nat → Bool} {τ : Tau} : ZK m τ τ := ⟨fun _ _ => rfl, fun _ _ => rfl, fun _ _ => rfl, fun _ => KC_rfl, fun _ => ⟨rfl, rfl, fun _ => rfl⟩, fun _ => KC_rfl, fun _ => KC_rfl, fun _ => ⟨fun _ => rfl, fun _ => rfl⟩, fun _ => ⟨rfl, rfl⟩, fun _ => rfl, fun _ => rfl⟩
theorem ZK_two {m m' n : Nat → Bool} {τ t u : Tau} (h : ZK m τ t) (h' : ZK m' t u) (hm : ∀ i, i < 11 → n i = true → m i = true ∧ m' i = true) : ZK n τ u := by
  obtain ⟨a0, a1, a2, a3, a4, a5, a6, a7, a8, a9, a10⟩ := h
  obtain ⟨b0, b1, b2, b3, b4, b5, b6, b7, b8, b9, b10⟩ := h'
  have g := fun i hi k => hm i hi k
  refine ⟨fun k j => (b0 (g 0 (by decide) k).2 j).trans (a0 (g 0 (by decide) k).1 j), fun k j => (b1 (g 1 (by decide) k).2 j).trans (a1 (g 1 (by decide) k).1 j), fun k j => (b2 (g 2 (by decide) k).2 j).trans (a2 (g 2 (by decide) k).1 j), fun k => KC_two (a3 (g 3 (by decide) k).1) (b3 (g 3 (by decide) k).2), fun k => ?_, fun k => KC_two (a5 (g 5 (by decide) k).1) (b5 (g 5 (by decide) k).2), fun k => KC_two (a6 (g 6 (by decide) k).1) (b6 (g 6 (by decide) k).2), fun k => ?_, fun k => ?_, fun k => (b9 (g 9 (by decide) k).2).trans (a9 (g 9 (by decide) k).1), fun k => (b10 (g 10 (by decide) k).2).trans (a10 (g 10 (by decide) k).1)⟩
  · have p := a4 (g 4 (by decide) k).1
    have q := b4 (g 4 (by decide) k).2
    exact ⟨q.1.trans p.1, q.2.1.trans p.2.1, fun j => (q.2.2 j).trans (p.2.2 j)⟩
  · have p := a7 (g 7 (by decide) k).1
    have q := b7 (g 7 (by decide) k).2
    exact ⟨fun j => (q.1 j).trans (p.1 j), fun j => (q.2 j).trans (p.2 j)⟩
  · have p := a8 (g 8 (by decide) k).1
    have q := b8 (g 8 (by decide) k).2
    exact ⟨q.1.trans p.1, q.2.trans p.2⟩
theorem NM2_KC {c : Nat} {τ u : Tau} {an mn : List (List Int)} (h : NM τ c 2 (c + 5) an ∧ NM τ c 3 (c + 6) mn) (k : KC c τ u) : NM u c 2 (c + 5) an ∧ NM u c 3 (c + 6) mn :=
  ⟨NM_eq h.1 k.1 k.2.2.1, NM_eq h.2 k.2.1 k.2.2.2⟩
theorem NT_fr {τ u : Tau} {c d e f g : Nat} (h : NT τ c d e f g) (k : KC c τ u) (e0 : u d e = τ d e) (e1 : u d (e + 1) = τ d (e + 1)) (q : ∀ j, u (f + 200) j = τ (f + 200) j) : NT u c d e f g := by
  obtain ⟨an, mn, a, b, c'⟩ := h
  exact ⟨an, mn, NM2_KC a k, NMM_fr b e0 q, NMM_fr c' e1 q⟩
theorem NMM_cp {T u : Tau} {d e f g d' e' f' g' N : Nat} {ns : List (List Int)} (h : NMM T d e f g ns) (e0 : u d' e' = T d e) (q : ∀ j, j < N → qof u f' (g' + j) = qof T f (g + j)) (hN : ns.length ≤ N) : NMM u d' e' f' g' ns :=
  ⟨by rw [e0]; exact h.1, fun i hi => by rw [q i (by omega)]; exact h.2.1 i hi, h.2.2⟩
/-- names are copied in both -/
theorem NT_cp {τ u : Tau} {c d e f g c' d' e' f' g' : Nat} (h : NT τ c d e f g) (e2 : u c' 2 = τ c 2) (e3 : u c' 3 = τ c 3) (nq : NMq u (c' + 5) (c' + 6) τ (c + 5) (c + 6)) (e0 : u d' e' = τ d e) (e1 : u d' (e' + 1) = τ d (e + 1)) (q : ∀ j, j < 19 → qof u f' (g' + j) = qof τ f (g + j)) (r2 : R 0 9 (τ c 2)) (r3 : R 0 10 (τ c 3)) : NT u c' d' e' f' g' := by
  obtain ⟨an, mn, ⟨a1, a2⟩, b, m⟩ := h
  have l1 := a1.1
  have l2 := a2.1
  refine ⟨an, mn, ⟨NM_cp a1 e2 nq.1 r2, NM_cp a2 e3 nq.2 r3⟩, NMM_cp (N := 9) b e0 (fun j hj => q j (by omega)) (by omega), NMM_cp (N := 10) m e1 (fun j hj => ?_) (by omega)⟩
  rw [show g' + 9 + j = g' + (9 + j) by omega, show g + 9 + j = g + (9 + j) by omega]
  exact q _ (by omega)
theorem BR_kp {m : Nat → Bool} {τ u : Tau} (h : BR τ) (k : ZK m τ u) (m0 : m 0 = true) (m1 : m 1 = true) (hl : (u 1 1).toInt ≤ (τ 1 1).toInt) : BR u := fun j hj => by
  rw [k.1 m0, k.2.1 m1]; exact h j (by omega)
theorem NW_kp {m : Nat → Bool} {τ u : Tau} (h : NT τ 23 133 0 136 0) (k : ZK m τ u) (m3 : m 3 = true) (m4 : m 4 = true) : NT u 23 133 0 136 0 := by
  have p := k.2.2.2.2.1 m4
  exact NT_fr h (k.2.2.2.1 m3) p.1 p.2.1 p.2.2
theorem NI_kp {m : Nat → Bool} {τ u : Tau} (h : NI τ) (k : ZK m τ u) (m5 : m 5 = true) (m6 : m 6 = true) (m7 : m 7 = true) (m8 : m 8 = true) : NI u := by
  obtain ⟨k0, k1, k2, k3, k4, k5, k6, k7, k8, -, -⟩ := k
  have p := k7 m7
  refine ⟨fun q => NT_fr (h.1 (by rw [← (k8 m8).1]; exact q)) (k5 m5) (p.1 _) (p.1 _) p.2, fun q => NT_fr (h.2 (by rw [← (k8 m8).2]; exact q)) (k6 m6) (p.1 _) (p.1 _) p.2⟩
theorem FE_kp {m : Nat → Bool} {τ u : Tau} (h : FE τ) (k : ZK m τ u) (m9 : m 9 = true) (m10 : m 10 = true) : FE u := by
  unfold FE
  rw [k.2.2.2.2.2.2.2.2.2.1 m9, k.2.2.2.2.2.2.2.2.2.2 m10]; exact h
/-- bytes are fed to both -/
theorem BR_feed {τ t u : Tau} {f : Nat → Int} (h : BR τ) (e2 : ∀ j, u 2 j = t 2 j) (e132 : ∀ j, t 132 j = τ 132 j) (hI : Inv u) (hl : (τ 1 1).toInt = (τ 131 2).toInt) (hl2 : (t 131 2).toInt = (τ 131 2).toInt) (hl3 : (u 1 1).toInt = (t 1 1).toInt) (h0 : 0 ≤ (τ 1 1).toInt)
    (y1 : (τ 1 1).toInt + 20 ≤ 940 → AP τ t 2 (τ 1 1).toInt.toNat 20 f ∧ (t 1 1).toInt = (τ 1 1).toInt + 20) (y2 : (t 131 2).toInt + 20 ≤ 940 → AP t u 132 (t 131 2).toInt.toNat 20 f) (n1 : 940 < (τ 1 1).toInt + 20 → (∀ j, t 2 j = τ 2 j) ∧ (t 1 1).toInt = (τ 1 1).toInt) (n2 : 940 < (t 131 2).toInt + 20 → ∀ j, u 132 j = t 132 j) : BR u := by
  intro j hj
  by_cases c : (τ 1 1).toInt + 20 ≤ 940
  · obtain ⟨p1, l1⟩ := y1 c
    have p2 := y2 (by omega)
    rw [e2]
    have hR : R 0 255 (t 2 j) := by rw [← e2]; exact rd (K := 2) hI rfl rfl
    by_cases g : (j : Int) < (τ 1 1).toInt
    · rw [p2.1 j (by omega), e132, p1.1 j (by omega)]
      exact h j g
    · have q1 := p1.2 (j - (τ 1 1).toInt.toNat) (by omega)
      have q2 := p2.2 (j - (τ 1 1).toInt.toNat) (by omega)
      rw [show (τ 1 1).toInt.toNat + (j - (τ 1 1).toInt.toNat) = j by omega] at q1
      rw [show (t 131 2).toInt.toNat + (j - (τ 1 1).toInt.toNat) = j by omega] at q2
      rw [q2, ← q1]
      omega
  · have p1 := n1 (by omega)
    have p2 := n2 (by omega)
    rw [p2, e132, e2, p1.1]
    exact h j (by omega)
/-- the text that both read, and the model's names behind it -/
def bbT (τ : Tau) : Nat → Int := fun j => if j < 1000 then (τ 2 j).toInt else (qof τ 136 (j - 1000)).toInt
theorem bbT_c {τ : Tau} (h0 : 0 ≤ (τ 1 1).toInt) (h1 : (τ 1 1).toInt ≤ 940) : RB0 (bbT τ) (τ 1 1).toInt.toNat τ :=
  ⟨by omega, by omega, fun j hj => by unfold bbT; rw [if_pos (by omega)]⟩
theorem bbT_m {τ t : Tau} (h0 : 0 ≤ (τ 1 1).toInt) (h1 : (τ 1 1).toInt ≤ 940) (hl : (τ 1 1).toInt = (τ 131 2).toInt) (e : (t 131 2).toInt = (τ 131 2).toInt) (e132 : ∀ j, t 132 j = τ 132 j) (hB : BR τ) : MB0 (bbT τ) (τ 1 1).toInt.toNat t :=
  ⟨by omega, by omega, fun j hj => by unfold bbT; rw [if_pos (by omega), e132]; exact hB j (by omega)⟩
theorem bbT_n {τ t : Tau} (e : ∀ j, t 336 j = τ 336 j) : NB (bbT τ) t := fun i hi => by
  unfold bbT; rw [if_neg (by omega), show 1000 + i - 1000 = i by omega, qof_of (k := 136) e]
/-- names behind both ferries -/
theorem NT_ferry {τ t u : Tau} {x : Rs (Nat × FS)} {r r' : Int32} {f f' : Int} (h : NT τ 23 133 0 136 0) (e133 : t 133 0 = τ 133 0 ∧ t 133 1 = τ 133 1) (e336 : ∀ j, t 336 j = τ 336 j) (kc : KC 23 t u) (r2 : R 0 9 (τ 23 2)) (r3 : R 0 10 (τ 23 3))
    (q1 : QG x r f ((∀ j, t 23 j = τ 23 j) ∧ (∀ j, t 228 j = τ 228 j) ∧ ∀ j, t 229 j = τ 229 j) (fun f => PLc t f.2 ∧ PCn t f.2)) (q2 : QG x r' f' ((∀ j, u 133 j = t 133 j) ∧ NB (bbT τ) u) (fun f => PLm u f.2 ∧ PLn u f.2)) : NT u 23 133 0 136 0 ∧ r.toInt = r'.toInt ∧ f = f' := by
  cases x with
  | inl q =>
    obtain ⟨a1, a2, g1, g2, g3⟩ := q1.1 q rfl
    obtain ⟨b1, b2, k1, k2⟩ := q2.1 q rfl
    refine ⟨?_, by rw [a1, b1], by rw [a2, b2]⟩
    obtain ⟨an, mn, ⟨m1, m2⟩, m3, m4⟩ := h
    have l1 := m1.1
    have l2 := m2.1
    have hq : ∀ i, i < 19 → (qof u 136 i).toInt = (qof τ 136 i).toInt := fun i hi => by
      have z := k2 i hi
      unfold bbT at z
      rw [if_neg (by omega), show 1000 + i - 1000 = i by omega] at z
      exact z
    have n1 : NM t 23 2 28 an := NM_eq m1 (g1 2) g2
    have n2 : NM t 23 3 29 mn := NM_eq m2 (g1 3) g3
    refine ⟨an, mn, NM2_KC ⟨n1, n2⟩ kc, ⟨by rw [k1, e133.1]; exact m3.1, fun i hi => ?_, m3.2.2⟩, ⟨by show (u 133 1).toInt = _; rw [k1, e133.2]; exact m4.1, fun i hi => ?_, m4.2.2⟩⟩
    · rw [hq _ (by omega)]; exact m3.2.1 i hi
    · rw [hq _ (by omega)]; exact m4.2.1 i hi
  | inr g =>
    obtain ⟨a1, a2, g1, g2⟩ := q1.2 g rfl
    obtain ⟨b1, b2, k1, k2⟩ := q2.2 g rfl
    exact ⟨⟨_, _, NM2_KC ⟨g2.1, g2.2⟩ kc, k2.1, k2.2⟩, by rw [a1, b1], by rw [a2, b2]⟩
theorem NT_k {τ u : Tau} {c d e f g : Nat} (h : NT τ c d e f g) (k : KC c τ u) (e0 : u d e = τ d e) (e1 : u d (e + 1) = τ d (e + 1)) (q : ∀ j, j < 19 → qof u f (g + j) = qof τ f (g + j)) (r2 : R 0 9 (τ c 2)) (r3 : R 0 10 (τ c 3)) : NT u c d e f g :=
  NT_cp h k.1 k.2.1 ⟨fun j _ => qof_of (k := c + 5) k.2.2.1 j, fun j _ => qof_of (k := c + 6) k.2.2.2 j⟩ e0 e1 q r2 r3
/-- both keep an image -/
theorem NI_image {τ t u : Tau} {a r : Int32} (hW : NT τ 23 133 0 136 0) (hNI : NI τ) (rW2 : R 0 9 (τ 23 2)) (rW3 : R 0 10 (τ 23 3)) (ra2 : R 0 9 (τ 94 2)) (ra3 : R 0 10 (τ 94 3)) (rb2 : R 0 9 (τ 112 2)) (rb3 : R 0 10 (τ 112 3))
    (p4 : t 133 0 = τ 133 0 ∧ t 133 1 = τ 133 1 ∧ ∀ j, t 336 j = τ 336 j) (p7 : (∀ j, t 150 j = τ 150 j) ∧ ∀ j, t 351 j = τ 351 j) (p8 : t 152 0 = τ 152 0 ∧ t 152 1 = τ 152 1) (k5 : KC 94 t u) (k6 : KC 112 t u)
    (x4 : (a.toInt = 0 → ∀ j, j < 5 → t 94 j = τ 23 j) ∧ (a.toInt ≠ 0 → ∀ j, t 94 j = τ 94 j)) (x5 : (a.toInt = 1 → ∀ j, j < 5 → t 112 j = τ 23 j) ∧ (a.toInt ≠ 1 → ∀ j, t 112 j = τ 112 j))
    (x6 : (a.toInt = 0 → NMq t 99 100 τ 28 29) ∧ (a.toInt ≠ 0 → (∀ j, t 299 j = τ 299 j) ∧ ∀ j, t 300 j = τ 300 j)) (x7 : (a.toInt = 1 → NMq t 117 118 τ 28 29) ∧ (a.toInt ≠ 1 → (∀ j, t 317 j = τ 317 j) ∧ ∀ j, t 318 j = τ 318 j))
    (y3 : (a.toInt = 0 → (u 152 0).toInt = 1 ∧ u 152 1 = t 152 1) ∧ (a.toInt = 1 → (u 152 1).toInt = 1 ∧ u 152 0 = t 152 0)) (y4 : a.toInt < 0 ∨ 1 < a.toInt → u 152 0 = t 152 0 ∧ u 152 1 = t 152 1)
    (y5 : (r.toInt = 1 → (∀ j : Nat, j < 5 → u 150 ((513 * a.toInt).toNat + j) = t 133 j) ∧ ∀ j : Nat, ((j : Int) < 513 * a.toInt ∨ 513 * a.toInt + 513 ≤ (j : Int)) → u 150 j = t 150 j) ∧ (r.toInt = 0 → ∀ j, u 150 j = t 150 j))
    (y6 : (r.toInt = 1 → (∀ j : Nat, j < 19 → qof u 151 ((19 * a.toInt).toNat + j) = qof t 136 j) ∧ ∀ j : Nat, (j < (19 * a.toInt).toNat ∨ (19 * a.toInt).toNat + 19 ≤ j) → qof u 151 j = qof t 151 j) ∧ (r.toInt = 0 → ∀ j, u 351 j = t 351 j))
    (hin : 0 ≤ a.toInt ∧ a.toInt ≤ 1 → r.toInt = 1) (hout : a.toInt < 0 ∨ 1 < a.toInt → r.toInt = 0) : NI u := by
  have q136 : ∀ j, qof t 136 j = qof τ 136 j := qof_of (k := 136) p4.2.2
  have q151 : ∀ j, qof t 151 j = qof τ 151 j := qof_of (k := 151) p7.2
  rcases (show a.toInt = 0 ∨ a.toInt = 1 ∨ (a.toInt < 0 ∨ 1 < a.toInt) by clear x4 x5 x6 x7 y3 y4 y5 y6 hin hout; omega) with z | z | z
  · have n1 : a.toInt ≠ 1 := by rw [z]; decide
    have hr := hin ⟨by rw [z]; decide, by rw [z]; decide⟩
    have y5 := y5.1 hr
    have y6 := y6.1 hr
    have y3 := y3.1 z
    have x5 := x5.2 n1
    have x7 := x7.2 n1
    have x4 := x4.1 z
    have x6 := x6.1 z
    rw [z] at y5 y6
    refine ⟨fun _ => ?_, fun q => ?_⟩
    · refine NT_cp hW (k5.1.trans (x4 2 (by decide))) (k5.2.1.trans (x4 3 (by decide))) ⟨fun j hj => (qof_of (k := 99) k5.2.2.1 j).trans (x6.1 j hj), fun j hj => (qof_of (k := 100) k5.2.2.2 j).trans (x6.2 j hj)⟩ ((y5.1 0 (by decide)).trans p4.1) ((y5.1 1 (by decide)).trans p4.2.1) (fun j hj => ?_) rW2 rW3
      have w := y6.1 j hj
      rw [show ((19 * (0 : Int)).toNat + j) = 0 + j by simp] at w
      rw [w, Nat.zero_add, q136]
    · refine NT_k (hNI.2 (by rw [← p8.2, ← y3.2]; exact q)) (KC_two ⟨x5 2, x5 3, x7.1, x7.2⟩ k6) ((y5.2 513 (by omega)).trans (p7.1 _)) ((y5.2 514 (by omega)).trans (p7.1 _)) (fun j hj => ?_) rb2 rb3
      rw [y6.2 (19 + j) (by omega), q151]
  · have n0 : a.toInt ≠ 0 := by rw [z]; decide
    have hr := hin ⟨by rw [z]; decide, by rw [z]; decide⟩
    have y5 := y5.1 hr
    have y6 := y6.1 hr
    have y3 := y3.2 z
    have x4 := x4.2 n0
    have x6 := x6.2 n0
    have x5 := x5.1 z
    have x7 := x7.1 z
    rw [z] at y5 y6
    refine ⟨fun q => ?_, fun _ => ?_⟩
    · refine NT_k (hNI.1 (by rw [← p8.1, ← y3.2]; exact q)) (KC_two ⟨x4 2, x4 3, x6.1, x6.2⟩ k5) ((y5.2 0 (by omega)).trans (p7.1 _)) ((y5.2 1 (by omega)).trans (p7.1 _)) (fun j hj => ?_) ra2 ra3
      rw [y6.2 (0 + j) (by omega), q151]
    · refine NT_cp hW (k6.1.trans (x5 2 (by decide))) (k6.2.1.trans (x5 3 (by decide))) ⟨fun j hj => (qof_of (k := 117) k6.2.2.1 j).trans (x7.1 j hj), fun j hj => (qof_of (k := 118) k6.2.2.2 j).trans (x7.2 j hj)⟩ ((y5.1 0 (by decide)).trans p4.1) ((y5.1 1 (by decide)).trans p4.2.1) (fun j hj => ?_) rW2 rW3
      have w := y6.1 j hj
      rw [show ((19 * (1 : Int)).toNat + j) = 19 + j by simp] at w
      rw [w, Nat.zero_add, q136]
  · have hr := hout z
    have y5 := y5.2 hr
    have y6 := y6.2 hr
    have y4 := y4 z
    have n0 : a.toInt ≠ 0 := by clear x4 x5 x6 x7 y3 y4 y5 y6 hin hout; omega
    have n1 : a.toInt ≠ 1 := by clear x4 x5 x6 x7 y3 y4 y5 y6 hin hout; omega
    have x4 := x4.2 n0
    have x6 := x6.2 n0
    have x5 := x5.2 n1
    have x7 := x7.2 n1
    refine ⟨fun q => NT_fr (hNI.1 (by rw [← p8.1, ← y4.1]; exact q)) (KC_two ⟨x4 2, x4 3, x6.1, x6.2⟩ k5) ((y5 _).trans (p7.1 _)) ((y5 _).trans (p7.1 _)) (fun j => (y6 j).trans (p7.2 j)), fun q => NT_fr (hNI.2 (by rw [← p8.2, ← y4.2]; exact q)) (KC_two ⟨x5 2, x5 3, x7.1, x7.2⟩ k6) ((y5 _).trans (p7.1 _)) ((y5 _).trans (p7.1 _)) (fun j => (y6 j).trans (p7.2 j))⟩
/-- both take an image back -/
theorem NT_restore {τ t u : Tau} {a r r' : Int32} (hW : NT τ 23 133 0 136 0) (hNI : NI τ) (ra2 : R 0 9 (τ 94 2)) (ra3 : R 0 10 (τ 94 3)) (rb2 : R 0 9 (τ 112 2)) (rb3 : R 0 10 (τ 112 3))
    (p4 : t 133 0 = τ 133 0 ∧ t 133 1 = τ 133 1 ∧ ∀ j, t 336 j = τ 336 j) (p7 : (∀ j, t 150 j = τ 150 j) ∧ ∀ j, t 351 j = τ 351 j) (p8 : t 152 0 = τ 152 0 ∧ t 152 1 = τ 152 1) (k3 : KC 23 t u)
    (c0 : (r.toInt = 0 → ∀ j, t 23 j = τ 23 j) ∧ (r.toInt = 1 → a.toInt = 0 → ∀ j, j < 5 → t 23 j = τ 94 j) ∧ (r.toInt = 1 → a.toInt = 1 → ∀ j, j < 5 → t 23 j = τ 112 j))
    (c1 : (r.toInt = 0 → (∀ j, t 228 j = τ 228 j) ∧ ∀ j, t 229 j = τ 229 j) ∧ (r.toInt = 1 → a.toInt = 0 → NMq t 28 29 τ 99 100) ∧ (r.toInt = 1 → a.toInt = 1 → NMq t 28 29 τ 117 118))
    (m0 : (r'.toInt = 1 → ∀ j : Nat, j < 5 → u 133 j = t 150 ((513 * a.toInt).toNat + j)) ∧ (r'.toInt = 0 → ∀ j, u 133 j = t 133 j)) (m1 : (r'.toInt = 1 → ∀ j : Nat, j < 19 → qof u 136 (0 + j) = qof t 151 ((19 * a.toInt).toNat + j)) ∧ (r'.toInt = 0 → ∀ j, u 336 j = t 336 j))
    (f0 : a.toInt = 0 → r'.toInt = (t 152 0).toInt) (f1 : a.toInt = 1 → r'.toInt = (t 152 1).toInt) (hout : a.toInt < 0 ∨ 1 < a.toInt → r'.toInt = 0) (hr : r.toInt = r'.toInt) (h01 : r.toInt = 0 ∨ r.toInt = 1) : NT u 23 133 0 136 0 := by
  have q151 : ∀ j, qof t 151 j = qof τ 151 j := qof_of (k := 151) p7.2
  rcases h01 with z | z
  · have c0 := c0.1 z
    have c1 := c1.1 z
    have m0 := m0.2 (by rw [← hr]; exact z)
    have m1 := m1.2 (by rw [← hr]; exact z)
    exact NT_fr hW (KC_two ⟨c0 2, c0 3, c1.1, c1.2⟩ k3) ((m0 0).trans p4.1) ((m0 1).trans p4.2.1) (fun j => (m1 j).trans (p4.2.2 j))
  · have z' : r'.toInt = 1 := by rw [← hr]; exact z
    have m0 := m0.1 z'
    have m1 := m1.1 z'
    rcases (show a.toInt = 0 ∨ a.toInt = 1 ∨ (a.toInt < 0 ∨ 1 < a.toInt) by clear c0 c1 m0 m1 f0 f1 hout; omega) with g | g | g
    · have c0 := c0.2.1 z g
      have c1 := c1.2.1 z g
      have i := hNI.1 (by rw [← p8.1, ← f0 g]; exact z')
      rw [g] at m0 m1
      refine NT_cp i (k3.1.trans (c0 2 (by decide))) (k3.2.1.trans (c0 3 (by decide))) ⟨fun j hj => (qof_of (k := 28) k3.2.2.1 j).trans (c1.1 j hj), fun j hj => (qof_of (k := 29) k3.2.2.2 j).trans (c1.2 j hj)⟩ ((m0 0 (by decide)).trans (p7.1 _)) ((m0 1 (by decide)).trans (p7.1 _)) (fun j hj => ?_) ra2 ra3
      rw [m1 j hj, q151, show ((19 * (0 : Int)).toNat + j) = 0 + j by simp]
    · have c0 := c0.2.2 z g
      have c1 := c1.2.2 z g
      have i := hNI.2 (by rw [← p8.2, ← f1 g]; exact z')
      rw [g] at m0 m1
      refine NT_cp i (k3.1.trans (c0 2 (by decide))) (k3.2.1.trans (c0 3 (by decide))) ⟨fun j hj => (qof_of (k := 28) k3.2.2.1 j).trans (c1.1 j hj), fun j hj => (qof_of (k := 29) k3.2.2.2 j).trans (c1.2 j hj)⟩ ((m0 0 (by decide)).trans (p7.1 _)) ((m0 1 (by decide)).trans (p7.1 _)) (fun j hj => ?_) rb2 rb3
      rw [m1 j hj, q151, show ((19 * (1 : Int)).toNat + j) = 19 + j by simp]
    · have := hout g
      exact absurd z' (by rw [this]; decide)
