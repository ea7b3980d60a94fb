/-! the model's sentence: operands ahead of their operators -/
def cdw (w : Int32) : Int := if w.toInt = 20 then 0 else if w.toInt = 21 ∨ w.toInt = 22 then -1 else 1
def dpf (f : Nat → Int32) (o : Nat) : Nat → Int
  | 0 => 0
  | i + 1 => dpf f o i + cdw (f (o + 3 * i))
def rok (f : Nat → Int32) (o i : Nat) : Prop := ((f (o + 3 * i)).toInt = 20 → 1 ≤ dpf f o i) ∧ ((f (o + 3 * i)).toInt = 21 ∨ (f (o + 3 * i)).toInt = 22 → 2 ≤ dpf f o i) ∧ ((f (o + 3 * i)).toInt = 4 ∨ (f (o + 3 * i)).toInt = 5 → 0 ≤ (f (o + 3 * i + 2)).toInt ∧ (f (o + 3 * i + 2)).toInt ≤ 8)
def PFn (f : Nat → Int32) (o : Nat) (n : Int) : Prop := ∀ i : Nat, (i : Int) < n → rok f o i
def binN (f : Nat → Int32) : Nat → Int
  | 0 => 0
  | i + 1 => binN f i + (if (f i).toInt = 21 ∨ (f i).toInt = 22 then 1 else 0)
theorem binN_nn (f : Nat → Int32) : ∀ n, 0 ≤ binN f n
  | 0 => Int.le_refl _
  | n + 1 => by have := binN_nn f n; unfold binN; split <;> omega
theorem binN_eq {f g : Nat → Int32} : ∀ n, (∀ j, j < n → f j = g j) → binN f n = binN g n
  | 0, _ => rfl
  | n + 1, h => by unfold binN; rw [binN_eq n (fun j hj => h j (by omega)), h n (by omega)]
theorem dpf_eq {f g : Nat → Int32} {o p : Nat} : ∀ n, (∀ j, j < 3 * n → f (o + j) = g (p + j)) → dpf f o n = dpf g p n
  | 0, _ => rfl
  | n + 1, h => by unfold dpf; rw [dpf_eq n (fun j hj => h j (by omega)), h (3 * n) (by omega)]
theorem rok_eq {f g : Nat → Int32} {o p i : Nat} (h : ∀ j, j < 3 * i + 3 → f (o + j) = g (p + j)) (hr : rok g p i) : rok f o i := by
  have e1 := dpf_eq (f := f) (g := g) (o := o) (p := p) i (fun j hj => h j (by omega))
  have e2 := h (3 * i) (by omega)
  have e3 := h (3 * i + 2) (by omega)
  unfold rok at hr ⊢
  rw [e1, e2, Nat.add_assoc, e3, ← Nat.add_assoc]
  exact hr
theorem PFn_eq {f g : Nat → Int32} {o p : Nat} {n : Int} (h : ∀ j : Nat, (j : Int) < 3 * n → f (o + j) = g (p + j)) (hp : PFn g p n) : PFn f o n := fun i hi =>
  rok_eq (fun j hj => h j (by omega)) (hp i hi)
def SI (τ : Tau) : Prop := 0 ≤ (τ 131 41).toInt ∧ 0 ≤ (τ 131 43).toInt ∧ PFn (τ 135) 0 (τ 131 41).toInt ∧ dpf (τ 135) 0 (τ 131 41).toInt.toNat = binN (τ 148) (τ 131 43).toInt.toNat + (τ 131 45).toInt ∧ (τ 131 41).toInt + (τ 131 43).toInt ≤ 2 * (τ 131 42).toInt - (τ 131 45).toInt
theorem SI_eq {τ u : Tau} (h : SI τ) (e1 : ∀ j, u 135 j = τ 135 j) (e2 : ∀ j, u 148 j = τ 148 j) (e3 : u 131 41 = τ 131 41) (e4 : u 131 42 = τ 131 42) (e5 : u 131 43 = τ 131 43) (e6 : u 131 45 = τ 131 45) : SI u := by
  have f1 : u 135 = τ 135 := funext e1
  have f2 : u 148 = τ 148 := funext e2
  unfold SI at h ⊢
  rw [f1, f2, e3, e4, e5, e6]; exact h
theorem SI_b {τ : Tau} {c t o w : Int32} (h : SI τ) (e3 : τ 131 41 = c) (e4 : τ 131 42 = o) (e5 : τ 131 43 = t) (e6 : τ 131 45 = w) : 0 ≤ c.toInt ∧ 0 ≤ t.toInt ∧ c.toInt + t.toInt ≤ 2 * o.toInt - w.toInt := by
  obtain ⟨h1, h2, -, -, h5⟩ := h
  rw [e3] at h1 h5; rw [e5] at h2 h5; rw [e4, e6] at h5
  exact ⟨h1, h2, h5⟩
theorem SI_0 {τ : Tau} {c t o w : Int32} (e3 : τ 131 41 = c) (e4 : τ 131 42 = o) (e5 : τ 131 43 = t) (e6 : τ 131 45 = w) (hc : c.toInt = 0) (ho : o.toInt = 0) (ht : t.toInt = 0) (hw : w.toInt = 0) : SI τ := by
  unfold SI
  rw [e3, e4, e5, e6, hc, ho, ht, hw]
  refine ⟨Int.le_refl _, Int.le_refl _, fun i hi => by exfalso; omega, rfl, by decide⟩
/-- a row is written behind the others -/
def CD (τ u : Tau) (a b d : Int32) : Prop := (∀ j : Nat, (j : Int) < 3 * (τ 131 41).toInt → u 135 j = τ 135 j) ∧ u 135 (3 * (τ 131 41).toInt.toNat) = a ∧ u 135 (3 * (τ 131 41).toInt.toNat + 1) = b ∧ u 135 (3 * (τ 131 41).toInt.toNat + 2) = d
theorem CD_mk {τ a b d u : Tau} {c i0 i1 i2 x y z c' : Int32} (ec : τ 131 41 = c) (M0 : Mu τ a 135 i0.toNatClampNeg x) (M1 : Mu a b 135 i1.toNatClampNeg y) (M2 : Mu b d 135 i2.toNatClampNeg z) (M3 : Mu d u 131 41 c') (hc : 0 ≤ c.toInt) (e0 : i0.toInt = 3 * c.toInt) (e1 : i1.toInt = 3 * c.toInt + 1) (e2 : i2.toInt = 3 * c.toInt + 2) : CD τ u x y z := by
  have t0 := tn (i := i0) (by omega)
  have t1 := tn (i := i1) (by omega)
  have t2 := tn (i := i2) (by omega)
  unfold CD
  rw [ec]
  refine ⟨fun j hj => ?_, ?_, ?_, ?_⟩
  · rw [M3.2 135 j (Or.inl (by decide)), M2.2 135 j (Or.inr (by omega)), M1.2 135 j (Or.inr (by omega)), M0.2 135 j (Or.inr (by omega))]
  · rw [show 3 * c.toInt.toNat = i0.toNatClampNeg by omega, M3.2 135 _ (Or.inl (by decide)), M2.2 135 _ (Or.inr (by omega)), M1.2 135 _ (Or.inr (by omega)), M0.1]
  · rw [show 3 * c.toInt.toNat + 1 = i1.toNatClampNeg by omega, M3.2 135 _ (Or.inl (by decide)), M2.2 135 _ (Or.inr (by omega)), M1.1]
  · rw [show 3 * c.toInt.toNat + 2 = i2.toNatClampNeg by omega, M3.2 135 _ (Or.inl (by decide)), M2.1]
/-- rows and depth behind a new row -/
theorem CD_use {τ u : Tau} {a b d : Int32} (h : CD τ u a b d) (h0 : 0 ≤ (τ 131 41).toInt) (hp : PFn (τ 135) 0 (τ 131 41).toInt) (hu : (u 131 41).toInt = (τ 131 41).toInt + 1) (k1 : a.toInt = 20 → 1 ≤ dpf (τ 135) 0 (τ 131 41).toInt.toNat) (k2 : a.toInt = 21 ∨ a.toInt = 22 → 2 ≤ dpf (τ 135) 0 (τ 131 41).toInt.toNat) (k3 : a.toInt = 4 ∨ a.toInt = 5 → 0 ≤ d.toInt ∧ d.toInt ≤ 8) : PFn (u 135) 0 (u 131 41).toInt ∧ dpf (u 135) 0 (u 131 41).toInt.toNat = dpf (τ 135) 0 (τ 131 41).toInt.toNat + cdw a := by
  obtain ⟨h1, h2, h3, h4⟩ := h
  generalize hc : (τ 131 41).toInt = c at *
  have e1 : dpf (u 135) 0 c.toNat = dpf (τ 135) 0 c.toNat := dpf_eq _ (fun j hj => by rw [Nat.zero_add]; exact h1 j (by omega))
  refine ⟨fun i hi => ?_, ?_⟩
  · by_cases q : (i : Int) < c
    · exact rok_eq (fun j hj => by rw [Nat.zero_add]; exact h1 j (by omega)) (hp i q)
    · have ei : i = c.toNat := by omega
      subst ei
      unfold rok
      rw [Nat.zero_add, e1, h2, h4]
      exact ⟨k1, k2, k3⟩
  · have e2 : (u 131 41).toInt.toNat = c.toNat + 1 := by omega
    rw [e2]
    show dpf (u 135) 0 c.toNat + cdw (u 135 (0 + 3 * c.toNat)) = _
    rw [e1, Nat.zero_add, h2]
theorem SI_pop {τ a u : Tau} {t' v x y z : Int32} (h : SI τ) (e1 : ∀ j, a 135 j = τ 135 j) (e2 : ∀ j, a 148 j = τ 148 j) (e3 : a 131 41 = τ 131 41) (e4 : a 131 42 = τ 131 42) (e5 : a 131 43 = t') (e6 : a 131 45 = τ 131 45) (ht : t'.toInt = (τ 131 43).toInt - 1) (ht0 : 0 ≤ t'.toInt) (hz : τ 148 t'.toNatClampNeg = v) (hv : v.toInt = x.toInt) (h3 : v.toInt = 20 ∨ v.toInt = 21 ∨ v.toInt = 22) (cd : CD a u x y z) (fr : Fr [(131, 41)] [135] a u) (hc : (u 131 41).toInt = (a 131 41).toInt + 1) (hw : (τ 131 45).toInt = 1) : SI u := by
  obtain ⟨h1, h2, hp, hd, hb⟩ := h
  have f1 : a 135 = τ 135 := funext e1
  have f2 : u 148 = τ 148 := by
    funext j; rw [fr 148 j (by simp [fz])]; exact e2 j
  have g4 : u 131 42 = τ 131 42 := (fr 131 42 (by decide)).trans e4
  have g5 : u 131 43 = t' := (fr 131 43 (by decide)).trans e5
  have g6 : u 131 45 = τ 131 45 := (fr 131 45 (by decide)).trans e6
  have hts : (τ 131 43).toInt.toNat = t'.toInt.toNat + 1 := by omega
  have hb2 : binN (τ 148) (τ 131 43).toInt.toNat = binN (τ 148) t'.toInt.toNat + (if v.toInt = 21 ∨ v.toInt = 22 then 1 else 0) := by
    rw [hts]
    show binN (τ 148) t'.toInt.toNat + (if (τ 148 t'.toInt.toNat).toInt = 21 ∨ (τ 148 t'.toInt.toNat).toInt = 22 then 1 else 0) = _
    rw [show τ 148 t'.toInt.toNat = v from hz]
  have hn := binN_nn (τ 148) t'.toInt.toNat
  have q := CD_use cd (by rw [e3]; exact h1) (by rw [f1, e3]; exact hp) hc (by rw [f1, e3, hd]; intro q; split at hb2 <;> omega) (by rw [f1, e3, hd]; intro q; rw [if_pos (by omega)] at hb2; omega) (by intro q; omega)
  refine ⟨by rw [hc, e3]; omega, by rw [g5]; exact ht0, q.1, ?_, ?_⟩
  · rcases (show v.toInt = 20 ∨ (v.toInt = 21 ∨ v.toInt = 22) from h3) with k | k
    · have c1 : cdw x = 0 := by unfold cdw; rw [if_pos (by omega)]
      rw [if_neg (by omega)] at hb2
      rw [q.2, f1, e3, hd, f2, g5, g6, hb2, c1]; omega
    · have c1 : cdw x = -1 := by unfold cdw; rw [if_neg (by omega), if_pos (by omega)]
      rw [if_pos k] at hb2
      rw [q.2, f1, e3, hd, f2, g5, g6, hb2, c1]; omega
  · rw [hc, e3, g5, g4, g6]; omega
theorem SI_leaf {τ a u : Tau} {x y z o' w' : Int32} (h : SI τ) (e1 : ∀ j, a 135 j = τ 135 j) (e2 : ∀ j, a 148 j = τ 148 j) (e3 : a 131 41 = τ 131 41) (e4 : a 131 42 = o') (e5 : a 131 43 = τ 131 43) (e6 : a 131 45 = w') (ho : o'.toInt = (τ 131 42).toInt + 1) (hw' : w'.toInt = 1) (hw : (τ 131 45).toInt = 0) (hx : 0 ≤ x.toInt ∧ x.toInt ≤ 19) (k3 : x.toInt = 4 ∨ x.toInt = 5 → 0 ≤ z.toInt ∧ z.toInt ≤ 8) (cd : CD a u x y z) (fr : Fr [(131, 41)] [135] a u) (hc : (u 131 41).toInt = (a 131 41).toInt + 1) : SI u := by
  obtain ⟨h1, h2, hp, hd, hb⟩ := h
  have f1 : a 135 = τ 135 := funext e1
  have f2 : u 148 = τ 148 := by
    funext j; rw [fr 148 j (by simp [fz])]; exact e2 j
  have g4 : u 131 42 = o' := (fr 131 42 (by decide)).trans e4
  have g5 : u 131 43 = τ 131 43 := (fr 131 43 (by decide)).trans e5
  have g6 : u 131 45 = w' := (fr 131 45 (by decide)).trans e6
  have q := CD_use cd (by rw [e3]; exact h1) (by rw [f1, e3]; exact hp) hc (by intro q; omega) (by intro q; omega) k3
  refine ⟨by rw [hc, e3]; omega, by rw [g5]; exact h2, q.1, ?_, ?_⟩
  · rw [q.2, f1, e3, hd, f2, g5, g6]
    unfold cdw
    rw [if_neg (by omega), if_neg (by omega)]; omega
  · rw [hc, e3, g5, g4, g6]; omega
/-- something is laid onto the stack -/
theorem SI_push {τ u : Tau} {o' t' w' v t : Int32} (h : SI τ) (e1 : ∀ j, u 135 j = τ 135 j) (e3 : u 131 41 = τ 131 41) (e4 : u 131 42 = o') (e5 : u 131 43 = t') (e6 : u 131 45 = w') (et : τ 131 43 = t) (e2 : ∀ j, j ≠ t.toNatClampNeg → u 148 j = τ 148 j) (ev : u 148 t.toNatClampNeg = v) (ht : t'.toInt = t.toInt + 1) (k : (w'.toInt = (τ 131 45).toInt ∧ o'.toInt = (τ 131 42).toInt + 1 ∧ v.toInt ≠ 21 ∧ v.toInt ≠ 22) ∨ (w'.toInt = 0 ∧ (τ 131 45).toInt = 1 ∧ o'.toInt = (τ 131 42).toInt ∧ (v.toInt = 21 ∨ v.toInt = 22))) : SI u := by
  obtain ⟨h1, h2, hp, hd, hb⟩ := h
  rw [et] at h2 hd hb
  have tt := tn h2
  have f1 : u 135 = τ 135 := funext e1
  have hb2 : binN (u 148) t'.toInt.toNat = binN (τ 148) t.toInt.toNat + (if v.toInt = 21 ∨ v.toInt = 22 then 1 else 0) := by
    rw [show t'.toInt.toNat = t.toInt.toNat + 1 by omega]
    show binN (u 148) t.toInt.toNat + (if (u 148 t.toInt.toNat).toInt = 21 ∨ (u 148 t.toInt.toNat).toInt = 22 then 1 else 0) = _
    rw [show u 148 t.toInt.toNat = v from ev, binN_eq t.toInt.toNat (fun j hj => e2 j (by omega))]
  refine ⟨by rw [e3]; exact h1, by rw [e5]; omega, by rw [f1, e3]; exact hp, ?_, ?_⟩
  · rw [f1, e3, hd, e5, e6, hb2]
    rcases k with k | k
    · rw [if_neg (by omega)]; omega
    · rw [if_pos k.2.2.2]; omega
  · rw [e3, e5, e4, e6]; omega
theorem SI_close {τ u : Tau} {t t' : Int32} (h : SI τ) (e1 : ∀ j, u 135 j = τ 135 j) (e2 : ∀ j, u 148 j = τ 148 j) (e3 : u 131 41 = τ 131 41) (e4 : u 131 42 = τ 131 42) (e5 : u 131 43 = t') (e6 : u 131 45 = τ 131 45) (et : τ 131 43 = t) (ht : t'.toInt = t.toInt - 1) (ht0 : 1 ≤ t.toInt) (hv : (τ 148 (t.toInt - 1).toNat).toInt ≠ 21 ∧ (τ 148 (t.toInt - 1).toNat).toInt ≠ 22) : SI u := by
  obtain ⟨h1, h2, hp, hd, hb⟩ := h
  rw [et] at h2 hd hb
  have f1 : u 135 = τ 135 := funext e1
  have f2 : u 148 = τ 148 := funext e2
  have hb2 : binN (τ 148) t.toInt.toNat = binN (τ 148) t'.toInt.toNat := by
    rw [show t.toInt.toNat = t'.toInt.toNat + 1 by omega]
    show binN (τ 148) t'.toInt.toNat + (if (τ 148 t'.toInt.toNat).toInt = 21 ∨ (τ 148 t'.toInt.toNat).toInt = 22 then 1 else 0) = _
    rw [show t'.toInt.toNat = (t.toInt - 1).toNat by omega, if_neg (by omega)]; omega
  refine ⟨by rw [e3]; exact h1, by rw [e5]; omega, by rw [f1, e3]; exact hp, ?_, ?_⟩
  · rw [f1, e3, hd, e5, e6, f2, hb2]
  · rw [e3, e5, e4, e6]; omega
/-- what the model's sentence is, where it stands in f behind place o -/
def PFo (f : Nat → Int32) (o : Nat) : Prop := 0 ≤ (f (o + 332)).toInt ∧ (f (o + 332)).toInt ≤ 40 ∧ PFn f (o + 333) (f (o + 332)).toInt
def PF (τ : Tau) : Prop := PFo (τ 133) 0
def PK (τ : Tau) : Prop := PFo (τ 150) 0 ∧ PFo (τ 150) 513
theorem PFo_eq {f g : Nat → Int32} {o p : Nat} (h : ∀ j, 332 ≤ j → j < 513 → f (o + j) = g (p + j)) (hp : PFo g p) : PFo f o := by
  obtain ⟨h1, h2, h3⟩ := hp
  have e := h 332 (by decide) (by decide)
  refine ⟨by rw [e]; exact h1, by rw [e]; exact h2, ?_⟩
  rw [e]
  refine PFn_eq (fun j hj => ?_) h3
  have := h (333 + j) (by omega) (by omega)
  rw [← Nat.add_assoc, ← Nat.add_assoc] at this
  exact this
theorem PF_eq {τ u : Tau} (h : PF τ) (e : ∀ j, 332 ≤ j → u 133 j = τ 133 j) : PF u := PFo_eq (fun j h1 _ => by rw [Nat.zero_add]; exact e j h1) h
theorem PF_0 {τ : Tau} (e : (τ 133 332).toInt = 0) : PF τ := by
  unfold PF PFo
  rw [Nat.zero_add, e]
  exact ⟨Int.le_refl _, by decide, fun i hi => by exfalso; omega⟩
