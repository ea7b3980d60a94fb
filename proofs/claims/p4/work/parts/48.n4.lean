/-! the whole text, as the model reads it -/
def MB0 (bb : Nat → Int) (nb : Nat) (τ : Tau) : Prop := (τ 131 2).toInt = nb ∧ nb ≤ 940 ∧ ∀ j, j < nb → (τ 132 j).toInt % 256 = bb j
theorem RH_0 {u : Tau} (h20 : (u 131 20).toInt = 0) (h2 : (u 134 2).toInt = 4) (hz : ∀ j : Nat, j < 125 → j ≠ 2 → (u 134 j).toInt = 0) : RH u ps0 := by
  have z20 : u 131 20 = 0 := Int32.toInt_inj.mp (by rw [h20]; rfl)
  refine ⟨?_, ?_, h2, hz 3 (by decide) (by decide), Int32.toInt_inj.mp (by rw [hz 4 (by decide) (by decide)]; rfl), ⟨by rw [hz 0 (by decide) (by decide)]; rfl, fun i hi => absurd hi (Nat.not_lt_zero _), fun l hl => by cases hl⟩, ⟨by rw [hz 1 (by decide) (by decide)]; rfl, fun i hi => absurd hi (Nat.not_lt_zero _), fun l hl => by cases hl⟩, fun i hi => ?_, fun i j hi hj => ?_⟩
  · rw [z20]; exact ⟨fun h => absurd h (kb_0 0), fun h => absurd h (by show ¬ false = true; decide)⟩
  · rw [z20]; exact ⟨fun h => absurd h (kb_0 1), fun h => absurd h (by show ¬ false = true; decide)⟩
  · rw [hz _ (by omega) (by omega)]
    exact ⟨fun h => absurd h (by decide), fun h => absurd h (by show ¬ false = true; decide)⟩
  · rw [show u 134 (115 + i) = 0 from Int32.toInt_inj.mp (by rw [hz _ (by omega) (by omega)]; rfl)]
    exact ⟨fun h => absurd h (kb_0 j), fun h => absurd h (by show ¬ false = true; decide)⟩
theorem sSeats_w {b : Nat → Int} {n : Nat} {f g : FS} (h : sLine b n f = .inr g) : f.1.1 = 1 := by
  by_cases h0 : isW b 0 f.1
  · exact h0.1
  by_cases h1 : isW b 1 f.1
  · exact h1.1
  by_cases h2 : isW b 2 f.1
  · exact h2.1
  by_cases h3 : isW b 3 f.1
  · exact h3.1
  by_cases h6 : isW b 6 f.1
  · exact h6.1
  by_cases h7 : isW b 7 f.1
  · exact h7.1
  rw [sLine_b h0 h1 h2 h3 h6 h7] at h
  cases h
/-- the five numbers of a FERRY -/
def PLm (u : Tau) (s : PS) : Prop := (u 133 0).toInt = (gan s).length ∧ (u 133 1).toInt = (gmn s).length ∧ (u 133 2).toInt = gse s ∧ (u 133 3).toInt = gsl s ∧ u 133 4 = Int32.ofNat (gkn s)
def PLc (u : Tau) (s : PS) : Prop := (u 23 2).toInt = (gan s).length ∧ (u 23 3).toInt = (gmn s).length ∧ (u 23 0).toInt = gse s ∧ (u 23 1).toInt = gsl s ∧ u 23 4 = Int32.ofNat (gkn s)
theorem PLm_of {u t : Tau} {s : PS} (h : RH t s) (e : ∀ j : Nat, j < 5 → u 133 j = t 134 j) : PLm u s :=
  ⟨by rw [e 0 (by decide)]; exact h.2.2.2.2.2.1.1, by rw [e 1 (by decide)]; exact h.2.2.2.2.2.2.1.1, by rw [e 2 (by decide)]; exact h.2.2.1, by rw [e 3 (by decide)]; exact h.2.2.2.1, by rw [e 4 (by decide)]; exact h.2.2.2.2.1⟩
theorem PLc_of {u t : Tau} {s : PS} (h : RP t s) (e : ∀ j : Nat, j < 5 → u 23 j = t 4 j) : PLc u s :=
  ⟨by rw [e 2 (by decide)]; exact (RP_anm h).1, by rw [e 3 (by decide)]; exact (RP_mnm h).1, by rw [e 0 (by decide)]; exact h.2.2.1, by rw [e 1 (by decide)]; exact h.2.2.2.1, by rw [e 4 (by decide)]; exact h.2.2.2.2.1⟩
/-- what a ferry answers -/
def QF {α : Type} (x : Rs (Nat × α)) (r : Int32) (bad : Prop) (good : α → Prop) : Prop := (∀ q, x = .inl q → r.toInt = -1 - (q.2 : Int) ∧ bad) ∧ ∀ g, x = .inr g → r.toInt = g.1 ∧ good g.2
theorem QF_l {α : Type} {x : Rs (Nat × α)} {r : Int32} {bad : Prop} {good : α → Prop} {q : Nat × Nat} (e : x = .inl q) (h : r.toInt = -1 - (q.2 : Int)) (hb : bad) : QF x r bad good := by
  subst e
  exact ⟨fun q' e => (by cases e; exact ⟨h, hb⟩), fun g e => (by cases e)⟩
theorem QF_r {α : Type} {x : Rs (Nat × α)} {r : Int32} {bad : Prop} {good : α → Prop} {g : Nat × α} (e : x = .inr g) (h : r.toInt = g.1) (hg : good g.2) : QF x r bad good := by
  subst e
  exact ⟨fun q e => (by cases e), fun g' e => (by cases e; exact ⟨h, hg⟩)⟩
theorem QF_two {α : Type} {x : Rs (Nat × α)} {r r' : Int32} {b1 b2 : Prop} {g1 g2 : α → Prop} (h : QF x r b1 g1) (h' : QF x r' b2 g2) : r.toInt = r'.toInt := by
  cases x with
  | inl q => rw [(h.1 q rfl).1, (h'.1 q rfl).1]
  | inr g => rw [(h.2 g rfl).1, (h'.2 g rfl).1]
theorem zero_up {t u : Tau} {k : Nat} {i i' x : Int32} (h : ∀ j : Nat, (j : Int) < i.toInt → (t k j).toInt = 0) (hM : Mu t u k i.toNatClampNeg x) (hx : x.toInt = 0) (hi : i'.toInt = i.toInt + 1) (h0 : 0 ≤ i.toInt) : ∀ j : Nat, (j : Int) < i'.toInt → (u k j).toInt = 0 := by
  intro j hj
  have c : i.toNatClampNeg = i.toInt.toNat := rfl
  by_cases e : j = i.toNatClampNeg
  · rw [e, hM.1]; exact hx
  · rw [hM.2 k j (Or.inr e)]; exact h j (by omega)
theorem copy5 {t u T : Tau} {i i' x : Int32} (h : ∀ j : Nat, (j : Int) < i.toInt → j < 5 → t 133 j = T 134 j) (hM : Mu t u 133 i.toNatClampNeg x) (hx : i.toInt < 5 → T 134 i.toNatClampNeg = x) (hi : i'.toInt = i.toInt + 1) (h0 : 0 ≤ i.toInt) : ∀ j : Nat, (j : Int) < i'.toInt → j < 5 → u 133 j = T 134 j := by
  intro j hj h5
  have c : i.toNatClampNeg = i.toInt.toNat := rfl
  by_cases e : j = i.toNatClampNeg
  · rw [e, hM.1]; exact (hx (by omega)).symm
  · rw [hM.2 133 j (Or.inr e)]; exact h j (by omega) h5
