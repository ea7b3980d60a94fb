/-! the whole text, as the model reads it -/
def MB0 (bb : Nat → Int) (nb : Nat) (τ : Tau) : Prop := (τ 131 2).toInt = nb ∧ nb ≤ 940 ∧ ∀ j, j < nb → (τ 132 j).toInt % 256 = bb j
theorem RH_0 {u : Tau} (h20 : (u 131 20).toInt = 0) (h2 : (u 134 2).toInt = 4) (hz : ∀ j : Nat, j < 125 → j ≠ 2 → (u 134 j).toInt = 0) : RH u ps0 := by
  have z20 : u 131 20 = 0 := Int32.toInt_inj.mp (by rw [h20]; rfl)
  refine ⟨?_, ?_, h2, hz 3 (by decide) (by decide), Int32.toInt_inj.mp (by rw [hz 4 (by decide) (by decide)]; rfl), ⟨by rw [hz 0 (by decide) (by decide)]; rfl, fun i hi => absurd hi (Nat.not_lt_zero _), fun l hl => by cases hl⟩, ⟨by rw [hz 1 (by decide) (by decide)]; rfl, fun i hi => absurd hi (Nat.not_lt_zero _), fun l hl => by cases hl⟩, fun i hi => ?_, fun i j hi hj => ?_⟩
  · rw [z20]; exact ⟨fun h => absurd h (kb_0 0), fun h => absurd h (by show ¬ false = true; decide)⟩
  · rw [z20]; exact ⟨fun h => absurd h (kb_0 1), fun h => absurd h (by show ¬ false = true; decide)⟩
  · rw [hz _ (by omega) (by omega)]
    exact ⟨fun h => absurd h (by decide), fun h => absurd h (by show ¬ false = true; decide)⟩
  · rw [show u 134 (115 + i) = 0 from Int32.toInt_inj.mp (by rw [hz _ (by omega) (by omega)]; rfl)]
    exact ⟨fun h => absurd h (kb_0 j), fun h => absurd h (by show ¬ false = true; decide)⟩
theorem sSeats_w {b : Nat → Int} {n : Nat} {f g : FS} (h : sLine b n f = .inr g) : f.1.1 = 1 := by
  by_cases h0 : isW b 0 f.1
  · exact h0.1
  by_cases h1 : isW b 1 f.1
  · exact h1.1
  by_cases h2 : isW b 2 f.1
  · exact h2.1
  by_cases h3 : isW b 3 f.1
  · exact h3.1
  by_cases h6 : isW b 6 f.1
  · exact h6.1
  by_cases h7 : isW b 7 f.1
  · exact h7.1
  rw [sLine_b h0 h1 h2 h3 h6 h7] at h
  cases h
/-- the five numbers of a FERRY -/
def PLm (u : Tau) (s : PS) : Prop := (u 133 0).toInt = (gan s).length ∧ (u 133 1).toInt = (gmn s).length ∧ (u 133 2).toInt = gse s ∧ (u 133 3).toInt = gsl s ∧ u 133 4 = Int32.ofNat (gkn s)
def PLc (u : Tau) (s : PS) : Prop := (u 23 2).toInt = (gan s).length ∧ (u 23 3).toInt = (gmn s).length ∧ (u 23 0).toInt = gse s ∧ (u 23 1).toInt = gsl s ∧ u 23 4 = Int32.ofNat (gkn s)
theorem PLm_of {u t : Tau} {s : PS} (h : RH t s) (e : ∀ j : Nat, j < 5 → u 133 j = t 134 j) : PLm u s :=
  ⟨by rw [e 0 (by decide)]; exact h.2.2.2.2.2.1.1, by rw [e 1 (by decide)]; exact h.2.2.2.2.2.2.1.1, by rw [e 2 (by decide)]; exact h.2.2.1, by rw [e 3 (by decide)]; exact h.2.2.2.1, by rw [e 4 (by decide)]; exact h.2.2.2.2.1⟩
theorem PLc_of {u t : Tau} {s : PS} (h : RP t s) (e : ∀ j : Nat, j < 5 → u 23 j = t 4 j) : PLc u s :=
  ⟨by rw [e 2 (by decide)]; exact (RP_anm h).1, by rw [e 3 (by decide)]; exact (RP_mnm h).1, by rw [e 0 (by decide)]; exact h.2.2.1, by rw [e 1 (by decide)]; exact h.2.2.2.1, by rw [e 4 (by decide)]; exact h.2.2.2.2.1⟩
/-- what a ferry answers -/
def QF {α : Type} (x : Rs (Nat × α)) (r : Int32) (bad : Prop) (good : α → Prop) : Prop := (∀ q, x = .inl q → r.toInt = -1 - (q.2 : Int) ∧ bad) ∧ ∀ g, x = .inr g → r.toInt = g.1 ∧ good g.2
theorem QF_l {α : Type} {x : Rs (Nat × α)} {r : Int32} {bad : Prop} {good : α → Prop} {q : Nat × Nat} (e : x = .inl q) (h : r.toInt = -1 - (q.2 : Int)) (hb : bad) : QF x r bad good := by
  subst e
  exact ⟨fun q' e => (by cases e; exact ⟨h, hb⟩), fun g e => (by cases e)⟩
theorem QF_r {α : Type} {x : Rs (Nat × α)} {r : Int32} {bad : Prop} {good : α → Prop} {g : Nat × α} (e : x = .inr g) (h : r.toInt = g.1) (hg : good g.2) : QF x r bad good := by
  subst e
  exact ⟨fun q e => (by cases e), fun g' e => (by cases e; exact ⟨h, hg⟩)⟩
theorem QF_two {α : Type} {x : Rs (Nat × α)} {r r' : Int32} {b1 b2 : Prop} {g1 g2 : α → Prop} (h : QF x r b1 g1) (h' : QF x r' b2 g2) : r.toInt = r'.toInt := by
  cases x with
  | inl q => rw [(h.1 q rfl).1, (h'.1 q rfl).1]
  | inr g => rw [(h.2 g rfl).1, (h'.2 g rfl).1]
theorem zero_up {t u : Tau} {k : Nat} {i i' x : Int32} (h : ∀ j : Nat, (j : Int) < i.toInt → (t k j).toInt = 0) (hM : Mu t u k i.toNatClampNeg x) (hx : x.toInt = 0) (hi : i'.toInt = i.toInt + 1) (h0 : 0 ≤ i.toInt) : ∀ j : Nat, (j : Int) < i'.toInt → (u k j).toInt = 0 := by
  intro j hj
  have c : i.toNatClampNeg = i.toInt.toNat := rfl
  by_cases e : j = i.toNatClampNeg
  · rw [e, hM.1]; exact hx
  · rw [hM.2 k j (Or.inr e)]; exact h j (by omega)
theorem copy5 {t u T : Tau} {i i' x : Int32} (h : ∀ j : Nat, (j : Int) < i.toInt → j < 5 → t 133 j = T 134 j) (hM : Mu t u 133 i.toNatClampNeg x) (hx : i.toInt < 5 → T 134 i.toNatClampNeg = x) (hi : i'.toInt = i.toInt + 1) (h0 : 0 ≤ i.toInt) : ∀ j : Nat, (j : Int) < i'.toInt → j < 5 → u 133 j = T 134 j := by
  intro j hj h5
  have c : i.toNatClampNeg = i.toInt.toNat := rfl
  by_cases e : j = i.toNatClampNeg
  · rw [e, hM.1]; exact (hx (by omega)).symm
  · rw [hM.2 133 j (Or.inr e)]; exact h j (by omega) h5
/-! names of a FERRY, as both hold them -/
def NMM (τ : Tau) (c j a o : Nat) (ns : List (List Int)) : Prop := (τ c j).toInt = ns.length ∧ (∀ i, i < ns.length → (qof τ a (o + i)).toInt = e256 (ns.getD i [])) ∧ ∀ l ∈ ns, lowL l
def PLn (u : Tau) (s : PS) : Prop := NMM u 133 0 136 0 (gan s) ∧ NMM u 133 1 136 9 (gmn s)
def PCn (u : Tau) (s : PS) : Prop := NM u 23 2 28 (gan s) ∧ NM u 23 3 29 (gmn s)
theorem PLn_of {u t : Tau} {s : PS} (h : PLm u s) (hH : RH t s) (r0 : R 0 9 (t 134 0)) (r1 : R 0 10 (t 134 1)) (eq : ∀ i, i < 19 → qof u 136 i = qof t 136 (19 + i)) : PLn u s := by
  have a := hH.2.2.2.2.2.1
  have b := hH.2.2.2.2.2.2.1
  have a1 := a.1
  have b1 := b.1
  refine ⟨⟨h.1, fun i hi => ?_, a.2.2⟩, ⟨h.2.1, fun i hi => ?_, b.2.2⟩⟩
  · rw [Nat.zero_add, eq i (by omega)]; exact a.2.1 i hi
  · rw [eq (9 + i) (by omega), show 19 + (9 + i) = 28 + i by omega]; exact b.2.1 i hi
/-- names that lie in two places -/
def NMq (u : Tau) (a b : Nat) (τ : Tau) (c d : Nat) : Prop := (∀ j, j < 9 → qof u a j = qof τ c j) ∧ ∀ j, j < 10 → qof u b j = qof τ d j
theorem NM_cp {T u : Tau} {c j a c' j' a' N : Nat} {ns : List (List Int)} (h : NM T c j a ns) (e : u c' j' = T c j) (q : ∀ i, i < N → qof u a' i = qof T a i) (hN : R 0 N (T c j)) : NM u c' j' a' ns := by
  have h1 := h.1
  exact ⟨by rw [e]; exact h.1, fun i hi => by rw [q i (by omega)]; exact h.2.1 i hi, h.2.2⟩
theorem PCn_of {u T : Tau} {s : PS} (h : RP T s) (e2 : u 23 2 = T 4 2) (e3 : u 23 3 = T 4 3) (q : NMq u 28 29 T 9 10) (r2 : R 0 9 (T 4 2)) (r3 : R 0 10 (T 4 3)) : PCn u s :=
  ⟨NM_cp (RP_anm h) e2 q.1 r2, NM_cp (RP_mnm h) e3 q.2 r3⟩
theorem cpy_at {τ u : Tau} {d k n j : Nat} (h : Ml τ u d (va_cpy (qof τ k) (qof τ d) 0 0 n)) (hj : j < n) : qof u d j = qof τ k j := by
  rw [Ml_at h]
  show (if 0 ≤ j ∧ j < 0 + n then qof τ k (0 + (j - 0)) else qof τ d j) = _
  rw [if_pos ⟨by omega, by omega⟩, show 0 + (j - 0) = j by omega]
theorem cpn_up {T t u : Tau} {i j i' : Int32} {x : Int64} (h : ∀ k : Nat, (k : Int) < i.toInt → qof t 136 k = qof T 136 (19 + k)) (h2 : ∀ k : Nat, 19 ≤ k → qof t 136 k = qof T 136 k) (hM : Ml t u 136 (vp_updL (qof t 136) i.toNatClampNeg x)) (hx : qof t 136 j.toNatClampNeg = x) (hj : j.toInt = 19 + i.toInt) (hi : 0 ≤ i.toInt ∧ i.toInt < 19) (hi' : i'.toInt = i.toInt + 1) : ∀ k : Nat, (k : Int) < i'.toInt → qof u 136 k = qof T 136 (19 + k) := by
  intro k hk
  have c : i.toNatClampNeg = i.toInt.toNat := rfl
  have c' : j.toNatClampNeg = j.toInt.toNat := rfl
  by_cases e : k = i.toNatClampNeg
  · subst e
    rw [Ml_upd hM, ← hx, h2 _ (by omega), show j.toNatClampNeg = 19 + i.toNatClampNeg by omega]
  · rw [Ml_upn hM e]; exact h k (by omega)
theorem cpn_hi {T t u : Tau} {i : Int32} {x : Int64} (h2 : ∀ k : Nat, 19 ≤ k → qof t 136 k = qof T 136 k) (hM : Ml t u 136 (vp_updL (qof t 136) i.toNatClampNeg x)) (hi : 0 ≤ i.toInt ∧ i.toInt < 19) : ∀ k : Nat, 19 ≤ k → qof u 136 k = qof T 136 k := by
  intro k hk
  have c : i.toNatClampNeg = i.toInt.toNat := rfl
  rw [Ml_upn hM (by omega)]; exact h2 k hk
/-- a row of longs, copied place by place -/
theorem cpl_up {f : Nat → Int64} {t u : Tau} {a o : Nat} {i ix i' : Int32} {x : Int64} (h : ∀ k : Nat, (k : Int) < i.toInt → qof t a (o + k) = f k) (hM : Ml t u a (vp_updL (qof t a) ix.toNatClampNeg x)) (hx : f i.toInt.toNat = x) (hix : ix.toInt = (o : Int) + i.toInt) (h0 : 0 ≤ i.toInt) (hi' : i'.toInt = i.toInt + 1) : ∀ k : Nat, (k : Int) < i'.toInt → qof u a (o + k) = f k := by
  intro k hk
  have c : ix.toNatClampNeg = ix.toInt.toNat := rfl
  by_cases e : (k : Int) = i.toInt
  · rw [show o + k = ix.toNatClampNeg by omega, Ml_upd hM, ← hx, show i.toInt.toNat = k by omega]
  · rw [Ml_upn hM (by omega)]; exact h k (by omega)
theorem cpl_ot {T t u : Tau} {a o n : Nat} {i ix : Int32} {x : Int64} (h : ∀ k : Nat, (k < o ∨ o + n ≤ k) → qof t a k = qof T a k) (hM : Ml t u a (vp_updL (qof t a) ix.toNatClampNeg x)) (hix : ix.toInt = (o : Int) + i.toInt) (h0 : 0 ≤ i.toInt ∧ i.toInt < n) : ∀ k : Nat, (k < o ∨ o + n ≤ k) → qof u a k = qof T a k := by
  intro k hk
  have c : ix.toNatClampNeg = ix.toInt.toNat := rfl
  rw [Ml_upn hM (by omega)]; exact h k hk
/-- what a ferry answers, and the kind of its fault -/
def QG {α : Type} (x : Rs (Nat × α)) (r : Int32) (f : Int) (bad : Prop) (good : α → Prop) : Prop := (∀ q, x = .inl q → r.toInt = -1 - (q.2 : Int) ∧ f = q.1 ∧ bad) ∧ ∀ g, x = .inr g → r.toInt = g.1 ∧ f = 0 ∧ good g.2
theorem QG_l {α : Type} {x : Rs (Nat × α)} {r : Int32} {f : Int} {bad : Prop} {good : α → Prop} {q : Nat × Nat} (e : x = .inl q) (h : r.toInt = -1 - (q.2 : Int)) (hf : f = q.1) (hb : bad) : QG x r f bad good := by
  subst e
  exact ⟨fun q' e => (by cases e; exact ⟨h, hf, hb⟩), fun g e => (by cases e)⟩
theorem QG_r {α : Type} {x : Rs (Nat × α)} {r : Int32} {f : Int} {bad : Prop} {good : α → Prop} {g : Nat × α} (e : x = .inr g) (h : r.toInt = g.1) (hf : f = 0) (hg : good g.2) : QG x r f bad good := by
  subst e
  exact ⟨fun q e => (by cases e), fun g' e => (by cases e; exact ⟨h, hf, hg⟩)⟩
