/-! ===== how many places have a property ===== -/
def fb_ct (p : Nat → Bool) : Nat → Nat
  | 0 => 0
  | n + 1 => fb_ct p n + (if p n then 1 else 0)
theorem fb_ct_succ (p : Nat → Bool) (n : Nat) : fb_ct p (n + 1) = fb_ct p n + (if p n then 1 else 0) := rfl
theorem fb_ct_le (p : Nat → Bool) : ∀ n, fb_ct p n ≤ n
  | 0 => Nat.le_refl _
  | n + 1 => by
    have h := fb_ct_le p n
    rw [fb_ct_succ]
    split <;> omega
theorem fb_ct_step (p : Nat → Bool) (m : Nat) : ∀ n, fb_ct p m ≤ fb_ct p (m + n)
  | 0 => Nat.le_refl _
  | n + 1 => by
    have h := fb_ct_step p m n
    show fb_ct p m ≤ fb_ct p (m + n + 1)
    rw [fb_ct_succ]
    omega
theorem fb_ct_mono (p : Nat → Bool) {m n : Nat} (h : m ≤ n) : fb_ct p m ≤ fb_ct p n := by
  have := fb_ct_step p m (n - m)
  rwa [Nat.add_sub_cancel' h] at this
theorem fb_ct_cong {p q : Nat → Bool} : ∀ {n : Nat}, (∀ k, k < n → p k = q k) → fb_ct p n = fb_ct q n
  | 0, _ => rfl
  | n + 1, h => by
    rw [fb_ct_succ, fb_ct_succ, fb_ct_cong (fun k hk => h k (by omega)), h n (by omega)]
/-- one place changed -/
theorem fb_ct_out (p : Nat → Bool) (b : Bool) {i n : Nat} (h : n ≤ i) : fb_ct (fun k => if k = i then b else p k) n = fb_ct p n :=
  fb_ct_cong fun k hk => if_neg (by omega)
theorem fb_ct_upd (p : Nat → Bool) (b : Bool) {i : Nat} : ∀ {n : Nat}, i < n → fb_ct (fun k => if k = i then b else p k) n + (if p i then 1 else 0) = fb_ct p n + (if b then 1 else 0)
  | 0, h => absurd h (Nat.not_lt_zero i)
  | n + 1, h => by
    rw [fb_ct_succ, fb_ct_succ]
    rcases Nat.lt_or_ge i n with q | q
    · have := fb_ct_upd p b q
      have e : (if n = i then b else p n) = p n := if_neg (by omega)
      rw [e]
      omega
    · have e : i = n := by omega
      subst e
      rw [fb_ct_out p b (Nat.le_refl _)]
      simp only [if_true]
      omega
theorem fb_ct_sub {p q : Nat → Bool} : ∀ {n : Nat}, (∀ k, k < n → p k = true → q k = true) → fb_ct p n ≤ fb_ct q n
  | 0, _ => Nat.le_refl _
  | n + 1, h => by
    have h1 := fb_ct_sub (n := n) (p := p) (q := q) (fun k hk => h k (by omega))
    have h2 := h n (by omega)
    rw [fb_ct_succ, fb_ct_succ]
    cases hp : p n <;> cases hq : q n <;> simp_all <;> omega
theorem fb_ct_or {p q : Nat → Bool} : ∀ {n : Nat}, (∀ k, k < n → ¬ (p k = true ∧ q k = true)) → fb_ct (fun k => p k || q k) n = fb_ct p n + fb_ct q n
  | 0, _ => rfl
  | n + 1, h => by
    have h1 := fb_ct_or (n := n) (p := p) (q := q) (fun k hk => h k (by omega))
    have h2 := h n (by omega)
    rw [fb_ct_succ, fb_ct_succ, fb_ct_succ, h1]
    cases hp : p n <;> cases hq : q n <;> simp_all <;> omega
theorem fb_ct_not (p : Nat → Bool) : ∀ n, fb_ct p n + fb_ct (fun k => !p k) n = n
  | 0 => rfl
  | n + 1 => by
    have h := fb_ct_not p n
    rw [fb_ct_succ, fb_ct_succ]
    cases p n <;> simp <;> omega
/-! the model's queue of states -/
def bfp (τ : Tau) : Nat → Bool := fun k => decide ((τ 140 k).toInt < 100000)
def BF (τ : Tau) (n : Int32) : Prop := n.toInt = (fb_ct (bfp τ) 2048 : Nat) ∧ (∀ k, k < 2048 → (τ 140 k).toInt < 100000 → (τ 140 k).toInt ≤ n.toInt) ∧ ∀ j : Nat, (j : Int) < n.toInt → (τ 140 (τ 141 j).toNatClampNeg).toInt < 100000
theorem tn {i : Int32} (h : 0 ≤ i.toInt) : (i.toNatClampNeg : Int) = i.toInt := by
  have e : i.toNatClampNeg = i.toInt.toNat := rfl
  omega
theorem fill_step {τ u : Tau} {c : Nat} {i x i' : Int32} {b : Int} (h : ∀ j : Nat, (j : Int) < i.toInt → (τ c j).toInt = b) (hM : Mu τ u c i.toNatClampNeg x) (hx : x.toInt = b) (hi : 0 ≤ i.toInt) (e : i'.toInt = i.toInt + 1) : ∀ j : Nat, (j : Int) < i'.toInt → (u c j).toInt = b := by
  intro j hj
  have e2 := tn hi
  by_cases q : j = i.toNatClampNeg
  · subst q; rw [hM.1]; exact hx
  · rw [hM.2 c j (Or.inr q)]; exact h j (by omega)
theorem BF_le {τ : Tau} {n : Int32} (h : BF τ n) : n.toInt ≤ 2048 := by
  have := fb_ct_le (bfp τ) 2048
  have := h.1
  omega
theorem fb_ct_one {i n : Nat} (h : i < n) : fb_ct (fun k => if k = i then true else (fun _ => false) k) n = 1 := by
  have h2 := fb_ct_upd (fun _ => false) true h
  have h3 : fb_ct (fun _ => false) n = 0 := by
    have h4 := fb_ct_le (fun _ => false) n
    clear h2 h
    induction n with
    | zero => rfl
    | succ n ih => rw [fb_ct_succ]; simp; exact ih (fb_ct_le _ _)
  rw [h3] at h2
  simpa using h2
theorem BF_0 {a b c : Tau} {i0 q q' z n : Int32} (h : ∀ j : Nat, j < 2048 → (a 140 j).toInt = 100000) (hM1 : Mu a b 141 i0.toNatClampNeg q) (h0 : i0.toInt = 0) (hM2 : Mu b c 140 q'.toNatClampNeg z) (hz : z.toInt = 0) (hq : q = q') (hr : 0 ≤ q.toInt ∧ q.toInt < 2048) (hn : n.toInt = 1) : BF c n := by
  subst hq
  have e2 := tn hr.1
  have e0 : i0.toNatClampNeg = 0 := by have := tn (i := i0) (by omega); omega
  have hf : ∀ k, k < 2048 → (c 140 k).toInt = if k = q.toNatClampNeg then 0 else 100000 := by
    intro k hk
    by_cases e : k = q.toNatClampNeg
    · subst e; rw [hM2.1, if_pos rfl]; exact hz
    · rw [hM2.2 140 k (Or.inr e), hM1.2 140 k (Or.inl (by decide)), if_neg e]; exact h k hk
  refine ⟨?_, ?_, ?_⟩
  · have h1 : fb_ct (bfp c) 2048 = fb_ct (fun k => if k = q.toNatClampNeg then true else (fun _ => false) k) 2048 := by
      refine fb_ct_cong fun k hk => ?_
      unfold bfp
      rw [hf k hk]
      by_cases e : k = q.toNatClampNeg
      · rw [if_pos e, if_pos e]; rfl
      · rw [if_neg e, if_neg e]; rfl
    have h2 := fb_ct_one (i := q.toNatClampNeg) (n := 2048) (by omega)
    rw [h1, h2, hn]; rfl
  · intro k hk hl
    rw [hf k hk] at hl ⊢
    by_cases e : k = q.toNatClampNeg
    · rw [if_pos e]; omega
    · rw [if_neg e] at hl; omega
  · intro j hj
    have ej : j = 0 := by omega
    subst ej
    have e1 : c 141 0 = q := by rw [hM2.2 141 0 (Or.inl (by decide))]; have := hM1.1; rw [e0] at this; exact this
    rw [e1, hM2.1, hz]; decide
theorem BF_lt {τ : Tau} {n i v : Int32} (h : BF τ n) (hi : 0 ≤ i.toInt ∧ i.toInt < 2048) (z : τ 140 i.toNatClampNeg = v) (hv : 100000 ≤ v.toInt) : n.toInt < 2048 := by
  have e2 := tn hi.1
  have h2 := fb_ct_upd (bfp τ) true (i := i.toNatClampNeg) (n := 2048) (by omega)
  have h3 : bfp τ i.toNatClampNeg = false := by unfold bfp; rw [z]; exact decide_eq_false (by omega)
  have h4 := fb_ct_le (fun k => if k = i.toNatClampNeg then true else bfp τ k) 2048
  rw [h3] at h2
  simp only [Bool.false_eq_true, if_false, if_true] at h2
  have := h.1
  omega
theorem BF_step {τ a b : Tau} {n n' i v x : Int32} (h : BF τ n) (hi : 0 ≤ i.toInt ∧ i.toInt < 2048) (z : τ 140 i.toNatClampNeg = v) (hv : 100000 ≤ v.toInt) (hM1 : Mu τ a 140 i.toNatClampNeg x) (hx : x.toInt ≤ n.toInt + 1) (hM2 : Mu a b 141 n.toNatClampNeg i) (hn : n'.toInt = n.toInt + 1) (hn0 : 0 ≤ n.toInt) : BF b n' := by
  have e2 := tn hi.1
  have e3 := tn hn0
  have hle := BF_le h
  have hf : ∀ k, b 140 k = if k = i.toNatClampNeg then x else τ 140 k := by
    intro k
    rw [hM2.2 140 k (Or.inl (by decide))]
    by_cases e : k = i.toNatClampNeg
    · subst e; rw [hM1.1, if_pos rfl]
    · rw [hM1.2 140 k (Or.inr e), if_neg e]
  have hlt := BF_lt h hi z hv
  refine ⟨?_, ?_, ?_⟩
  · have h1 : fb_ct (bfp b) 2048 = fb_ct (fun k => if k = i.toNatClampNeg then true else bfp τ k) 2048 := by
      refine fb_ct_cong fun k hk => ?_
      show decide ((b 140 k).toInt < 100000) = _
      rw [hf k]
      by_cases e : k = i.toNatClampNeg
      · rw [if_pos e, if_pos e]; exact decide_eq_true (by omega)
      · rw [if_neg e, if_neg e]; rfl
    have h2 := fb_ct_upd (bfp τ) true (i := i.toNatClampNeg) (n := 2048) (by omega)
    have h3 : bfp τ i.toNatClampNeg = false := by unfold bfp; rw [z]; exact decide_eq_false (by omega)
    rw [h3] at h2
    simp only [Bool.false_eq_true, if_false, if_true] at h2
    have := h.1
    rw [h1]
    omega
  · intro k hk hl
    rw [hf k] at hl ⊢
    by_cases e : k = i.toNatClampNeg
    · rw [if_pos e]; omega
    · rw [if_neg e] at hl ⊢
      have := h.2.1 k hk hl
      omega
  · intro j hj
    rw [hf]
    by_cases e : (b 141 j).toNatClampNeg = i.toNatClampNeg
    · rw [if_pos e]; omega
    · rw [if_neg e]
      have hjn : j ≠ n.toNatClampNeg := by
        intro q
        apply e
        rw [q, hM2.1]
      rw [hM2.2 141 j (Or.inr hjn), hM1.2 141 j (Or.inl (by decide))]
      exact h.2.2 j (by omega)
theorem BF_at {τ : Tau} {n i s : Int32} (h : BF τ n) (hi : 0 ≤ i.toInt ∧ i.toInt < n.toInt) (z : τ 141 i.toNatClampNeg = s) : (τ 140 s.toNatClampNeg).toInt < 100000 := by
  have e := tn hi.1
  have := h.2.2 i.toNatClampNeg (by omega)
  rw [z] at this
  exact this
theorem BF_hi {τ : Tau} {n s v : Int32} (h : BF τ n) (hs : 0 ≤ s.toInt ∧ s.toInt < 2048) (hl : (τ 140 s.toNatClampNeg).toInt < 100000) (z : τ 140 s.toNatClampNeg = v) : v.toInt ≤ n.toInt := by
  have e := tn hs.1
  have := h.2.1 s.toNatClampNeg (by omega) hl
  rw [z] at this
  exact this
theorem BF_st {τ a b : Tau} {n i s x : Int32} (hl : (τ 140 s.toNatClampNeg).toInt < 100000) (hM1 : Mu τ a 140 i.toNatClampNeg x) (hx : x.toInt < 100000) (hM2 : Mu a b 141 n.toNatClampNeg i) : (b 140 s.toNatClampNeg).toInt < 100000 := by
  rw [hM2.2 140 _ (Or.inl (by decide))]
  by_cases e : s.toNatClampNeg = i.toNatClampNeg
  · rw [e, hM1.1]; exact hx
  · rw [hM1.2 140 _ (Or.inr e)]; exact hl
