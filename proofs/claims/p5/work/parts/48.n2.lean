/-! a man's line, as the model reads it -/
def bN (x : Bool) : Nat := if x = true then 1 else 0
def cnt (op : Nat → Bool) : Nat := bN (op 0) + bN (op 1) + bN (op 2) + bN (op 3) + bN (op 4) + bN (op 5) + bN (op 6) + bN (op 7) + bN (op 8)
theorem bN_le (x : Bool) : bN x ≤ 1 := by cases x <;> decide
theorem cnt_le (op : Nat → Bool) : cnt op ≤ 9 := by
  have h0 := bN_le (op 0)
  have h1 := bN_le (op 1)
  have h2 := bN_le (op 2)
  have h3 := bN_le (op 3)
  have h4 := bN_le (op 4)
  have h5 := bN_le (op 5)
  have h6 := bN_le (op 6)
  have h7 := bN_le (op 7)
  have h8 := bN_le (op 8)
  unfold cnt; omega
theorem bN_ne {op : Nat → Bool} (i j : Nat) (h : j ≠ i) : bN (op j || j == i) = bN (op j) := by
  rw [show (j == i) = false from beq_eq_false_iff_ne.mpr h, Bool.or_false]
theorem bN_eq {op : Nat → Bool} {i : Nat} (h : ¬ op i = true) : bN (op i || i == i) = bN (op i) + 1 := by
  have e : op i = false := by
    cases hh : op i with
    | true => exact absurd hh h
    | false => rfl
  rw [e]; simp [bN]
theorem cnt_up {op : Nat → Bool} {i : Nat} (hi : i < 9) (h : ¬ op i = true) : cnt (fun j => op j || j == i) = cnt op + 1 := by
  have e := bN_eq h
  have n := fun j hj => bN_ne (op := op) i j hj
  show bN (op 0 || 0 == i) + bN (op 1 || 1 == i) + bN (op 2 || 2 == i) + bN (op 3 || 3 == i) + bN (op 4 || 4 == i) + bN (op 5 || 5 == i) + bN (op 6 || 6 == i) + bN (op 7 || 7 == i) + bN (op 8 || 8 == i) = cnt op + 1
  unfold cnt
  have key : ∀ j : Nat, bN (op j || j == i) = bN (op j) + (if j = i then 1 else 0) := by
    intro j
    by_cases hj : j = i
    · subst hj; rw [if_pos rfl]; exact e
    · rw [if_neg hj]; exact n j hj
  rw [key 0, key 1, key 2, key 3, key 4, key 5, key 6, key 7, key 8]
  rcases (show i = 0 ∨ i = 1 ∨ i = 2 ∨ i = 3 ∨ i = 4 ∨ i = 5 ∨ i = 6 ∨ i = 7 ∨ i = 8 by omega) with rfl | rfl | rfl | rfl | rfl | rfl | rfl | rfl | rfl <;> simp <;> omega
section MT2
variable {b : Nat → Int} {n : Nat} {t : Tk} {s s' : PS}
theorem sNum_tr {lo hi : Int} : sNum b n lo hi (t, s') = thn (sNum b n lo hi (t, s)) (fun v => .inr (v.1, (v.2.1, s'))) := by
  by_cases e : t.1 = 2
  · by_cases e2 : nbr b t < lo ∨ hi < nbr b t
    · rw [sNum_b2 (f := (t, s')) e e2, sNum_b2 (f := (t, s)) e e2]; rfl
    · rw [sNum_g (f := (t, s')) e e2, sNum_g (f := (t, s)) e e2]; rfl
  · rw [sNum_b1 (f := (t, s')) e, sNum_b1 (f := (t, s)) e]; rfl
theorem sYN_tr : sYN b n (t, s') = thn (sYN b n (t, s)) (fun g => .inr (g.1, s')) := by
  by_cases e : isW b 4 t ∨ isW b 5 t
  · rw [sYN_g (f := (t, s')) e, sYN_g (f := (t, s)) e]; rfl
  · rw [sYN_b (f := (t, s')) e, sYN_b (f := (t, s)) e]; rfl
theorem sOp_tr {op : Nat → Bool} (hg : gan s = gan s') : sOp b n op (t, s') = thn (sOp b n op (t, s)) (fun v => .inr (v.1, (v.2.1, s'))) := by
  cases e : sLook b (gan s) t with
  | inl q => rw [sOp_l1 (f := (t, s)) e, sOp_l1 (f := (t, s')) (by show sLook b (gan s') t = _; rw [← hg]; exact e)]; rfl
  | inr i =>
    have e' : sLook b (gan s') t = .inr i := by rw [← hg]; exact e
    by_cases ho : op i = true
    · rw [sOp_b (f := (t, s)) e ho, sOp_b (f := (t, s')) e' ho]; rfl
    · have y : sYN b n (stp b n (t, s')) = thn (sYN b n (stp b n (t, s))) (fun g => .inr (g.1, s')) := sYN_tr
      cases e2 : sYN b n (stp b n (t, s)) with
      | inl q =>
        rw [e2] at y
        rw [sOp_l2 (f := (t, s)) e ho e2, sOp_l2 (f := (t, s')) e' ho y]; rfl
      | inr g =>
        rw [e2] at y
        have y : sYN b n (stp b n (t, s')) = .inr (g.1, s') := y
        have hs : g.2 = s := sYN_s e2
        have z : sNum b n 1 9 (g.1, s') = thn (sNum b n 1 9 (g.1, g.2)) (fun v => .inr (v.1, (v.2.1, s'))) := sNum_tr
        cases e3 : sNum b n 1 9 g with
        | inl q =>
          have e3' : sNum b n 1 9 (g.1, g.2) = .inl q := e3
          rw [e3'] at z
          rw [sOp_l3 (f := (t, s)) e ho e2 e3, sOp_l3 (f := (t, s')) e' ho y z]; rfl
        | inr v =>
          have e3' : sNum b n 1 9 (g.1, g.2) = .inr v := e3
          rw [e3'] at z
          have z : sNum b n 1 9 (g.1, s') = .inr (v.1, (v.2.1, s')) := z
          rw [sOp_r (f := (t, s)) e ho e2 e3, sOp_r (f := (t, s')) e' ho y z]; rfl
theorem sOps_tr (hg : gan s = gan s') : ∀ {m : Nat} {op : Nat → Bool} {t : Tk}, sOps b n m op (t, s') = thn (sOps b n m op (t, s)) (fun g => .inr (g.1, s')) := by
  intro m
  induction m with
  | zero => intro op t; rfl
  | succ m ih =>
    intro op t
    by_cases h : t.1 = 3 ∧ b t.2.1 = 59
    · rw [sOps_e (f := (t, s)) h, sOps_e (f := (t, s')) h]; rfl
    · have y := sOp_tr (b := b) (n := n) (t := t) (s := s) (s' := s') (op := op) hg
      cases e : sOp b n op (t, s) with
      | inl q =>
        rw [e] at y
        rw [sOps_l (f := (t, s)) h e, sOps_l (f := (t, s')) h y]; rfl
      | inr v =>
        rw [e] at y
        have y : sOp b n op (t, s') = .inr (v.1, (v.2.1, s')) := y
        have hs : v.2.2 = s := sOp_s e
        rw [sOps_r (f := (t, s)) h e, sOps_r (f := (t, s')) h y]
        have hv : v.2 = (v.2.1, s) := by rw [← hs]
        rw [hv]
        exact ih
end MT2
theorem sMan_m {b : Nat → Int} {n : Nat} {f : FS} {x : Unit} (h : ¬ 10 ≤ (gmn f.2).length) (e : sNew b (stp b n f) = .inr x) : sMan b n f = thn (sNum b n 0 20 (stp b n (stp b n f))) (fun v => thn (sOps b n 10 (fun _ => false) v.2) (fun g => .inr (g.1, umn f.2 (wrd b (stp b n f).1)))) := by
  have z : sNum b n 0 20 (stp b n ((stp b n f).1, umn f.2 (wrd b (stp b n f).1))) = thn (sNum b n 0 20 (stp b n (stp b n f))) (fun v => .inr (v.1, (v.2.1, umn f.2 (wrd b (stp b n f).1)))) := sNum_tr
  cases e2 : sNum b n 0 20 (stp b n (stp b n f)) with
  | inl q =>
    rw [e2] at z
    rw [sMan_l2 h e z]; rfl
  | inr v =>
    rw [e2] at z
    have z : sNum b n 0 20 (stp b n ((stp b n f).1, umn f.2 (wrd b (stp b n f).1))) = .inr (v.1, (v.2.1, umn f.2 (wrd b (stp b n f).1))) := z
    rw [sMan_r h e z]
    have hs : v.2.2 = f.2 := by rw [sNum_s e2]; rfl
    have hv : v.2 = (v.2.1, f.2) := by rw [← hs]
    show sOps b n 10 (fun _ => false) (v.2.1, umn f.2 (wrd b (stp b n f).1)) = thn (sOps b n 10 (fun _ => false) v.2) _
    rw [hv]
    exact sOps_tr (s := f.2) (s' := umn f.2 (wrd b (stp b n f).1)) rfl
/-- what is told of man m, in the model -/
def RQ (τ : Tau) (m : Nat) (op : Nat → Bool) : Prop := ∀ a, a < 9 → ((τ 134 (15 + 9 * m + a)).toInt ≠ 0 ↔ op a = true)
theorem RQ_eq {τ u : Tau} {m : Nat} {op : Nat → Bool} (h : RQ τ m op) (e : ∀ j, u 134 j = τ 134 j) : RQ u m op := fun a ha => by rw [e]; exact h a ha
theorem RQ_0 {τ : Tau} {m : Nat} (h : ∀ a, a < 9 → (τ 134 (15 + 9 * m + a)).toInt = 0) : RQ τ m (fun _ => false) := fun a ha => by rw [h a ha]; simp
theorem RQ_put {τ u : Tau} {m i k : Nat} {op : Nat → Bool} {x : Int32} (h : RQ τ m op) (hM : Mu τ u 134 k x) (hk : k = 15 + 9 * m + i) (hi : i < 9) (hx : x.toInt ≠ 0) : RQ u m (fun j => op j || j == i) := by
  intro a ha
  show (u 134 (15 + 9 * m + a)).toInt ≠ 0 ↔ (op a || a == i) = true
  by_cases e : a = i
  · subst e
    rw [← hk, hM.1]
    simp [hx]
  · rw [hM.2 134 _ (Or.inr (by omega)), Bool.or_eq_true, beq_iff_eq]
    simp only [e, or_false]
    exact h a ha
theorem RH_mu {τ u : Tau} {s : PS} {k : Nat} {x : Int32} (h : RH τ s) (hM : Mu τ u 134 k x) (hk : 5 ≤ k ∧ k < 105) : RH u s :=
  RH_fr h (Mu_ne hM (by decide) 20) (fun j hj => hM.2 134 j (Or.inr (by omega))) (fun j => Mu_ne hM (by decide) j)
theorem sMd_s {b : Nat → Int} {n : Nat} {f : FS} {v : Int × FS} (h : sMd b n f = .inr v) : v.2.2 = f.2 := by
  unfold sMd at h
  cases e : sYN b n f with
  | inl q => rw [thn_l e] at h; cases h
  | inr g => rw [thn_r e] at h; rw [sNum_s h, sYN_s e]
