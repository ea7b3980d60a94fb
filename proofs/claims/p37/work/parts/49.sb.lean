/-! the first WORD of a ONE -/
abbrev fwI (i : Nat) : Prop := i = 15 ∨ i = 16 ∨ i = 17 ∨ i = 18 ∨ i = 19 ∨ i = 4 ∨ i = 5 ∨ i = 20 ∨ i = 21 ∨ i = 22 ∨ i = 23
def FM (b : Nat → Int) (t : Tk) (r : Int32) : Prop := (r.toInt = 0 → ¬ i3 b t) ∧ ∀ i : Nat, r.toInt = (i : Int) + 1 → isW b i t ∧ (i = 20 ∨ i = 21 ∨ i = 22 ∨ i = 23)
def FW (b : Nat → Int) (t : Tk) (r : Int32) : Prop := (r.toInt = 0 → ¬ (isW b 15 t ∨ lfW b t)) ∧ ∀ i : Nat, r.toInt = (i : Int) + 1 → isW b i t ∧ fwI i
section SC
variable {b : Nat → Int} {n L : Nat} {an mn : List (List Int)} {t : Tk} {r : Int32}
theorem FM_w {i : Nat} (h : isW b i t) (hr : r.toInt = (i : Int) + 1) (hi : i = 20 ∨ i = 21 ∨ i = 22 ∨ i = 23) : FM b t r :=
  ⟨fun h => by exfalso; omega, fun j hj => by have e : j = i := by omega
                                              subst e; exact ⟨h, hi⟩⟩
theorem FM_0 (hr : r.toInt = 0) (h0 : ¬ isW b 20 t) (h1 : ¬ isW b 21 t) (h2 : ¬ isW b 22 t) (h3 : ¬ isW b 23 t) : FM b t r :=
  ⟨fun _ q => q.elim h0 (fun q => q.elim h1 (fun q => q.elim h2 h3)), fun j hj => by exfalso; omega⟩
theorem FW_w {i : Nat} (h : isW b i t) (hr : r.toInt = (i : Int) + 1) (hi : fwI i) : FW b t r :=
  ⟨fun h => by exfalso; omega, fun j hj => by have e : j = i := by omega
                                              subst e; exact ⟨h, hi⟩⟩
theorem FW_m (h : FM b t r) (n15 : ¬ isW b 15 t) (n16 : ¬ isW b 16 t) (n17 : ¬ isW b 17 t) (n18 : ¬ isW b 18 t) (n19 : ¬ isW b 19 t) (n4 : ¬ isW b 4 t) (n5 : ¬ isW b 5 t) : FW b t r :=
  ⟨fun hr q => by
    rcases q with q | (q | q | q) | q | (q | q) | q
    · exact n15 q
    · exact n16 q
    · exact n17 q
    · exact n18 q
    · exact n19 q
    · exact n4 q
    · exact n5 q
    · exact h.1 hr q, fun i hi => ⟨(h.2 i hi).1, by have := (h.2 i hi).2; omega⟩⟩
theorem fs_no (h : FW b t r) (hr : r.toInt = 0) (h' : ¬ opn b t) : ¬ fsW b t := fun q => by
  rcases q with q | q | q
  · exact h.1 hr (Or.inl q)
  · exact h' q
  · exact h.1 hr (Or.inr q)
theorem lf_i {i : Nat} (h : isW b i t) (hi : fwI i) (h15 : i ≠ 15) : lfW b t := by
  rcases hi with e | e | e | e | e | e | e | e | e | e | e <;> subst e
  · exact absurd rfl h15
  · exact Or.inl (Or.inl h)
  · exact Or.inl (Or.inr (Or.inl h))
  · exact Or.inl (Or.inr (Or.inr h))
  · exact Or.inr (Or.inl h)
  · exact Or.inr (Or.inr (Or.inl (Or.inl h)))
  · exact Or.inr (Or.inr (Or.inl (Or.inr h)))
  · exact Or.inr (Or.inr (Or.inr (Or.inl h)))
  · exact Or.inr (Or.inr (Or.inr (Or.inr (Or.inl h))))
  · exact Or.inr (Or.inr (Or.inr (Or.inr (Or.inr (Or.inl h)))))
  · exact Or.inr (Or.inr (Or.inr (Or.inr (Or.inr (Or.inr h)))))
theorem fs_w {i : Nat} (h : FW b t r) (hr : r.toInt = (i : Int) + 1) : fsW b t := by
  obtain ⟨h1, h2⟩ := h.2 i hr
  by_cases e : i = 15
  · subst e; exact Or.inl h1
  · exact Or.inr (Or.inr (lf_i h1 h2 e))
theorem w15 {i : Nat} (h : isW b i t) (e : i = 15) : isW b 15 t := by subst e; exact h
theorem w19 {i : Nat} (h : isW b i t) (e : i = 19) : isW b 19 t := by subst e; exact h
theorem i1_of {i : Nat} (h : isW b i t) (e : i = 16 ∨ i = 17 ∨ i = 18) : i1 b t := by
  rcases e with e | e | e <;> subst e
  · exact Or.inl h
  · exact Or.inr (Or.inl h)
  · exact Or.inr (Or.inr h)
theorem i2_of {i : Nat} (h : isW b i t) (e : i = 4 ∨ i = 5) : i2 b t := by
  rcases e with e | e <;> subst e
  · exact Or.inl h
  · exact Or.inr h
theorem i3_of {i : Nat} (h : isW b i t) (e : i = 20 ∨ i = 21 ∨ i = 22 ∨ i = 23) : i3 b t := by
  rcases e with e | e | e | e <;> subst e
  · exact Or.inl h
  · exact Or.inr (Or.inl h)
  · exact Or.inr (Or.inr (Or.inl h))
  · exact Or.inr (Or.inr (Or.inr h))
theorem tSgn_x {c : Int} {g : Tk} (e : tSgn b n L c t = .inr g) : (t.1 = 3 ∧ b t.2.1 = c) ∧ g = nx b n L t := by
  by_cases h : t.1 = 3 ∧ b t.2.1 = c
  · rw [tSgn_g h] at e; cases e; exact ⟨h, rfl⟩
  · rw [tSgn_b h] at e; cases e
theorem tSgn_y {c : Int} {q : Nat × Nat} (e : tSgn b n L c t = .inl q) : ¬ (t.1 = 3 ∧ b t.2.1 = c) ∧ q = (1, t.2.1) := by
  by_cases h : t.1 = 3 ∧ b t.2.1 = c
  · rw [tSgn_g h] at e; cases e
  · rw [tSgn_b h] at e
    have e : (Sum.inl (1, t.2.1) : Rs Tk) = .inl q := e
    cases e; exact ⟨h, rfl⟩
theorem tNum_x {lo hi : Int} {g : Int × Tk} (e : tNum b n L lo hi t = .inr g) : t.1 = 2 ∧ g.2 = nx b n L t := by
  by_cases h : t.1 = 2
  · by_cases h2 : nbr b t < lo ∨ hi < nbr b t
    · rw [tNum_b2 h h2] at e; cases e
    · rw [tNum_g h h2] at e; cases e; exact ⟨h, rfl⟩
  · rw [tNum_b1 h] at e; cases e
theorem stW_cg {k : Nat} {sg : List Bool} {x : Bool} {g : Tk} (e : tSgn b n L 41 t = .inr g) : stW b n L t k (x :: sg) = .inl (true, g, k, dropN sg) := by
  obtain ⟨h, rfl⟩ := tSgn_x e; exact stW_c h
theorem stW_fg {k : Nat} {sg : List Bool} {x : Bool} {q : Nat × Nat} (h : ¬ isW b 14 t) (h' : ¬ isW b 13 t) (e : tSgn b n L 41 t = .inl q) : stW b n L t k (x :: sg) = .inr (.inl q) := by
  obtain ⟨hc, rfl⟩ := tSgn_y e; exact stW_f h h' hc
/-- a plain ONE is all of it -/
theorem QS_y {u : Tau} {k : Nat} {sg : List Bool} (h : QY 16 (sLeaf b n L an mn t) r u (fun g => RG b n L an mn u g)) (h01 : r.toInt = 0 ∨ r.toInt = 1) (hl : lfW b t) (h4 : ¬ (20 ≤ k ∨ 8 ≤ sg.length)) (hk : (u 16 4).toInt = ((k + 1 : Nat) : Int)) : QS b n L an mn t k sg (dropN sg) r u (fun _ => True) := by
  rcases h01 with h0 | h1
  · obtain ⟨q, e, a, c⟩ := QY_0 h h0
    exact QS_l h0 (Hlt_1 Rch_0 (stS_O (stO_l hl h4 e))) a c
  · obtain ⟨g, e, a⟩ := QY_1 h h1
    exact QS_r h1 a hk ⟨by omega, by omega⟩ trivial (Rch_1 Rch_0 (stS_O (stO_r hl h4 e)))
end SC
def QR (bb : Nat → Int) (nb : Nat) (an mn : List (List Int)) (r : Int32) (u : Tau) : Prop :=
  (r.toInt = 0 → ∃ q : Nat × Nat, Hlt bb nb 200 an mn (false, lex bb nb 200 0, 0, []) (.inl q) ∧ (u 16 1).toInt = q.1 ∧ (u 1 3).toInt = q.2) ∧ (r.toInt = 1 → ∃ k : Nat, Hlt bb nb 200 an mn (false, lex bb nb 200 0, 0, []) (.inr k) ∧ (u 16 4).toInt = k)
/-- what a sentence answers, and the kind of its fault -/
def QT (bb : Nat → Int) (nb : Nat) (an mn : List (List Int)) (r : Int32) (f : Int) : Prop :=
  (∃ q : Nat × Nat, Hlt bb nb 200 an mn (false, lex bb nb 200 0, 0, []) (.inl q) ∧ r.toInt = -1 - (q.2 : Int) ∧ f = q.1) ∨ (∃ k : Nat, Hlt bb nb 200 an mn (false, lex bb nb 200 0, 0, []) (.inr k) ∧ r.toInt = k ∧ f = 0)
theorem QT_two {bb : Nat → Int} {nb : Nat} {an mn : List (List Int)} {r r' : Int32} {f f' : Int} (h : QT bb nb an mn r f) (h' : QT bb nb an mn r' f') : r.toInt = r'.toInt ∧ f = f' := by
  rcases h with ⟨q, a, b, c⟩ | ⟨k, a, b, c⟩ <;> rcases h' with ⟨q', a', b', c'⟩ | ⟨k', a', b', c'⟩
  · cases Hlt_un a a'; exact ⟨b.trans b'.symm, c.trans c'.symm⟩
  · cases Hlt_un a a'
  · cases Hlt_un a a'
  · cases Hlt_un a a'; exact ⟨b.trans b'.symm, c.trans c'.symm⟩
/-! the model: names, stack -/
def MG (bb : Nat → Int) (nb L : Nat) (an mn : List (List Int)) (τ : Tau) (t : Tk) : Prop := MT bb nb L τ t ∧ NMM τ 133 0 136 0 an ∧ NMM τ 133 1 136 9 mn ∧ RS τ
theorem NMM_fr {τ u : Tau} {c j a o : Nat} {ns : List (List Int)} (h : NMM τ c j a o ns) (h1 : u c j = τ c j) (h2 : ∀ m, u (a + 200) m = τ (a + 200) m) : NMM u c j a o ns :=
  ⟨by rw [h1]; exact h.1, fun i hi => by rw [qof_of h2]; exact h.2.1 i hi, h.2.2⟩
theorem NR_fr {τ u : Tau} {an mn : List (List Int)} (h : NMM τ 133 0 136 0 an ∧ NMM τ 133 1 136 9 mn ∧ RS τ) (e0 : u 133 0 = τ 133 0) (e1 : u 133 1 = τ 133 1) (q6 : ∀ j, u 336 j = τ 336 j) (q7 : ∀ j, u 337 j = τ 337 j) : NMM u 133 0 136 0 an ∧ NMM u 133 1 136 9 mn ∧ RS u :=
  ⟨NMM_fr h.1 e0 q6, NMM_fr h.2.1 e1 q6, RS_fr h.2.2 q7⟩
theorem MG_fr {bb : Nat → Int} {nb L : Nat} {an mn : List (List Int)} {τ u : Tau} {t : Tk} (h : MG bb nb L an mn τ t) (h3 : u 131 3 = τ 131 3) (h4 : u 131 4 = τ 131 4) (h5 : u 131 5 = τ 131 5) (h11 : u 131 11 = τ 131 11) (h12 : u 131 12 = τ 131 12) (h14 : u 131 14 = τ 131 14) (h132 : ∀ j, u 132 j = τ 132 j) (h331 : ∀ j, u 331 j = τ 331 j) (e0 : u 133 0 = τ 133 0) (e1 : u 133 1 = τ 133 1) (q6 : ∀ j, u 336 j = τ 336 j) (q7 : ∀ j, u 337 j = τ 337 j) : MG bb nb L an mn u t :=
  ⟨MT_fr h.1 h3 h4 h5 h11 h12 h14 h132 h331, NR_fr h.2 e0 e1 q6 q7⟩
theorem MG_at {bb : Nat → Int} {nb L : Nat} {an mn : List (List Int)} {τ : Tau} {t : Tk} (h : MG bb nb L an mn τ t) : (τ 131 12).toInt = t.2.1 := h.1.2.2.1
def pj (f : Nat → Int32) : Nat → List Bool
  | 0 => []
  | m + 1 => if (f m).toInt = 20 then true :: pj f m else if (f m).toInt = 23 then false :: pj f m else pj f m
def noN (f : Nat → Int32) : Nat → Prop
  | 0 => True
  | m + 1 => (f m).toInt ≠ 20
def WFs (f : Nat → Int32) (m : Nat) : Prop := (∀ i, i < m → 20 ≤ (f i).toInt ∧ (f i).toInt ≤ 23) ∧ ∀ i, i + 1 < m → ((f (i + 1)).toInt = 21 ∨ (f (i + 1)).toInt = 22) → (f i).toInt ≠ 20
def tpN (f : Nat → Int32) : Nat → Nat
  | 0 => 0
  | m + 1 => if (f m).toInt = 20 then tpN f m else m + 1
def tpJ (q : Int) (f : Nat → Int32) : Nat → Nat
  | 0 => 0
  | m + 1 => if (f m).toInt = 21 ∨ ((f m).toInt = 22 ∧ q = 22) then tpJ q f m else m + 1
theorem WFs_le {f : Nat → Int32} {m k : Nat} (h : WFs f m) (hk : k ≤ m) : WFs f k := ⟨fun i hi => h.1 i (by omega), fun i hi => h.2 i (by omega)⟩
theorem pj_eq {f g : Nat → Int32} : ∀ {m : Nat}, (∀ i, i < m → f i = g i) → pj f m = pj g m
  | 0, _ => rfl
  | m + 1, h => by unfold pj; rw [h m (by omega), pj_eq (fun i hi => h i (by omega))]
theorem WFs_eq {f g : Nat → Int32} {m : Nat} (h : WFs g m) (e : ∀ i, i < m → f i = g i) : WFs f m :=
  ⟨fun i hi => by rw [e i hi]; exact h.1 i hi, fun i hi => by rw [e (i + 1) hi, e i (by omega)]; exact h.2 i hi⟩
theorem noN_eq {f g : Nat → Int32} {m : Nat} (h : noN g m) (e : ∀ i, i < m → f i = g i) : noN f m := by
  cases m with
  | zero => trivial
  | succ m => show (f m).toInt ≠ 20; rw [e m (by omega)]; exact h
theorem pj_len {f : Nat → Int32} : ∀ m, (pj f m).length ≤ m
  | 0 => Nat.le_refl _
  | m + 1 => by
    have := pj_len (f := f) m
    unfold pj
    split
    · rw [List.length_cons]; omega
    · split
      · rw [List.length_cons]; omega
      · omega
theorem noN_d {f : Nat → Int32} : ∀ {m : Nat}, WFs f m → noN f m → dropN (pj f m) = pj f m
  | 0, _, _ => rfl
  | m + 1, h, hn => by
    have hn : (f m).toInt ≠ 20 := hn
    have h1 := h.1 m (by omega)
    unfold pj
    rw [if_neg hn]
    by_cases e : (f m).toInt = 23
    · rw [if_pos e]; rfl
    · rw [if_neg e]
      refine noN_d (WFs_le h (by omega)) ?_
      cases m with
      | zero => trivial
      | succ m => exact h.2 m (by omega) (by omega)
/-- NOTS are done -/
theorem tpN_p {f : Nat → Int32} : ∀ {m : Nat}, WFs f m → tpN f m ≤ m ∧ noN f (tpN f m) ∧ pj f (tpN f m) = dropN (pj f m) ∧ (dropN (pj f m)).length + m = (pj f m).length + tpN f m
  | 0, _ => ⟨Nat.le_refl _, trivial, rfl, rfl⟩
  | m + 1, h => by
    by_cases e : (f m).toInt = 20
    · obtain ⟨a, b, c, d⟩ := tpN_p (f := f) (WFs_le h (by omega : m ≤ m + 1))
      have e1 : tpN f (m + 1) = tpN f m := by show (if (f m).toInt = 20 then tpN f m else m + 1) = _; rw [if_pos e]
      have e2 : pj f (m + 1) = true :: pj f m := by show (if (f m).toInt = 20 then true :: pj f m else _) = _; rw [if_pos e]
      rw [e1, e2]
      refine ⟨by omega, b, c, ?_⟩
      show (dropN (pj f m)).length + (m + 1) = (true :: pj f m).length + tpN f m
      rw [List.length_cons]; omega
    · have e1 : tpN f (m + 1) = m + 1 := by show (if (f m).toInt = 20 then tpN f m else m + 1) = _; rw [if_neg e]
      have hn : noN f (m + 1) := e
      rw [e1]
      exact ⟨Nat.le_refl _, hn, (noN_d h hn).symm, by rw [noN_d h hn]⟩
theorem tpJ_p {q : Int} {f : Nat → Int32} : ∀ {m : Nat}, WFs f m → noN f m → tpJ q f m ≤ m ∧ noN f (tpJ q f m) ∧ pj f (tpJ q f m) = pj f m ∧ (q = 22 → ∀ k, tpJ q f m = k + 1 → (f k).toInt = 23)
  | 0, _, _ => ⟨Nat.le_refl _, trivial, rfl, fun _ k hk => by cases hk⟩
  | m + 1, h, hn => by
    have hn' : (f m).toInt ≠ 20 := hn
    have h1 := h.1 m (by omega)
    by_cases e : (f m).toInt = 21 ∨ ((f m).toInt = 22 ∧ q = 22)
    · have hb : noN f m := by
        cases m with
        | zero => trivial
        | succ m => exact h.2 m (by omega) (by omega)
      obtain ⟨a, b, c, d⟩ := tpJ_p (q := q) (WFs_le h (by omega : m ≤ m + 1)) hb
      have e1 : tpJ q f (m + 1) = tpJ q f m := by show (if (f m).toInt = 21 ∨ ((f m).toInt = 22 ∧ q = 22) then tpJ q f m else m + 1) = _; rw [if_pos e]
      have e2 : pj f (m + 1) = pj f m := by show (if (f m).toInt = 20 then true :: pj f m else if (f m).toInt = 23 then false :: pj f m else pj f m) = _; rw [if_neg hn', if_neg (by omega)]
      rw [e1, e2]
      exact ⟨by omega, b, c, d⟩
    · have e1 : tpJ q f (m + 1) = m + 1 := by show (if (f m).toInt = 21 ∨ ((f m).toInt = 22 ∧ q = 22) then tpJ q f m else m + 1) = _; rw [if_neg e]
      rw [e1]
      refine ⟨Nat.le_refl _, hn, rfl, fun hq k hk => ?_⟩
      have ek : k = m := by omega
      subst ek
      omega
theorem pj_put {f g : Nat → Int32} {m : Nat} (e : ∀ i, i < m → g i = f i) : pj g (m + 1) = (if (g m).toInt = 20 then true :: pj f m else if (g m).toInt = 23 then false :: pj f m else pj f m) := by
  show (if (g m).toInt = 20 then true :: pj g m else if (g m).toInt = 23 then false :: pj g m else pj g m) = _
  rw [pj_eq e]
theorem WFs_put {f g : Nat → Int32} {m : Nat} (h : WFs f m) (e : ∀ i, i < m → g i = f i) (hg : (20 ≤ (g m).toInt ∧ (g m).toInt ≤ 23)) (hn : noN f m ∨ (g m).toInt = 20 ∨ (g m).toInt = 23) : WFs g (m + 1) := by
  refine ⟨fun i hi => ?_, fun i hi hq => ?_⟩
  · by_cases c : i = m
    · rw [c]; exact hg
    · rw [e i (by omega)]; exact h.1 i (by omega)
  · by_cases c : i + 1 = m
    · subst c
      rw [e i (by omega)]
      rcases hn with hn | hn
      · exact hn
      · omega
    · rw [e i (by omega)]
      rw [e (i + 1) (by omega)] at hq
      exact h.2 i (by omega) hq
/-- the model's stack, as what is open -/
def SK (τ : Tau) (sg : List Bool) : Prop := WFs (τ 148) (τ 131 43).toInt.toNat ∧ (τ 131 44).toInt = 1 + (sg.length : Int) ∧ pj (τ 148) (τ 131 43).toInt.toNat = sg
theorem SK_fr {τ u : Tau} {sg : List Bool} (h : SK τ sg) (e3 : u 131 43 = τ 131 43) (e4 : u 131 44 = τ 131 44) (e8 : ∀ j, u 148 j = τ 148 j) : SK u sg := by
  have f : u 148 = τ 148 := funext e8
  unfold SK; rw [e3, e4, f]; exact h
theorem SK_push {τ u : Tau} {sg : List Bool} {x : Bool} {i v t d : Int32} (h : SK τ sg) (h43 : τ 131 43 = t) (hi : i.toInt = t.toInt) (h0 : 0 ≤ t.toInt) (e8 : ∀ j, j ≠ i.toNatClampNeg → u 148 j = τ 148 j) (ev : u 148 i.toNatClampNeg = v) (hv : (x = true ∧ v.toInt = 20) ∨ (x = false ∧ v.toInt = 23)) (e3 : (u 131 43).toInt = t.toInt + 1) (e4 : (u 131 44).toInt = (τ 131 44).toInt + 1) : SK u (x :: sg) := by
  obtain ⟨a, b, c⟩ := h
  have en : i.toNatClampNeg = t.toInt.toNat := by show i.toInt.toNat = _; rw [hi]
  rw [en] at e8 ev
  rw [h43] at a c
  have e : ∀ j, j < t.toInt.toNat → u 148 j = τ 148 j := fun j hj => e8 j (by omega)
  have em : (u 131 43).toInt.toNat = t.toInt.toNat + 1 := by omega
  refine ⟨?_, by rw [List.length_cons]; omega, ?_⟩
  · rw [em]; exact WFs_put a e (by rw [ev]; omega) (Or.inr (by rw [ev]; omega))
  · rw [em, pj_put e, ev, c]
    rcases hv with ⟨rfl, hv⟩ | ⟨rfl, hv⟩
    · rw [if_pos hv]
    · rw [if_neg (by omega), if_pos hv]
/-- behind NOTS: what is open, without them -/
def SN (τ : Tau) (sg : List Bool) : Prop := SK τ sg ∧ noN (τ 148) (τ 131 43).toInt.toNat
theorem SN_of {τ u : Tau} {sg : List Bool} (h : SK τ sg) (e8 : ∀ j, u 148 j = τ 148 j) (e3 : (u 131 43).toInt.toNat = tpN (τ 148) (τ 131 43).toInt.toNat) (h0 : 0 ≤ (u 131 43).toInt) (h1 : 0 ≤ (τ 131 43).toInt) (e4 : (u 131 44).toInt - (u 131 43).toInt = (τ 131 44).toInt - (τ 131 43).toInt) : SN u (dropN sg) := by
  obtain ⟨a, b, c⟩ := h
  have f : u 148 = τ 148 := funext e8
  obtain ⟨p1, p2, p3, p4⟩ := tpN_p a
  rw [← e3] at p1 p2 p3 p4
  rw [c] at p3 p4
  refine ⟨⟨?_, ?_, ?_⟩, ?_⟩
  · rw [f]; exact WFs_le a p1
  · omega
  · rw [f]; exact p3
  · rw [f]; exact p2
theorem SN_j {q : Int} {τ u : Tau} {sg : List Bool} (h : SN τ sg) (e8 : ∀ j, u 148 j = τ 148 j) (e3 : (u 131 43).toInt.toNat = tpJ q (τ 148) (τ 131 43).toInt.toNat) (e4 : u 131 44 = τ 131 44) : SN u sg ∧ (q = 22 → ∀ k, (u 131 43).toInt.toNat = k + 1 → (u 148 k).toInt = 23) := by
  obtain ⟨⟨a, b, c⟩, d⟩ := h
  have f : u 148 = τ 148 := funext e8
  obtain ⟨p1, p2, p3, p4⟩ := tpJ_p (q := q) a d
  rw [← e3] at p1 p2 p3 p4
  refine ⟨⟨⟨?_, ?_, ?_⟩, ?_⟩, ?_⟩
  · rw [f]; exact WFs_le a p1
  · rw [e4]; exact b
  · rw [f, p3]; exact c
  · rw [f]; exact p2
  · rw [f]; exact p4
theorem SN_and {τ u : Tau} {sg : List Bool} {i v t : Int32} (h : SN τ sg) (h43 : τ 131 43 = t) (hi : i.toInt = t.toInt) (h0 : 0 ≤ t.toInt) (e8 : ∀ j, j ≠ i.toNatClampNeg → u 148 j = τ 148 j) (ev : u 148 i.toNatClampNeg = v) (hv : v.toInt = 21 ∨ v.toInt = 22) (e3 : (u 131 43).toInt = t.toInt + 1) (e4 : u 131 44 = τ 131 44) : SK u sg := by
  obtain ⟨⟨a, b, c⟩, d⟩ := h
  have en : i.toNatClampNeg = t.toInt.toNat := by show i.toInt.toNat = _; rw [hi]
  rw [en] at e8 ev
  rw [h43] at a c d
  have e : ∀ j, j < t.toInt.toNat → u 148 j = τ 148 j := fun j hj => e8 j (by omega)
  have em : (u 131 43).toInt.toNat = t.toInt.toNat + 1 := by omega
  refine ⟨?_, by rw [e4]; exact b, ?_⟩
  · rw [em]; exact WFs_put a e (by rw [ev]; omega) (Or.inl d)
  · rw [em, pj_put e, ev, c, if_neg (by omega), if_neg (by omega)]
/-- a bracket on top is closed -/
theorem SN_pop {τ u : Tau} {sg : List Bool} {t : Int32} (h : SN τ sg) (h43 : τ 131 43 = t) (ht : 1 ≤ t.toInt) (hj : ∀ k, (τ 131 43).toInt.toNat = k + 1 → (τ 148 k).toInt = 23) (e8 : ∀ j, u 148 j = τ 148 j) (e3 : (u 131 43).toInt = t.toInt - 1) (e4 : (u 131 44).toInt = (τ 131 44).toInt - 1) : ∃ sg', sg = false :: sg' ∧ SK u sg' := by
  obtain ⟨⟨a, b, c⟩, d⟩ := h
  have f : u 148 = τ 148 := funext e8
  have em : (τ 131 43).toInt.toNat = (u 131 43).toInt.toNat + 1 := by rw [h43]; omega
  have h23 := hj _ em
  rw [em] at c a
  have c2 : pj (τ 148) ((u 131 43).toInt.toNat + 1) = false :: pj (τ 148) (u 131 43).toInt.toNat := by
    show (if (τ 148 (u 131 43).toInt.toNat).toInt = 20 then true :: _ else if (τ 148 (u 131 43).toInt.toNat).toInt = 23 then false :: _ else _) = _
    rw [if_neg (by omega), if_pos h23]
  rw [c2] at c
  refine ⟨pj (τ 148) (u 131 43).toInt.toNat, c.symm, ?_, ?_, ?_⟩
  · rw [f]; exact WFs_le a (by omega)
  · have : sg.length = (pj (τ 148) (u 131 43).toInt.toNat).length + 1 := by rw [← c]; rfl
    omega
  · rw [f]
theorem SN_0 {τ : Tau} {sg : List Bool} (h : SN τ sg) (h0 : (τ 131 43).toInt = 0) : sg = [] := by
  have c := h.1.2.2
  rw [h0] at c; exact c.symm
theorem SN_1 {τ : Tau} {sg : List Bool} (h : SN τ sg) (h0 : 1 ≤ (τ 131 43).toInt) (hj : ∀ k, (τ 131 43).toInt.toNat = k + 1 → (τ 148 k).toInt = 23) : ∃ sg', sg = false :: sg' := by
  have c := h.1.2.2
  have em : (τ 131 43).toInt.toNat = ((τ 131 43).toInt.toNat - 1) + 1 := by omega
  have h23 := hj _ em
  rw [em] at c
  refine ⟨pj (τ 148) ((τ 131 43).toInt.toNat - 1), c.symm.trans ?_⟩
  show (if (τ 148 ((τ 131 43).toInt.toNat - 1)).toInt = 20 then true :: _ else if (τ 148 ((τ 131 43).toInt.toNat - 1)).toInt = 23 then false :: _ else _) = _
  rw [if_neg (by omega), if_pos h23]
/-- what the model holds between two of its steps -/
def MSS (bb : Nat → Int) (nb : Nat) (an mn : List (List Int)) (u : Tau) (s : SS) : Prop := MG bb nb 200 an mn u s.2.1 ∧ (u 131 42).toInt = s.2.2.1 ∧ (u 131 45).toInt = bI s.1 ∧ ∃ sg, SK u sg ∧ s.2.2.2 = (if s.1 = true then dropN sg else sg)
def QO (bb : Nat → Int) (nb : Nat) (an mn : List (List Int)) (s : SS) (r : Int32) (u : Tau) : Prop := (r.toInt = 0 → ∃ q : Nat × Nat, stS bb nb 200 an mn s = .inr (.inl q) ∧ (u 131 15).toInt = q.1 ∧ (u 131 16).toInt = q.2) ∧ (r.toInt = 1 → ∃ s' : SS, stS bb nb 200 an mn s = .inl s' ∧ MSS bb nb an mn u s')
theorem QO_l {bb : Nat → Int} {nb : Nat} {an mn : List (List Int)} {s : SS} {r : Int32} {u : Tau} {k a : Nat} (hr : r.toInt = 0) (e : stS bb nb 200 an mn s = .inr (.inl (k, a))) (h1 : (u 131 15).toInt = k) (h2 : (u 131 16).toInt = a) : QO bb nb an mn s r u :=
  ⟨fun _ => ⟨(k, a), e, h1, h2⟩, fun h => by exfalso; omega⟩
theorem QO_r {bb : Nat → Int} {nb : Nat} {an mn : List (List Int)} {s s' : SS} {r : Int32} {u : Tau} (hr : r.toInt = 1) (e : stS bb nb 200 an mn s = .inl s') (h : MSS bb nb an mn u s') : QO bb nb an mn s r u :=
  ⟨fun h => by exfalso; omega, fun _ => ⟨s', e, h⟩⟩
theorem stW_b {b : Nat → Int} {n L : Nat} {t : Tk} {k : Nat} {sg : List Bool} (h : ¬ isW b 14 t) (h' : ¬ isW b 13 t) (e : ¬ t.1 = 0) (hc : ¬ cls b t ∨ sg = []) : stW b n L t k sg = .inr (bad 1 t) := by
  unfold stW; rw [cif_neg e, cif_neg (fun q => q.elim h h'), cif_neg (fun q => hc.elim (fun z => z q.1) (fun z => q.2 z))]
def lfN : Nat → Nat
  | 0 => 16
  | 1 => 17
  | 2 => 18
  | 3 => 19
  | 4 => 4
  | 5 => 5
  | 6 => 20
  | 7 => 21
  | 8 => 22
  | _ => 23
def LF (b : Nat → Int) (t : Tk) (r : Int32) : Prop := (r.toInt < 0 → ¬ lfW b t) ∧ (0 ≤ r.toInt → isW b (lfN r.toInt.toNat) t)
section SD
variable {b : Nat → Int} {t : Tk} {r : Int32}
theorem LF_w {i : Nat} (h : isW b (lfN i) t) (hr : r.toInt = i) : LF b t r := ⟨fun h => by exfalso; omega, fun _ => by rw [show r.toInt.toNat = i by omega]; exact h⟩
theorem LF_0 (hr : r.toInt < 0) (n16 : ¬ isW b 16 t) (n17 : ¬ isW b 17 t) (n18 : ¬ isW b 18 t) (n19 : ¬ isW b 19 t) (n4 : ¬ isW b 4 t) (n5 : ¬ isW b 5 t) (n20 : ¬ isW b 20 t) (n21 : ¬ isW b 21 t) (n22 : ¬ isW b 22 t) (n23 : ¬ isW b 23 t) : LF b t r :=
  ⟨fun _ q => by
    rcases q with (q | q | q) | q | (q | q) | (q | q | q | q)
    · exact n16 q
    · exact n17 q
    · exact n18 q
    · exact n19 q
    · exact n4 q
    · exact n5 q
    · exact n20 q
    · exact n21 q
    · exact n22 q
    · exact n23 q, fun h => by exfalso; omega⟩
theorem LF_1 (h : LF b t r) (h0 : 0 ≤ r.toInt ∧ r.toInt ≤ 2) : i1 b t := by
  have q := h.2 h0.1
  rcases (show r.toInt.toNat = 0 ∨ r.toInt.toNat = 1 ∨ r.toInt.toNat = 2 by omega) with e | e | e <;> rw [e] at q
  · exact Or.inl q
  · exact Or.inr (Or.inl q)
  · exact Or.inr (Or.inr q)
theorem LF_m (h : LF b t r) (h0 : r.toInt = 3) : isW b 19 t := by
  have q := h.2 (by omega)
  rw [show r.toInt.toNat = 3 by omega] at q
  exact q
theorem LF_a (h : LF b t r) (h0 : 4 ≤ r.toInt ∧ r.toInt ≤ 5) : i2 b t := by
  have q := h.2 (by omega)
  rcases (show r.toInt.toNat = 4 ∨ r.toInt.toNat = 5 by omega) with e | e <;> rw [e] at q
  · exact Or.inl q
  · exact Or.inr q
theorem LF_3 (h : LF b t r) (h0 : 6 ≤ r.toInt ∧ r.toInt ≤ 9) : i3 b t := by
  have q := h.2 (by omega)
  rcases (show r.toInt.toNat = 6 ∨ r.toInt.toNat = 7 ∨ r.toInt.toNat = 8 ∨ r.toInt.toNat = 9 by omega) with e | e | e | e <;> rw [e] at q
  · exact Or.inl q
  · exact Or.inr (Or.inl q)
  · exact Or.inr (Or.inr (Or.inl q))
  · exact Or.inr (Or.inr (Or.inr q))
theorem LF_l (h : LF b t r) (h0 : 0 ≤ r.toInt ∧ r.toInt ≤ 9) : lfW b t := by
  rcases (show r.toInt ≤ 2 ∨ r.toInt = 3 ∨ (4 ≤ r.toInt ∧ r.toInt ≤ 5) ∨ 6 ≤ r.toInt by omega) with e | e | e | e
  · exact Or.inl (LF_1 h ⟨h0.1, e⟩)
  · exact Or.inr (Or.inl (LF_m h e))
  · exact Or.inr (Or.inr (Or.inl (LF_a h e)))
  · exact Or.inr (Or.inr (Or.inr (LF_3 h ⟨e, h0.2⟩)))
end SD
/-! pops of the model's stack, one by one -/
theorem tpN_s {f : Nat → Int32} {m m' ix x : Int32} (hx : f ix.toNatClampNeg = x) (h20 : x.toInt = 20) (hix : ix.toInt = m.toInt - 1) (hm : m'.toInt = m.toInt - 1) (h1 : 1 ≤ m.toInt) : tpN f m'.toInt.toNat = tpN f m.toInt.toNat := by
  have c : ix.toNatClampNeg = ix.toInt.toNat := rfl
  rw [show m.toInt.toNat = m'.toInt.toNat + 1 by omega]
  show _ = (if (f m'.toInt.toNat).toInt = 20 then tpN f m'.toInt.toNat else m'.toInt.toNat + 1)
  rw [show m'.toInt.toNat = ix.toNatClampNeg by omega, hx, if_pos h20]
theorem tpN_e {f : Nat → Int32} {m ix x : Int32} (hx : f ix.toNatClampNeg = x) (h20 : x.toInt ≠ 20) (hix : ix.toInt = m.toInt - 1) (h1 : 1 ≤ m.toInt) : tpN f m.toInt.toNat = m.toInt.toNat := by
  have c : ix.toNatClampNeg = ix.toInt.toNat := rfl
  rw [show m.toInt.toNat = ix.toNatClampNeg + 1 by omega]
  show (if (f ix.toNatClampNeg).toInt = 20 then _ else ix.toNatClampNeg + 1) = _
  rw [hx, if_neg h20]
theorem tpJ_s {q : Int} {f : Nat → Int32} {m m' ix x : Int32} (hx : f ix.toNatClampNeg = x) (h2 : x.toInt = 21 ∨ (x.toInt = 22 ∧ q = 22)) (hix : ix.toInt = m.toInt - 1) (hm : m'.toInt = m.toInt - 1) (h1 : 1 ≤ m.toInt) : tpJ q f m'.toInt.toNat = tpJ q f m.toInt.toNat := by
  have c : ix.toNatClampNeg = ix.toInt.toNat := rfl
  rw [show m.toInt.toNat = m'.toInt.toNat + 1 by omega]
  show _ = (if (f m'.toInt.toNat).toInt = 21 ∨ ((f m'.toInt.toNat).toInt = 22 ∧ q = 22) then tpJ q f m'.toInt.toNat else m'.toInt.toNat + 1)
  rw [show m'.toInt.toNat = ix.toNatClampNeg by omega, hx, if_pos h2]
theorem tpJ_e {q : Int} {f : Nat → Int32} {m ix x : Int32} (hx : f ix.toNatClampNeg = x) (h2 : ¬ (x.toInt = 21 ∨ (x.toInt = 22 ∧ q = 22))) (hix : ix.toInt = m.toInt - 1) (h1 : 1 ≤ m.toInt) : tpJ q f m.toInt.toNat = m.toInt.toNat := by
  have c : ix.toNatClampNeg = ix.toInt.toNat := rfl
  rw [show m.toInt.toNat = ix.toNatClampNeg + 1 by omega]
  show (if (f ix.toNatClampNeg).toInt = 21 ∨ ((f ix.toNatClampNeg).toInt = 22 ∧ q = 22) then _ else ix.toNatClampNeg + 1) = _
  rw [hx, if_neg h2]
theorem tpN_z {f : Nat → Int32} {m : Int32} (h : m.toInt ≤ 0) : tpN f m.toInt.toNat = m.toInt.toNat := by rw [show m.toInt.toNat = 0 by omega]; rfl
theorem tpJ_z {q : Int} {f : Nat → Int32} {m : Int32} (h : m.toInt ≤ 0) : tpJ q f m.toInt.toNat = m.toInt.toNat := by rw [show m.toInt.toNat = 0 by omega]; rfl
theorem SK_0 {u : Tau} (h43 : (u 131 43).toInt = 0) (h44 : (u 131 44).toInt = 1) : SK u [] := by
  unfold SK
  rw [h43]
  exact ⟨⟨fun i hi => absurd hi (Nat.not_lt_zero _), fun i hi => absurd hi (Nat.not_lt_zero _)⟩, h44, rfl⟩
theorem SK_b {τ : Tau} {sg : List Bool} {t d : Int32} (h : SK τ sg) (h43 : τ 131 43 = t) (h44 : τ 131 44 = d) (ht : t.toInt ≤ 45) : 1 ≤ d.toInt ∧ d.toInt ≤ 46 ∧ d.toInt = 1 + (sg.length : Int) := by
  obtain ⟨a, b, c⟩ := h
  rw [h44] at b
  rw [h43] at c
  have := pj_len (f := τ 148) t.toInt.toNat
  rw [c] at this
  omega
theorem fs_n2 {b : Nat → Int} {t : Tk} {r : Int32} (h15 : ¬ isW b 15 t) (ho : ¬ opn b t) (h : LF b t r) (hr : r.toInt < 0) : ¬ fsW b t := fun q => by
  rcases q with q | q | q
  · exact h15 q
  · exact ho q
  · exact h.1 hr q
theorem QO_c {bb : Nat → Int} {nb : Nat} {an mn : List (List Int)} {t : Tk} {k : Nat} {sgd : List Bool} {r : Int32} {u : Tau} (hr : r.toInt = 1) (hc : cls bb t) (h : ∃ sg', sgd = false :: sg' ∧ SK u sg') (hR : MG bb nb 200 an mn u (nx bb nb 200 t)) (h42 : (u 131 42).toInt = k) (h45 : (u 131 45).toInt = 1) : QO bb nb an mn (true, t, k, sgd) r u := by
  obtain ⟨sg', rfl, hS⟩ := h
  exact QO_r hr (stS_W (stW_c hc)) ⟨hR, h42, h45, sg', hS, rfl⟩
theorem stW_n {b : Nat → Int} {n L : Nat} {t : Tk} {k : Nat} {sg : List Bool} (h0 : t.1 = 0) (h : ∃ sg', sg = false :: sg') : stW b n L t k sg = .inr (bad 1 t) := by
  obtain ⟨sg', rfl⟩ := h
  unfold stW; rw [cif_pos h0, cif_neg (by simp)]
theorem stW_e' {b : Nat → Int} {n L : Nat} {t : Tk} {k : Nat} {sg : List Bool} (h0 : t.1 = 0) (h : sg = []) : stW b n L t k sg = .inr (.inr k) := by rw [h]; exact stW_e h0
theorem bI_z {x : Int} {c : Bool} (h : x = bI c) (h0 : x = 0) : c = false := by
  cases c with
  | true => exact absurd (h0.symm.trans h) (by decide)
  | false => rfl
