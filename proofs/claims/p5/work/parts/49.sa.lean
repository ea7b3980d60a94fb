/-! what both do with a SENTENCE, token by token -/
section SA
variable (b : Nat → Int) (n L : Nat) (an mn : List (List Int))
noncomputable def nx (t : Tk) : Tk := lex b n L t.2.2
noncomputable def tSgn (c : Int) (t : Tk) : Rs Tk := cif (t.1 = 3 ∧ b t.2.1 = c) (.inr (nx b n L t)) (bad 1 t)
noncomputable def tNum (lo hi : Int) (t : Tk) : Rs (Int × Tk) := cif (t.1 ≠ 2) (bad 1 t) (cif (nbr b t < lo ∨ hi < nbr b t) (bad 2 t) (.inr (nbr b t, nx b n L t)))
noncomputable def tYN (t : Tk) : Rs Tk := cif (¬ (isW b 4 t ∨ isW b 5 t)) (bad 1 t) (.inr (nx b n L t))
abbrev SS : Type := Bool × Tk × Nat × List Bool
def dropN : List Bool → List Bool
  | [] => []
  | false :: l => false :: l
  | true :: l => dropN l
abbrev i1 (t : Tk) : Prop := isW b 16 t ∨ isW b 17 t ∨ isW b 18 t
abbrev i2 (t : Tk) : Prop := isW b 4 t ∨ isW b 5 t
abbrev i3 (t : Tk) : Prop := isW b 20 t ∨ isW b 21 t ∨ isW b 22 t ∨ isW b 23 t
abbrev opn (t : Tk) : Prop := t.1 = 3 ∧ b t.2.1 = 40
abbrev cls (t : Tk) : Prop := t.1 = 3 ∧ b t.2.1 = 41
abbrev cm3 (t : Tk) : Prop := t.1 = 3 ∧ (b t.2.1 = 60 ∨ b t.2.1 = 61 ∨ b t.2.1 = 62)
abbrev lfW (t : Tk) : Prop := i1 b t ∨ isW b 19 t ∨ i2 b t ∨ i3 b t
abbrev fsW (t : Tk) : Prop := isW b 15 t ∨ opn b t ∨ lfW b t
noncomputable def sLeaf (t : Tk) : Rs Tk := cif (i1 b t) (.inr (nx b n L t)) (cif (isW b 19 t) (thn (sLook b mn (nx b n L t)) (fun _ => .inr (nx b n L (nx b n L t)))) (cif (i2 b t) (thn (sLook b an (nx b n L t)) (fun _ => .inr (nx b n L (nx b n L t)))) (cif (cm3 b (nx b n L t)) (cif ((nx b n L (nx b n L t)).1 = 2) (.inr (nx b n L (nx b n L (nx b n L t)))) (bad 1 (nx b n L (nx b n L t)))) (bad 1 (nx b n L t)))))
noncomputable def stO (t : Tk) (k : Nat) (sg : List Bool) : SS ⊕ Rs Nat :=
  cif (¬ fsW b t) (.inr (bad 1 t)) (cif (20 ≤ k ∨ 8 ≤ sg.length) (.inr (bad 4 t)) (cif (isW b 15 t) (.inl (false, nx b n L t, k + 1, true :: sg)) (cif (opn b t) (.inl (false, nx b n L t, k + 1, false :: sg))
    (Sum.elim (fun q => .inr (.inl q)) (fun t' => .inl (true, t', k + 1, dropN sg)) (sLeaf b n L an mn t)))))
noncomputable def stW (t : Tk) (k : Nat) (sg : List Bool) : SS ⊕ Rs Nat :=
  cif (t.1 = 0) (cif (sg = []) (.inr (.inr k)) (.inr (bad 1 t))) (cif (isW b 14 t ∨ isW b 13 t) (.inl (false, nx b n L t, k, sg)) (cif (cls b t ∧ sg ≠ []) (.inl (true, nx b n L t, k, dropN sg.tail)) (.inr (bad 1 t))))
noncomputable def stS (s : SS) : SS ⊕ Rs Nat := if s.1 = true then stW b n L s.2.1 s.2.2.1 s.2.2.2 else stO b n L an mn s.2.1 s.2.2.1 s.2.2.2
noncomputable def stn : Nat → SS → SS ⊕ Rs Nat
  | 0, s => .inl s
  | m + 1, s => Sum.elim (stn m) (fun r => .inr r) (stS b n L an mn s)
def Rch (s s' : SS) : Prop := ∃ m, stn b n L an mn m s = .inl s'
def Hlt (s : SS) (r : Rs Nat) : Prop := ∃ m, stn b n L an mn m s = .inr r
end SA
section SB
variable {b : Nat → Int} {n L : Nat} {an mn : List (List Int)}
theorem Rch_0 {s : SS} : Rch b n L an mn s s := ⟨0, rfl⟩
theorem stn_add {s s' : SS} : ∀ {m : Nat} {k : Nat} {s : SS}, stn b n L an mn m s = .inl s' → stn b n L an mn (m + k) s = stn b n L an mn k s' := by
  intro m
  induction m with
  | zero => intro k s h; rw [Nat.zero_add]; cases h; rfl
  | succ m ih =>
    intro k s h
    rw [show m + 1 + k = (m + k) + 1 by omega]
    show Sum.elim (stn b n L an mn (m + k)) (fun r => .inr r) (stS b n L an mn s) = _
    have h : Sum.elim (stn b n L an mn m) (fun r => .inr r) (stS b n L an mn s) = .inl s' := h
    cases e : stS b n L an mn s with
    | inl q => rw [e] at h; exact ih h
    | inr q => rw [e] at h; cases h
theorem Rch_tr {s s' s'' : SS} (h : Rch b n L an mn s s') (h' : Rch b n L an mn s' s'') : Rch b n L an mn s s'' := by
  obtain ⟨m, hm⟩ := h
  obtain ⟨k, hk⟩ := h'
  exact ⟨m + k, (stn_add (s := s) hm).trans hk⟩
theorem Rch_1 {s s' s'' : SS} (h : Rch b n L an mn s s') (e : stS b n L an mn s' = .inl s'') : Rch b n L an mn s s'' :=
  Rch_tr h ⟨1, by show Sum.elim _ _ (stS b n L an mn s') = _; rw [e]; rfl⟩
theorem Hlt_tr {s s' : SS} {r : Rs Nat} (h : Rch b n L an mn s s') (h' : Hlt b n L an mn s' r) : Hlt b n L an mn s r := by
  obtain ⟨m, hm⟩ := h
  obtain ⟨k, hk⟩ := h'
  exact ⟨m + k, (stn_add (s := s) hm).trans hk⟩
theorem Hlt_1 {s s' : SS} {r : Rs Nat} (h : Rch b n L an mn s s') (e : stS b n L an mn s' = .inr r) : Hlt b n L an mn s r :=
  Hlt_tr h ⟨1, by show Sum.elim _ _ (stS b n L an mn s') = _; rw [e]; rfl⟩
theorem stn_up {r : Rs Nat} : ∀ {m k : Nat} {s : SS}, stn b n L an mn m s = .inr r → stn b n L an mn (m + k) s = .inr r := by
  intro m
  induction m with
  | zero => intro k s h; cases h
  | succ m ih =>
    intro k s h
    rw [show m + 1 + k = (m + k) + 1 by omega]
    show Sum.elim (stn b n L an mn (m + k)) (fun r => .inr r) (stS b n L an mn s) = _
    have h : Sum.elim (stn b n L an mn m) (fun r => .inr r) (stS b n L an mn s) = .inr r := h
    cases e : stS b n L an mn s with
    | inl q => rw [e] at h; exact ih h
    | inr q => rw [e] at h; exact h
theorem Hlt_un {s : SS} {r r' : Rs Nat} (h : Hlt b n L an mn s r) (h' : Hlt b n L an mn s r') : r = r' := by
  obtain ⟨m, hm⟩ := h
  obtain ⟨k, hk⟩ := h'
  have e1 := stn_up (k := k) hm
  have e2 := stn_up (k := m) hk
  rw [Nat.add_comm] at e2
  exact Sum.inr.inj (e1.symm.trans e2)
theorem dropN_2 : ∀ l : List Bool, dropN (dropN l) = dropN l
  | [] => rfl
  | false :: _ => rfl
  | true :: l => dropN_2 l
/-! the words are unlike -/
theorem kwl_un : ∀ i, i < 24 → ∀ j, j < 24 → kwl.getD i [] = kwl.getD j [] → i = j := by decide +kernel
theorem isW_un {t : Tk} {i j : Nat} (hi : i < 24) (hj : j < 24) (h : isW b i t) (h' : isW b j t) : i = j := kwl_un i hi j hj (h.2.symm.trans h'.2)
theorem no1 {t : Tk} {i : Nat} (hi : i < 24) (h : isW b i t) (h1 : i ≠ 16 ∧ i ≠ 17 ∧ i ≠ 18) : ¬ i1 b t := fun q => by
  rcases q with q | q | q
  · exact h1.1 (isW_un hi (by decide) h q)
  · exact h1.2.1 (isW_un hi (by decide) h q)
  · exact h1.2.2 (isW_un hi (by decide) h q)
theorem noW {t : Tk} {i j : Nat} (hi : i < 24) (hj : j < 24) (h : isW b i t) (h1 : i ≠ j) : ¬ isW b j t := fun q => h1 (isW_un hi hj h q)
theorem no2 {t : Tk} {i : Nat} (hi : i < 24) (h : isW b i t) (h1 : i ≠ 4 ∧ i ≠ 5) : ¬ i2 b t := fun q => by
  rcases q with q | q
  · exact h1.1 (isW_un hi (by decide) h q)
  · exact h1.2 (isW_un hi (by decide) h q)
theorem sLeaf_1 {t : Tk} (h : i1 b t) : sLeaf b n L an mn t = .inr (nx b n L t) := by unfold sLeaf; rw [cif_pos h]
theorem sLeaf_m {t : Tk} (h : isW b 19 t) : sLeaf b n L an mn t = thn (sLook b mn (nx b n L t)) (fun _ => .inr (nx b n L (nx b n L t))) := by
  unfold sLeaf; rw [cif_neg (no1 (by decide) h (by decide)), cif_pos h]
theorem sLeaf_a {t : Tk} (h : i2 b t) : sLeaf b n L an mn t = thn (sLook b an (nx b n L t)) (fun _ => .inr (nx b n L (nx b n L t))) := by
  unfold sLeaf
  rcases h with h | h
  · rw [cif_neg (no1 (by decide) h (by decide)), cif_neg (noW (by decide) (by decide) h (by decide)), cif_pos (Or.inl h)]
  · rw [cif_neg (no1 (by decide) h (by decide)), cif_neg (noW (by decide) (by decide) h (by decide)), cif_pos (Or.inr h)]
theorem i3_no {t : Tk} (h : i3 b t) : ¬ i1 b t ∧ ¬ isW b 19 t ∧ ¬ i2 b t := by
  rcases h with h | h | h | h
  · exact ⟨no1 (by decide) h (by decide), noW (by decide) (by decide) h (by decide), no2 (by decide) h (by decide)⟩
  · exact ⟨no1 (by decide) h (by decide), noW (by decide) (by decide) h (by decide), no2 (by decide) h (by decide)⟩
  · exact ⟨no1 (by decide) h (by decide), noW (by decide) (by decide) h (by decide), no2 (by decide) h (by decide)⟩
  · exact ⟨no1 (by decide) h (by decide), noW (by decide) (by decide) h (by decide), no2 (by decide) h (by decide)⟩
theorem sLeaf_c {t : Tk} (h : i3 b t) (hc : ¬ cm3 b (nx b n L t)) : sLeaf b n L an mn t = bad 1 (nx b n L t) := by
  unfold sLeaf; rw [cif_neg (i3_no h).1, cif_neg (i3_no h).2.1, cif_neg (i3_no h).2.2, cif_neg hc]
theorem sLeaf_d {t : Tk} (h : i3 b t) (hc : cm3 b (nx b n L t)) (h2 : ¬ (nx b n L (nx b n L t)).1 = 2) : sLeaf b n L an mn t = bad 1 (nx b n L (nx b n L t)) := by
  unfold sLeaf; rw [cif_neg (i3_no h).1, cif_neg (i3_no h).2.1, cif_neg (i3_no h).2.2, cif_pos hc, cif_neg h2]
theorem sLeaf_n {t : Tk} (h : i3 b t) (hc : cm3 b (nx b n L t)) (h2 : (nx b n L (nx b n L t)).1 = 2) : sLeaf b n L an mn t = .inr (nx b n L (nx b n L (nx b n L t))) := by
  unfold sLeaf; rw [cif_neg (i3_no h).1, cif_neg (i3_no h).2.1, cif_neg (i3_no h).2.2, cif_pos hc, cif_pos h2]
theorem lfW_1 {t : Tk} (h : lfW b t) : t.1 = 1 := by
  rcases h with (h | h | h) | h | (h | h) | (h | h | h | h) <;> exact h.1
theorem lfW_no {t : Tk} (h : lfW b t) : ¬ isW b 15 t ∧ ¬ opn b t := by
  refine ⟨fun q => ?_, fun q => by have := lfW_1 h; have := q.1; omega⟩
  rcases h with (h | h | h) | h | (h | h) | (h | h | h | h) <;> exact absurd (isW_un (by decide) (by decide) h q) (by decide)
theorem stO_1 {t : Tk} {k : Nat} {sg : List Bool} (h : ¬ fsW b t) : stO b n L an mn t k sg = .inr (bad 1 t) := by unfold stO; rw [cif_pos h]
theorem stO_4 {t : Tk} {k : Nat} {sg : List Bool} (h : fsW b t) (h4 : 20 ≤ k ∨ 8 ≤ sg.length) : stO b n L an mn t k sg = .inr (bad 4 t) := by unfold stO; rw [cif_neg (fun q => q h), cif_pos h4]
theorem stO_n {t : Tk} {k : Nat} {sg : List Bool} (h : isW b 15 t) (h4 : ¬ (20 ≤ k ∨ 8 ≤ sg.length)) : stO b n L an mn t k sg = .inl (false, nx b n L t, k + 1, true :: sg) := by
  unfold stO; rw [cif_neg (fun q => q (Or.inl h)), cif_neg h4, cif_pos h]
theorem stO_o {t : Tk} {k : Nat} {sg : List Bool} (h : opn b t) (h4 : ¬ (20 ≤ k ∨ 8 ≤ sg.length)) : stO b n L an mn t k sg = .inl (false, nx b n L t, k + 1, false :: sg) := by
  unfold stO; rw [cif_neg (fun q => q (Or.inr (Or.inl h))), cif_neg h4, cif_neg (fun q => by have := q.1; have := h.1; omega), cif_pos h]
theorem stO_l {t : Tk} {k : Nat} {sg : List Bool} {q : Nat × Nat} (h : lfW b t) (h4 : ¬ (20 ≤ k ∨ 8 ≤ sg.length)) (e : sLeaf b n L an mn t = .inl q) : stO b n L an mn t k sg = .inr (.inl q) := by
  unfold stO; rw [cif_neg (fun z => z (Or.inr (Or.inr h))), cif_neg h4, cif_neg (lfW_no h).1, cif_neg (lfW_no h).2, e]; rfl
theorem stO_r {t t' : Tk} {k : Nat} {sg : List Bool} (h : lfW b t) (h4 : ¬ (20 ≤ k ∨ 8 ≤ sg.length)) (e : sLeaf b n L an mn t = .inr t') : stO b n L an mn t k sg = .inl (true, t', k + 1, dropN sg) := by
  unfold stO; rw [cif_neg (fun z => z (Or.inr (Or.inr h))), cif_neg h4, cif_neg (lfW_no h).1, cif_neg (lfW_no h).2, e]; rfl
theorem stW_e {t : Tk} {k : Nat} (h : t.1 = 0) : stW b n L t k [] = .inr (.inr k) := by unfold stW; rw [cif_pos h, cif_pos rfl]
theorem stW_a {t : Tk} {k : Nat} {sg : List Bool} (h : isW b 14 t ∨ isW b 13 t) : stW b n L t k sg = .inl (false, nx b n L t, k, sg) := by
  unfold stW; rw [cif_neg (fun q => by rcases h with h | h <;> (have := h.1; omega)), cif_pos h]
theorem stW_c {t : Tk} {k : Nat} {sg : List Bool} {x : Bool} (h : cls b t) : stW b n L t k (x :: sg) = .inl (true, nx b n L t, k, dropN sg) := by
  unfold stW; rw [cif_neg (fun q => by have := h.1; omega), cif_neg (fun q => by rcases q with q | q <;> (have := q.1; have := h.1; omega)), cif_pos ⟨h, by simp⟩]; rfl
/-- what can't come: a bracket stays open -/
theorem stW_f {t : Tk} {k : Nat} {sg : List Bool} {x : Bool} (h : ¬ isW b 14 t) (h' : ¬ isW b 13 t) (hc : ¬ cls b t) : stW b n L t k (x :: sg) = .inr (bad 1 t) := by
  unfold stW
  by_cases e : t.1 = 0
  · rw [cif_pos e, cif_neg (by simp)]
  · rw [cif_neg e, cif_neg (fun q => q.elim h h'), cif_neg (fun q => hc q.1)]
theorem stW_z {t : Tk} {k : Nat} (h : ¬ isW b 14 t) (h' : ¬ isW b 13 t) (e : ¬ t.1 = 0) : stW b n L t k [] = .inr (bad 1 t) := by
  unfold stW; rw [cif_neg e, cif_neg (fun q => q.elim h h'), cif_neg (fun q => q.2 rfl)]
theorem stS_O {t : Tk} {k : Nat} {sg : List Bool} {r : SS ⊕ Rs Nat} (e : stO b n L an mn t k sg = r) : stS b n L an mn (false, t, k, sg) = r := e
theorem stS_W {t : Tk} {k : Nat} {sg : List Bool} {r : SS ⊕ Rs Nat} (e : stW b n L t k sg = r) : stS b n L an mn (true, t, k, sg) = r := e
theorem tSgn_g {c : Int} {t : Tk} (h : t.1 = 3 ∧ b t.2.1 = c) : tSgn b n L c t = .inr (nx b n L t) := by unfold tSgn; rw [cif_pos h]
theorem tSgn_b {c : Int} {t : Tk} (h : ¬ (t.1 = 3 ∧ b t.2.1 = c)) : tSgn b n L c t = bad 1 t := by unfold tSgn; rw [cif_neg h]
theorem tNum_b1 {lo hi : Int} {t : Tk} (h : ¬ t.1 = 2) : tNum b n L lo hi t = bad 1 t := by unfold tNum; rw [cif_pos h]
theorem tNum_b2 {lo hi : Int} {t : Tk} (h : t.1 = 2) (h2 : nbr b t < lo ∨ hi < nbr b t) : tNum b n L lo hi t = bad 2 t := by unfold tNum; rw [cif_neg (fun q => q h), cif_pos h2]
theorem tNum_g {lo hi : Int} {t : Tk} (h : t.1 = 2) (h2 : ¬ (nbr b t < lo ∨ hi < nbr b t)) : tNum b n L lo hi t = .inr (nbr b t, nx b n L t) := by unfold tNum; rw [cif_neg (fun q => q h), cif_neg h2]
theorem tYN_g {t : Tk} (h : isW b 4 t ∨ isW b 5 t) : tYN b n L t = .inr (nx b n L t) := by unfold tYN; rw [cif_neg (fun q => q h)]
theorem tYN_b {t : Tk} (h : ¬ (isW b 4 t ∨ isW b 5 t)) : tYN b n L t = bad 1 t := by unfold tYN; rw [cif_pos h]
end SB
/-! a NUMBER has two digits at most -/
theorem Tok_ex {b : Nat → Int} {n L p : Nat} (hp : p ≤ n) : ∃ t, Tok b n L p t := by
  obtain ⟨q, hq⟩ := Fst_ex b n (n - p) p hp (Nat.le_refl _)
  by_cases h : q < n ∧ aln (b q)
  · have hr : ∃ e, Rn b n q e := by
      have key : ∀ (m x : Nat), q < x → x ≤ n → n - x ≤ m → (∀ i, q ≤ i → i < x → aln (b i)) → ∃ e, Rn b n q e := by
        intro m
        induction m with
        | zero => intro x h1 h2 h3 h4; exact ⟨x, h1, h2, h4, fun _ => by omega⟩
        | succ m ih =>
          intro x h1 h2 h3 h4
          by_cases hx : x < n ∧ aln (b x)
          · refine ih (x + 1) (by omega) (by omega) (by omega) (fun i hi hx2 => ?_)
            by_cases e : i = x
            · rw [e]; exact hx.2
            · exact h4 i hi (by omega)
          · exact ⟨x, h1, h2, h4, fun h5 h6 => hx ⟨h5, h6⟩⟩
      exact key (n - (q + 1)) (q + 1) (by omega) (by omega) (Nat.le_refl _) (fun i h1 h2 => by rw [show i = q by omega]; exact h.2)
    obtain ⟨e, he⟩ := hr
    exact ⟨_, q, e, hq, fun _ => he, fun h2 => absurd h h2, rfl⟩
  · exact ⟨_, q, 0, hq, fun h2 => absurd h2 h, fun _ => rfl, rfl⟩
theorem lex_2 {b : Nat → Int} {n L p : Nat} (hp : p ≤ n) (h : (lex b n L p).1 = 2) : AllD b (lex b n L p).2.1 (lex b n L p).2.2 ∧ (lex b n L p).2.1 < (lex b n L p).2.2 ∧ (lex b n L p).2.2 ≤ (lex b n L p).2.1 + 2 := by
  obtain ⟨t, ht⟩ := Tok_ex (b := b) (n := n) (L := L) hp
  rw [lex_eq ht] at h ⊢
  obtain ⟨q, e, hq, hr, h0, rfl⟩ := ht
  by_cases c1 : L < n ∧ L ≤ q
  · have e1 : tokOf b n L q e = (4, L, 0) := by unfold tokOf; rw [cif_pos c1]
    rw [e1] at h; exact absurd h (by simp)
  by_cases c2 : q = n
  · have e1 : tokOf b n L q e = (0, n, 0) := by unfold tokOf; rw [cif_neg c1, cif_pos c2]
    rw [e1] at h; exact absurd h (by simp)
  by_cases c3 : ¬ aln (b q)
  · by_cases c4 : sgn (b q)
    · have e1 : tokOf b n L q e = (3, q, q + 1) := by unfold tokOf; rw [cif_neg c1, cif_neg c2, cif_pos c3, cif_pos c4]
      rw [e1] at h; exact absurd h (by simp)
    · have e1 : tokOf b n L q e = (4, q, 0) := by unfold tokOf; rw [cif_neg c1, cif_neg c2, cif_pos c3, cif_neg c4]
      rw [e1] at h; exact absurd h (by simp)
  by_cases c5 : AllL b q e ∧ e ≤ q + 7
  · have e1 : tokOf b n L q e = (1, q, e) := by unfold tokOf; rw [cif_neg c1, cif_neg c2, cif_neg c3, cif_pos c5]
    rw [e1] at h; exact absurd h (by simp)
  by_cases c6 : AllD b q e ∧ e ≤ q + 2
  · have e1 : tokOf b n L q e = (2, q, e) := by unfold tokOf; rw [cif_neg c1, cif_neg c2, cif_neg c3, cif_neg c5, cif_pos c6]
    rw [e1]
    have := hq.2.1
    exact ⟨c6.1, (hr ⟨by omega, Classical.not_not.mp c3⟩).1, c6.2⟩
  · have e1 : tokOf b n L q e = (4, q, 0) := by unfold tokOf; rw [cif_neg c1, cif_neg c2, cif_neg c3, cif_neg c5, cif_neg c6]
    rw [e1] at h; exact absurd h (by simp)
theorem nbr_99 {b : Nat → Int} {n L p : Nat} (hp : p ≤ n) (h : (lex b n L p).1 = 2) : 0 ≤ nbr b (lex b n L p) ∧ nbr b (lex b n L p) ≤ 99 := by
  obtain ⟨h1, h2, h3⟩ := lex_2 hp h
  generalize lex b n L p = t at *
  unfold nbr wrd
  rcases (show t.2.2 - t.2.1 = 1 ∨ t.2.2 - t.2.1 = 2 by omega) with e | e
  · rw [e]
    have d0 := h1 (t.2.1 + 0) (by omega) (by omega)
    show 0 ≤ 0 * 10 + (b (t.2.1 + 0) - 48) ∧ 0 * 10 + (b (t.2.1 + 0) - 48) ≤ 99
    omega
  · rw [e]
    have d0 := h1 (t.2.1 + 0) (by omega) (by omega)
    have d1 := h1 (t.2.1 + 1) (by omega) (by omega)
    show 0 ≤ (0 * 10 + (b (t.2.1 + 0) - 48)) * 10 + (b (t.2.1 + 1) - 48) ∧ (0 * 10 + (b (t.2.1 + 0) - 48)) * 10 + (b (t.2.1 + 1) - 48) ≤ 99
    omega
theorem tNum_99 {b : Nat → Int} {n L p : Nat} {q : Nat × Nat} (hp : p ≤ n) (h : tNum b n L 0 99 (lex b n L p) = .inl q) : ¬ (lex b n L p).1 = 2 ∧ q = (1, (lex b n L p).2.1) := by
  by_cases e : (lex b n L p).1 = 2
  · have := nbr_99 hp e
    rw [tNum_g e (by omega)] at h; cases h
  · rw [tNum_b1 e] at h
    refine ⟨e, ?_⟩
    have h : (Sum.inl (1, (lex b n L p).2.1) : Rs (Int × Tk)) = .inl q := h
    cases h; rfl
/-! names, and what the class and the model hold of them -/
def RG (bb : Nat → Int) (nb L : Nat) (an mn : List (List Int)) (τ : Tau) (t : Tk) : Prop := RT bb nb L τ t ∧ NM τ 23 2 28 an ∧ NM τ 23 3 29 mn
theorem RG_fr {bb : Nat → Int} {nb L : Nat} {an mn : List (List Int)} {τ u : Tau} {t : Tk} (h : RG bb nb L an mn τ t) (h1 : ∀ j, u 1 j = τ 1 j) (h2 : ∀ j, u 2 j = τ 2 j) (h3 : ∀ j, u 201 j = τ 201 j) (e2 : u 23 2 = τ 23 2) (e3 : u 23 3 = τ 23 3) (q8 : ∀ j, u 228 j = τ 228 j) (q9 : ∀ j, u 229 j = τ 229 j) : RG bb nb L an mn u t :=
  ⟨RT_fr h.1 h1 h2 h3, NM_eq h.2.1 e2 q8, NM_eq h.2.2 e3 q9⟩
theorem NM2_fr {an mn : List (List Int)} {τ u : Tau} (h : NM τ 23 2 28 an ∧ NM τ 23 3 29 mn) (e2 : u 23 2 = τ 23 2) (e3 : u 23 3 = τ 23 3) (q8 : ∀ j, u 228 j = τ 228 j) (q9 : ∀ j, u 229 j = τ 229 j) : NM u 23 2 28 an ∧ NM u 23 3 29 mn :=
  ⟨NM_eq h.1 e2 q8, NM_eq h.2 e3 q9⟩
theorem RG_at {bb : Nat → Int} {nb L : Nat} {an mn : List (List Int)} {τ : Tau} {t : Tk} (h : RG bb nb L an mn τ t) : (τ 1 3).toInt = t.2.1 := h.1.2.2.1
/-- an answer of a method of the text at c -/
def QY {α : Type} (c : Nat) (x : Rs α) (r : Int32) (u : Tau) (P : α → Prop) : Prop := (∀ q, x = .inl q → r.toInt = 0 ∧ (u c 1).toInt = q.1 ∧ (u 1 3).toInt = q.2) ∧ ∀ g, x = .inr g → r.toInt = 1 ∧ P g
theorem QY_0 {α : Type} {c : Nat} {x : Rs α} {r : Int32} {u : Tau} {P : α → Prop} (h : QY c x r u P) (hr : r.toInt = 0) : ∃ q, x = .inl q ∧ (u c 1).toInt = q.1 ∧ (u 1 3).toInt = q.2 := by
  cases x with
  | inl q => exact ⟨q, rfl, (h.1 q rfl).2⟩
  | inr g => exact absurd (h.2 g rfl).1 (by omega)
theorem QY_1 {α : Type} {c : Nat} {x : Rs α} {r : Int32} {u : Tau} {P : α → Prop} (h : QY c x r u P) (hr : r.toInt = 1) : ∃ g, x = .inr g ∧ P g := by
  cases x with
  | inl q => exact absurd (h.1 q rfl).1 (by omega)
  | inr g => exact ⟨g, rfl, (h.2 g rfl).2⟩
theorem QY_l {α : Type} {c : Nat} {x : Rs α} {r : Int32} {u : Tau} {P : α → Prop} {q : Nat × Nat} (e : x = .inl q) (hr : r.toInt = 0) (h1 : (u c 1).toInt = q.1) (h2 : (u 1 3).toInt = q.2) : QY c x r u P := by
  subst e
  exact ⟨fun q' e => (by cases e; exact ⟨hr, h1, h2⟩), fun g e => (by cases e)⟩
theorem QY_b {α : Type} {c : Nat} {x : Rs α} {r : Int32} {u : Tau} {P : α → Prop} {k a : Nat} (e : x = .inl (k, a)) (hr : r.toInt = 0) (h1 : (u c 1).toInt = k) (h2 : (u 1 3).toInt = a) : QY c x r u P := QY_l e hr h1 h2
theorem QY_r {α : Type} {c : Nat} {x : Rs α} {r : Int32} {u : Tau} {P : α → Prop} {g : α} (e : x = .inr g) (hr : r.toInt = 1) (h : P g) : QY c x r u P := by
  subst e
  exact ⟨fun q e => (by cases e), fun g' e => (by cases e; exact ⟨hr, h⟩)⟩
/-- an answer of a method that reads a piece of a SENTENCE -/
def QS (bb : Nat → Int) (nb L : Nat) (an mn : List (List Int)) (t : Tk) (k : Nat) (sg sg' : List Bool) (r : Int32) (u : Tau) (P : Tk → Prop) : Prop :=
  (r.toInt = 0 → ∃ q : Nat × Nat, Hlt bb nb L an mn (false, t, k, sg) (.inl q) ∧ (u 16 1).toInt = q.1 ∧ (u 1 3).toInt = q.2) ∧
  (r.toInt = 1 → ∃ (t' : Tk) (k' : Nat), RG bb nb L an mn u t' ∧ (u 16 4).toInt = k' ∧ (k < k' ∧ k' ≤ 20) ∧ P t' ∧ Rch bb nb L an mn (false, t, k, sg) (true, t', k', sg'))
theorem QS_l {bb : Nat → Int} {nb L : Nat} {an mn : List (List Int)} {t : Tk} {k : Nat} {sg sg' : List Bool} {r : Int32} {u : Tau} {P : Tk → Prop} {q : Nat × Nat} (hr : r.toInt = 0) (h : Hlt bb nb L an mn (false, t, k, sg) (.inl q)) (h1 : (u 16 1).toInt = q.1) (h2 : (u 1 3).toInt = q.2) : QS bb nb L an mn t k sg sg' r u P :=
  ⟨fun _ => ⟨q, h, h1, h2⟩, fun h => by exfalso; omega⟩
theorem QS_r {bb : Nat → Int} {nb L : Nat} {an mn : List (List Int)} {t t' : Tk} {k k' : Nat} {sg sg' : List Bool} {r : Int32} {u : Tau} {P : Tk → Prop} (hr : r.toInt = 1) (hR : RG bb nb L an mn u t') (h4 : (u 16 4).toInt = k') (hk : k < k' ∧ k' ≤ 20) (hP : P t') (h : Rch bb nb L an mn (false, t, k, sg) (true, t', k', sg')) : QS bb nb L an mn t k sg sg' r u P :=
  ⟨fun h => by exfalso; omega, fun _ => ⟨t', k', hR, h4, hk, hP, h⟩⟩
