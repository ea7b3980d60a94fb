/-! bytes, tokens, names: what both parsers read -/
abbrev spc (c : Int) : Prop := c = 32 ∨ c = 10
abbrev low (c : Int) : Prop := 97 ≤ c ∧ c ≤ 122
abbrev dig (c : Int) : Prop := 48 ≤ c ∧ c ≤ 57
abbrev aln (c : Int) : Prop := (97 ≤ c ∧ c ≤ 122) ∨ (48 ≤ c ∧ c ≤ 57)
abbrev sgn (c : Int) : Prop := c = 59 ∨ c = 40 ∨ c = 41 ∨ (60 ≤ c ∧ c ≤ 62)
abbrev Tk : Type := Nat × Nat × Nat
def Fst (b : Nat → Int) (n p q : Nat) : Prop := p ≤ q ∧ q ≤ n ∧ (∀ i, p ≤ i → i < q → spc (b i)) ∧ (q < n → ¬ spc (b q))
def Rn (b : Nat → Int) (n q e : Nat) : Prop := q < e ∧ e ≤ n ∧ (∀ i, q ≤ i → i < e → aln (b i)) ∧ (e < n → ¬ aln (b e))
def AllL (b : Nat → Int) (q e : Nat) : Prop := ∀ i, q ≤ i → i < e → low (b i)
def AllD (b : Nat → Int) (q e : Nat) : Prop := ∀ i, q ≤ i → i < e → dig (b i)
theorem Fst_uniq {b : Nat → Int} {n p q q' : Nat} (h : Fst b n p q) (h' : Fst b n p q') : q = q' := by
  obtain ⟨a1, a2, a3, a4⟩ := h
  obtain ⟨b1, b2, b3, b4⟩ := h'
  rcases Nat.lt_trichotomy q q' with h | h | h
  · exact absurd (b3 q a1 h) (a4 (by omega))
  · exact h
  · exact absurd (a3 q' b1 h) (b4 (by omega))
theorem Rn_uniq {b : Nat → Int} {n q e e' : Nat} (h : Rn b n q e) (h' : Rn b n q e') : e = e' := by
  obtain ⟨a1, a2, a3, a4⟩ := h
  obtain ⟨b1, b2, b3, b4⟩ := h'
  rcases Nat.lt_trichotomy e e' with h | h | h
  · exact absurd (b3 e (by omega) h) (a4 (by omega))
  · exact h
  · exact absurd (a3 e' (by omega) h) (b4 (by omega))
theorem Fst_ex (b : Nat → Int) (n : Nat) : ∀ (m p : Nat), p ≤ n → n - p ≤ m → ∃ q, Fst b n p q := by
  intro m
  induction m with
  | zero => intro p h1 h2; exact ⟨p, Nat.le_refl _, h1, fun i _ _ => by omega, fun _ => by omega⟩
  | succ m ih =>
    intro p h1 h2
    by_cases h : p < n ∧ spc (b p)
    · obtain ⟨q, a1, a2, a3, a4⟩ := ih (p + 1) (by omega) (by omega)
      refine ⟨q, by omega, a2, fun i hi hq => ?_, a4⟩
      by_cases e : i = p
      · rw [e]; exact h.2
      · exact a3 i (by omega) hq
    · exact ⟨p, Nat.le_refl _, h1, fun i _ _ => by omega, fun hp hs => h ⟨hp, hs⟩⟩
noncomputable def cif {α : Type} (P : Prop) (x y : α) : α := @ite α P (Classical.propDecidable P) x y
theorem cif_pos {α : Type} {P : Prop} {x y : α} (h : P) : cif P x y = x := by unfold cif; exact if_pos h
theorem cif_neg {α : Type} {P : Prop} {x y : α} (h : ¬ P) : cif P x y = y := by unfold cif; exact if_neg h
noncomputable def tokOf (b : Nat → Int) (n L q e : Nat) : Tk :=
  cif (L < n ∧ L ≤ q) (4, L, 0) (cif (q = n) (0, n, 0)
  (cif (¬ aln (b q)) (cif (sgn (b q)) (3, q, q + 1) (4, q, 0))
  (cif (AllL b q e ∧ e ≤ q + 7) (1, q, e) (cif (AllD b q e ∧ e ≤ q + 2) (2, q, e) (4, q, 0)))))
/-- the token that comes at p -/
def Tok (b : Nat → Int) (n L p : Nat) (t : Tk) : Prop := ∃ q e, Fst b n p q ∧ ((q < n ∧ aln (b q)) → Rn b n q e) ∧ (¬ (q < n ∧ aln (b q)) → e = 0) ∧ t = tokOf b n L q e
theorem Tok_uniq {b : Nat → Int} {n L p : Nat} {t t' : Tk} (h : Tok b n L p t) (h' : Tok b n L p t') : t = t' := by
  obtain ⟨q, e, a1, a2, a3, rfl⟩ := h
  obtain ⟨q', e', b1, b2, b3, rfl⟩ := h'
  cases Fst_uniq a1 b1
  by_cases h : q < n ∧ aln (b q)
  · cases Rn_uniq (a2 h) (b2 h); rfl
  · rw [a3 h, b3 h]
noncomputable def lex (b : Nat → Int) (n L p : Nat) : Tk := Classical.epsilon (fun t => Tok b n L p t)
theorem lex_eq {b : Nat → Int} {n L p : Nat} {t : Tk} (h : Tok b n L p t) : lex b n L p = t :=
  Tok_uniq (Classical.epsilon_spec (p := fun t => Tok b n L p t) ⟨t, h⟩) h
/-- the five ways -/
theorem Tok_over {b : Nat → Int} {n L p : Nat} (hp : p ≤ n) (hL : L < n) (hs : ∀ i, p ≤ i → i < L → spc (b i)) : Tok b n L p (4, L, 0) := by
  obtain ⟨q, hq⟩ := Fst_ex b n (n - p) p hp (Nat.le_refl _)
  have hLq : L ≤ q := by
    by_cases h : q < L
    · exact absurd (hs q hq.1 h) (hq.2.2.2 (by omega))
    · omega
  by_cases h : q < n ∧ aln (b q)
  · have hr : ∃ e, Rn b n q e := by
      have key : ∀ (m x : Nat), q < x → x ≤ n → n - x ≤ m → (∀ i, q ≤ i → i < x → aln (b i)) → ∃ e, Rn b n q e := by
        intro m
        induction m with
        | zero => intro x h1 h2 h3 h4; exact ⟨x, h1, h2, h4, fun _ => by omega⟩
        | succ m ih =>
          intro x h1 h2 h3 h4
          by_cases hx : x < n ∧ aln (b x)
          · refine ih (x + 1) (by omega) (by omega) (by omega) (fun i hi hx2 => ?_)
            by_cases e : i = x
            · rw [e]; exact hx.2
            · exact h4 i hi (by omega)
          · exact ⟨x, h1, h2, h4, fun h5 h6 => hx ⟨h5, h6⟩⟩
      exact key (n - (q + 1)) (q + 1) (by omega) (by omega) (Nat.le_refl _) (fun i h1 h2 => by rw [show i = q by omega]; exact h.2)
    obtain ⟨e, he⟩ := hr
    exact ⟨q, e, hq, fun _ => he, fun h2 => absurd h h2, by unfold tokOf; rw [cif_pos ⟨hL, hLq⟩]⟩
  · exact ⟨q, 0, hq, fun h2 => absurd h2 h, fun _ => rfl, by unfold tokOf; rw [cif_pos ⟨hL, hLq⟩]⟩
theorem Tok_stop {b : Nat → Int} {n L p : Nat} (hL : n ≤ L) (hq : Fst b n p n) : Tok b n L p (0, n, 0) :=
  ⟨n, 0, hq, fun h => absurd h.1 (Nat.lt_irrefl _), fun _ => rfl, by unfold tokOf; rw [cif_neg (by omega), cif_pos rfl]⟩
theorem Tok_sign {b : Nat → Int} {n L p q : Nat} (hq : Fst b n p q) (h : q < n) (hL : ¬ (L < n ∧ L ≤ q)) (ha : ¬ aln (b q)) (hs : sgn (b q)) : Tok b n L p (3, q, q + 1) :=
  ⟨q, 0, hq, fun h => absurd h.2 ha, fun _ => rfl, by unfold tokOf; rw [cif_neg hL, cif_neg (by omega), cif_pos ha, cif_pos hs]⟩
theorem Tok_none {b : Nat → Int} {n L p q : Nat} (hq : Fst b n p q) (h : q < n) (hL : ¬ (L < n ∧ L ≤ q)) (ha : ¬ aln (b q)) (hs : ¬ sgn (b q)) : Tok b n L p (4, q, 0) :=
  ⟨q, 0, hq, fun h => absurd h.2 ha, fun _ => rfl, by unfold tokOf; rw [cif_neg hL, cif_neg (by omega), cif_pos ha, cif_neg hs]⟩
theorem Rn_al {b : Nat → Int} {n q e : Nat} (h : Rn b n q e) : q < n ∧ aln (b q) := ⟨by have := h.1; have := h.2.1; omega, h.2.2.1 q (Nat.le_refl _) h.1⟩
theorem Tok_word {b : Nat → Int} {n L p q e : Nat} (hq : Fst b n p q) (hL : ¬ (L < n ∧ L ≤ q)) (hr : Rn b n q e) (hl : AllL b q e) (h7 : e ≤ q + 7) : Tok b n L p (1, q, e) :=
  ⟨q, e, hq, fun _ => hr, fun h => absurd (Rn_al hr) h, by have h := Rn_al hr; unfold tokOf; rw [cif_neg hL, cif_neg (by omega), cif_neg (by exact fun h2 => h2 h.2), cif_pos ⟨hl, h7⟩]⟩
theorem Tok_nbr {b : Nat → Int} {n L p q e : Nat} (hq : Fst b n p q) (hL : ¬ (L < n ∧ L ≤ q)) (hr : Rn b n q e) (hl : AllD b q e) (h2 : e ≤ q + 2) : Tok b n L p (2, q, e) :=
  ⟨q, e, hq, fun _ => hr, fun h => absurd (Rn_al hr) h, by
    have h := Rn_al hr
    have hn : ¬ (AllL b q e ∧ e ≤ q + 7) := fun hx => by have h3 := hx.1 q (Nat.le_refl _) hr.1; have h4 := hl q (Nat.le_refl _) hr.1; omega
    unfold tokOf; rw [cif_neg hL, cif_neg (by omega), cif_neg (by exact fun h2 => h2 h.2), cif_neg hn, cif_pos ⟨hl, h2⟩]⟩
theorem Tok_odd {b : Nat → Int} {n L p q e : Nat} (hq : Fst b n p q) (hL : ¬ (L < n ∧ L ≤ q)) (hr : Rn b n q e) (h1 : ¬ (AllL b q e ∧ e ≤ q + 7)) (h2 : ¬ (AllD b q e ∧ e ≤ q + 2)) : Tok b n L p (4, q, 0) :=
  ⟨q, e, hq, fun _ => hr, fun h => absurd (Rn_al hr) h, by have h := Rn_al hr; unfold tokOf; rw [cif_neg hL, cif_neg (by omega), cif_neg (by exact fun h2 => h2 h.2), cif_neg h1, cif_neg h2]⟩
/-! letters, the last first -/
def ltr (b : Nat → Int) (a : Nat) : Nat → List Int
  | 0 => []
  | m + 1 => b (a + m) :: ltr b a m
def e27 : List Int → Int
  | [] => 0
  | c :: t => e27 t * 27 + (c - 96)
def e256 : List Int → Int
  | [] => 0
  | c :: t => e256 t * 256 + c
def nmb : List Int → Int
  | [] => 0
  | c :: t => nmb t * 10 + (c - 48)
def lowL (l : List Int) : Prop := ∀ c ∈ l, low c
theorem ltr_low {b : Nat → Int} {a : Nat} : ∀ {m : Nat}, AllL b a (a + m) → lowL (ltr b a m) := by
  intro m
  induction m with
  | zero => intro _ c hc; cases hc
  | succ m ih =>
    intro h c hc
    rcases List.mem_cons.mp hc with rfl | hc
    · exact h (a + m) (by omega) (by omega)
    · exact ih (fun i h1 h2 => h i h1 (by omega)) c hc
theorem ltr_len {b : Nat → Int} {a : Nat} : ∀ (m : Nat), (ltr b a m).length = m := by
  intro m
  induction m with
  | zero => rfl
  | succ m ih => show (ltr b a m).length + 1 = m + 1; rw [ih]
theorem e27_lo : ∀ {l : List Int}, lowL l → 0 ≤ e27 l := by
  intro l
  induction l with
  | nil => intro _; exact Int.le_refl 0
  | cons c t ih =>
    intro h
    have h1 := h c (List.mem_cons_self ..)
    have h2 := ih (fun x hx => h x (List.mem_cons_of_mem _ hx))
    show 0 ≤ e27 t * 27 + (c - 96)
    omega
theorem e256_lo : ∀ {l : List Int}, lowL l → 0 ≤ e256 l := by
  intro l
  induction l with
  | nil => intro _; exact Int.le_refl 0
  | cons c t ih =>
    intro h
    have h1 := h c (List.mem_cons_self ..)
    have h2 := ih (fun x hx => h x (List.mem_cons_of_mem _ hx))
    show 0 ≤ e256 t * 256 + c
    omega
theorem e27_inj : ∀ {l k : List Int}, lowL l → lowL k → e27 l = e27 k → l = k := by
  intro l
  induction l with
  | nil =>
    intro k _ hk e
    cases k with
    | nil => rfl
    | cons c t =>
      have h1 := hk c (List.mem_cons_self ..)
      have h2 := e27_lo (fun x hx => hk x (List.mem_cons_of_mem _ hx) : lowL t)
      have e : 0 = e27 t * 27 + (c - 96) := e
      omega
  | cons d s ih =>
    intro k hl hk e
    have g1 := hl d (List.mem_cons_self ..)
    have g2 := e27_lo (fun x hx => hl x (List.mem_cons_of_mem _ hx) : lowL s)
    cases k with
    | nil =>
      have e : e27 s * 27 + (d - 96) = 0 := e
      omega
    | cons c t =>
      have h1 := hk c (List.mem_cons_self ..)
      have h2 := e27_lo (fun x hx => hk x (List.mem_cons_of_mem _ hx) : lowL t)
      have e : e27 s * 27 + (d - 96) = e27 t * 27 + (c - 96) := e
      have e1 : d = c := by omega
      have e2 : e27 s = e27 t := by omega
      rw [e1, ih (fun x hx => hl x (List.mem_cons_of_mem _ hx)) (fun x hx => hk x (List.mem_cons_of_mem _ hx)) e2]
theorem e256_inj : ∀ {l k : List Int}, lowL l → lowL k → e256 l = e256 k → l = k := by
  intro l
  induction l with
  | nil =>
    intro k _ hk e
    cases k with
    | nil => rfl
    | cons c t =>
      have h1 := hk c (List.mem_cons_self ..)
      have h2 := e256_lo (fun x hx => hk x (List.mem_cons_of_mem _ hx) : lowL t)
      have e : 0 = e256 t * 256 + c := e
      omega
  | cons d s ih =>
    intro k hl hk e
    have g1 := hl d (List.mem_cons_self ..)
    have g2 := e256_lo (fun x hx => hl x (List.mem_cons_of_mem _ hx) : lowL s)
    cases k with
    | nil =>
      have e : e256 s * 256 + d = 0 := e
      omega
    | cons c t =>
      have h1 := hk c (List.mem_cons_self ..)
      have h2 := e256_lo (fun x hx => hk x (List.mem_cons_of_mem _ hx) : lowL t)
      have e : e256 s * 256 + d = e256 t * 256 + c := e
      have e1 : d = c := by omega
      have e2 : e256 s = e256 t := by omega
      rw [e1, ih (fun x hx => hl x (List.mem_cons_of_mem _ hx)) (fun x hx => hk x (List.mem_cons_of_mem _ hx)) e2]
/-- the words that are kept, letters last first -/
def kwl : List (List Int) := [[115, 116, 97, 101, 115], [107, 99, 97, 108, 115], [107, 115, 97], [110, 97, 109], [115, 101, 121], [111, 110], [100, 108, 105, 104, 99], [110, 105, 107], [115, 115, 111, 114, 99], [101, 115, 105, 97, 114], [101, 114, 105, 104], [115, 101, 105, 108], [115, 110, 114, 117, 116], [114, 111], [100, 110, 97], [116, 111, 110], [114, 101, 118, 111], [116, 101, 119], [100, 101, 114, 105, 104], [104, 116, 105, 119], [109, 114, 105, 102], [101, 103, 97, 119], [115, 112, 105, 114, 116], [114, 101, 98, 109, 117, 110]]
theorem kwl_low : ∀ l ∈ kwl, lowL l := by
  have h : kwl.all (fun l => l.all (fun c => decide (97 ≤ c ∧ c ≤ 122))) = true := by decide +kernel
  intro l hl c hc
  have h1 := List.all_eq_true.mp h l hl
  exact of_decide_eq_true (List.all_eq_true.mp h1 c hc)
theorem kwl_27 : ∀ i, i < 24 → (spL.getD i 0).toInt = e27 (kwl.getD i []) := by decide +kernel
/-! what the text of a FERRY says -/
abbrev PS : Type := Bool × Bool × Int × Int × Nat × List (List Int) × List (List Int) × (Nat → Bool) × (Nat → Nat → Bool)
abbrev FS : Type := Tk × PS
abbrev gsT (s : PS) : Bool := s.1
abbrev gkT (s : PS) : Bool := s.2.1
abbrev gse (s : PS) : Int := s.2.2.1
abbrev gsl (s : PS) : Int := s.2.2.2.1
abbrev gkn (s : PS) : Nat := s.2.2.2.2.1
abbrev gan (s : PS) : List (List Int) := s.2.2.2.2.2.1
abbrev gmn (s : PS) : List (List Int) := s.2.2.2.2.2.2.1
abbrev gpa (s : PS) : Nat → Bool := s.2.2.2.2.2.2.2.1
abbrev gki (s : PS) : Nat → Nat → Bool := s.2.2.2.2.2.2.2.2
abbrev usT (s : PS) (v : Bool) : PS := (v, s.2)
abbrev ukT (s : PS) (v : Bool) : PS := (s.1, v, s.2.2)
abbrev use (s : PS) (v : Int) : PS := (s.1, s.2.1, v, s.2.2.2)
abbrev usl (s : PS) (v : Int) : PS := (s.1, s.2.1, s.2.2.1, v, s.2.2.2.2)
abbrev uan (s : PS) (w : List Int) : PS := (s.1, s.2.1, s.2.2.1, s.2.2.2.1, s.2.2.2.2.1, gan s ++ [w], s.2.2.2.2.2.2)
abbrev umn (s : PS) (w : List Int) : PS := (s.1, s.2.1, s.2.2.1, s.2.2.2.1, s.2.2.2.2.1, gan s, gmn s ++ [w], s.2.2.2.2.2.2.2)
abbrev upa (s : PS) (k : Nat) : PS := (s.1, s.2.1, s.2.2.1, s.2.2.2.1, s.2.2.2.2.1, gan s, gmn s, (fun i => gpa s i || i == k), gki s)
abbrev uki (s : PS) (k j : Nat) : PS := (s.1, s.2.1, s.2.2.1, s.2.2.2.1, gkn s + 1, gan s, gmn s, gpa s, (fun x y => gki s x y || (x == k && y == j) || (x == j && y == k)))
abbrev Rs (α : Type) : Type := (Nat × Nat) ⊕ α
section PX
variable (b : Nat → Int) (n : Nat)
noncomputable def stp (f : FS) : FS := (lex b n 900 f.1.2.2, f.2)
def wrd (t : Tk) : List Int := ltr b t.2.1 (t.2.2 - t.2.1)
def nbr (t : Tk) : Int := nmb (wrd b t)
def bad {α : Type} (k : Nat) (t : Tk) : Rs α := .inl (k, t.2.1)
/-- what is done with an answer -/
def thn {α β : Type} (r : Rs α) (k : α → Rs β) : Rs β := Sum.elim (fun x => .inl x) k r
noncomputable def sSgn (c : Int) (f : FS) : Rs FS := cif (f.1.1 = 3 ∧ b f.1.2.1 = c) (.inr (stp b n f)) (bad 1 f.1)
noncomputable def sNum (lo hi : Int) (f : FS) : Rs (Int × FS) := cif (f.1.1 ≠ 2) (bad 1 f.1) (cif (nbr b f.1 < lo ∨ hi < nbr b f.1) (bad 2 f.1) (.inr (nbr b f.1, stp b n f)))
abbrev isW (i : Nat) (t : Tk) : Prop := t.1 = 1 ∧ wrd b t = kwl.getD i []
abbrev isN (t : Tk) : Prop := t.1 = 1 ∧ wrd b t ∉ kwl
/-- the place of a name, or -1 -/
def fnd : List (List Int) → List Int → Int
  | [], _ => -1
  | x :: l, w => if x = w then 0 else if fnd l w < 0 then -1 else fnd l w + 1
noncomputable def sLook (l : List (List Int)) (t : Tk) : Rs Nat := cif (¬ isN b t) (bad 1 t) (cif (fnd l (wrd b t) < 0) (bad 3 t) (.inr (fnd l (wrd b t)).toNat))
noncomputable def sNew (f : FS) : Rs Unit := cif (¬ isN b f.1) (bad 1 f.1) (cif (0 ≤ fnd (gan f.2) (wrd b f.1) ∨ 0 ≤ fnd (gmn f.2) (wrd b f.1)) (bad 3 f.1) (.inr ()))
noncomputable def sSeats (f : FS) : Rs FS := cif (gsT f.2 = true) (bad 3 f.1) (thn (sNum b n 1 8 (stp b n (f.1, usT f.2 true))) (fun q => .inr (q.2.1, use q.2.2 q.1)))
noncomputable def sSlack (f : FS) : Rs FS := cif (gkT f.2 = true) (bad 3 f.1) (thn (sNum b n 0 9 (stp b n (f.1, ukT f.2 true))) (fun q => .inr (q.2.1, usl q.2.2 q.1)))
noncomputable def sAsk (f : FS) : Rs FS := cif (9 ≤ (gan f.2).length) (bad 4 f.1) (thn (sNew b (stp b n f)) (fun _ => .inr (stp b n ((stp b n f).1, uan f.2 (wrd b (stp b n f).1)))))
noncomputable def sYN (f : FS) : Rs FS := cif (¬ (isW b 4 f.1 ∨ isW b 5 f.1)) (bad 1 f.1) (.inr (stp b n f))
noncomputable def sOp (op : Nat → Bool) (f : FS) : Rs (Nat × FS) := thn (sLook b (gan f.2) f.1) (fun i => cif (op i = true) (bad 3 f.1) (thn (sYN b n (stp b n f)) (fun g => thn (sNum b n 1 9 g) (fun q => .inr (i, q.2)))))
noncomputable def sOps : Nat → (Nat → Bool) → FS → Rs FS
  | 0, _, f => .inr f
  | m + 1, op, f => cif (f.1.1 = 3 ∧ b f.1.2.1 = 59) (.inr f) (thn (sOp b n op f) (fun q => sOps m (fun j => op j || j == q.1) q.2))
noncomputable def sMan (f : FS) : Rs FS := cif (10 ≤ (gmn f.2).length) (bad 4 f.1) (thn (sNew b (stp b n f)) (fun _ => thn (sNum b n 0 20 (stp b n ((stp b n f).1, umn f.2 (wrd b (stp b n f).1)))) (fun q => sOps b n 10 (fun _ => false) q.2)))
noncomputable def sChild (f : FS) : Rs FS := thn (sLook b (gmn f.2) (stp b n f).1) (fun k => cif (gpa f.2 k = true) (bad 3 (stp b n f).1) (thn (sLook b (gmn f.2) (stp b n (stp b n f)).1) (fun j => cif (j = k) (bad 3 (stp b n (stp b n f)).1) (.inr (stp b n ((stp b n (stp b n f)).1, upa f.2 k))))))
noncomputable def sKin (f : FS) : Rs FS := thn (sLook b (gmn f.2) (stp b n f).1) (fun k => thn (sLook b (gmn f.2) (stp b n (stp b n f)).1) (fun j => cif (j = k ∨ gki f.2 k j = true) (bad 3 (stp b n (stp b n f)).1) (.inr (stp b n ((stp b n (stp b n f)).1, uki f.2 k j)))))
noncomputable def sLine (f : FS) : Rs FS := cif (isW b 0 f.1) (sSeats b n f) (cif (isW b 1 f.1) (sSlack b n f) (cif (isW b 2 f.1) (sAsk b n f) (cif (isW b 3 f.1) (sMan b n f) (cif (isW b 6 f.1) (sChild b n f) (cif (isW b 7 f.1) (sKin b n f) (bad 1 f.1))))))
noncomputable def sRd : Nat → FS → Nat → Rs (Nat × FS)
  | 0, f, l => .inr (l, f)
  | m + 1, f, l => cif (f.1.1 = 0) (.inr (l, f)) (thn (sLine b n f) (fun g => thn (sSgn b n 59 g) (fun h => sRd m h (l + 1))))
end PX
def ps0 : PS := (false, false, 4, 0, 0, [], [], fun _ => false, fun _ _ => false)
theorem thn_l {α β : Type} {r : Rs α} {k : α → Rs β} {x : Nat × Nat} (h : r = .inl x) : thn r k = .inl x := by rw [h]; rfl
theorem thn_r {α β : Type} {r : Rs α} {k : α → Rs β} {x : α} (h : r = .inr x) : thn r k = k x := by rw [h]; rfl
theorem fnd_lo : ∀ (l : List (List Int)) (w : List Int), -1 ≤ fnd l w ∧ fnd l w < l.length := by
  intro l w
  induction l with
  | nil => exact ⟨by show (-1 : Int) ≤ -1; omega, by show (-1 : Int) < 0; omega⟩
  | cons x l ih =>
    have e : (x :: l).length = l.length + 1 := rfl
    unfold fnd
    split
    · omega
    · split
      · omega
      · omega
/-- the first place at which the name stands -/
theorem fnd_at : ∀ {l : List (List Int)} {w : List Int} {i : Nat}, i < l.length → l.getD i [] = w → (∀ j, j < i → l.getD j [] ≠ w) → fnd l w = i := by
  intro l
  induction l with
  | nil => intro w i h; cases h
  | cons x l ih =>
    intro w i h e hj
    cases i with
    | zero => have e : x = w := e; unfold fnd; rw [if_pos e]; rfl
    | succ i =>
      have hx : ¬ x = w := hj 0 (by omega)
      have h2 : i < l.length := by have e2 : (x :: l).length = l.length + 1 := rfl; omega
      have h3 := ih (w := w) (i := i) h2 e (fun j h4 => hj (j + 1) (by omega))
      unfold fnd
      rw [if_neg hx, if_neg (by omega), h3]; rfl
theorem fnd_no : ∀ {l : List (List Int)} {w : List Int}, (∀ j, j < l.length → l.getD j [] ≠ w) → fnd l w = -1 := by
  intro l
  induction l with
  | nil => intro w _; rfl
  | cons x l ih =>
    intro w hj
    have e2 : (x :: l).length = l.length + 1 := rfl
    have hx : ¬ x = w := hj 0 (by omega)
    have h3 := ih (w := w) (fun j h4 => hj (j + 1) (by omega))
    unfold fnd
    rw [if_neg hx, if_pos (by omega)]
