/-! the class's reading of tokens -/
theorem qof_of {τ u : Tau} {k : Nat} (h : ∀ m, u (k + 200) m = τ (k + 200) m) (j : Nat) : qof u k j = qof τ k j := by
  unfold qof; rw [h, h]
theorem Ml_upd {τ u : Tau} {k j : Nat} {x : Int64} (h : Ml τ u k (vp_updL (qof τ k) j x)) : qof u k j = x := by
  rw [Ml_at h]; simp [vp_updL]
theorem Ml_upn {τ u : Tau} {k j i : Nat} {x : Int64} (h : Ml τ u k (vp_updL (qof τ k) j x)) (hi : i ≠ j) : qof u k i = qof τ k i := by
  rw [Ml_at h]; simp [vp_updL, hi]
def pw27 : Nat → Int
  | 0 => 1
  | m + 1 => pw27 m * 27
def pw256 : Nat → Int
  | 0 => 1
  | m + 1 => pw256 m * 256
theorem e27_hi : ∀ {l : List Int}, lowL l → e27 l < pw27 l.length := by
  intro l
  induction l with
  | nil => intro _; show (0 : Int) < 1; omega
  | cons c t ih =>
    intro h
    have h1 := h c (List.mem_cons_self ..)
    have h2 := ih (fun x hx => h x (List.mem_cons_of_mem _ hx))
    show e27 t * 27 + (c - 96) < pw27 t.length * 27
    omega
theorem e256_hi : ∀ {l : List Int}, lowL l → e256 l < pw256 l.length := by
  intro l
  induction l with
  | nil => intro _; show (0 : Int) < 1; omega
  | cons c t ih =>
    intro h
    have h1 := h c (List.mem_cons_self ..)
    have h2 := ih (fun x hx => h x (List.mem_cons_of_mem _ hx))
    show e256 t * 256 + c < pw256 t.length * 256
    omega
theorem pw27_7 : ∀ m, m ≤ 7 → pw27 m ≤ 10460353203 := by decide
theorem pw256_7 : ∀ m, m ≤ 7 → pw256 m ≤ 72057594037927936 := by decide
theorem pw256_6 : ∀ m, m ≤ 6 → pw256 m ≤ 281474976710656 := by decide
theorem i64_27 : (27 : Int64).toInt = 27 := by decide
theorem L27 {s r : Int64} {x : Int32} (h : r = s * 27 + x.toInt64) (hs : 0 ≤ s.toInt ∧ s.toInt ≤ 10460353203) (hx : 0 ≤ x.toInt ∧ x.toInt ≤ 26) : r.toInt = s.toInt * 27 + x.toInt := by
  have e1 : (s * 27).toInt = s.toInt * 27 := by
    rw [Int64.toInt_mul, i64_27, Int.bmod_eq_of_le (by omega) (by omega)]
  rw [h, Int64.toInt_add, e1, Int32.toInt_toInt64, Int.bmod_eq_of_le (by omega) (by omega)]
def LX (b : Nat → Int) (A i : Nat) (le di sp nu : Int) : Prop :=
  A ≤ i ∧ le + di = (i : Int) - A ∧ 0 ≤ le ∧ 0 ≤ di ∧ (∀ j, A ≤ j → j < i → aln (b j)) ∧ (di = 0 → AllL b A i) ∧ (le = 0 → AllD b A i) ∧ (0 < di → ¬ AllL b A i) ∧ (0 < le → ¬ AllD b A i) ∧
  (di = 0 → le ≤ 7 → sp = e27 (ltr b A (i - A))) ∧ (le = 0 → di ≤ 2 → nu = nmb (ltr b A (i - A)))
theorem LX_0 (b : Nat → Int) (A : Nat) {sp nu : Int} (h1 : sp = 0) (h2 : nu = 0) : LX b A A 0 0 sp nu := by
  refine ⟨Nat.le_refl _, by omega, by omega, by omega, fun j h1 h2 => by omega, fun _ j h1 h2 => by omega, fun _ j h1 h2 => by omega, fun h => by omega, fun h => by omega, fun _ _ => ?_, fun _ _ => ?_⟩
  · rw [Nat.sub_self]; exact h1
  · rw [Nat.sub_self]; exact h2
theorem ltr_up {b : Nat → Int} {A i : Nat} (h : A ≤ i) : ltr b A (i + 1 - A) = b i :: ltr b A (i - A) := by
  have e : i + 1 - A = (i - A) + 1 := by omega
  rw [e]
  show b (A + (i - A)) :: ltr b A (i - A) = _
  rw [show A + (i - A) = i by omega]
theorem LX_low {b : Nat → Int} {A i : Nat} {le di sp nu sp' : Int} (h : LX b A i le di sp nu) (hc : low (b i)) (hs : di = 0 → le ≤ 6 → sp' = sp * 27 + (b i - 96)) : LX b A (i + 1) (le + 1) di sp' nu := by
  obtain ⟨a1, a2, a3, a4, a5, a6, a7, a8, a9, a10, a11⟩ := h
  refine ⟨by omega, by omega, by omega, a4, fun j h1 h2 => ?_, fun h j h1 h2 => ?_, fun h => by omega, fun h h2 => a8 h (fun j h3 h4 => h2 j h3 (by omega)), fun _ h2 => ?_, fun h1 h2 => ?_, fun h => by omega⟩
  · by_cases e : j = i
    · rw [e]; exact Or.inl hc
    · exact a5 j h1 (by omega)
  · by_cases e : j = i
    · rw [e]; exact hc
    · exact a6 h j h1 (by omega)
  · have := h2 i a1 (by omega)
    omega
  · rw [ltr_up a1, hs h1 (by omega), a10 h1 (by omega)]; rfl
theorem LX_dig {b : Nat → Int} {A i : Nat} {le di sp nu nu' : Int} (h : LX b A i le di sp nu) (hc : dig (b i)) (hs : le = 0 → di ≤ 1 → nu' = nu * 10 + (b i - 48)) : LX b A (i + 1) le (di + 1) sp nu' := by
  obtain ⟨a1, a2, a3, a4, a5, a6, a7, a8, a9, a10, a11⟩ := h
  refine ⟨by omega, by omega, a3, by omega, fun j h1 h2 => ?_, fun h => by omega, fun h j h1 h2 => ?_, fun _ h2 => ?_, fun h h2 => a9 h (fun j h3 h4 => h2 j h3 (by omega)), fun h => by omega, fun h1 h2 => ?_⟩
  · by_cases e : j = i
    · rw [e]; exact Or.inr hc
    · exact a5 j h1 (by omega)
  · by_cases e : j = i
    · rw [e]; exact hc
    · exact a7 h j h1 (by omega)
  · have := h2 i a1 (by omega)
    omega
  · rw [ltr_up a1, hs h1 (by omega), a11 h1 (by omega)]; rfl
theorem LX_sp {b : Nat → Int} {A i : Nat} {le di sp nu : Int} (h : LX b A i le di sp nu) (h0 : di = 0) (h7 : le ≤ 7) : 0 ≤ sp ∧ sp ≤ 10460353203 := by
  obtain ⟨a1, a2, a3, a4, a5, a6, a7, a8, a9, a10, a11⟩ := h
  have e : A + (i - A) = i := by omega
  have hl : lowL (ltr b A (i - A)) := ltr_low (by rw [e]; exact a6 h0)
  have h1 := e27_lo hl
  have h2 := e27_hi hl
  rw [ltr_len] at h2
  have h3 := pw27_7 (i - A) (by omega)
  rw [a10 h0 h7]
  omega
theorem LX_nu {b : Nat → Int} {A i : Nat} {le di sp nu : Int} (h : LX b A i le di sp nu) (h0 : le = 0) (h7 : di ≤ 1) : 0 ≤ nu ∧ nu ≤ 9 := by
  obtain ⟨a1, a2, a3, a4, a5, a6, a7, a8, a9, a10, a11⟩ := h
  rw [a11 h0 (by omega)]
  rcases (show i - A = 0 ∨ i - A = 1 by omega) with e | e
  · rw [e]; show (0 : Int) ≤ 0 ∧ (0 : Int) ≤ 9; omega
  · rw [e]
    have h2 := a7 h0 A (Nat.le_refl _) (by omega)
    show 0 ≤ (0 : Int) * 10 + (b (A + 0) - 48) ∧ (0 : Int) * 10 + (b (A + 0) - 48) ≤ 9
    rw [Nat.add_zero]; omega
theorem LX_low64 {b : Nat → Int} {A i : Nat} {le di nu : Int} {s r : Int64} {x : Int32} (h : LX b A i le di s.toInt nu) (hc : low (b i)) (hx : x.toInt = b i - 96) (hr : r = s * 27 + x.toInt64) : LX b A (i + 1) (le + 1) di r.toInt nu :=
  LX_low h hc (fun h0 h6 => by rw [L27 hr (LX_sp h h0 (by omega)) (by omega), hx])
theorem LX_dig32 {b : Nat → Int} {A i : Nat} {le di sp : Int} {s r c y w : Int32} (h : LX b A i le di sp s.toInt) (hc : dig (b i)) (h10 : c.toInt = 10) (hw : w = s * c) (hr : r = w + y) (hy : y.toInt = b i - 48) : LX b A (i + 1) le (di + 1) sp r.toInt :=
  LX_dig h hc (fun h0 h6 => by
    have hb := LX_nu h h0 h6
    have e1 : w.toInt = s.toInt * 10 := by rw [hw, Int32.toInt_mul, h10, Int.bmod_eq_of_le (by omega) (by omega)]
    rw [hr, Int32.toInt_add, e1, hy, Int.bmod_eq_of_le (by omega) (by omega)])
def ckd (k : Nat) : Int := if k = 0 then 0 else if k = 4 then 1 else (k : Int) + 1
/-- the bytes on the tape, and the limit -/
def RB (b : Nat → Int) (n L : Nat) (τ : Tau) : Prop := (τ 1 1).toInt = n ∧ n ≤ 940 ∧ (τ 1 2).toInt = L ∧ ∀ j, j < n → (τ 2 j).toInt = b j
def TkV (b : Nat → Int) (n : Nat) (t : Tk) : Prop := (t.1 = 1 → t.2.1 < t.2.2 ∧ t.2.2 ≤ n ∧ t.2.2 ≤ t.2.1 + 7 ∧ AllL b t.2.1 t.2.2) ∧ (t.1 = 2 → t.2.1 < t.2.2 ∧ t.2.2 ≤ n) ∧ (t.1 = 3 → t.2.2 = t.2.1 + 1 ∧ t.2.2 ≤ n) ∧ t.1 ≤ 4
def RTk (b : Nat → Int) (n : Nat) (τ : Tau) (t : Tk) : Prop := (τ 1 5).toInt = ckd t.1 ∧ (τ 1 3).toInt = t.2.1 ∧ (t.1 = 1 ∨ t.1 = 2 ∨ t.1 = 3 → (τ 1 4).toInt = t.2.2) ∧ (t.1 = 1 → (qof τ 1 6).toInt = e27 (ltr b t.2.1 (t.2.2 - t.2.1))) ∧ (t.1 = 2 → (τ 1 7).toInt = nmb (ltr b t.2.1 (t.2.2 - t.2.1))) ∧ (t.1 = 3 → (τ 1 8).toInt = b t.2.1) ∧ TkV b n t
def RT (b : Nat → Int) (n L : Nat) (τ : Tau) (t : Tk) : Prop := RB b n L τ ∧ RTk b n τ t
theorem RB_eq {b : Nat → Int} {n L : Nat} {τ u : Tau} (h : RB b n L τ) (h1 : u 1 1 = τ 1 1) (h2 : u 1 2 = τ 1 2) (h3 : ∀ j, u 2 j = τ 2 j) : RB b n L u := by
  obtain ⟨a1, a2, a3, a4⟩ := h
  exact ⟨by rw [h1]; exact a1, a2, by rw [h2]; exact a3, fun j hj => by rw [h3]; exact a4 j hj⟩
theorem RB_at {b : Nat → Int} {n L : Nat} {τ t : Tau} {i v : Int32} (h : RB b n L τ) (hF : ∀ j, t 2 j = τ 2 j) (z : t 2 i.toNatClampNeg = v) (hi : 0 ≤ i.toInt ∧ i.toInt < n) : b i.toInt.toNat = v.toInt := by
  have h3 : i.toNatClampNeg = i.toInt.toNat := rfl
  rw [← h.2.2.2 i.toInt.toNat (by omega), ← hF, ← h3, z]
theorem spc_up {b : Nat → Int} {p : Nat} {i j v : Int32} (h : ∀ k, p ≤ k → k < i.toInt.toNat → spc (b k)) (hv : b i.toInt.toNat = v.toInt) (hs : v.toInt = 32 ∨ v.toInt = 10) (hj : j.toInt = i.toInt + 1) (h0 : 0 ≤ i.toInt) : ∀ k, p ≤ k → k < j.toInt.toNat → spc (b k) := by
  intro k h1 h2
  by_cases e : k = i.toInt.toNat
  · rw [e, hv]; exact hs
  · exact h k h1 (by omega)
/-- the ends of the class's step -/
theorem RT_over {b : Nat → Int} {n L p : Nat} {u : Tau} {st : Int32} (hB : RB b n L u) (hp : p ≤ n) (hL : L < n) (hs : ∀ k, p ≤ k → k < st.toInt.toNat → spc (b k)) (h1 : st.toInt = L) (h2 : (u 1 3).toInt = L) (h3 : (u 1 5).toInt = 1) : RT b n L u (lex b n L p) := by
  rw [lex_eq (Tok_over hp hL (fun i h4 h5 => hs i h4 (by omega)))]
  exact ⟨hB, h3, h2, fun h => by simp at h, fun h => by simp at h, fun h => by simp at h, fun h => by simp at h, fun h => by simp at h, fun h => by simp at h, fun h => by simp at h, by simp⟩
theorem RT_stop {b : Nat → Int} {n L p : Nat} {u : Tau} (hB : RB b n L u) (hp : p ≤ n) (hL : n ≤ L) (hs : ∀ k, p ≤ k → k < n → spc (b k)) (h2 : (u 1 3).toInt = n) (h3 : (u 1 5).toInt = 0) : RT b n L u (lex b n L p) := by
  rw [lex_eq (Tok_stop hL ⟨hp, Nat.le_refl _, hs, fun h => absurd h (Nat.lt_irrefl _)⟩)]
  exact ⟨hB, h3, h2, fun h => by simp at h, fun h => by simp at h, fun h => by simp at h, fun h => by simp at h, fun h => by simp at h, fun h => by simp at h, fun h => by simp at h, by simp⟩
theorem RT_sign {b : Nat → Int} {n L p A : Nat} {u : Tau} (hB : RB b n L u) (hq : Fst b n p A) (h : A < n) (hL : ¬ (L < n ∧ L ≤ A)) (ha : ¬ aln (b A)) (hs : sgn (b A)) (h1 : (u 1 3).toInt = A) (h2 : (u 1 4).toInt = A + 1) (h3 : (u 1 5).toInt = 4) (h4 : (u 1 8).toInt = b A) : RT b n L u (lex b n L p) := by
  rw [lex_eq (Tok_sign hq h hL ha hs)]
  exact ⟨hB, h3, h1, fun _ => by simpa using h2, fun h => by simp at h, fun h => by simp at h, fun _ => h4, fun h => by simp at h, fun h => by simp at h, fun _ => ⟨rfl, h⟩, by simp⟩
theorem RT_none {b : Nat → Int} {n L p A : Nat} {u : Tau} (hB : RB b n L u) (hq : Fst b n p A) (h : A < n) (hL : ¬ (L < n ∧ L ≤ A)) (ha : ¬ aln (b A)) (hs : ¬ sgn (b A)) (h1 : (u 1 3).toInt = A) (h3 : (u 1 5).toInt = 1) : RT b n L u (lex b n L p) := by
  rw [lex_eq (Tok_none hq h hL ha hs)]
  exact ⟨hB, h3, h1, fun h => by simp at h, fun h => by simp at h, fun h => by simp at h, fun h => by simp at h, fun h => by simp at h, fun h => by simp at h, fun h => by simp at h, by simp⟩
theorem LX_rn {b : Nat → Int} {n A i : Nat} {le di sp nu : Int} (h : LX b A i le di sp nu) (hi : i ≤ n) (he : i < n → ¬ aln (b i)) (h0 : 0 < le + di) : Rn b n A i := by
  obtain ⟨a1, a2, a3, a4, a5, a6, a7, a8, a9, a10, a11⟩ := h
  exact ⟨by omega, hi, a5, he⟩
theorem RT_word {b : Nat → Int} {n L p A i : Nat} {le di nu : Int} {u : Tau} (hx : LX b A i le di (qof u 1 6).toInt nu) (hB : RB b n L u) (hq : Fst b n p A) (hL : ¬ (L < n ∧ L ≤ A)) (hi : i ≤ n) (he : i < n → ¬ aln (b i)) (g1 : di = 0) (g2 : 0 < le ∧ le ≤ 7) (h1 : (u 1 3).toInt = A) (h2 : (u 1 4).toInt = i) (h3 : (u 1 5).toInt = 2) : RT b n L u (lex b n L p) := by
  have hr := LX_rn hx hi he (by omega)
  obtain ⟨a1, a2, a3, a4, a5, a6, a7, a8, a9, a10, a11⟩ := hx
  rw [lex_eq (Tok_word hq hL hr (a6 g1) (by omega))]
  exact ⟨hB, h3, h1, fun _ => h2, fun _ => a10 g1 g2.2, fun h => by simp at h, fun h => by simp at h, fun _ => ⟨hr.1, hi, by show i ≤ A + 7; omega, a6 g1⟩, fun h => by simp at h, fun h => by simp at h, by simp⟩
theorem RT_nbr {b : Nat → Int} {n L p A i : Nat} {le di sp : Int} {u : Tau} (hx : LX b A i le di sp (u 1 7).toInt) (hB : RB b n L u) (hq : Fst b n p A) (hL : ¬ (L < n ∧ L ≤ A)) (hi : i ≤ n) (he : i < n → ¬ aln (b i)) (g1 : le = 0) (g2 : 0 < di ∧ di ≤ 2) (h1 : (u 1 3).toInt = A) (h2 : (u 1 4).toInt = i) (h3 : (u 1 5).toInt = 3) : RT b n L u (lex b n L p) := by
  have hr := LX_rn hx hi he (by omega)
  obtain ⟨a1, a2, a3, a4, a5, a6, a7, a8, a9, a10, a11⟩ := hx
  rw [lex_eq (Tok_nbr hq hL hr (a7 g1) (by omega))]
  exact ⟨hB, h3, h1, fun _ => h2, fun h => by simp at h, fun _ => a11 g1 g2.2, fun h => by simp at h, fun h => by simp at h, fun _ => ⟨hr.1, hi⟩, fun h => by simp at h, by simp⟩
theorem RT_odd {b : Nat → Int} {n L p A i : Nat} {le di sp nu : Int} {u : Tau} (hx : LX b A i le di sp nu) (hB : RB b n L u) (hq : Fst b n p A) (hL : ¬ (L < n ∧ L ≤ A)) (hi : i ≤ n) (he : i < n → ¬ aln (b i)) (g0 : 0 < le + di) (g1 : ¬ (di = 0 ∧ le ≤ 7)) (g2 : ¬ (le = 0 ∧ di ≤ 2)) (h1 : (u 1 3).toInt = A) (h3 : (u 1 5).toInt = 1) : RT b n L u (lex b n L p) := by
  have hr := LX_rn hx hi he g0
  obtain ⟨a1, a2, a3, a4, a5, a6, a7, a8, a9, a10, a11⟩ := hx
  rw [lex_eq (Tok_odd hq hL hr (fun h => ?_) (fun h => ?_))]
  · exact ⟨hB, h3, h1, fun h => by simp at h, fun h => by simp at h, fun h => by simp at h, fun h => by simp at h, fun h => by simp at h, fun h => by simp at h, fun h => by simp at h, by simp⟩
  · by_cases e : 0 < di
    · exact a8 e h.1
    · exact g1 ⟨by omega, by omega⟩
  · by_cases e : 0 < le
    · exact a9 e h.1
    · exact g2 ⟨by omega, by omega⟩
theorem LX_0q {bb : Nat → Int} {A le di nu : Int32} {u : Tau} {s : Int64} (h1 : le.toInt = 0) (h2 : di.toInt = 0) (h3 : nu.toInt = 0) (h4 : qof u 1 6 = s) (h5 : s = Int64.ofNat 0) : LX bb A.toInt.toNat A.toInt.toNat le.toInt di.toInt (qof u 1 6).toInt nu.toInt := by
  rw [h1, h2]
  exact LX_0 bb _ (by rw [h4, h5]; rfl) h3
theorem LX_lowq {bb : Nat → Int} {A i i' le le' di nu v x : Int32} {t u : Tau} {s r : Int64} (h : LX bb A.toInt.toNat i.toInt.toNat le.toInt di.toInt (qof t 1 6).toInt nu.toInt) (hb : bb i.toInt.toNat = v.toInt) (hc : 97 ≤ v.toInt ∧ v.toInt ≤ 122) (hx : x.toInt = v.toInt - 96) (h1 : qof t 1 6 = s) (hr : r = s * 27 + x.toInt64) (h2 : qof u 1 6 = r) (hi : i'.toInt = i.toInt + 1) (hi0 : 0 ≤ i.toInt) (hl : le'.toInt = le.toInt + 1) : LX bb A.toInt.toNat i'.toInt.toNat le'.toInt di.toInt (qof u 1 6).toInt nu.toInt := by
  rw [h1] at h
  rw [h2, hl, show i'.toInt.toNat = i.toInt.toNat + 1 by omega]
  exact LX_low64 h (by rw [hb]; exact hc) (by rw [hb]; exact hx) hr
theorem LX_digq {bb : Nat → Int} {A i i' le di di' nu r w y c v : Int32} {t u : Tau} (h : LX bb A.toInt.toNat i.toInt.toNat le.toInt di.toInt (qof t 1 6).toInt nu.toInt) (hb : bb i.toInt.toNat = v.toInt) (hc : 48 ≤ v.toInt ∧ v.toInt ≤ 57) (h10 : c.toInt = 10) (hw : w = nu * c) (hr : r = w + y) (hy : y.toInt = v.toInt - 48) (h2 : qof u 1 6 = qof t 1 6) (hi : i'.toInt = i.toInt + 1) (hi0 : 0 ≤ i.toInt) (hd : di'.toInt = di.toInt + 1) : LX bb A.toInt.toNat i'.toInt.toNat le.toInt di'.toInt (qof u 1 6).toInt r.toInt := by
  rw [h2, hd, show i'.toInt.toNat = i.toInt.toNat + 1 by omega]
  exact LX_dig32 h (by rw [hb]; exact hc) h10 hw hr (by rw [hb]; exact hy)
theorem LX_b {b : Nat → Int} {A i : Nat} {le di sp nu : Int} (h : LX b A i le di sp nu) : A ≤ i ∧ le + di = (i : Int) - A ∧ 0 ≤ le ∧ 0 ≤ di := ⟨h.1, h.2.1, h.2.2.1, h.2.2.2.1⟩
