/-! what the class has read of a FERRY -/
def bI (x : Bool) : Int := if x = true then 1 else 0
def kb (x : Int32) (j : Nat) : Prop := x.toBitVec.getLsbD j = true
def NM (τ : Tau) (c j a : Nat) (ns : List (List Int)) : Prop := (τ c j).toInt = ns.length ∧ (∀ i, i < ns.length → (qof τ a i).toInt = e27 (ns.getD i [])) ∧ ∀ l ∈ ns, lowL l
def RP (τ : Tau) (s : PS) : Prop :=
  (τ 3 5).toInt = bI (gsT s) ∧ (τ 3 6).toInt = bI (gkT s) ∧ (τ 4 0).toInt = gse s ∧ (τ 4 1).toInt = gsl s ∧ τ 4 4 = Int32.ofNat (gkn s) ∧ NM τ 4 2 9 (gan s) ∧ NM τ 4 3 10 (gmn s) ∧
  (∀ i, i < 10 → ((τ 6 i).toInt ≠ -1 ↔ gpa s i = true)) ∧ (∀ i j, i < 10 → j < 10 → (kb (τ 7 i) j ↔ gki s i j = true)) ∧ (∀ j, 9 * (gmn s).length ≤ j → j < 90 → (τ 8 j).toInt = 0)
def RC (bb : Nat → Int) (nb : Nat) (τ : Tau) (f : FS) : Prop := RT bb nb 900 τ f.1 ∧ RP τ f.2
theorem NM_eq {τ u : Tau} {c j a : Nat} {ns : List (List Int)} (h : NM τ c j a ns) (h1 : u c j = τ c j) (h2 : ∀ m, u (a + 200) m = τ (a + 200) m) : NM u c j a ns :=
  ⟨by rw [h1]; exact h.1, fun i hi => by rw [qof_of h2]; exact h.2.1 i hi, h.2.2⟩
theorem RP_fr {τ u : Tau} {s : PS} (h : RP τ s) (h5 : u 3 5 = τ 3 5) (h6 : u 3 6 = τ 3 6) (h4 : ∀ j, u 4 j = τ 4 j) (k6 : ∀ j, u 6 j = τ 6 j) (k7 : ∀ j, u 7 j = τ 7 j) (k8 : ∀ j, u 8 j = τ 8 j) (q9 : ∀ j, u 209 j = τ 209 j) (q10 : ∀ j, u 210 j = τ 210 j) : RP u s := by
  obtain ⟨a1, a2, a3, a4, a5, a6, a7, a8, a9, a10⟩ := h
  refine ⟨by rw [h5]; exact a1, by rw [h6]; exact a2, by rw [h4]; exact a3, by rw [h4]; exact a4, by rw [h4]; exact a5, NM_eq a6 (h4 2) q9, NM_eq a7 (h4 3) q10, fun i hi => by rw [k6]; exact a8 i hi, fun i j hi hj => by rw [k7]; exact a9 i j hi hj, fun j hj => by rw [k8]; exact a10 j hj⟩
theorem RT_fr {bb : Nat → Int} {nb lm : Nat} {τ u : Tau} {t : Tk} (h : RT bb nb lm τ t) (h1 : ∀ j, u 1 j = τ 1 j) (h2 : ∀ j, u 2 j = τ 2 j) (h3 : ∀ j, u 201 j = τ 201 j) : RT bb nb lm u t := by
  obtain ⟨hB, a1, a2, a3, a4, a5, a6, a7⟩ := h
  refine ⟨RB_eq hB (h1 1) (h1 2) h2, by rw [h1]; exact a1, by rw [h1]; exact a2, fun h => by rw [h1]; exact a3 h, fun h => by rw [qof_of h3]; exact a4 h, fun h => by rw [h1]; exact a5 h, fun h => by rw [h1]; exact a6 h, a7⟩
theorem RC_fr {bb : Nat → Int} {nb : Nat} {τ u : Tau} {f : FS} (h : RC bb nb τ f) (h1 : ∀ j, u 1 j = τ 1 j) (h2 : ∀ j, u 2 j = τ 2 j) (h3 : ∀ j, u 201 j = τ 201 j) (h5 : u 3 5 = τ 3 5) (h6 : u 3 6 = τ 3 6) (h4 : ∀ j, u 4 j = τ 4 j) (k6 : ∀ j, u 6 j = τ 6 j) (k7 : ∀ j, u 7 j = τ 7 j) (k8 : ∀ j, u 8 j = τ 8 j) (q9 : ∀ j, u 209 j = τ 209 j) (q10 : ∀ j, u 210 j = τ 210 j) : RC bb nb u f :=
  ⟨RT_fr h.1 h1 h2 h3, RP_fr h.2 h5 h6 h4 k6 k7 k8 q9 q10⟩
theorem ckd_2 {k : Nat} (hk : k ≤ 4) : ckd k = 2 ↔ k = 1 := by
  rcases (show k = 0 ∨ k = 1 ∨ k = 2 ∨ k = 3 ∨ k = 4 by omega) with rfl | rfl | rfl | rfl | rfl <;> decide
theorem ckd_3 {k : Nat} (hk : k ≤ 4) : ckd k = 3 ↔ k = 2 := by
  rcases (show k = 0 ∨ k = 1 ∨ k = 2 ∨ k = 3 ∨ k = 4 by omega) with rfl | rfl | rfl | rfl | rfl <;> decide
theorem ckd_4 {k : Nat} (hk : k ≤ 4) : ckd k = 4 ↔ k = 3 := by
  rcases (show k = 0 ∨ k = 1 ∨ k = 2 ∨ k = 3 ∨ k = 4 by omega) with rfl | rfl | rfl | rfl | rfl <;> decide
theorem ckd_0 {k : Nat} (hk : k ≤ 4) : ckd k = 0 ↔ k = 0 := by
  rcases (show k = 0 ∨ k = 1 ∨ k = 2 ∨ k = 3 ∨ k = 4 by omega) with rfl | rfl | rfl | rfl | rfl <;> decide
theorem RT_k {bb : Nat → Int} {nb lm : Nat} {τ : Tau} {t : Tk} (h : RT bb nb lm τ t) : ((τ 1 5).toInt = 0 ↔ t.1 = 0) ∧ ((τ 1 5).toInt = 2 ↔ t.1 = 1) ∧ ((τ 1 5).toInt = 3 ↔ t.1 = 2) ∧ ((τ 1 5).toInt = 4 ↔ t.1 = 3) := by
  have h4 := h.2.2.2.2.2.2.2.2.2.2
  rw [h.2.1]
  exact ⟨ckd_0 h4, ckd_2 h4, ckd_3 h4, ckd_4 h4⟩
theorem RT_low {bb : Nat → Int} {nb lm : Nat} {τ : Tau} {t : Tk} (h : RT bb nb lm τ t) (h1 : t.1 = 1) : lowL (wrd bb t) ∧ (qof τ 1 6).toInt = e27 (wrd bb t) := by
  obtain ⟨hB, a1, a2, a3, a4, a5, a6, a7⟩ := h
  have h2 := a7.1 h1
  refine ⟨ltr_low ?_, a4 h1⟩
  rw [show t.2.1 + (t.2.2 - t.2.1) = t.2.2 by omega]
  exact h2.2.2.2
/-- what a step starts from -/
theorem RT_st {bb : Nat → Int} {nb lm : Nat} {τ : Tau} {t : Tk} (h : RT bb nb lm τ t) (hk : t.1 = 1 ∨ t.1 = 2 ∨ t.1 = 3) : RB bb nb lm τ ∧ (τ 1 4).toInt = t.2.2 ∧ t.2.2 ≤ nb := by
  obtain ⟨hB, a1, a2, a3, a4, a5, a6, a7⟩ := h
  refine ⟨hB, a3 hk, ?_⟩
  rcases hk with h | h | h
  · exact (a7.1 h).2.1
  · exact (a7.2.1 h).2
  · exact (a7.2.2.1 h).2
theorem kw_eq {i : Nat} {x y : Int64} {w : List Int} (hi : i < 24) (hx : spL.getD i 0 = x) (hy : y.toInt = e27 w) (hw : lowL w) : x = y ↔ kwl.getD i [] = w := by
  have h := kwl_27 i hi
  have hl : lowL (kwl.getD i []) := by
    have hn : i < kwl.length := hi
    rw [List.getD_eq_getElem?_getD, List.getElem?_eq_getElem hn]
    exact kwl_low _ (List.getElem_mem hn)
  constructor
  · intro e
    subst e
    rw [hx] at h
    exact e27_inj hl hw (h.symm.trans hy)
  · intro e
    rw [hx] at h
    exact Int64.toInt_inj.mp (by rw [h, hy, e])
theorem kw_mem {i : Nat} {w : List Int} (hi : i < 24) (h : kwl.getD i [] = w) : w ∈ kwl := by
  have hn : i < kwl.length := hi
  rw [List.getD_eq_getElem?_getD, List.getElem?_eq_getElem hn] at h
  rw [← h]
  exact List.getElem_mem hn
theorem kw_not {w : List Int} (h : ∀ j, j < 24 → kwl.getD j [] ≠ w) : w ∉ kwl := by
  intro hm
  obtain ⟨i, hi, e⟩ := List.getElem_of_mem hm
  refine h i hi ?_
  rw [List.getD_eq_getElem?_getD, List.getElem?_eq_getElem hi]
  exact e
theorem NM_at {τ : Tau} {c j a : Nat} {ns : List (List Int)} {i : Nat} {x y : Int64} {w : List Int} (h : NM τ c j a ns) (hi : i < ns.length) (hx : qof τ a i = x) (hy : y.toInt = e27 w) (hw : lowL w) : x = y ↔ ns.getD i [] = w := by
  have h1 := h.2.1 i hi
  have hl : lowL (ns.getD i []) := by
    rw [List.getD_eq_getElem?_getD, List.getElem?_eq_getElem hi]
    exact h.2.2 _ (List.getElem_mem hi)
  rw [hx] at h1
  constructor
  · intro e
    subst e
    exact e27_inj hl hw (h1.symm.trans hy)
  · intro e
    exact Int64.toInt_inj.mp (by rw [h1, hy, e])
theorem up_ne {ns : List (List Int)} {w : List Int} {i j : Int32} (h : ∀ k, k < i.toInt.toNat → ns.getD k [] ≠ w) (hi : ns.getD i.toInt.toNat [] ≠ w) (hj : j.toInt = i.toInt + 1) (h0 : 0 ≤ i.toInt) : ∀ k, k < j.toInt.toNat → ns.getD k [] ≠ w := by
  intro k hk
  by_cases e : k = i.toInt.toNat
  · rw [e]; exact hi
  · exact h k (by omega)
/-- an answer of a method that reads: false with a fault, or true -/
def QX {α : Type} (x : Rs α) (r : Int32) (u : Tau) (P : α → Prop) : Prop := (∀ q, x = .inl q → r.toInt = 0 ∧ (u 3 1).toInt = q.1 ∧ (u 1 3).toInt = q.2) ∧ ∀ g, x = .inr g → r.toInt = 1 ∧ P g
theorem QX_0 {α : Type} {x : Rs α} {r : Int32} {u : Tau} {P : α → Prop} (h : QX x r u P) (hr : r.toInt = 0) : ∃ q, x = .inl q ∧ (u 3 1).toInt = q.1 ∧ (u 1 3).toInt = q.2 := by
  cases x with
  | inl q => exact ⟨q, rfl, (h.1 q rfl).2⟩
  | inr g => exact absurd (h.2 g rfl).1 (by omega)
theorem QX_1 {α : Type} {x : Rs α} {r : Int32} {u : Tau} {P : α → Prop} (h : QX x r u P) (hr : r.toInt = 1) : ∃ g, x = .inr g ∧ P g := by
  cases x with
  | inl q => exact absurd (h.1 q rfl).1 (by omega)
  | inr g => exact ⟨g, rfl, (h.2 g rfl).2⟩
theorem QX_l {α : Type} {x : Rs α} {r : Int32} {u : Tau} {P : α → Prop} {q : Nat × Nat} (e : x = .inl q) (hr : r.toInt = 0) (h1 : (u 3 1).toInt = q.1) (h2 : (u 1 3).toInt = q.2) : QX x r u P := by
  subst e
  exact ⟨fun q' e => (by cases e; exact ⟨hr, h1, h2⟩), fun g e => (by cases e)⟩
theorem QX_r {α : Type} {x : Rs α} {r : Int32} {u : Tau} {P : α → Prop} {g : α} (e : x = .inr g) (hr : r.toInt = 1) (h : P g) : QX x r u P := by
  subst e
  exact ⟨fun q e => (by cases e), fun g' e => (by cases e; exact ⟨hr, h⟩)⟩
