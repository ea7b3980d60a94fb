/-! what the model has read of a FERRY -/
def kwm : List (List Int) := [[115, 116, 97, 101, 115], [107, 99, 97, 108, 115], [107, 115, 97], [110, 97, 109], [100, 108, 105, 104, 99], [110, 105, 107], [115, 101, 121], [111, 110], [115, 115, 111, 114, 99], [101, 115, 105, 97, 114], [101, 114, 105, 104], [115, 101, 105, 108], [115, 110, 114, 117, 116], [114, 111], [100, 110, 97], [116, 111, 110], [114, 101, 118, 111], [116, 101, 119], [100, 101, 114, 105, 104], [104, 116, 105, 119], [109, 114, 105, 102], [101, 103, 97, 119], [115, 112, 105, 114, 116], [114, 101, 98, 109, 117, 110]]
theorem kwm_low : ∀ l ∈ kwm, lowL l := by
  have h : kwm.all (fun l => l.all (fun c => decide (97 ≤ c ∧ c ≤ 122))) = true := by decide +kernel
  intro l hl c hc
  have h1 := List.all_eq_true.mp h l hl
  exact of_decide_eq_true (List.all_eq_true.mp h1 c hc)
theorem kwm_mem {w : List Int} : w ∈ kwm ↔ w ∈ kwl := by
  have h1 : kwm.all (fun l => decide (l ∈ kwl)) = true := by decide +kernel
  have h2 : kwl.all (fun l => decide (l ∈ kwm)) = true := by decide +kernel
  exact ⟨fun h => of_decide_eq_true (List.all_eq_true.mp h1 w h), fun h => of_decide_eq_true (List.all_eq_true.mp h2 w h)⟩
def RS (τ : Tau) : Prop := ∀ i, i < 24 → (qof τ 137 i).toInt = e256 (kwm.getD i [])
def NN (τ : Tau) (j o : Nat) (ns : List (List Int)) : Prop := (τ 134 j).toInt = ns.length ∧ (∀ i, i < ns.length → (qof τ 136 (o + i)).toInt = e256 (ns.getD i [])) ∧ ∀ l ∈ ns, lowL l
def RH (τ : Tau) (s : PS) : Prop := (kb (τ 131 20) 0 ↔ gsT s = true) ∧ (kb (τ 131 20) 1 ↔ gkT s = true) ∧ (τ 134 2).toInt = gse s ∧ (τ 134 3).toInt = gsl s ∧ τ 134 4 = Int32.ofNat (gkn s) ∧ NN τ 0 19 (gan s) ∧ NN τ 1 28 (gmn s) ∧ (∀ i, i < 10 → (0 < (τ 134 (105 + i)).toInt ↔ gpa s i = true)) ∧ (∀ i j, i < 10 → j < 10 → (kb (τ 134 (115 + i)) j ↔ gki s i j = true))
/-- the names that the FERRY has now, kept in the places behind the text -/
def NB (bb : Nat → Int) (τ : Tau) : Prop := ∀ i, i < 19 → (qof τ 136 i).toInt = bb (1000 + i)
def RS2 (bb : Nat → Int) (τ : Tau) : Prop := RS τ ∧ NB bb τ
def RM (bb : Nat → Int) (nb : Nat) (τ : Tau) (f : FS) : Prop := MT bb nb 900 τ f.1 ∧ RH τ f.2 ∧ RS2 bb τ
theorem RS_fr {τ u : Tau} (h : RS τ) (e : ∀ j, u 337 j = τ 337 j) : RS u := fun i hi => by rw [qof_of (k := 137) e]; exact h i hi
theorem NB_fr {bb : Nat → Int} {τ u : Tau} (h : NB bb τ) (e : ∀ j, u 336 j = τ 336 j) : NB bb u := fun i hi => by rw [qof_of (k := 136) e]; exact h i hi
theorem RS2_fr {bb : Nat → Int} {τ u : Tau} (h : RS2 bb τ) (e : ∀ j, u 337 j = τ 337 j) (e2 : ∀ j, u 336 j = τ 336 j) : RS2 bb u := ⟨RS_fr h.1 e, NB_fr h.2 e2⟩
theorem RS2_ml {bb : Nat → Int} {τ u : Tau} {k : Nat} {x : Int64} (h : RS2 bb τ) (e : ∀ j, u 337 j = τ 337 j) (hM : Ml τ u 136 (vp_updL (qof τ 136) k x)) (hk : 19 ≤ k) : RS2 bb u := ⟨RS_fr h.1 e, fun i hi => by rw [Ml_upn hM (by omega)]; exact h.2 i hi⟩
theorem NN_fr {τ u : Tau} {j o : Nat} {ns : List (List Int)} (h : NN τ j o ns) (h1 : u 134 j = τ 134 j) (h2 : ∀ m, u 336 m = τ 336 m) : NN u j o ns :=
  ⟨by rw [h1]; exact h.1, fun i hi => by rw [qof_of (k := 136) h2]; exact h.2.1 i hi, h.2.2⟩
theorem RH_fr {τ u : Tau} {s : PS} (h : RH τ s) (h20 : u 131 20 = τ 131 20) (h134 : ∀ j, (j < 5 ∨ 105 ≤ j) → u 134 j = τ 134 j) (h336 : ∀ j, u 336 j = τ 336 j) : RH u s := by
  obtain ⟨a1, a2, a3, a4, a5, a6, a7, a8, a9⟩ := h
  refine ⟨by rw [h20]; exact a1, by rw [h20]; exact a2, by rw [h134 _ (Or.inl (by decide))]; exact a3, by rw [h134 _ (Or.inl (by decide))]; exact a4, by rw [h134 _ (Or.inl (by decide))]; exact a5, NN_fr a6 (h134 _ (Or.inl (by decide))) h336, NN_fr a7 (h134 _ (Or.inl (by decide))) h336, fun i hi => by rw [h134 _ (Or.inr (by omega))]; exact a8 i hi, fun i j hi hj => by rw [h134 _ (Or.inr (by omega))]; exact a9 i j hi hj⟩
theorem MT_fr {bb : Nat → Int} {nb lm : Nat} {τ u : Tau} {t : Tk} (h : MT bb nb lm τ t) (h3 : u 131 3 = τ 131 3) (h4 : u 131 4 = τ 131 4) (h5 : u 131 5 = τ 131 5) (h11 : u 131 11 = τ 131 11) (h12 : u 131 12 = τ 131 12) (h14 : u 131 14 = τ 131 14) (h132 : ∀ j, u 132 j = τ 132 j) (h331 : ∀ j, u 331 j = τ 331 j) : MT bb nb lm u t := by
  obtain ⟨hB, a1, a2, a3, a4, a5, a6, a7⟩ := h
  refine ⟨MB_eq hB h3 h5 h132, by rw [h11]; exact a1, by rw [h12]; exact a2, fun h => by rw [h4]; exact a3 h, fun h => by rw [qof_of (k := 131) h331]; exact a4 h, fun h => by rw [h14]; exact a5 h, fun h => by rw [h14]; exact a6 h, a7⟩
theorem RM_fr {bb : Nat → Int} {nb : Nat} {τ u : Tau} {f : FS} (h : RM bb nb τ f) (h3 : u 131 3 = τ 131 3) (h4 : u 131 4 = τ 131 4) (h5 : u 131 5 = τ 131 5) (h11 : u 131 11 = τ 131 11) (h12 : u 131 12 = τ 131 12) (h14 : u 131 14 = τ 131 14) (h132 : ∀ j, u 132 j = τ 132 j) (h331 : ∀ j, u 331 j = τ 331 j) (h20 : u 131 20 = τ 131 20) (h134 : ∀ j, u 134 j = τ 134 j) (h336 : ∀ j, u 336 j = τ 336 j) (h337 : ∀ j, u 337 j = τ 337 j) : RM bb nb u f :=
  ⟨MT_fr h.1 h3 h4 h5 h11 h12 h14 h132 h331, RH_fr h.2.1 h20 (fun j _ => h134 j) h336, RS2_fr h.2.2 h337 h336⟩
/-- what a skip starts from -/
theorem MT_st {bb : Nat → Int} {nb lm : Nat} {τ : Tau} {t : Tk} (h : MT bb nb lm τ t) (hk : t.1 = 1 ∨ t.1 = 2 ∨ t.1 = 3) : MBy bb nb lm τ ∧ (τ 131 4).toInt = t.2.2 ∧ t.2.2 ≤ nb := by
  obtain ⟨hB, a1, a2, a3, a4, a5, a6, a7⟩ := h
  refine ⟨hB, a3 hk, ?_⟩
  rcases hk with h | h | h
  · exact (a7.1 h).2.1
  · exact (a7.2.1 h).2
  · exact (a7.2.2.1 h).2
theorem MT_k {bb : Nat → Int} {nb lm : Nat} {τ : Tau} {t : Tk} (h : MT bb nb lm τ t) : (τ 131 11).toInt = t.1 := h.2.1
theorem MT_low {bb : Nat → Int} {nb lm : Nat} {τ : Tau} {t : Tk} (h : MT bb nb lm τ t) (h1 : t.1 = 1) : lowL (wrd bb t) ∧ (qof τ 131 17).toInt = e256 (wrd bb t) := by
  obtain ⟨hB, a1, a2, a3, a4, a5, a6, a7⟩ := h
  have h2 := a7.1 h1
  refine ⟨ltr_low ?_, a4 h1⟩
  rw [show t.2.1 + (t.2.2 - t.2.1) = t.2.2 by omega]
  exact h2.2.2.2
theorem MT_sgn {bb : Nat → Int} {nb lm : Nat} {τ : Tau} {t : Tk} (h : MT bb nb lm τ t) (h3 : t.1 = 3) : (τ 131 14).toInt = bb t.2.1 := h.2.2.2.2.2.2.1 h3
theorem MT_nm {bb : Nat → Int} {nb lm : Nat} {τ : Tau} {t : Tk} (h : MT bb nb lm τ t) (h2 : t.1 = 2) : (τ 131 14).toInt = nbr bb t := h.2.2.2.2.2.1 h2
theorem RM_at {bb : Nat → Int} {nb : Nat} {τ : Tau} {f : FS} (h : RM bb nb τ f) : (τ 131 12).toInt = f.1.2.1 := h.1.2.2.1
theorem w256 {x y : Int64} {v w : List Int} (hx : x.toInt = e256 v) (hv : lowL v) (hy : y.toInt = e256 w) (hw : lowL w) : x = y ↔ v = w := by
  constructor
  · intro e; subst e; exact e256_inj hv hw (hx.symm.trans hy)
  · intro e; exact Int64.toInt_inj.mp (by rw [hx, hy, e])
theorem kwm_at {i : Nat} (hi : i < 24) : lowL (kwm.getD i []) := by
  have hn : i < kwm.length := hi
  rw [List.getD_eq_getElem?_getD, List.getElem?_eq_getElem hn]
  exact kwm_low _ (List.getElem_mem hn)
theorem kwl_at {i : Nat} (hi : i < 24) : lowL (kwl.getD i []) := by
  have hn : i < kwl.length := hi
  rw [List.getD_eq_getElem?_getD, List.getElem?_eq_getElem hn]
  exact kwl_low _ (List.getElem_mem hn)
theorem kwm_in {i : Nat} {w : List Int} (hi : i < 24) (h : kwm.getD i [] = w) : w ∈ kwl := by
  have hn : i < kwm.length := hi
  rw [List.getD_eq_getElem?_getD, List.getElem?_eq_getElem hn] at h
  rw [← kwm_mem, ← h]
  exact List.getElem_mem hn
theorem kwm_not {w : List Int} (h : ∀ j, j < 24 → kwm.getD j [] ≠ w) : w ∉ kwl := by
  intro hm
  rw [← kwm_mem] at hm
  obtain ⟨i, hi, e⟩ := List.getElem_of_mem hm
  refine h i hi ?_
  rw [List.getD_eq_getElem?_getD, List.getElem?_eq_getElem hi]
  exact e
theorem ns_low {ns : List (List Int)} (h : ∀ l ∈ ns, lowL l) {i : Nat} (hi : i < ns.length) : lowL (ns.getD i []) := by
  rw [List.getD_eq_getElem?_getD, List.getElem?_eq_getElem hi]
  exact h _ (List.getElem_mem hi)
/-- an answer of the model -/
def QM {α : Type} (x : Rs α) (r : Int32) (u : Tau) (P : α → Prop) : Prop := (∀ q, x = .inl q → r.toInt = 0 ∧ (u 131 15).toInt = q.1 ∧ (u 131 16).toInt = q.2) ∧ ∀ g, x = .inr g → r.toInt = 1 ∧ P g
theorem QM_0 {α : Type} {x : Rs α} {r : Int32} {u : Tau} {P : α → Prop} (h : QM x r u P) (hr : r.toInt = 0) : ∃ q, x = .inl q ∧ (u 131 15).toInt = q.1 ∧ (u 131 16).toInt = q.2 := by
  cases x with
  | inl q => exact ⟨q, rfl, (h.1 q rfl).2⟩
  | inr g => exact absurd (h.2 g rfl).1 (by omega)
theorem QM_1 {α : Type} {x : Rs α} {r : Int32} {u : Tau} {P : α → Prop} (h : QM x r u P) (hr : r.toInt = 1) : ∃ g, x = .inr g ∧ P g := by
  cases x with
  | inl q => exact absurd (h.1 q rfl).1 (by omega)
  | inr g => exact ⟨g, rfl, (h.2 g rfl).2⟩
theorem QM_l {α : Type} {x : Rs α} {r : Int32} {u : Tau} {P : α → Prop} {q : Nat × Nat} (e : x = .inl q) (hr : r.toInt = 0) (h1 : (u 131 15).toInt = q.1) (h2 : (u 131 16).toInt = q.2) : QM x r u P := by
  subst e
  exact ⟨fun q' e => (by cases e; exact ⟨hr, h1, h2⟩), fun g e => (by cases e)⟩
theorem QM_b {α : Type} {x : Rs α} {r : Int32} {u : Tau} {P : α → Prop} {k a : Nat} (e : x = .inl (k, a)) (hr : r.toInt = 0) (h1 : (u 131 15).toInt = k) (h2 : (u 131 16).toInt = a) : QM x r u P := QM_l e hr h1 h2
theorem QM_r {α : Type} {x : Rs α} {r : Int32} {u : Tau} {P : α → Prop} {g : α} (e : x = .inr g) (hr : r.toInt = 1) (h : P g) : QM x r u P := by
  subst e
  exact ⟨fun q e => (by cases e), fun g' e => (by cases e; exact ⟨hr, h⟩)⟩
theorem isn_up {bb : Nat → Int} {t : Tk} {i i' : Int32} (h : t.1 = 1 ∧ ∀ j, j < i.toInt.toNat → kwm.getD j [] ≠ wrd bb t) (hn : kwm.getD i.toInt.toNat [] ≠ wrd bb t) (hi : i'.toInt = i.toInt + 1) (h0 : 0 ≤ i.toInt) : t.1 = 1 ∧ ∀ j, j < i'.toInt.toNat → kwm.getD j [] ≠ wrd bb t :=
  ⟨h.1, up_ne h.2 hn hi h0⟩
