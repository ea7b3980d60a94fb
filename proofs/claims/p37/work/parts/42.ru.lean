/-! what the class writes as it reads -/
theorem QX_b {α : Type} {x : Rs α} {r : Int32} {u : Tau} {P : α → Prop} {k a : Nat} (e : x = .inl (k, a)) (hr : r.toInt = 0) (h1 : (u 3 1).toInt = k) (h2 : (u 1 3).toInt = a) : QX x r u P := QX_l e hr h1 h2
theorem RC_at {bb : Nat → Int} {nb : Nat} {τ : Tau} {f : FS} (h : RC bb nb τ f) : (τ 1 3).toInt = f.1.2.1 := h.1.2.2.1
theorem qof_mu {τ u : Tau} {k j : Nat} {x : Int32} (h : Mu τ u k j x) (hk : k < 200) (a i : Nat) : qof u a i = qof τ a i :=
  qof_of (fun m => h.2 _ _ (Or.inl (by omega))) i
theorem Mu_ne {τ u : Tau} {k j a : Nat} {x : Int32} (h : Mu τ u k j x) (ha : a ≠ k) (i : Nat) : u a i = τ a i := h.2 a i (Or.inl ha)
theorem NM_mu {τ u : Tau} {k j c i a : Nat} {x : Int32} {ns : List (List Int)} (h : NM τ c i a ns) (hM : Mu τ u k j x) (hk : k < 200) (hn : c ≠ k ∨ i ≠ j) : NM u c i a ns :=
  NM_eq h (hM.2 c i hn) (fun m => hM.2 _ _ (Or.inl (by omega)))
theorem NM_ml {τ u : Tau} {k c i a : Nat} {g : Nat → Int64} {ns : List (List Int)} (h : NM τ c i a ns) (hM : Ml τ u k g) (hc : c < 200) (ha : a ≠ k) : NM u c i a ns :=
  NM_eq h (hM.1 c (by omega) i) (fun m => hM.1 _ (by omega) m)
/-- a name is added -/
theorem NM_add {τ t u : Tau} {c i a : Nat} {x : Int64} {y : Int32} {k : Nat} {ns : List (List Int)} {w : List Int} (h : NM τ c i a ns) (hM : Ml τ t a (vp_updL (qof τ a) k x)) (hU : Mu t u c i y) (hc : c < 200) (hk : k = ns.length) (hx : x.toInt = e27 w) (hw : lowL w) (hy : y.toInt = ns.length + 1) : NM u c i a (ns ++ [w]) := by
  subst hk
  refine ⟨?_, fun j hj => ?_, fun l hl => ?_⟩
  · rw [hU.1, hy, List.length_append]; rfl
  · rw [qof_mu hU hc]
    rw [List.length_append] at hj
    have hj : j < ns.length + 1 := hj
    by_cases e : j = ns.length
    · subst e
      rw [Ml_upd hM, hx, List.getD_eq_getElem?_getD, List.getElem?_append_right (Nat.le_refl _), Nat.sub_self]; rfl
    · rw [Ml_upn hM e, h.2.1 j (by omega), List.getD_eq_getElem?_getD, List.getD_eq_getElem?_getD, List.getElem?_append_left (by omega)]
  · rcases List.mem_append.mp hl with h1 | h1
    · exact h.2.2 l h1
    · rw [List.mem_singleton.mp h1]; exact hw
theorem RP_sT {τ u : Tau} {s : PS} {x : Int32} (h : RP τ s) (hM : Mu τ u 3 5 x) (hx : x.toInt = 1) : RP u (usT s true) := by
  obtain ⟨a1, a2, a3, a4, a5, a6, a7, a8, a9, a10⟩ := h
  exact ⟨by rw [hM.1, hx]; rfl, by rw [hM.2 3 6 (Or.inr (by decide))]; exact a2, by rw [Mu_ne hM (by decide)]; exact a3, by rw [Mu_ne hM (by decide)]; exact a4, by rw [Mu_ne hM (by decide)]; exact a5, NM_mu a6 hM (by decide) (Or.inl (by decide)), NM_mu a7 hM (by decide) (Or.inl (by decide)), fun i hi => by rw [Mu_ne hM (by decide)]; exact a8 i hi, fun i j hi hj => by rw [Mu_ne hM (by decide)]; exact a9 i j hi hj, fun j hj => by rw [Mu_ne hM (by decide)]; exact a10 j hj⟩
theorem RP_kT {τ u : Tau} {s : PS} {x : Int32} (h : RP τ s) (hM : Mu τ u 3 6 x) (hx : x.toInt = 1) : RP u (ukT s true) := by
  obtain ⟨a1, a2, a3, a4, a5, a6, a7, a8, a9, a10⟩ := h
  exact ⟨by rw [hM.2 3 5 (Or.inr (by decide))]; exact a1, by rw [hM.1, hx]; rfl, by rw [Mu_ne hM (by decide)]; exact a3, by rw [Mu_ne hM (by decide)]; exact a4, by rw [Mu_ne hM (by decide)]; exact a5, NM_mu a6 hM (by decide) (Or.inl (by decide)), NM_mu a7 hM (by decide) (Or.inl (by decide)), fun i hi => by rw [Mu_ne hM (by decide)]; exact a8 i hi, fun i j hi hj => by rw [Mu_ne hM (by decide)]; exact a9 i j hi hj, fun j hj => by rw [Mu_ne hM (by decide)]; exact a10 j hj⟩
theorem RP_se {τ u : Tau} {s : PS} {x : Int32} {v : Int} (h : RP τ s) (hM : Mu τ u 4 0 x) (hx : x.toInt = v) : RP u (use s v) := by
  obtain ⟨a1, a2, a3, a4, a5, a6, a7, a8, a9, a10⟩ := h
  exact ⟨by rw [Mu_ne hM (by decide)]; exact a1, by rw [Mu_ne hM (by decide)]; exact a2, by rw [hM.1]; exact hx, by rw [hM.2 4 1 (Or.inr (by decide))]; exact a4, by rw [hM.2 4 4 (Or.inr (by decide))]; exact a5, NM_mu a6 hM (by decide) (Or.inr (by decide)), NM_mu a7 hM (by decide) (Or.inr (by decide)), fun i hi => by rw [Mu_ne hM (by decide)]; exact a8 i hi, fun i j hi hj => by rw [Mu_ne hM (by decide)]; exact a9 i j hi hj, fun j hj => by rw [Mu_ne hM (by decide)]; exact a10 j hj⟩
theorem RP_sl {τ u : Tau} {s : PS} {x : Int32} {v : Int} (h : RP τ s) (hM : Mu τ u 4 1 x) (hx : x.toInt = v) : RP u (usl s v) := by
  obtain ⟨a1, a2, a3, a4, a5, a6, a7, a8, a9, a10⟩ := h
  exact ⟨by rw [Mu_ne hM (by decide)]; exact a1, by rw [Mu_ne hM (by decide)]; exact a2, by rw [hM.2 4 0 (Or.inr (by decide))]; exact a3, by rw [hM.1]; exact hx, by rw [hM.2 4 4 (Or.inr (by decide))]; exact a5, NM_mu a6 hM (by decide) (Or.inr (by decide)), NM_mu a7 hM (by decide) (Or.inr (by decide)), fun i hi => by rw [Mu_ne hM (by decide)]; exact a8 i hi, fun i j hi hj => by rw [Mu_ne hM (by decide)]; exact a9 i j hi hj, fun j hj => by rw [Mu_ne hM (by decide)]; exact a10 j hj⟩
theorem RP_an {τ t u : Tau} {s : PS} {x : Int64} {y : Int32} {k : Nat} {w : List Int} (h : RP τ s) (hM : Ml τ t 9 (vp_updL (qof τ 9) k x)) (hU : Mu t u 4 2 y) (hk : k = (gan s).length) (hx : x.toInt = e27 w) (hw : lowL w) (hy : y.toInt = (gan s).length + 1) : RP u (uan s w) := by
  obtain ⟨a1, a2, a3, a4, a5, a6, a7, a8, a9, a10⟩ := h
  have e : ∀ a, a ≠ 4 → a < 200 → ∀ i, u a i = τ a i := fun a h1 h2 i => (Mu_ne hU h1 i).trans (hM.1 a (by omega) i)
  have e4 : ∀ i, i ≠ 2 → u 4 i = τ 4 i := fun i h1 => (hU.2 4 i (Or.inr h1)).trans (hM.1 4 (by decide) i)
  exact ⟨by rw [e 3 (by decide) (by decide)]; exact a1, by rw [e 3 (by decide) (by decide)]; exact a2, by rw [e4 0 (by decide)]; exact a3, by rw [e4 1 (by decide)]; exact a4, by rw [e4 4 (by decide)]; exact a5, NM_add a6 hM hU (by decide) hk hx hw hy, NM_mu (NM_ml a7 hM (by decide) (by decide)) hU (by decide) (Or.inr (by decide)), fun i hi => by rw [e 6 (by decide) (by decide)]; exact a8 i hi, fun i j hi hj => by rw [e 7 (by decide) (by decide)]; exact a9 i j hi hj, fun j hj => by rw [e 8 (by decide) (by decide)]; exact a10 j hj⟩
theorem RP_mn {τ t u : Tau} {s : PS} {x : Int64} {y : Int32} {k : Nat} {w : List Int} (h : RP τ s) (hM : Ml τ t 10 (vp_updL (qof τ 10) k x)) (hU : Mu t u 4 3 y) (hk : k = (gmn s).length) (hx : x.toInt = e27 w) (hw : lowL w) (hy : y.toInt = (gmn s).length + 1) : RP u (umn s w) := by
  obtain ⟨a1, a2, a3, a4, a5, a6, a7, a8, a9, a10⟩ := h
  have e : ∀ a, a ≠ 4 → a < 200 → ∀ i, u a i = τ a i := fun a h1 h2 i => (Mu_ne hU h1 i).trans (hM.1 a (by omega) i)
  have e4 : ∀ i, i ≠ 3 → u 4 i = τ 4 i := fun i h1 => (hU.2 4 i (Or.inr h1)).trans (hM.1 4 (by decide) i)
  exact ⟨by rw [e 3 (by decide) (by decide)]; exact a1, by rw [e 3 (by decide) (by decide)]; exact a2, by rw [e4 0 (by decide)]; exact a3, by rw [e4 1 (by decide)]; exact a4, by rw [e4 4 (by decide)]; exact a5, NM_mu (NM_ml a6 hM (by decide) (by decide)) hU (by decide) (Or.inr (by decide)), NM_add a7 hM hU (by decide) hk hx hw hy, fun i hi => by rw [e 6 (by decide) (by decide)]; exact a8 i hi, fun i j hi hj => by rw [e 7 (by decide) (by decide)]; exact a9 i j hi hj, fun j hj hj2 => by
    rw [e 8 (by decide) (by decide)]
    have hj : 9 * (gmn s ++ [w]).length ≤ j := hj
    rw [List.length_append] at hj
    have e1 : [w].length = 1 := rfl
    exact a10 j (by omega) hj2⟩
theorem RP_pa {τ u : Tau} {s : PS} {x : Int32} {k : Nat} (h : RP τ s) (hM : Mu τ u 6 k x) (hx : x.toInt ≠ -1) : RP u (upa s k) := by
  obtain ⟨a1, a2, a3, a4, a5, a6, a7, a8, a9, a10⟩ := h
  refine ⟨by rw [Mu_ne hM (by decide)]; exact a1, by rw [Mu_ne hM (by decide)]; exact a2, by rw [Mu_ne hM (by decide)]; exact a3, by rw [Mu_ne hM (by decide)]; exact a4, by rw [Mu_ne hM (by decide)]; exact a5, NM_mu a6 hM (by decide) (Or.inl (by decide)), NM_mu a7 hM (by decide) (Or.inl (by decide)), fun i hi => ?_, fun i j hi hj => by rw [Mu_ne hM (by decide)]; exact a9 i j hi hj, fun j hj => by rw [Mu_ne hM (by decide)]; exact a10 j hj⟩
  show (u 6 i).toInt ≠ -1 ↔ (gpa s i || i == k) = true
  by_cases e : i = k
  · subst e
    rw [hM.1]
    simp [hx]
  · rw [hM.2 6 i (Or.inr e)]
    simp only [show (i == k) = false from beq_eq_false_iff_ne.mpr e, Bool.or_false]
    exact a8 i hi
theorem RP_op {τ u : Tau} {s : PS} {x : Int32} {k : Nat} (h : RP τ s) (hM : Mu τ u 8 k x) (hk : k < 9 * (gmn s).length) : RP u s := by
  obtain ⟨a1, a2, a3, a4, a5, a6, a7, a8, a9, a10⟩ := h
  exact ⟨by rw [Mu_ne hM (by decide)]; exact a1, by rw [Mu_ne hM (by decide)]; exact a2, by rw [Mu_ne hM (by decide)]; exact a3, by rw [Mu_ne hM (by decide)]; exact a4, by rw [Mu_ne hM (by decide)]; exact a5, NM_mu a6 hM (by decide) (Or.inl (by decide)), NM_mu a7 hM (by decide) (Or.inl (by decide)), fun i hi => by rw [Mu_ne hM (by decide)]; exact a8 i hi, fun i j hi hj => by rw [Mu_ne hM (by decide)]; exact a9 i j hi hj, fun j hj => by rw [hM.2 8 j (Or.inr (by omega))]; exact a10 j hj⟩
theorem RT_sgn {bb : Nat → Int} {nb lm : Nat} {τ : Tau} {t : Tk} (h : RT bb nb lm τ t) (h3 : t.1 = 3) : (τ 1 8).toInt = bb t.2.1 := h.2.2.2.2.2.2.1 h3
theorem RT_nm {bb : Nat → Int} {nb lm : Nat} {τ : Tau} {t : Tk} (h : RT bb nb lm τ t) (h2 : t.1 = 2) : (τ 1 7).toInt = nbr bb t := h.2.2.2.2.2.1 h2
