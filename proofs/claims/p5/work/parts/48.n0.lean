/-! what the model writes as it reads -/
theorem NN_mu {τ u : Tau} {k j i o : Nat} {x : Int32} {ns : List (List Int)} (h : NN τ i o ns) (hM : Mu τ u k j x) (hk : k < 200) (hn : 134 ≠ k ∨ i ≠ j) : NN u i o ns :=
  NN_fr h (hM.2 134 i hn) (fun m => hM.2 _ _ (Or.inl (by omega)))
theorem NN_ml {τ u : Tau} {k i o : Nat} {x : Int64} {ns : List (List Int)} (h : NN τ i o ns) (hM : Ml τ u 136 (vp_updL (qof τ 136) k x)) (hn : ∀ q, q < ns.length → o + q ≠ k) : NN u i o ns :=
  ⟨by rw [hM.1 134 (by decide)]; exact h.1, fun q hq => by rw [Ml_upn hM (hn q hq)]; exact h.2.1 q hq, h.2.2⟩
theorem NN_add {t u : Tau} {i o : Nat} {y : Int32} {ns : List (List Int)} {w : List Int} (h : NN t i o ns) (hU : Mu t u 134 i y) (hx : (qof t 136 (o + ns.length)).toInt = e256 w) (hw : lowL w) (hy : y.toInt = ns.length + 1) : NN u i o (ns ++ [w]) := by
  refine ⟨?_, fun j hj => ?_, fun l hl => ?_⟩
  · rw [hU.1, hy, List.length_append]; rfl
  · rw [qof_mu hU (by decide)]
    rw [List.length_append] at hj
    have hj : j < ns.length + 1 := hj
    by_cases e : j = ns.length
    · subst e
      rw [hx, List.getD_eq_getElem?_getD, List.getElem?_append_right (Nat.le_refl _), Nat.sub_self]; rfl
    · rw [h.2.1 j (by omega), List.getD_eq_getElem?_getD, List.getD_eq_getElem?_getD, List.getElem?_append_left (by omega)]
  · rcases List.mem_append.mp hl with h1 | h1
    · exact h.2.2 l h1
    · rw [List.mem_singleton.mp h1]; exact hw
theorem RH_ml {τ u : Tau} {s : PS} {k : Nat} {x : Int64} (h : RH τ s) (hM : Ml τ u 136 (vp_updL (qof τ 136) k x)) (ho : (∀ i, i < (gan s).length → 19 + i ≠ k) ∧ ∀ i, i < (gmn s).length → 28 + i ≠ k) : RH u s := by
  obtain ⟨a1, a2, a3, a4, a5, a6, a7, a8, a9⟩ := h
  have e : ∀ a, a < 200 → ∀ j, u a j = τ a j := fun a ha j => hM.1 a (by omega) j
  exact ⟨by rw [e 131 (by decide)]; exact a1, by rw [e 131 (by decide)]; exact a2, by rw [e 134 (by decide)]; exact a3, by rw [e 134 (by decide)]; exact a4, by rw [e 134 (by decide)]; exact a5, NN_ml a6 hM ho.1, NN_ml a7 hM ho.2, fun i hi => by rw [e 134 (by decide)]; exact a8 i hi, fun i j hi hj => by rw [e 134 (by decide)]; exact a9 i j hi hj⟩
theorem RH_sT {τ u : Tau} {s : PS} {x o k : Int32} (h : RH τ s) (hM : Mu τ u 131 20 x) (h0 : τ 131 20 = o) (hx : x = o ||| ((1 : Int32) <<< (k &&& 31))) (hk : k.toInt = 0) : RH u (usT s true) := by
  obtain ⟨a1, a2, a3, a4, a5, a6, a7, a8, a9⟩ := h
  have hr : R 0 9 k := ⟨by omega, by omega⟩
  refine ⟨?_, ?_, by rw [Mu_ne hM (by decide)]; exact a3, by rw [Mu_ne hM (by decide)]; exact a4, by rw [Mu_ne hM (by decide)]; exact a5, NN_mu a6 hM (by decide) (Or.inl (by decide)), NN_mu a7 hM (by decide) (Or.inl (by decide)), fun i hi => by rw [Mu_ne hM (by decide)]; exact a8 i hi, fun i j hi hj => by rw [Mu_ne hM (by decide)]; exact a9 i j hi hj⟩
  · rw [hM.1, hx, kb_or hr (by decide), hk]
    exact ⟨fun _ => rfl, fun _ => Or.inr rfl⟩
  · rw [hM.1, hx, kb_or hr (by decide), hk, ← h0, a2]
    exact ⟨fun q => q.elim (fun q => q) (fun q => absurd q (by decide)), fun q => Or.inl q⟩
theorem RH_kT {τ u : Tau} {s : PS} {x o k : Int32} (h : RH τ s) (hM : Mu τ u 131 20 x) (h0 : τ 131 20 = o) (hx : x = o ||| ((1 : Int32) <<< (k &&& 31))) (hk : k.toInt = 1) : RH u (ukT s true) := by
  obtain ⟨a1, a2, a3, a4, a5, a6, a7, a8, a9⟩ := h
  have hr : R 0 9 k := ⟨by omega, by omega⟩
  refine ⟨?_, ?_, by rw [Mu_ne hM (by decide)]; exact a3, by rw [Mu_ne hM (by decide)]; exact a4, by rw [Mu_ne hM (by decide)]; exact a5, NN_mu a6 hM (by decide) (Or.inl (by decide)), NN_mu a7 hM (by decide) (Or.inl (by decide)), fun i hi => by rw [Mu_ne hM (by decide)]; exact a8 i hi, fun i j hi hj => by rw [Mu_ne hM (by decide)]; exact a9 i j hi hj⟩
  · rw [hM.1, hx, kb_or hr (by decide), hk, ← h0, a1]
    exact ⟨fun q => q.elim (fun q => q) (fun q => absurd q (by decide)), fun q => Or.inl q⟩
  · rw [hM.1, hx, kb_or hr (by decide), hk]
    exact ⟨fun _ => rfl, fun _ => Or.inr rfl⟩
theorem RH_se {τ u : Tau} {s : PS} {x : Int32} {v : Int} {k : Nat} (h : RH τ s) (hM : Mu τ u 134 k x) (hk : k = 2) (hx : x.toInt = v) : RH u (use s v) := by
  subst hk
  obtain ⟨a1, a2, a3, a4, a5, a6, a7, a8, a9⟩ := h
  exact ⟨by rw [Mu_ne hM (by decide)]; exact a1, by rw [Mu_ne hM (by decide)]; exact a2, by rw [hM.1]; exact hx, by rw [hM.2 134 3 (Or.inr (by decide))]; exact a4, by rw [hM.2 134 4 (Or.inr (by decide))]; exact a5, NN_mu a6 hM (by decide) (Or.inr (by decide)), NN_mu a7 hM (by decide) (Or.inr (by decide)), fun i hi => by rw [hM.2 134 _ (Or.inr (by omega))]; exact a8 i hi, fun i j hi hj => by rw [hM.2 134 _ (Or.inr (by omega))]; exact a9 i j hi hj⟩
theorem RH_sl {τ u : Tau} {s : PS} {x : Int32} {v : Int} {k : Nat} (h : RH τ s) (hM : Mu τ u 134 k x) (hk : k = 3) (hx : x.toInt = v) : RH u (usl s v) := by
  subst hk
  obtain ⟨a1, a2, a3, a4, a5, a6, a7, a8, a9⟩ := h
  exact ⟨by rw [Mu_ne hM (by decide)]; exact a1, by rw [Mu_ne hM (by decide)]; exact a2, by rw [hM.2 134 2 (Or.inr (by decide))]; exact a3, by rw [hM.1]; exact hx, by rw [hM.2 134 4 (Or.inr (by decide))]; exact a5, NN_mu a6 hM (by decide) (Or.inr (by decide)), NN_mu a7 hM (by decide) (Or.inr (by decide)), fun i hi => by rw [hM.2 134 _ (Or.inr (by omega))]; exact a8 i hi, fun i j hi hj => by rw [hM.2 134 _ (Or.inr (by omega))]; exact a9 i j hi hj⟩
theorem RH_an {τ u : Tau} {s : PS} {x : Int32} {k : Nat} {w : List Int} (h : RH τ s) (hM : Mu τ u 134 k x) (hk : k = 0) (hq : (qof τ 136 (19 + (gan s).length)).toInt = e256 w) (hw : lowL w) (hx : x.toInt = (gan s).length + 1) : RH u (uan s w) := by
  subst hk
  obtain ⟨a1, a2, a3, a4, a5, a6, a7, a8, a9⟩ := h
  exact ⟨by rw [Mu_ne hM (by decide)]; exact a1, by rw [Mu_ne hM (by decide)]; exact a2, by rw [hM.2 134 2 (Or.inr (by decide))]; exact a3, by rw [hM.2 134 3 (Or.inr (by decide))]; exact a4, by rw [hM.2 134 4 (Or.inr (by decide))]; exact a5, NN_add a6 hM hq hw hx, NN_mu a7 hM (by decide) (Or.inr (by decide)), fun i hi => by rw [hM.2 134 _ (Or.inr (by omega))]; exact a8 i hi, fun i j hi hj => by rw [hM.2 134 _ (Or.inr (by omega))]; exact a9 i j hi hj⟩
theorem RH_mn {τ u : Tau} {s : PS} {x : Int32} {k : Nat} {w : List Int} (h : RH τ s) (hM : Mu τ u 134 k x) (hk : k = 1) (hq : (qof τ 136 (28 + (gmn s).length)).toInt = e256 w) (hw : lowL w) (hx : x.toInt = (gmn s).length + 1) : RH u (umn s w) := by
  subst hk
  obtain ⟨a1, a2, a3, a4, a5, a6, a7, a8, a9⟩ := h
  exact ⟨by rw [Mu_ne hM (by decide)]; exact a1, by rw [Mu_ne hM (by decide)]; exact a2, by rw [hM.2 134 2 (Or.inr (by decide))]; exact a3, by rw [hM.2 134 3 (Or.inr (by decide))]; exact a4, by rw [hM.2 134 4 (Or.inr (by decide))]; exact a5, NN_mu a6 hM (by decide) (Or.inr (by decide)), NN_add a7 hM hq hw hx, fun i hi => by rw [hM.2 134 _ (Or.inr (by omega))]; exact a8 i hi, fun i j hi hj => by rw [hM.2 134 _ (Or.inr (by omega))]; exact a9 i j hi hj⟩
theorem RH_pa {τ u : Tau} {s : PS} {x : Int32} {k i0 : Nat} (h : RH τ s) (hM : Mu τ u 134 k x) (hk : k = 105 + i0) (hi0 : i0 < 10) (hx : 0 < x.toInt) : RH u (upa s i0) := by
  subst hk
  obtain ⟨a1, a2, a3, a4, a5, a6, a7, a8, a9⟩ := h
  refine ⟨by rw [Mu_ne hM (by decide)]; exact a1, by rw [Mu_ne hM (by decide)]; exact a2, by rw [hM.2 134 2 (Or.inr (by omega))]; exact a3, by rw [hM.2 134 3 (Or.inr (by omega))]; exact a4, by rw [hM.2 134 4 (Or.inr (by omega))]; exact a5, NN_mu a6 hM (by decide) (Or.inr (by omega)), NN_mu a7 hM (by decide) (Or.inr (by omega)), fun i hi => ?_, fun i j hi hj => by rw [hM.2 134 _ (Or.inr (by omega))]; exact a9 i j hi hj⟩
  show 0 < (u 134 (105 + i)).toInt ↔ (gpa s i || i == i0) = true
  by_cases e : i = i0
  · subst e
    rw [hM.1]
    simp [hx]
  · rw [hM.2 134 _ (Or.inr (by omega))]
    simp only [show (i == i0) = false from beq_eq_false_iff_ne.mpr e, Bool.or_false]
    exact a8 i hi
theorem ki_bits2 {τ t u : Tau} {s : PS} {x1 x2 : Int32} {K1 K2 : Nat} (h : ∀ i j, i < 10 → j < 10 → (kb (τ 134 (115 + i)) j ↔ gki s i j = true)) (hne : K1 ≠ K2) (h1 : Mu τ t 134 (115 + K1) x1) (h2 : Mu t u 134 (115 + K2) x2) (b1 : ∀ j, j < 10 → (kb x1 j ↔ (kb (τ 134 (115 + K1)) j ∨ j = K2))) (b2 : ∀ j, j < 10 → (kb x2 j ↔ (kb (t 134 (115 + K2)) j ∨ j = K1))) (i j : Nat) (hi : i < 10) (hj : j < 10) : kb (u 134 (115 + i)) j ↔ (gki s i j || (i == K1 && j == K2) || (i == K2 && j == K1)) = true := by
  have o := h i j hi hj
  simp only [Bool.or_eq_true, Bool.and_eq_true, beq_iff_eq]
  by_cases g1 : i = K1
  · subst g1
    rw [h2.2 134 _ (Or.inr (by omega)), h1.1, b1 j hj, o]
    simp [hne]
  · by_cases g2 : i = K2
    · subst g2
      rw [h2.1, b2 j hj, h1.2 134 _ (Or.inr (by omega)), o]
      simp [g1]
    · rw [h2.2 134 _ (Or.inr (by omega)), h1.2 134 _ (Or.inr (by omega)), o]
      simp [g1, g2]
theorem RH_ki {τ t u v : Tau} {s : PS} {x1 x2 y k1 k2 o1 o2 : Int32} {i1 i2 i3 K1 K2 : Nat} (h : RH τ s) (hk : R 0 9 k1) (hj : R 0 9 k2) (e1 : k1.toInt = K1) (e2 : k2.toInt = K2) (hne : K1 ≠ K2) (h1 : Mu τ t 134 i1 x1) (h2 : Mu t u 134 i2 x2) (h3 : Mu u v 134 i3 y) (q1 : i1 = 115 + K1) (q2 : i2 = 115 + K2) (q3 : i3 = 4) (z1 : τ 134 i1 = o1) (z2 : t 134 i2 = o2) (hx1 : x1 = o1 ||| ((1 : Int32) <<< (k2 &&& 31))) (hx2 : x2 = o2 ||| ((1 : Int32) <<< (k1 &&& 31))) (hy : y = Int32.ofNat (gkn s + 1)) : RH v (uki s K1 K2) := by
  subst q1; subst q2; subst q3
  obtain ⟨a1, a2, a3, a4, a5, a6, a7, a8, a9⟩ := h
  have e : ∀ a, a ≠ 134 → ∀ i, v a i = τ a i := fun a g1 i => ((Mu_ne h3 g1 i).trans (Mu_ne h2 g1 i)).trans (Mu_ne h1 g1 i)
  have e4 : ∀ i, i < 115 → i ≠ 4 → v 134 i = τ 134 i := fun i g1 g => ((h3.2 134 i (Or.inr g)).trans (h2.2 134 i (Or.inr (by omega)))).trans (h1.2 134 i (Or.inr (by omega)))
  have b1 : ∀ j, j < 10 → (kb x1 j ↔ (kb (τ 134 (115 + K1)) j ∨ j = K2)) := fun j hj2 => by
    rw [hx1, kb_or hj hj2, z1, show k2.toInt.toNat = K2 by omega]
  have b2 : ∀ j, j < 10 → (kb x2 j ↔ (kb (t 134 (115 + K2)) j ∨ j = K1)) := fun j hj2 => by
    rw [hx2, kb_or hk hj2, z2, show k1.toInt.toNat = K1 by omega]
  refine ⟨by rw [e 131 (by decide)]; exact a1, by rw [e 131 (by decide)]; exact a2, by rw [e4 2 (by decide) (by decide)]; exact a3, by rw [e4 3 (by decide) (by decide)]; exact a4, by rw [h3.1]; exact hy, NN_fr a6 (e4 0 (by decide) (by decide)) (e _ (by decide)), NN_fr a7 (e4 1 (by decide) (by decide)) (e _ (by decide)), fun i hi => by rw [e4 (105 + i) (by omega) (by omega)]; exact a8 i hi, fun i j hi hj => ?_⟩
  rw [h3.2 134 _ (Or.inr (by omega))]
  exact ki_bits2 a9 hne h1 h2 b1 b2 i j hi hj
theorem bof {a0 a1 v r c : Int32} (h1 : v = a0 >>> (a1 &&& 31)) (hc : c.toInt = 1) (h2 : r = v &&& c) (ha : R 0 9 a1) : r.toInt = 1 ↔ kb a0 a1.toInt.toNat := bit_q h1 hc h2 ha
noncomputable def sMd (b : Nat → Int) (n : Nat) (f : FS) : Rs (Int × FS) := thn (sYN b n f) (fun g => sNum b n 1 9 g)
theorem sOp_md {b : Nat → Int} {n : Nat} {op : Nat → Bool} {f : FS} {i : Nat} (e : sLook b (gan f.2) f.1 = .inr i) (h : ¬ op i = true) : sOp b n op f = thn (sMd b n (stp b n f)) (fun q => .inr (i, q.2)) := by
  unfold sOp sMd
  rw [thn_r e, cif_neg h]
  cases sYN b n (stp b n f) with
  | inl q => rfl
  | inr g => rfl
