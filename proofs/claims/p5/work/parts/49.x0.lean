def po_X8_fail_t11 (τ : Tau)  (a0 : Int32)   (r : Int32) (u : Tau) : Prop := Inv u ∧ Fr [(11, 1)] [] τ u ∧ R (0) (0) r ∧ u 11 1 = a0
set_option maxHeartbeats 4000000 in
set_option maxRecDepth 100000 in
theorem c_X8_fail_t11 (l : Launch) (G : Gx) (τ : Tau) (hI : Inv τ) (a0 : Int32) (h_a0 : R (-2147483648) (2147483647) a0) : Ci l G yX8_fail cX8_fail 2 (some .boolean) 0 0 [.ref (G.2.2.2.1 11), .int a0] τ (po_X8_fail_t11 τ  a0  ) := by
  unfold Ci
  refine C_of (own := RX8) (by decide) rfl (Nat.le_of_ble_eq_true rfl) ?_
  intro p e s m below meth c ls S hr hlk X hl
  have hl : lv_has ls 2 [(0, .ref (G.2.2.2.1 11)), (1, .int a0)] := hl
  refine r_aload_n S dX8_fail_0 rfl (lv_at hl 0 rfl) ?_
  refine r_iload_n S dX8_fail_1 rfl (lv_at hl 1 rfl) ?_
  refine r_put (K := 11) (ty := .int) S X (Nat.le_of_ble_eq_true rfl) rfl lk8_15_1 (fun _ => ⟨_, rfl, Nat.le_of_ble_eq_true rfl, rfl⟩) (fun _ _ _ h => by cases h; exact ⟨rfl, rfl⟩) rfl rfl dX8_fail_2 (fun t1 H lc M2 X3 => ?_)
  have I4 := Inv_mu hI M2 (R_any a0)
  have F5 : Fr [(11, 1)] [] τ t1 := Fr_mu Fr_rfl M2 (by decide)
  refine r_iconst S dX8_fail_5 (by decide) (fun v6 z7 => ?_)
  have r8 := R_eq z7
  exact r_ret S hr hlk X3 ⟨I4, F5, r8, M2.1⟩ (nr_bool (R_of (lo := 0) (hi := 1) r8 rfl)) dX8_fail_6
def po_X8_takeSign_t11 (τ : Tau)  (a0 : Int32)  (bb : Nat → Int) (nb : Nat) (an mn : List (List Int)) (t : Tk) (r : Int32) (u : Tau) : Prop := Inv u ∧ Fr [(11, 1), (1, 3), (1, 4), (1, 5), (1, 7), (1, 8)] [201] τ u ∧ R (0) (1) r ∧ (r.toInt = 1 → R (0) (0) (u 11 1)) ∧ QY 11 (tSgn bb nb 400 59 t) r u (fun g => RG bb nb 400 an mn u g)
set_option maxHeartbeats 4000000 in
set_option maxRecDepth 100000 in
theorem c_X8_takeSign_t11 (l : Launch) (G : Gx) (τ : Tau) (hI : Inv τ) (a0 : Int32) (h_a0 : R (59) (59) a0) (hf_0 : R (0) (0) (τ 11 1)) (bb : Nat → Int) (nb : Nat) (an mn : List (List Int)) (t : Tk) (hR : RG bb nb 400 an mn τ t) : Ci l G yX8_takeSign cX8_takeSign 2 (some .boolean) 1 24 [.ref (G.2.2.2.1 11), .int a0] τ (po_X8_takeSign_t11 τ  a0  bb nb an mn t) := by
  unfold Ci
  refine C_of (own := RX8) (by decide) rfl (Nat.le_of_ble_eq_true rfl) ?_
  intro p e s m below meth c ls S hr hlk X hl
  have hl : lv_has ls 2 [(0, .ref (G.2.2.2.1 11)), (1, .int a0)] := hl
  obtain ⟨v1, z2⟩ : ∃ x, τ 11 1 = x := ⟨_, rfl⟩
  rw [z2] at hf_0
  refine r_aload_n S dX8_takeSign_0 rfl (lv_at hl 0 rfl) ?_
  refine r_get (K := 11) (v := .ref (G.2.2.2.1 1)) S X (Nat.le_of_ble_eq_true rfl) rfl lk8_9_1 (fun _ => ⟨_, rfl, rfl⟩) dX8_takeSign_1 ?_
  refine r_iload_n S dX8_takeSign_4 rfl (lv_at hl 1 rfl) ?_
  refine r_ki (q_V (As := [.int a0]) (rest := []) (K := 1) (ci := 7) S X (c_X7_isSigned_q l G τ hI a0 (R_of (lo := 0) (hi := 65535) h_a0 rfl) bb nb 400 t hR.1) ck8_25 (Nat.le_of_ble_eq_true rfl) rfl (fun _ => ⟨_, rfl⟩) ⟨_, _, rfl⟩ ⟨Nat.le_of_ble_eq_true rfl, Nat.le_of_ble_eq_true rfl⟩ rfl hl.1 rfl (Nat.le_of_ble_eq_true rfl) dX8_takeSign_5 ⟨Nat.le_refl 0, Nat.le_refl 0⟩) X (fun v6 t5 H lc q3 X4 => ?_)
  unfold po_X7_isSigned_q at q3
  obtain ⟨q7, q8, q9⟩ := q3
  rw [q7] at X4
  refine r_if_ne (tgt := 17) S dX8_takeSign_8 (by decide) (fun c10 => ?_) (fun c10 => ?_)
  ·
    have r11 : R (1) (1) v6 := ⟨by omega, by omega⟩
    have p12 := (q9).mp (by omega)
    refine r_aload_n S dX8_takeSign_17 rfl (lv_at hl 0 rfl) ?_
    refine r_get (K := 11) (v := .ref (G.2.2.2.1 1)) S X4 (Nat.le_of_ble_eq_true rfl) rfl lk8_9_1 (fun _ => ⟨_, rfl, rfl⟩) dX8_takeSign_18 ?_
    refine r_kv (q_V (As := []) (rest := []) (K := 1) (ci := 7) S X4 (c_X7_step_q l G τ hI bb nb 400 t.2.2 (RT_st hR.1 (Or.inr (Or.inr p12.1))).1 (RT_st hR.1 (Or.inr (Or.inr p12.1))).2.1 (RT_st hR.1 (Or.inr (Or.inr p12.1))).2.2) ck8_33 (Nat.le_of_ble_eq_true rfl) rfl (fun _ => ⟨_, rfl⟩) ⟨_, _, rfl⟩ ⟨Nat.le_of_ble_eq_true rfl, Nat.le_of_ble_eq_true rfl⟩ rfl hl.1 rfl (Nat.le_of_ble_eq_true rfl) dX8_takeSign_21 ⟨Nat.le_refl 0, Nat.le_refl 0⟩) X4 (fun t15 H lc q13 X14 => ?_)
    unfold po_X7_step_q at q13
    obtain ⟨q16, q17, q18⟩ := q13
    have F19 : Fr [(11, 1), (1, 3), (1, 4), (1, 5), (1, 7), (1, 8)] [201] τ t15 := Fr_call Fr_rfl q17 (by decide)
    have hR20 : RG bb nb 400 an mn t15 (nx bb nb 400 t) := ⟨q18, NM2_fr hR.2 ((q17 23 2 (by decide)).trans rfl) ((q17 23 3 (by decide)).trans rfl) (fun j => ((q17 228 j (by simp [fz])).trans rfl)) (fun j => ((q17 229 j (by simp [fz])).trans rfl))⟩
    refine r_iconst S dX8_takeSign_24 (by decide) (fun v21 z22 => ?_)
    have r23 := R_eq z22
    exact r_ret S hr hlk X14 ⟨q16, F19, (R_of r23 rfl), (fun h => (by rw [((q17 11 1 (by decide)).trans z2)]; exact R_of hf_0 rfl)), (QY_r (tSgn_g ⟨p12.1, by have q := p12.2; omega⟩) (by omega) hR20)⟩ (nr_bool (R_of (lo := 0) (hi := 1) r23 rfl)) dX8_takeSign_25
  ·
    have r24 : R (0) (0) v6 := ⟨by omega, by omega⟩
    have p25 := (iff_n q9) (by omega)
    refine r_aload_n S dX8_takeSign_11 rfl (lv_at hl 0 rfl) ?_
    refine r_iconst S dX8_takeSign_12 (by decide) (fun v26 z27 => ?_)
    have r28 := R_eq z27
    refine r_ki (q_U (As := [.int v26]) (rest := []) (K := 11) (ci := 1) S X4 (c_X8_fail_t11 l G τ hI v26 (R_of (lo := -2147483648) (hi := 2147483647) r28 rfl)) ck8_29_1 (Nat.le_of_ble_eq_true rfl) rfl (fun _ => ⟨_, rfl⟩) ⟨_, _, rfl⟩ ⟨Nat.le_of_ble_eq_true rfl, Nat.le_of_ble_eq_true rfl⟩ rfl hl.1 rfl (Nat.le_of_ble_eq_true rfl) dX8_takeSign_13 ⟨Nat.le_refl 0, Nat.le_refl 0⟩) X4 (fun v32 t31 H lc q29 X30 => ?_)
    unfold po_X8_fail_t11 at q29
    obtain ⟨q33, q34, q35, q36⟩ := q29
    have F37 : Fr [(11, 1), (1, 3), (1, 4), (1, 5), (1, 7), (1, 8)] [201] τ t31 := Fr_call Fr_rfl q34 (by decide)
    exact r_ret S hr hlk X30 ⟨q33, F37, (R_of q35 rfl), (fun h => by exfalso; omega), (QY_b (tSgn_b (fun h => p25 ⟨h.1, by have q := h.2; omega⟩)) (by omega) (by rw [q36]; omega) (RG_at (RG_fr hR (fun j => ((q34 1 j (by simp [fz])).trans rfl)) (fun j => ((q34 2 j (by simp [fz])).trans rfl)) (fun j => ((q34 201 j (by simp [fz])).trans rfl)) ((q34 23 2 (by decide)).trans rfl) ((q34 23 3 (by decide)).trans rfl) (fun j => ((q34 228 j (by simp [fz])).trans rfl)) (fun j => ((q34 229 j (by simp [fz])).trans rfl)))))⟩ (nr_bool (R_of (lo := 0) (hi := 1) q35 rfl)) dX8_takeSign_16
def po_X8_takeNumber_t11 (τ : Tau)  (a0 a1 : Int32)  (bb : Nat → Int) (nb : Nat) (an mn : List (List Int)) (t : Tk) (r : Int32) (u : Tau) : Prop := Inv u ∧ Fr [(11, 1), (11, 2), (1, 3), (1, 4), (1, 5), (1, 7), (1, 8)] [201] τ u ∧ R (0) (1) r ∧ (r.toInt = 1 → R (0) (9) (u 11 2) ∧ R (0) (0) (u 11 1)) ∧ QY 11 (tNum bb nb 400 0 9 t) r u (fun g => (u 11 2).toInt = g.1 ∧ RG bb nb 400 an mn u g.2)
set_option maxHeartbeats 4000000 in
set_option maxRecDepth 100000 in
theorem c_X8_takeNumber_t11 (l : Launch) (G : Gx) (τ : Tau) (hI : Inv τ) (a0 : Int32) (a1 : Int32) (h_a0 : R (0) (0) a0) (h_a1 : R (9) (9) a1) (hf_0 : R (0) (0) (τ 11 1)) (bb : Nat → Int) (nb : Nat) (an mn : List (List Int)) (t : Tk) (hR : RG bb nb 400 an mn τ t) : Ci l G yX8_takeNumber cX8_takeNumber 3 (some .boolean) 1 24 [.ref (G.2.2.2.1 11), .int a0, .int a1] τ (po_X8_takeNumber_t11 τ  a0 a1  bb nb an mn t) := by
  unfold Ci
  refine C_of (own := RX8) (by decide) rfl (Nat.le_of_ble_eq_true rfl) ?_
  intro p e s m below meth c ls S hr hlk X hl
  have hl : lv_has ls 3 [(0, .ref (G.2.2.2.1 11)), (1, .int a0), (2, .int a1)] := hl
  obtain ⟨v1, z2⟩ : ∃ x, τ 11 1 = x := ⟨_, rfl⟩
  rw [z2] at hf_0
  refine r_aload_n S dX8_takeNumber_0 rfl (lv_at hl 0 rfl) ?_
  refine r_get (K := 11) (v := .ref (G.2.2.2.1 1)) S X (Nat.le_of_ble_eq_true rfl) rfl lk8_9_1 (fun _ => ⟨_, rfl, rfl⟩) dX8_takeNumber_1 ?_
  refine r_getn (K := 1) S X (Nat.le_of_ble_eq_true rfl) rfl lk8_36_7 (fun _ => ⟨_, rfl, rfl⟩) dX8_takeNumber_4 (fun v3 z4 => ?_)
  have r5 : R (0) (4) v3 := rd hI rfl z4
  refine r_iconst S dX8_takeNumber_7 (by decide) (fun v6 z7 => ?_)
  have r8 := R_eq z7
  refine r_icmp_eq (tgt := 17) S dX8_takeNumber_8 (by decide) (fun c9 => ?_) (fun c9 => ?_)
  ·
    have r10 : R (3) (3) v3 := ⟨by omega, by omega⟩
    refine r_aload_n S dX8_takeNumber_17 rfl (lv_at hl 0 rfl) ?_
    refine r_get (K := 11) (v := .ref (G.2.2.2.1 1)) S X (Nat.le_of_ble_eq_true rfl) rfl lk8_9_1 (fun _ => ⟨_, rfl, rfl⟩) dX8_takeNumber_18 ?_
    refine r_getn (K := 1) S X (Nat.le_of_ble_eq_true rfl) rfl lk8_39_7 (fun _ => ⟨_, rfl, rfl⟩) dX8_takeNumber_21 (fun v11 z12 => ?_)
    have r14 := R_any v11
    refine r_iload_n S dX8_takeNumber_24 rfl (lv_at hl 1 rfl) ?_
    refine r_icmp_lt (tgt := 39) S dX8_takeNumber_25 (by decide) (fun c15 => ?_) (fun c15 => ?_)
    ·
      have r16 : R (-2147483648) (-1) v11 := ⟨by omega, by omega⟩
      refine r_aload_n S dX8_takeNumber_39 rfl (lv_at hl 0 rfl) ?_
      refine r_iconst S dX8_takeNumber_40 (by decide) (fun v17 z18 => ?_)
      have r19 := R_eq z18
      refine r_ki (q_U (As := [.int v17]) (rest := []) (K := 11) (ci := 1) S X (c_X8_fail_t11 l G τ hI v17 (R_of (lo := -2147483648) (hi := 2147483647) r19 rfl)) ck8_29_1 (Nat.le_of_ble_eq_true rfl) rfl (fun _ => ⟨_, rfl⟩) ⟨_, _, rfl⟩ ⟨Nat.le_of_ble_eq_true rfl, Nat.le_of_ble_eq_true rfl⟩ rfl hl.1 rfl (Nat.le_of_ble_eq_true rfl) dX8_takeNumber_41 ⟨Nat.le_refl 0, Nat.le_refl 0⟩) X (fun v23 t22 H lc q20 X21 => ?_)
      unfold po_X8_fail_t11 at q20
      obtain ⟨q24, q25, q26, q27⟩ := q20
      have F28 : Fr [(11, 1), (11, 2), (1, 3), (1, 4), (1, 5), (1, 7), (1, 8)] [201] τ t22 := Fr_call Fr_rfl q25 (by decide)
      exact r_ret S hr hlk X21 ⟨q24, F28, (R_of q26 rfl), (fun h => by exfalso; omega), (QY_b (tNum_b2 ((RT_k hR.1).2.2.1.mp (by rw [z4]; omega)) (by rw [← RT_nm hR.1 ((RT_k hR.1).2.2.1.mp (by rw [z4]; omega)), z12]; omega)) (by omega) (by rw [q27]; omega) (RG_at (RG_fr hR (fun j => ((q25 1 j (by simp [fz])).trans rfl)) (fun j => ((q25 2 j (by simp [fz])).trans rfl)) (fun j => ((q25 201 j (by simp [fz])).trans rfl)) ((q25 23 2 (by decide)).trans rfl) ((q25 23 3 (by decide)).trans rfl) (fun j => ((q25 228 j (by simp [fz])).trans rfl)) (fun j => ((q25 229 j (by simp [fz])).trans rfl)))))⟩ (nr_bool (R_of (lo := 0) (hi := 1) q26 rfl)) dX8_takeNumber_44
    ·
      have r29 : R (0) (2147483647) v11 := ⟨by omega, by omega⟩
      refine r_aload_n S dX8_takeNumber_28 rfl (lv_at hl 0 rfl) ?_
      refine r_get (K := 11) (v := .ref (G.2.2.2.1 1)) S X (Nat.le_of_ble_eq_true rfl) rfl lk8_9_1 (fun _ => ⟨_, rfl, rfl⟩) dX8_takeNumber_29 ?_
      refine r_geti (K := 1) S X (Nat.le_of_ble_eq_true rfl) rfl lk8_39_7 (fun _ => ⟨_, rfl, rfl⟩) z12 dX8_takeNumber_32 ?_
      refine r_iload_n S dX8_takeNumber_35 rfl (lv_at hl 2 rfl) ?_
      refine r_icmp_le (tgt := 45) S dX8_takeNumber_36 (by decide) (fun c30 => ?_) (fun c30 => ?_)
      ·
        have r31 : R (0) (9) v11 := ⟨by omega, by omega⟩
        refine r_aload_n S dX8_takeNumber_45 rfl (lv_at hl 0 rfl) ?_
        refine r_aload_n S dX8_takeNumber_46 rfl (lv_at hl 0 rfl) ?_
        refine r_get (K := 11) (v := .ref (G.2.2.2.1 1)) S X (Nat.le_of_ble_eq_true rfl) rfl lk8_9_1 (fun _ => ⟨_, rfl, rfl⟩) dX8_takeNumber_47 ?_
        refine r_geti (K := 1) S X (Nat.le_of_ble_eq_true rfl) rfl lk8_39_7 (fun _ => ⟨_, rfl, rfl⟩) z12 dX8_takeNumber_50 ?_
        refine r_put (K := 11) (ty := .int) S X (Nat.le_of_ble_eq_true rfl) rfl lk8_42_1 (fun _ => ⟨_, rfl, Nat.le_of_ble_eq_true rfl, rfl⟩) (fun _ _ _ h => by cases h; exact ⟨rfl, rfl⟩) rfl rfl dX8_takeNumber_53 (fun t32 H lc M33 X34 => ?_)
        have I35 := Inv_mu hI M33 (R_any v11)
        have F36 : Fr [(11, 1), (11, 2), (1, 3), (1, 4), (1, 5), (1, 7), (1, 8)] [201] τ t32 := Fr_mu Fr_rfl M33 (by decide)
        refine r_aload_n S dX8_takeNumber_56 rfl (lv_at hl 0 rfl) ?_
        refine r_get (K := 11) (v := .ref (G.2.2.2.1 1)) S X34 (Nat.le_of_ble_eq_true rfl) rfl lk8_9_1 (fun _ => ⟨_, rfl, rfl⟩) dX8_takeNumber_57 ?_
        refine r_kv (q_V (As := []) (rest := []) (K := 1) (ci := 7) S X34 (c_X7_step_q l G t32 I35 bb nb 400 t.2.2 (RT_st (RG_fr hR (fun j => ((M33.2 1 j (Or.inl (by decide))).trans rfl)) (fun j => ((M33.2 2 j (Or.inl (by decide))).trans rfl)) (fun j => ((M33.2 201 j (Or.inl (by decide))).trans rfl)) ((M33.2 23 2 (Or.inl (by decide))).trans rfl) ((M33.2 23 3 (Or.inl (by decide))).trans rfl) (fun j => ((M33.2 228 j (Or.inl (by decide))).trans rfl)) (fun j => ((M33.2 229 j (Or.inl (by decide))).trans rfl))).1 (Or.inr (Or.inl ((RT_k hR.1).2.2.1.mp (by rw [z4]; omega))))).1 (RT_st (RG_fr hR (fun j => ((M33.2 1 j (Or.inl (by decide))).trans rfl)) (fun j => ((M33.2 2 j (Or.inl (by decide))).trans rfl)) (fun j => ((M33.2 201 j (Or.inl (by decide))).trans rfl)) ((M33.2 23 2 (Or.inl (by decide))).trans rfl) ((M33.2 23 3 (Or.inl (by decide))).trans rfl) (fun j => ((M33.2 228 j (Or.inl (by decide))).trans rfl)) (fun j => ((M33.2 229 j (Or.inl (by decide))).trans rfl))).1 (Or.inr (Or.inl ((RT_k hR.1).2.2.1.mp (by rw [z4]; omega))))).2.1 (RT_st (RG_fr hR (fun j => ((M33.2 1 j (Or.inl (by decide))).trans rfl)) (fun j => ((M33.2 2 j (Or.inl (by decide))).trans rfl)) (fun j => ((M33.2 201 j (Or.inl (by decide))).trans rfl)) ((M33.2 23 2 (Or.inl (by decide))).trans rfl) ((M33.2 23 3 (Or.inl (by decide))).trans rfl) (fun j => ((M33.2 228 j (Or.inl (by decide))).trans rfl)) (fun j => ((M33.2 229 j (Or.inl (by decide))).trans rfl))).1 (Or.inr (Or.inl ((RT_k hR.1).2.2.1.mp (by rw [z4]; omega))))).2.2) ck8_33 (Nat.le_of_ble_eq_true rfl) rfl (fun _ => ⟨_, rfl⟩) ⟨_, _, rfl⟩ ⟨Nat.le_of_ble_eq_true rfl, Nat.le_of_ble_eq_true rfl⟩ rfl hl.1 rfl (Nat.le_of_ble_eq_true rfl) dX8_takeNumber_60 ⟨Nat.le_refl 0, Nat.le_refl 0⟩) X34 (fun t39 H lc q37 X38 => ?_)
        unfold po_X7_step_q at q37
        obtain ⟨q40, q41, q42⟩ := q37
        have F43 : Fr [(11, 1), (11, 2), (1, 3), (1, 4), (1, 5), (1, 7), (1, 8)] [201] τ t39 := Fr_call F36 q41 (by decide)
        have hR44 : RG bb nb 400 an mn t39 (nx bb nb 400 t) := ⟨q42, NM2_fr hR.2 ((q41 23 2 (by decide)).trans ((M33.2 23 2 (Or.inl (by decide))).trans rfl)) ((q41 23 3 (by decide)).trans ((M33.2 23 3 (Or.inl (by decide))).trans rfl)) (fun j => ((q41 228 j (by simp [fz])).trans ((M33.2 228 j (Or.inl (by decide))).trans rfl))) (fun j => ((q41 229 j (by simp [fz])).trans ((M33.2 229 j (Or.inl (by decide))).trans rfl)))⟩
        refine r_iconst S dX8_takeNumber_63 (by decide) (fun v45 z46 => ?_)
        have r47 := R_eq z46
        exact r_ret S hr hlk X38 ⟨q40, F43, (R_of r47 rfl), (fun h => ⟨(by rw [((q41 11 2 (by decide)).trans M33.1)]; exact R_of r31 rfl), (by rw [((q41 11 1 (by decide)).trans ((M33.2 11 1 (Or.inr (by decide))).trans z2))]; exact R_of hf_0 rfl)⟩), (QY_r (tNum_g ((RT_k hR.1).2.2.1.mp (by rw [z4]; omega)) (by rw [← RT_nm hR.1 ((RT_k hR.1).2.2.1.mp (by rw [z4]; omega)), z12]; omega)) (by omega) ⟨show (t39 11 2).toInt = nbr bb t by rw [((q41 11 2 (by decide)).trans M33.1), ← RT_nm hR.1 ((RT_k hR.1).2.2.1.mp (by rw [z4]; omega)), z12], hR44⟩)⟩ (nr_bool (R_of (lo := 0) (hi := 1) r47 rfl)) dX8_takeNumber_64
      ·
        have r48 : R (10) (2147483647) v11 := ⟨by omega, by omega⟩
        refine r_aload_n S dX8_takeNumber_39 rfl (lv_at hl 0 rfl) ?_
        refine r_iconst S dX8_takeNumber_40 (by decide) (fun v49 z50 => ?_)
        have r51 := R_eq z50
        refine r_ki (q_U (As := [.int v49]) (rest := []) (K := 11) (ci := 1) S X (c_X8_fail_t11 l G τ hI v49 (R_of (lo := -2147483648) (hi := 2147483647) r51 rfl)) ck8_29_1 (Nat.le_of_ble_eq_true rfl) rfl (fun _ => ⟨_, rfl⟩) ⟨_, _, rfl⟩ ⟨Nat.le_of_ble_eq_true rfl, Nat.le_of_ble_eq_true rfl⟩ rfl hl.1 rfl (Nat.le_of_ble_eq_true rfl) dX8_takeNumber_41 ⟨Nat.le_refl 0, Nat.le_refl 0⟩) X (fun v55 t54 H lc q52 X53 => ?_)
        unfold po_X8_fail_t11 at q52
        obtain ⟨q56, q57, q58, q59⟩ := q52
        have F60 : Fr [(11, 1), (11, 2), (1, 3), (1, 4), (1, 5), (1, 7), (1, 8)] [201] τ t54 := Fr_call Fr_rfl q57 (by decide)
        exact r_ret S hr hlk X53 ⟨q56, F60, (R_of q58 rfl), (fun h => by exfalso; omega), (QY_b (tNum_b2 ((RT_k hR.1).2.2.1.mp (by rw [z4]; omega)) (by rw [← RT_nm hR.1 ((RT_k hR.1).2.2.1.mp (by rw [z4]; omega)), z12]; omega)) (by omega) (by rw [q59]; omega) (RG_at (RG_fr hR (fun j => ((q57 1 j (by simp [fz])).trans rfl)) (fun j => ((q57 2 j (by simp [fz])).trans rfl)) (fun j => ((q57 201 j (by simp [fz])).trans rfl)) ((q57 23 2 (by decide)).trans rfl) ((q57 23 3 (by decide)).trans rfl) (fun j => ((q57 228 j (by simp [fz])).trans rfl)) (fun j => ((q57 229 j (by simp [fz])).trans rfl)))))⟩ (nr_bool (R_of (lo := 0) (hi := 1) q58 rfl)) dX8_takeNumber_44
  ·
    refine r_aload_n S dX8_takeNumber_11 rfl (lv_at hl 0 rfl) ?_
    refine r_iconst S dX8_takeNumber_12 (by decide) (fun v61 z62 => ?_)
    have r63 := R_eq z62
    refine r_ki (q_U (As := [.int v61]) (rest := []) (K := 11) (ci := 1) S X (c_X8_fail_t11 l G τ hI v61 (R_of (lo := -2147483648) (hi := 2147483647) r63 rfl)) ck8_29_1 (Nat.le_of_ble_eq_true rfl) rfl (fun _ => ⟨_, rfl⟩) ⟨_, _, rfl⟩ ⟨Nat.le_of_ble_eq_true rfl, Nat.le_of_ble_eq_true rfl⟩ rfl hl.1 rfl (Nat.le_of_ble_eq_true rfl) dX8_takeNumber_13 ⟨Nat.le_refl 0, Nat.le_refl 0⟩) X (fun v67 t66 H lc q64 X65 => ?_)
    unfold po_X8_fail_t11 at q64
    obtain ⟨q68, q69, q70, q71⟩ := q64
    have F72 : Fr [(11, 1), (11, 2), (1, 3), (1, 4), (1, 5), (1, 7), (1, 8)] [201] τ t66 := Fr_call Fr_rfl q69 (by decide)
    exact r_ret S hr hlk X65 ⟨q68, F72, (R_of q70 rfl), (fun h => by exfalso; omega), (QY_b (tNum_b1 (fun h => absurd ((RT_k hR.1).2.2.1.mpr h) (by rw [z4]; omega))) (by omega) (by rw [q71]; omega) (RG_at (RG_fr hR (fun j => ((q69 1 j (by simp [fz])).trans rfl)) (fun j => ((q69 2 j (by simp [fz])).trans rfl)) (fun j => ((q69 201 j (by simp [fz])).trans rfl)) ((q69 23 2 (by decide)).trans rfl) ((q69 23 3 (by decide)).trans rfl) (fun j => ((q69 228 j (by simp [fz])).trans rfl)) (fun j => ((q69 229 j (by simp [fz])).trans rfl)))))⟩ (nr_bool (R_of (lo := 0) (hi := 1) q70 rfl)) dX8_takeNumber_16
def po_X8_takeYesOrNo_t11 (τ : Tau)    (bb : Nat → Int) (nb : Nat) (an mn : List (List Int)) (t : Tk) (r : Int32) (u : Tau) : Prop := Inv u ∧ Fr [(11, 1), (11, 2), (1, 3), (1, 4), (1, 5), (1, 7), (1, 8)] [201] τ u ∧ R (0) (1) r ∧ (r.toInt = 1 → R (-1) (1) (u 11 2) ∧ R (0) (0) (u 11 1)) ∧ QY 11 (tYN bb nb 400 t) r u (fun g => ((u 11 2).toInt = 1 ∨ (u 11 2).toInt = -1) ∧ RG bb nb 400 an mn u g)
set_option maxHeartbeats 4000000 in
set_option maxRecDepth 100000 in
theorem c_X8_takeYesOrNo_t11 (l : Launch) (G : Gx) (τ : Tau) (hI : Inv τ) (hf_0 : R (0) (0) (τ 11 1)) (bb : Nat → Int) (nb : Nat) (an mn : List (List Int)) (t : Tk) (hR : RG bb nb 400 an mn τ t) : Ci l G yX8_takeYesOrNo cX8_takeYesOrNo 1 (some .boolean) 1 24 [.ref (G.2.2.2.1 11)] τ (po_X8_takeYesOrNo_t11 τ    bb nb an mn t) := by
  unfold Ci
  refine C_of (own := RX8) (by decide) rfl (Nat.le_of_ble_eq_true rfl) ?_
  intro p e s m below meth c ls S hr hlk X hl
  have hl : lv_has ls 1 [(0, .ref (G.2.2.2.1 11))] := hl
  obtain ⟨v1, z2⟩ : ∃ x, τ 11 1 = x := ⟨_, rfl⟩
  rw [z2] at hf_0
  refine r_aload_n S dX8_takeYesOrNo_0 rfl (lv_at hl 0 rfl) ?_
  refine r_get (K := 11) (v := .ref (G.2.2.2.1 1)) S X (Nat.le_of_ble_eq_true rfl) rfl lk8_9_1 (fun _ => ⟨_, rfl, rfl⟩) dX8_takeYesOrNo_1 ?_
  refine r_wst (i := 4) S X (by decide) kw16 dX8_takeYesOrNo_4 ?_
  refine r_ki (q_V (As := [.ref (G.2.2.1 4)]) (rest := []) (K := 1) (ci := 7) S X (c_X7_is_q l G τ hI 4 (by decide) bb nb 400 t hR.1) ck8_51 (Nat.le_of_ble_eq_true rfl) rfl (fun _ => ⟨_, rfl⟩) ⟨_, _, rfl⟩ ⟨Nat.le_of_ble_eq_true rfl, Nat.le_of_ble_eq_true rfl⟩ rfl hl.1 rfl (Nat.le_of_ble_eq_true rfl) dX8_takeYesOrNo_7 ⟨Nat.le_refl 0, Nat.le_refl 0⟩) X (fun v6 t5 H lc q3 X4 => ?_)
  unfold po_X7_is_q at q3
  obtain ⟨q7, q8, q9⟩ := q3
  rw [q7] at X4
  refine r_if_ne (tgt := 32) S dX8_takeYesOrNo_10 (by decide) (fun c10 => ?_) (fun c10 => ?_)
  ·
    have r11 : R (1) (1) v6 := ⟨by omega, by omega⟩
    have p12 := (q9).mp (by omega)
    refine r_aload_n S dX8_takeYesOrNo_32 rfl (lv_at hl 0 rfl) ?_
    refine r_aload_n S dX8_takeYesOrNo_33 rfl (lv_at hl 0 rfl) ?_
    refine r_get (K := 11) (v := .ref (G.2.2.2.1 1)) S X4 (Nat.le_of_ble_eq_true rfl) rfl lk8_9_1 (fun _ => ⟨_, rfl, rfl⟩) dX8_takeYesOrNo_34 ?_
    refine r_wst (i := 4) S X4 (by decide) kw16 dX8_takeYesOrNo_37 ?_
    refine r_ki (q_V (As := [.ref (G.2.2.1 4)]) (rest := [.ref (G.2.2.2.1 11)]) (K := 1) (ci := 7) S X4 (c_X7_is_q l G τ hI 4 (by decide) bb nb 400 t hR.1) ck8_51 (Nat.le_of_ble_eq_true rfl) rfl (fun _ => ⟨_, rfl⟩) ⟨_, _, rfl⟩ ⟨Nat.le_of_ble_eq_true rfl, Nat.le_of_ble_eq_true rfl⟩ rfl hl.1 rfl (Nat.le_of_ble_eq_true rfl) dX8_takeYesOrNo_40 ⟨Nat.le_refl 0, Nat.le_refl 0⟩) X4 (fun v16 t15 H lc q13 X14 => ?_)
    unfold po_X7_is_q at q13
    obtain ⟨q17, q18, q19⟩ := q13
    rw [q17] at X14
    refine r_if_eq (tgt := 50) S dX8_takeYesOrNo_43 (by decide) (fun c20 => ?_) (fun c20 => ?_)
    ·
      have r21 : R (0) (0) v16 := ⟨by omega, by omega⟩
      have p22 := (iff_n q19) (by omega)
      refine r_iconst S dX8_takeYesOrNo_50 (by decide) (fun v23 z24 => ?_)
      have r25 := R_eq z24
      refine r_put (K := 11) (ty := .int) S X14 (Nat.le_of_ble_eq_true rfl) rfl lk8_42_1 (fun _ => ⟨_, rfl, Nat.le_of_ble_eq_true rfl, rfl⟩) (fun _ _ _ h => by cases h; exact ⟨rfl, rfl⟩) rfl rfl dX8_takeYesOrNo_51 (fun t26 H lc M27 X28 => ?_)
      have I29 := Inv_mu hI M27 (R_any v23)
      have F30 : Fr [(11, 1), (11, 2), (1, 3), (1, 4), (1, 5), (1, 7), (1, 8)] [201] τ t26 := Fr_mu Fr_rfl M27 (by decide)
      refine r_aload_n S dX8_takeYesOrNo_54 rfl (lv_at hl 0 rfl) ?_
      refine r_get (K := 11) (v := .ref (G.2.2.2.1 1)) S X28 (Nat.le_of_ble_eq_true rfl) rfl lk8_9_1 (fun _ => ⟨_, rfl, rfl⟩) dX8_takeYesOrNo_55 ?_
      refine r_kv (q_V (As := []) (rest := []) (K := 1) (ci := 7) S X28 (c_X7_step_q l G t26 I29 bb nb 400 t.2.2 (RT_st (RG_fr hR (fun j => ((M27.2 1 j (Or.inl (by decide))).trans rfl)) (fun j => ((M27.2 2 j (Or.inl (by decide))).trans rfl)) (fun j => ((M27.2 201 j (Or.inl (by decide))).trans rfl)) ((M27.2 23 2 (Or.inl (by decide))).trans rfl) ((M27.2 23 3 (Or.inl (by decide))).trans rfl) (fun j => ((M27.2 228 j (Or.inl (by decide))).trans rfl)) (fun j => ((M27.2 229 j (Or.inl (by decide))).trans rfl))).1 (Or.inl p12.1)).1 (RT_st (RG_fr hR (fun j => ((M27.2 1 j (Or.inl (by decide))).trans rfl)) (fun j => ((M27.2 2 j (Or.inl (by decide))).trans rfl)) (fun j => ((M27.2 201 j (Or.inl (by decide))).trans rfl)) ((M27.2 23 2 (Or.inl (by decide))).trans rfl) ((M27.2 23 3 (Or.inl (by decide))).trans rfl) (fun j => ((M27.2 228 j (Or.inl (by decide))).trans rfl)) (fun j => ((M27.2 229 j (Or.inl (by decide))).trans rfl))).1 (Or.inl p12.1)).2.1 (RT_st (RG_fr hR (fun j => ((M27.2 1 j (Or.inl (by decide))).trans rfl)) (fun j => ((M27.2 2 j (Or.inl (by decide))).trans rfl)) (fun j => ((M27.2 201 j (Or.inl (by decide))).trans rfl)) ((M27.2 23 2 (Or.inl (by decide))).trans rfl) ((M27.2 23 3 (Or.inl (by decide))).trans rfl) (fun j => ((M27.2 228 j (Or.inl (by decide))).trans rfl)) (fun j => ((M27.2 229 j (Or.inl (by decide))).trans rfl))).1 (Or.inl p12.1)).2.2) ck8_33 (Nat.le_of_ble_eq_true rfl) rfl (fun _ => ⟨_, rfl⟩) ⟨_, _, rfl⟩ ⟨Nat.le_of_ble_eq_true rfl, Nat.le_of_ble_eq_true rfl⟩ rfl hl.1 rfl (Nat.le_of_ble_eq_true rfl) dX8_takeYesOrNo_58 ⟨Nat.le_refl 0, Nat.le_refl 0⟩) X28 (fun t33 H lc q31 X32 => ?_)
      unfold po_X7_step_q at q31
      obtain ⟨q34, q35, q36⟩ := q31
      have F37 : Fr [(11, 1), (11, 2), (1, 3), (1, 4), (1, 5), (1, 7), (1, 8)] [201] τ t33 := Fr_call F30 q35 (by decide)
      have hR38 : RG bb nb 400 an mn t33 (nx bb nb 400 t) := ⟨q36, NM2_fr hR.2 ((q35 23 2 (by decide)).trans ((M27.2 23 2 (Or.inl (by decide))).trans rfl)) ((q35 23 3 (by decide)).trans ((M27.2 23 3 (Or.inl (by decide))).trans rfl)) (fun j => ((q35 228 j (by simp [fz])).trans ((M27.2 228 j (Or.inl (by decide))).trans rfl))) (fun j => ((q35 229 j (by simp [fz])).trans ((M27.2 229 j (Or.inl (by decide))).trans rfl)))⟩
      refine r_iconst S dX8_takeYesOrNo_61 (by decide) (fun v39 z40 => ?_)
      have r41 := R_eq z40
      exact r_ret S hr hlk X32 ⟨q34, F37, (R_of r41 rfl), (fun h => ⟨(by rw [((q35 11 2 (by decide)).trans M27.1)]; exact R_of r25 rfl), (by rw [((q35 11 1 (by decide)).trans ((M27.2 11 1 (Or.inr (by decide))).trans z2))]; exact R_of hf_0 rfl)⟩), (QY_r (tYN_g (Or.inl p12)) (by omega) ⟨by rw [((q35 11 2 (by decide)).trans M27.1)]; omega, hR38⟩)⟩ (nr_bool (R_of (lo := 0) (hi := 1) r41 rfl)) dX8_takeYesOrNo_62
    ·
      have r42 : R (1) (1) v16 := ⟨by omega, by omega⟩
      have p43 := (q19).mp (by omega)
      refine r_iconst S dX8_takeYesOrNo_46 (by decide) (fun v44 z45 => ?_)
      have r46 := R_eq z45
      refine r_goto (tgt := 51) S dX8_takeYesOrNo_47 (by decide) ?_
      refine r_put (K := 11) (ty := .int) S X14 (Nat.le_of_ble_eq_true rfl) rfl lk8_42_1 (fun _ => ⟨_, rfl, Nat.le_of_ble_eq_true rfl, rfl⟩) (fun _ _ _ h => by cases h; exact ⟨rfl, rfl⟩) rfl rfl dX8_takeYesOrNo_51 (fun t47 H lc M48 X49 => ?_)
      have I50 := Inv_mu hI M48 (R_any v44)
      have F51 : Fr [(11, 1), (11, 2), (1, 3), (1, 4), (1, 5), (1, 7), (1, 8)] [201] τ t47 := Fr_mu Fr_rfl M48 (by decide)
      refine r_aload_n S dX8_takeYesOrNo_54 rfl (lv_at hl 0 rfl) ?_
      refine r_get (K := 11) (v := .ref (G.2.2.2.1 1)) S X49 (Nat.le_of_ble_eq_true rfl) rfl lk8_9_1 (fun _ => ⟨_, rfl, rfl⟩) dX8_takeYesOrNo_55 ?_
      refine r_kv (q_V (As := []) (rest := []) (K := 1) (ci := 7) S X49 (c_X7_step_q l G t47 I50 bb nb 400 t.2.2 (RT_st (RG_fr hR (fun j => ((M48.2 1 j (Or.inl (by decide))).trans rfl)) (fun j => ((M48.2 2 j (Or.inl (by decide))).trans rfl)) (fun j => ((M48.2 201 j (Or.inl (by decide))).trans rfl)) ((M48.2 23 2 (Or.inl (by decide))).trans rfl) ((M48.2 23 3 (Or.inl (by decide))).trans rfl) (fun j => ((M48.2 228 j (Or.inl (by decide))).trans rfl)) (fun j => ((M48.2 229 j (Or.inl (by decide))).trans rfl))).1 (Or.inl p43.1)).1 (RT_st (RG_fr hR (fun j => ((M48.2 1 j (Or.inl (by decide))).trans rfl)) (fun j => ((M48.2 2 j (Or.inl (by decide))).trans rfl)) (fun j => ((M48.2 201 j (Or.inl (by decide))).trans rfl)) ((M48.2 23 2 (Or.inl (by decide))).trans rfl) ((M48.2 23 3 (Or.inl (by decide))).trans rfl) (fun j => ((M48.2 228 j (Or.inl (by decide))).trans rfl)) (fun j => ((M48.2 229 j (Or.inl (by decide))).trans rfl))).1 (Or.inl p43.1)).2.1 (RT_st (RG_fr hR (fun j => ((M48.2 1 j (Or.inl (by decide))).trans rfl)) (fun j => ((M48.2 2 j (Or.inl (by decide))).trans rfl)) (fun j => ((M48.2 201 j (Or.inl (by decide))).trans rfl)) ((M48.2 23 2 (Or.inl (by decide))).trans rfl) ((M48.2 23 3 (Or.inl (by decide))).trans rfl) (fun j => ((M48.2 228 j (Or.inl (by decide))).trans rfl)) (fun j => ((M48.2 229 j (Or.inl (by decide))).trans rfl))).1 (Or.inl p43.1)).2.2) ck8_33 (Nat.le_of_ble_eq_true rfl) rfl (fun _ => ⟨_, rfl⟩) ⟨_, _, rfl⟩ ⟨Nat.le_of_ble_eq_true rfl, Nat.le_of_ble_eq_true rfl⟩ rfl hl.1 rfl (Nat.le_of_ble_eq_true rfl) dX8_takeYesOrNo_58 ⟨Nat.le_refl 0, Nat.le_refl 0⟩) X49 (fun t54 H lc q52 X53 => ?_)
      unfold po_X7_step_q at q52
      obtain ⟨q55, q56, q57⟩ := q52
      have F58 : Fr [(11, 1), (11, 2), (1, 3), (1, 4), (1, 5), (1, 7), (1, 8)] [201] τ t54 := Fr_call F51 q56 (by decide)
      have hR59 : RG bb nb 400 an mn t54 (nx bb nb 400 t) := ⟨q57, NM2_fr hR.2 ((q56 23 2 (by decide)).trans ((M48.2 23 2 (Or.inl (by decide))).trans rfl)) ((q56 23 3 (by decide)).trans ((M48.2 23 3 (Or.inl (by decide))).trans rfl)) (fun j => ((q56 228 j (by simp [fz])).trans ((M48.2 228 j (Or.inl (by decide))).trans rfl))) (fun j => ((q56 229 j (by simp [fz])).trans ((M48.2 229 j (Or.inl (by decide))).trans rfl)))⟩
      refine r_iconst S dX8_takeYesOrNo_61 (by decide) (fun v60 z61 => ?_)
      have r62 := R_eq z61
      exact r_ret S hr hlk X53 ⟨q55, F58, (R_of r62 rfl), (fun h => ⟨(by rw [((q56 11 2 (by decide)).trans M48.1)]; exact R_of r46 rfl), (by rw [((q56 11 1 (by decide)).trans ((M48.2 11 1 (Or.inr (by decide))).trans z2))]; exact R_of hf_0 rfl)⟩), (QY_r (tYN_g (Or.inl p43)) (by omega) ⟨by rw [((q56 11 2 (by decide)).trans M48.1)]; omega, hR59⟩)⟩ (nr_bool (R_of (lo := 0) (hi := 1) r62 rfl)) dX8_takeYesOrNo_62
  ·
    have r63 : R (0) (0) v6 := ⟨by omega, by omega⟩
    have p64 := (iff_n q9) (by omega)
    refine r_aload_n S dX8_takeYesOrNo_13 rfl (lv_at hl 0 rfl) ?_
    refine r_get (K := 11) (v := .ref (G.2.2.2.1 1)) S X4 (Nat.le_of_ble_eq_true rfl) rfl lk8_9_1 (fun _ => ⟨_, rfl, rfl⟩) dX8_takeYesOrNo_14 ?_
    refine r_wst (i := 5) S X4 (by decide) kw17 dX8_takeYesOrNo_17 ?_
    refine r_ki (q_V (As := [.ref (G.2.2.1 5)]) (rest := []) (K := 1) (ci := 7) S X4 (c_X7_is_q l G τ hI 5 (by decide) bb nb 400 t hR.1) ck8_51 (Nat.le_of_ble_eq_true rfl) rfl (fun _ => ⟨_, rfl⟩) ⟨_, _, rfl⟩ ⟨Nat.le_of_ble_eq_true rfl, Nat.le_of_ble_eq_true rfl⟩ rfl hl.1 rfl (Nat.le_of_ble_eq_true rfl) dX8_takeYesOrNo_20 ⟨Nat.le_refl 0, Nat.le_refl 0⟩) X4 (fun v68 t67 H lc q65 X66 => ?_)
    unfold po_X7_is_q at q65
    obtain ⟨q69, q70, q71⟩ := q65
    rw [q69] at X66
    refine r_if_ne (tgt := 32) S dX8_takeYesOrNo_23 (by decide) (fun c72 => ?_) (fun c72 => ?_)
    ·
      have r73 : R (1) (1) v68 := ⟨by omega, by omega⟩
      have p74 := (q71).mp (by omega)
      refine r_aload_n S dX8_takeYesOrNo_32 rfl (lv_at hl 0 rfl) ?_
      refine r_aload_n S dX8_takeYesOrNo_33 rfl (lv_at hl 0 rfl) ?_
      refine r_get (K := 11) (v := .ref (G.2.2.2.1 1)) S X66 (Nat.le_of_ble_eq_true rfl) rfl lk8_9_1 (fun _ => ⟨_, rfl, rfl⟩) dX8_takeYesOrNo_34 ?_
      refine r_wst (i := 4) S X66 (by decide) kw16 dX8_takeYesOrNo_37 ?_
      refine r_ki (q_V (As := [.ref (G.2.2.1 4)]) (rest := [.ref (G.2.2.2.1 11)]) (K := 1) (ci := 7) S X66 (c_X7_is_q l G τ hI 4 (by decide) bb nb 400 t hR.1) ck8_51 (Nat.le_of_ble_eq_true rfl) rfl (fun _ => ⟨_, rfl⟩) ⟨_, _, rfl⟩ ⟨Nat.le_of_ble_eq_true rfl, Nat.le_of_ble_eq_true rfl⟩ rfl hl.1 rfl (Nat.le_of_ble_eq_true rfl) dX8_takeYesOrNo_40 ⟨Nat.le_refl 0, Nat.le_refl 0⟩) X66 (fun v78 t77 H lc q75 X76 => ?_)
      unfold po_X7_is_q at q75
      obtain ⟨q79, q80, q81⟩ := q75
      rw [q79] at X76
      refine r_if_eq (tgt := 50) S dX8_takeYesOrNo_43 (by decide) (fun c82 => ?_) (fun c82 => ?_)
      ·
        have r83 : R (0) (0) v78 := ⟨by omega, by omega⟩
        have p84 := (iff_n q81) (by omega)
        refine r_iconst S dX8_takeYesOrNo_50 (by decide) (fun v85 z86 => ?_)
        have r87 := R_eq z86
        refine r_put (K := 11) (ty := .int) S X76 (Nat.le_of_ble_eq_true rfl) rfl lk8_42_1 (fun _ => ⟨_, rfl, Nat.le_of_ble_eq_true rfl, rfl⟩) (fun _ _ _ h => by cases h; exact ⟨rfl, rfl⟩) rfl rfl dX8_takeYesOrNo_51 (fun t88 H lc M89 X90 => ?_)
        have I91 := Inv_mu hI M89 (R_any v85)
        have F92 : Fr [(11, 1), (11, 2), (1, 3), (1, 4), (1, 5), (1, 7), (1, 8)] [201] τ t88 := Fr_mu Fr_rfl M89 (by decide)
        refine r_aload_n S dX8_takeYesOrNo_54 rfl (lv_at hl 0 rfl) ?_
        refine r_get (K := 11) (v := .ref (G.2.2.2.1 1)) S X90 (Nat.le_of_ble_eq_true rfl) rfl lk8_9_1 (fun _ => ⟨_, rfl, rfl⟩) dX8_takeYesOrNo_55 ?_
        refine r_kv (q_V (As := []) (rest := []) (K := 1) (ci := 7) S X90 (c_X7_step_q l G t88 I91 bb nb 400 t.2.2 (RT_st (RG_fr hR (fun j => ((M89.2 1 j (Or.inl (by decide))).trans rfl)) (fun j => ((M89.2 2 j (Or.inl (by decide))).trans rfl)) (fun j => ((M89.2 201 j (Or.inl (by decide))).trans rfl)) ((M89.2 23 2 (Or.inl (by decide))).trans rfl) ((M89.2 23 3 (Or.inl (by decide))).trans rfl) (fun j => ((M89.2 228 j (Or.inl (by decide))).trans rfl)) (fun j => ((M89.2 229 j (Or.inl (by decide))).trans rfl))).1 (Or.inl p74.1)).1 (RT_st (RG_fr hR (fun j => ((M89.2 1 j (Or.inl (by decide))).trans rfl)) (fun j => ((M89.2 2 j (Or.inl (by decide))).trans rfl)) (fun j => ((M89.2 201 j (Or.inl (by decide))).trans rfl)) ((M89.2 23 2 (Or.inl (by decide))).trans rfl) ((M89.2 23 3 (Or.inl (by decide))).trans rfl) (fun j => ((M89.2 228 j (Or.inl (by decide))).trans rfl)) (fun j => ((M89.2 229 j (Or.inl (by decide))).trans rfl))).1 (Or.inl p74.1)).2.1 (RT_st (RG_fr hR (fun j => ((M89.2 1 j (Or.inl (by decide))).trans rfl)) (fun j => ((M89.2 2 j (Or.inl (by decide))).trans rfl)) (fun j => ((M89.2 201 j (Or.inl (by decide))).trans rfl)) ((M89.2 23 2 (Or.inl (by decide))).trans rfl) ((M89.2 23 3 (Or.inl (by decide))).trans rfl) (fun j => ((M89.2 228 j (Or.inl (by decide))).trans rfl)) (fun j => ((M89.2 229 j (Or.inl (by decide))).trans rfl))).1 (Or.inl p74.1)).2.2) ck8_33 (Nat.le_of_ble_eq_true rfl) rfl (fun _ => ⟨_, rfl⟩) ⟨_, _, rfl⟩ ⟨Nat.le_of_ble_eq_true rfl, Nat.le_of_ble_eq_true rfl⟩ rfl hl.1 rfl (Nat.le_of_ble_eq_true rfl) dX8_takeYesOrNo_58 ⟨Nat.le_refl 0, Nat.le_refl 0⟩) X90 (fun t95 H lc q93 X94 => ?_)
        unfold po_X7_step_q at q93
        obtain ⟨q96, q97, q98⟩ := q93
        have F99 : Fr [(11, 1), (11, 2), (1, 3), (1, 4), (1, 5), (1, 7), (1, 8)] [201] τ t95 := Fr_call F92 q97 (by decide)
        have hR100 : RG bb nb 400 an mn t95 (nx bb nb 400 t) := ⟨q98, NM2_fr hR.2 ((q97 23 2 (by decide)).trans ((M89.2 23 2 (Or.inl (by decide))).trans rfl)) ((q97 23 3 (by decide)).trans ((M89.2 23 3 (Or.inl (by decide))).trans rfl)) (fun j => ((q97 228 j (by simp [fz])).trans ((M89.2 228 j (Or.inl (by decide))).trans rfl))) (fun j => ((q97 229 j (by simp [fz])).trans ((M89.2 229 j (Or.inl (by decide))).trans rfl)))⟩
        refine r_iconst S dX8_takeYesOrNo_61 (by decide) (fun v101 z102 => ?_)
        have r103 := R_eq z102
        exact r_ret S hr hlk X94 ⟨q96, F99, (R_of r103 rfl), (fun h => ⟨(by rw [((q97 11 2 (by decide)).trans M89.1)]; exact R_of r87 rfl), (by rw [((q97 11 1 (by decide)).trans ((M89.2 11 1 (Or.inr (by decide))).trans z2))]; exact R_of hf_0 rfl)⟩), (QY_r (tYN_g (Or.inr p74)) (by omega) ⟨by rw [((q97 11 2 (by decide)).trans M89.1)]; omega, hR100⟩)⟩ (nr_bool (R_of (lo := 0) (hi := 1) r103 rfl)) dX8_takeYesOrNo_62
      ·
        have r104 : R (1) (1) v78 := ⟨by omega, by omega⟩
        have p105 := (q81).mp (by omega)
        refine r_iconst S dX8_takeYesOrNo_46 (by decide) (fun v106 z107 => ?_)
        have r108 := R_eq z107
        refine r_goto (tgt := 51) S dX8_takeYesOrNo_47 (by decide) ?_
        refine r_put (K := 11) (ty := .int) S X76 (Nat.le_of_ble_eq_true rfl) rfl lk8_42_1 (fun _ => ⟨_, rfl, Nat.le_of_ble_eq_true rfl, rfl⟩) (fun _ _ _ h => by cases h; exact ⟨rfl, rfl⟩) rfl rfl dX8_takeYesOrNo_51 (fun t109 H lc M110 X111 => ?_)
        have I112 := Inv_mu hI M110 (R_any v106)
        have F113 : Fr [(11, 1), (11, 2), (1, 3), (1, 4), (1, 5), (1, 7), (1, 8)] [201] τ t109 := Fr_mu Fr_rfl M110 (by decide)
        refine r_aload_n S dX8_takeYesOrNo_54 rfl (lv_at hl 0 rfl) ?_
        refine r_get (K := 11) (v := .ref (G.2.2.2.1 1)) S X111 (Nat.le_of_ble_eq_true rfl) rfl lk8_9_1 (fun _ => ⟨_, rfl, rfl⟩) dX8_takeYesOrNo_55 ?_
        refine r_kv (q_V (As := []) (rest := []) (K := 1) (ci := 7) S X111 (c_X7_step_q l G t109 I112 bb nb 400 t.2.2 (RT_st (RG_fr hR (fun j => ((M110.2 1 j (Or.inl (by decide))).trans rfl)) (fun j => ((M110.2 2 j (Or.inl (by decide))).trans rfl)) (fun j => ((M110.2 201 j (Or.inl (by decide))).trans rfl)) ((M110.2 23 2 (Or.inl (by decide))).trans rfl) ((M110.2 23 3 (Or.inl (by decide))).trans rfl) (fun j => ((M110.2 228 j (Or.inl (by decide))).trans rfl)) (fun j => ((M110.2 229 j (Or.inl (by decide))).trans rfl))).1 (Or.inl p105.1)).1 (RT_st (RG_fr hR (fun j => ((M110.2 1 j (Or.inl (by decide))).trans rfl)) (fun j => ((M110.2 2 j (Or.inl (by decide))).trans rfl)) (fun j => ((M110.2 201 j (Or.inl (by decide))).trans rfl)) ((M110.2 23 2 (Or.inl (by decide))).trans rfl) ((M110.2 23 3 (Or.inl (by decide))).trans rfl) (fun j => ((M110.2 228 j (Or.inl (by decide))).trans rfl)) (fun j => ((M110.2 229 j (Or.inl (by decide))).trans rfl))).1 (Or.inl p105.1)).2.1 (RT_st (RG_fr hR (fun j => ((M110.2 1 j (Or.inl (by decide))).trans rfl)) (fun j => ((M110.2 2 j (Or.inl (by decide))).trans rfl)) (fun j => ((M110.2 201 j (Or.inl (by decide))).trans rfl)) ((M110.2 23 2 (Or.inl (by decide))).trans rfl) ((M110.2 23 3 (Or.inl (by decide))).trans rfl) (fun j => ((M110.2 228 j (Or.inl (by decide))).trans rfl)) (fun j => ((M110.2 229 j (Or.inl (by decide))).trans rfl))).1 (Or.inl p105.1)).2.2) ck8_33 (Nat.le_of_ble_eq_true rfl) rfl (fun _ => ⟨_, rfl⟩) ⟨_, _, rfl⟩ ⟨Nat.le_of_ble_eq_true rfl, Nat.le_of_ble_eq_true rfl⟩ rfl hl.1 rfl (Nat.le_of_ble_eq_true rfl) dX8_takeYesOrNo_58 ⟨Nat.le_refl 0, Nat.le_refl 0⟩) X111 (fun t116 H lc q114 X115 => ?_)
        unfold po_X7_step_q at q114
        obtain ⟨q117, q118, q119⟩ := q114
        have F120 : Fr [(11, 1), (11, 2), (1, 3), (1, 4), (1, 5), (1, 7), (1, 8)] [201] τ t116 := Fr_call F113 q118 (by decide)
        have hR121 : RG bb nb 400 an mn t116 (nx bb nb 400 t) := ⟨q119, NM2_fr hR.2 ((q118 23 2 (by decide)).trans ((M110.2 23 2 (Or.inl (by decide))).trans rfl)) ((q118 23 3 (by decide)).trans ((M110.2 23 3 (Or.inl (by decide))).trans rfl)) (fun j => ((q118 228 j (by simp [fz])).trans ((M110.2 228 j (Or.inl (by decide))).trans rfl))) (fun j => ((q118 229 j (by simp [fz])).trans ((M110.2 229 j (Or.inl (by decide))).trans rfl)))⟩
        refine r_iconst S dX8_takeYesOrNo_61 (by decide) (fun v122 z123 => ?_)
        have r124 := R_eq z123
        exact r_ret S hr hlk X115 ⟨q117, F120, (R_of r124 rfl), (fun h => ⟨(by rw [((q118 11 2 (by decide)).trans M110.1)]; exact R_of r108 rfl), (by rw [((q118 11 1 (by decide)).trans ((M110.2 11 1 (Or.inr (by decide))).trans z2))]; exact R_of hf_0 rfl)⟩), (QY_r (tYN_g (Or.inl p105)) (by omega) ⟨by rw [((q118 11 2 (by decide)).trans M110.1)]; omega, hR121⟩)⟩ (nr_bool (R_of (lo := 0) (hi := 1) r124 rfl)) dX8_takeYesOrNo_62
    ·
      have r125 : R (0) (0) v68 := ⟨by omega, by omega⟩
      have p126 := (iff_n q71) (by omega)
      refine r_aload_n S dX8_takeYesOrNo_26 rfl (lv_at hl 0 rfl) ?_
      refine r_iconst S dX8_takeYesOrNo_27 (by decide) (fun v127 z128 => ?_)
      have r129 := R_eq z128
      refine r_ki (q_U (As := [.int v127]) (rest := []) (K := 11) (ci := 1) S X66 (c_X8_fail_t11 l G τ hI v127 (R_of (lo := -2147483648) (hi := 2147483647) r129 rfl)) ck8_29_1 (Nat.le_of_ble_eq_true rfl) rfl (fun _ => ⟨_, rfl⟩) ⟨_, _, rfl⟩ ⟨Nat.le_of_ble_eq_true rfl, Nat.le_of_ble_eq_true rfl⟩ rfl hl.1 rfl (Nat.le_of_ble_eq_true rfl) dX8_takeYesOrNo_28 ⟨Nat.le_refl 0, Nat.le_refl 0⟩) X66 (fun v133 t132 H lc q130 X131 => ?_)
      unfold po_X8_fail_t11 at q130
      obtain ⟨q134, q135, q136, q137⟩ := q130
      have F138 : Fr [(11, 1), (11, 2), (1, 3), (1, 4), (1, 5), (1, 7), (1, 8)] [201] τ t132 := Fr_call Fr_rfl q135 (by decide)
      exact r_ret S hr hlk X131 ⟨q134, F138, (R_of q136 rfl), (fun h => by exfalso; omega), (QY_b (tYN_b (fun h => h.elim p64 p126)) (by omega) (by rw [q137]; omega) (RG_at (RG_fr hR (fun j => ((q135 1 j (by simp [fz])).trans rfl)) (fun j => ((q135 2 j (by simp [fz])).trans rfl)) (fun j => ((q135 201 j (by simp [fz])).trans rfl)) ((q135 23 2 (by decide)).trans rfl) ((q135 23 3 (by decide)).trans rfl) (fun j => ((q135 228 j (by simp [fz])).trans rfl)) (fun j => ((q135 229 j (by simp [fz])).trans rfl)))))⟩ (nr_bool (R_of (lo := 0) (hi := 1) q136 rfl)) dX8_takeYesOrNo_31
def po_X8_seeMan_t11 (τ : Tau)    (bb : Nat → Int) (nb : Nat) (an mn : List (List Int)) (t : Tk) (r : Int32) (u : Tau) : Prop := Inv u ∧ Fr [(11, 1), (11, 2)] [] τ u ∧ R (0) (1) r ∧ (r.toInt = 1 → R (0) (9) (u 11 2) ∧ R (0) (0) (u 11 1)) ∧ QY 11 (sLook bb mn t) r u (fun i => (u 11 2).toInt = i ∧ RG bb nb 400 an mn u t)
set_option maxHeartbeats 4000000 in
set_option maxRecDepth 100000 in
theorem c_X8_seeMan_t11 (l : Launch) (G : Gx) (τ : Tau) (hI : Inv τ) (hf_0 : R (0) (0) (τ 11 1)) (bb : Nat → Int) (nb : Nat) (an mn : List (List Int)) (t : Tk) (hR : RG bb nb 400 an mn τ t) : Ci l G yX8_seeMan cX8_seeMan 2 (some .boolean) 1 23 [.ref (G.2.2.2.1 11), .ref (G.2.2.2.1 23)] τ (po_X8_seeMan_t11 τ    bb nb an mn t) := by
  unfold Ci
  refine C_of (own := RX8) (by decide) rfl (Nat.le_of_ble_eq_true rfl) ?_
  intro p e s m below meth c ls S hr hlk X hl
  have hl : lv_has ls 2 [(0, .ref (G.2.2.2.1 11)), (1, .ref (G.2.2.2.1 23))] := hl
  obtain ⟨v1, z2⟩ : ∃ x, τ 11 1 = x := ⟨_, rfl⟩
  rw [z2] at hf_0
  refine r_aload_n S dX8_seeMan_0 rfl (lv_at hl 0 rfl) ?_
  refine r_get (K := 11) (v := .ref (G.2.2.2.1 1)) S X (Nat.le_of_ble_eq_true rfl) rfl lk8_9_1 (fun _ => ⟨_, rfl, rfl⟩) dX8_seeMan_1 ?_
  refine r_getn (K := 1) S X (Nat.le_of_ble_eq_true rfl) rfl lk8_36_7 (fun _ => ⟨_, rfl, rfl⟩) dX8_seeMan_4 (fun v3 z4 => ?_)
  have r5 : R (0) (4) v3 := rd hI rfl z4
  refine r_iconst S dX8_seeMan_7 (by decide) (fun v6 z7 => ?_)
  have r8 := R_eq z7
  refine r_icmp_ne (tgt := 24) S dX8_seeMan_8 (by decide) (fun c9 => ?_) (fun c9 => ?_)
  ·
    refine r_aload_n S dX8_seeMan_24 rfl (lv_at hl 0 rfl) ?_
    refine r_iconst S dX8_seeMan_25 (by decide) (fun v10 z11 => ?_)
    have r12 := R_eq z11
    refine r_ki (q_U (As := [.int v10]) (rest := []) (K := 11) (ci := 1) S X (c_X8_fail_t11 l G τ hI v10 (R_of (lo := -2147483648) (hi := 2147483647) r12 rfl)) ck8_29_1 (Nat.le_of_ble_eq_true rfl) rfl (fun _ => ⟨_, rfl⟩) ⟨_, _, rfl⟩ ⟨Nat.le_of_ble_eq_true rfl, Nat.le_of_ble_eq_true rfl⟩ rfl hl.1 rfl (Nat.le_of_ble_eq_true rfl) dX8_seeMan_26 ⟨Nat.le_refl 0, Nat.le_refl 0⟩) X (fun v16 t15 H lc q13 X14 => ?_)
    unfold po_X8_fail_t11 at q13
    obtain ⟨q17, q18, q19, q20⟩ := q13
    have F21 : Fr [(11, 1), (11, 2)] [] τ t15 := Fr_call Fr_rfl q18 (by decide)
    exact r_ret S hr hlk X14 ⟨q17, F21, (R_of q19 rfl), (fun h => by exfalso; omega), (QY_b (sLook_b1 (fun h => absurd ((RT_k hR.1).2.1.mpr h.1) (by rw [z4]; omega))) (by omega) (by rw [q20]; omega) (RG_at (RG_fr hR (fun j => ((q18 1 j (by simp [fz])).trans rfl)) (fun j => ((q18 2 j (by simp [fz])).trans rfl)) (fun j => ((q18 201 j (by simp [fz])).trans rfl)) ((q18 23 2 (by decide)).trans rfl) ((q18 23 3 (by decide)).trans rfl) (fun j => ((q18 228 j (by simp [fz])).trans rfl)) (fun j => ((q18 229 j (by simp [fz])).trans rfl)))))⟩ (nr_bool (R_of (lo := 0) (hi := 1) q19 rfl)) dX8_seeMan_29
  ·
    have r22 : R (2) (2) v3 := ⟨by omega, by omega⟩
    refine r_aload_n S dX8_seeMan_11 rfl (lv_at hl 0 rfl) ?_
    refine r_get (K := 11) (v := .ref (G.2.2.2.1 1)) S X (Nat.le_of_ble_eq_true rfl) rfl lk8_9_1 (fun _ => ⟨_, rfl, rfl⟩) dX8_seeMan_12 ?_
    refine r_getJ (K := 1) S X (Nat.le_of_ble_eq_true rfl) rfl lk8_58_7 (fun _ => ⟨_, rfl, rfl⟩) dX8_seeMan_15 (fun j23 z24 => ?_)
    refine r_ki (q_S (As := [.long j23]) (rest := []) S X (c_X9_isKept_q l G τ hI j23 (wrd bb t) (by rw [← z24]; exact (RT_low hR.1 ((RT_k hR.1).2.1.mp (by rw [z4]; omega))).2) (RT_low hR.1 ((RT_k hR.1).2.1.mp (by rw [z4]; omega))).1) ck8_62 ⟨Nat.le_of_ble_eq_true rfl, Nat.le_of_ble_eq_true rfl⟩ rfl hl.1 rfl (Nat.le_of_ble_eq_true rfl) dX8_seeMan_18 ⟨Nat.le_refl 0, Nat.le_refl 0⟩) X (fun v28 t27 H lc q25 X26 => ?_)
    unfold po_X9_isKept_q at q25
    obtain ⟨q29, q30, q31⟩ := q25
    rw [q29] at X26
    refine r_if_eq (tgt := 30) S dX8_seeMan_21 (by decide) (fun c32 => ?_) (fun c32 => ?_)
    ·
      have r33 : R (0) (0) v28 := ⟨by omega, by omega⟩
      have p34 := (iff_n q31) (by omega)
      refine r_aload_n S dX8_seeMan_30 rfl (lv_at hl 0 rfl) ?_
      refine r_aload_n S dX8_seeMan_31 rfl (lv_at hl 1 rfl) ?_
      refine r_aload_n S dX8_seeMan_32 rfl (lv_at hl 0 rfl) ?_
      refine r_get (K := 11) (v := .ref (G.2.2.2.1 1)) S X26 (Nat.le_of_ble_eq_true rfl) rfl lk8_9_1 (fun _ => ⟨_, rfl, rfl⟩) dX8_seeMan_33 ?_
      refine r_getJ (K := 1) S X26 (Nat.le_of_ble_eq_true rfl) rfl lk8_58_7 (fun _ => ⟨_, rfl, rfl⟩) dX8_seeMan_36 (fun j35 z36 => ?_)
      refine r_ki (q_V (As := [.long j35]) (rest := [.ref (G.2.2.2.1 11)]) (K := 4) (ci := 2) S X26 (c_X2_manNamed_qw l G τ hI j35 mn (wrd bb t) hR.2.2 (by rw [← z36]; exact (RT_low hR.1 ((RT_k hR.1).2.1.mp (by rw [z4]; omega))).2) (RT_low hR.1 ((RT_k hR.1).2.1.mp (by rw [z4]; omega))).1) ck8_66 (Nat.le_of_ble_eq_true rfl) rfl (fun _ => ⟨_, rfl⟩) ⟨_, _, rfl⟩ ⟨Nat.le_of_ble_eq_true rfl, Nat.le_of_ble_eq_true rfl⟩ rfl hl.1 rfl (Nat.le_of_ble_eq_true rfl) dX8_seeMan_39 ⟨Nat.le_refl 0, Nat.le_refl 0⟩) X26 (fun v40 t39 H lc q37 X38 => ?_)
      unfold po_X2_manNamed_qw at q37
      obtain ⟨q41, q42, q43⟩ := q37
      rw [q41] at X38
      refine r_put (K := 11) (ty := .int) S X38 (Nat.le_of_ble_eq_true rfl) rfl lk8_42_1 (fun _ => ⟨_, rfl, Nat.le_of_ble_eq_true rfl, rfl⟩) (fun _ _ _ h => by cases h; exact ⟨rfl, rfl⟩) rfl rfl dX8_seeMan_42 (fun t44 H lc M45 X46 => ?_)
      have I47 := Inv_mu hI M45 (R_any v40)
      have F48 : Fr [(11, 1), (11, 2)] [] τ t44 := Fr_mu Fr_rfl M45 (by decide)
      refine r_aload_n S dX8_seeMan_45 rfl (lv_at hl 0 rfl) ?_
      refine r_geti (K := 11) S X46 (Nat.le_of_ble_eq_true rfl) rfl lk8_42_1 (fun _ => ⟨_, rfl, rfl⟩) M45.1 dX8_seeMan_46 ?_
      refine r_iconst S dX8_seeMan_49 (by decide) (fun v49 z50 => ?_)
      have r51 := R_eq z50
      refine r_icmp_ne (tgt := 61) S dX8_seeMan_50 (by decide) (fun c52 => ?_) (fun c52 => ?_)
      ·
        have r53 : R (0) (9) v40 := ⟨by omega, by omega⟩
        refine r_iconst S dX8_seeMan_61 (by decide) (fun v54 z55 => ?_)
        have r56 := R_eq z55
        refine r_goto (tgt := 66) S dX8_seeMan_62 (by decide) ?_
        exact r_ret S hr hlk X46 ⟨I47, F48, (R_of r56 rfl), (fun h => ⟨(by rw [M45.1]; exact R_of r53 rfl), (by rw [((M45.2 11 1 (Or.inr (by decide))).trans z2)]; exact R_of hf_0 rfl)⟩), (QY_r (sLook_g ⟨((RT_k hR.1).2.1.mp (by rw [z4]; omega)), p34⟩ (by rw [← q43]; omega)) (by omega) ⟨show (t44 11 2).toInt = (((fnd mn (wrd bb t)).toNat : Nat) : Int) by rw [M45.1, ← q43]; omega, (RG_fr hR (fun j => ((M45.2 1 j (Or.inl (by decide))).trans rfl)) (fun j => ((M45.2 2 j (Or.inl (by decide))).trans rfl)) (fun j => ((M45.2 201 j (Or.inl (by decide))).trans rfl)) ((M45.2 23 2 (Or.inl (by decide))).trans rfl) ((M45.2 23 3 (Or.inl (by decide))).trans rfl) (fun j => ((M45.2 228 j (Or.inl (by decide))).trans rfl)) (fun j => ((M45.2 229 j (Or.inl (by decide))).trans rfl)))⟩)⟩ (nr_bool (R_of (lo := 0) (hi := 1) r56 rfl)) dX8_seeMan_66
      ·
        have r57 : R (-1) (-1) v40 := ⟨by omega, by omega⟩
        refine r_aload_n S dX8_seeMan_53 rfl (lv_at hl 0 rfl) ?_
        refine r_iconst S dX8_seeMan_54 (by decide) (fun v58 z59 => ?_)
        have r60 := R_eq z59
        refine r_ki (q_U (As := [.int v58]) (rest := []) (K := 11) (ci := 1) S X46 (c_X8_fail_t11 l G t44 I47 v58 (R_of (lo := -2147483648) (hi := 2147483647) r60 rfl)) ck8_29_1 (Nat.le_of_ble_eq_true rfl) rfl (fun _ => ⟨_, rfl⟩) ⟨_, _, rfl⟩ ⟨Nat.le_of_ble_eq_true rfl, Nat.le_of_ble_eq_true rfl⟩ rfl hl.1 rfl (Nat.le_of_ble_eq_true rfl) dX8_seeMan_55 ⟨Nat.le_refl 0, Nat.le_refl 0⟩) X46 (fun v64 t63 H lc q61 X62 => ?_)
        unfold po_X8_fail_t11 at q61
        obtain ⟨q65, q66, q67, q68⟩ := q61
        have F69 : Fr [(11, 1), (11, 2)] [] τ t63 := Fr_call F48 q66 (by decide)
        refine r_if_eq (tgt := 65) S dX8_seeMan_58 (by decide) (fun c70 => ?_) (fun c70 => ?_)
        ·
          refine r_iconst S dX8_seeMan_65 (by decide) (fun v71 z72 => ?_)
          have r73 := R_eq z72
          exact r_ret S hr hlk X62 ⟨q65, F69, (R_of r73 rfl), (fun h => by exfalso; omega), (QY_b (sLook_b3 ⟨((RT_k hR.1).2.1.mp (by rw [z4]; omega)), p34⟩ (by rw [← q43]; omega)) (by omega) (by rw [q68]; omega) (RG_at (RG_fr hR (fun j => ((q66 1 j (by simp [fz])).trans ((M45.2 1 j (Or.inl (by decide))).trans rfl))) (fun j => ((q66 2 j (by simp [fz])).trans ((M45.2 2 j (Or.inl (by decide))).trans rfl))) (fun j => ((q66 201 j (by simp [fz])).trans ((M45.2 201 j (Or.inl (by decide))).trans rfl))) ((q66 23 2 (by decide)).trans ((M45.2 23 2 (Or.inl (by decide))).trans rfl)) ((q66 23 3 (by decide)).trans ((M45.2 23 3 (Or.inl (by decide))).trans rfl)) (fun j => ((q66 228 j (by simp [fz])).trans ((M45.2 228 j (Or.inl (by decide))).trans rfl))) (fun j => ((q66 229 j (by simp [fz])).trans ((M45.2 229 j (Or.inl (by decide))).trans rfl))))))⟩ (nr_bool (R_of (lo := 0) (hi := 1) r73 rfl)) dX8_seeMan_66
        ·
          exfalso; omega
    ·
      have r74 : R (1) (1) v28 := ⟨by omega, by omega⟩
      have p75 := (q31).mp (by omega)
      refine r_aload_n S dX8_seeMan_24 rfl (lv_at hl 0 rfl) ?_
      refine r_iconst S dX8_seeMan_25 (by decide) (fun v76 z77 => ?_)
      have r78 := R_eq z77
      refine r_ki (q_U (As := [.int v76]) (rest := []) (K := 11) (ci := 1) S X26 (c_X8_fail_t11 l G τ hI v76 (R_of (lo := -2147483648) (hi := 2147483647) r78 rfl)) ck8_29_1 (Nat.le_of_ble_eq_true rfl) rfl (fun _ => ⟨_, rfl⟩) ⟨_, _, rfl⟩ ⟨Nat.le_of_ble_eq_true rfl, Nat.le_of_ble_eq_true rfl⟩ rfl hl.1 rfl (Nat.le_of_ble_eq_true rfl) dX8_seeMan_26 ⟨Nat.le_refl 0, Nat.le_refl 0⟩) X26 (fun v82 t81 H lc q79 X80 => ?_)
      unfold po_X8_fail_t11 at q79
      obtain ⟨q83, q84, q85, q86⟩ := q79
      have F87 : Fr [(11, 1), (11, 2)] [] τ t81 := Fr_call Fr_rfl q84 (by decide)
      exact r_ret S hr hlk X80 ⟨q83, F87, (R_of q85 rfl), (fun h => by exfalso; omega), (QY_b (sLook_b1 (fun h => h.2 p75)) (by omega) (by rw [q86]; omega) (RG_at (RG_fr hR (fun j => ((q84 1 j (by simp [fz])).trans rfl)) (fun j => ((q84 2 j (by simp [fz])).trans rfl)) (fun j => ((q84 201 j (by simp [fz])).trans rfl)) ((q84 23 2 (by decide)).trans rfl) ((q84 23 3 (by decide)).trans rfl) (fun j => ((q84 228 j (by simp [fz])).trans rfl)) (fun j => ((q84 229 j (by simp [fz])).trans rfl)))))⟩ (nr_bool (R_of (lo := 0) (hi := 1) q85 rfl)) dX8_seeMan_29
def po_X8_seeAsk_t11 (τ : Tau)    (bb : Nat → Int) (nb : Nat) (an mn : List (List Int)) (t : Tk) (r : Int32) (u : Tau) : Prop := Inv u ∧ Fr [(11, 1), (11, 2)] [] τ u ∧ R (0) (1) r ∧ (r.toInt = 1 → R (0) (8) (u 11 2) ∧ R (0) (0) (u 11 1)) ∧ QY 11 (sLook bb an t) r u (fun i => (u 11 2).toInt = i ∧ RG bb nb 400 an mn u t)
set_option maxHeartbeats 4000000 in
set_option maxRecDepth 100000 in
theorem c_X8_seeAsk_t11 (l : Launch) (G : Gx) (τ : Tau) (hI : Inv τ) (hf_0 : R (0) (0) (τ 11 1)) (bb : Nat → Int) (nb : Nat) (an mn : List (List Int)) (t : Tk) (hR : RG bb nb 400 an mn τ t) : Ci l G yX8_seeAsk cX8_seeAsk 2 (some .boolean) 1 23 [.ref (G.2.2.2.1 11), .ref (G.2.2.2.1 23)] τ (po_X8_seeAsk_t11 τ    bb nb an mn t) := by
  unfold Ci
  refine C_of (own := RX8) (by decide) rfl (Nat.le_of_ble_eq_true rfl) ?_
  intro p e s m below meth c ls S hr hlk X hl
  have hl : lv_has ls 2 [(0, .ref (G.2.2.2.1 11)), (1, .ref (G.2.2.2.1 23))] := hl
  obtain ⟨v1, z2⟩ : ∃ x, τ 11 1 = x := ⟨_, rfl⟩
  rw [z2] at hf_0
  refine r_aload_n S dX8_seeAsk_0 rfl (lv_at hl 0 rfl) ?_
  refine r_get (K := 11) (v := .ref (G.2.2.2.1 1)) S X (Nat.le_of_ble_eq_true rfl) rfl lk8_9_1 (fun _ => ⟨_, rfl, rfl⟩) dX8_seeAsk_1 ?_
  refine r_getn (K := 1) S X (Nat.le_of_ble_eq_true rfl) rfl lk8_36_7 (fun _ => ⟨_, rfl, rfl⟩) dX8_seeAsk_4 (fun v3 z4 => ?_)
  have r5 : R (0) (4) v3 := rd hI rfl z4
  refine r_iconst S dX8_seeAsk_7 (by decide) (fun v6 z7 => ?_)
  have r8 := R_eq z7
  refine r_icmp_ne (tgt := 24) S dX8_seeAsk_8 (by decide) (fun c9 => ?_) (fun c9 => ?_)
  ·
    refine r_aload_n S dX8_seeAsk_24 rfl (lv_at hl 0 rfl) ?_
    refine r_iconst S dX8_seeAsk_25 (by decide) (fun v10 z11 => ?_)
    have r12 := R_eq z11
    refine r_ki (q_U (As := [.int v10]) (rest := []) (K := 11) (ci := 1) S X (c_X8_fail_t11 l G τ hI v10 (R_of (lo := -2147483648) (hi := 2147483647) r12 rfl)) ck8_29_1 (Nat.le_of_ble_eq_true rfl) rfl (fun _ => ⟨_, rfl⟩) ⟨_, _, rfl⟩ ⟨Nat.le_of_ble_eq_true rfl, Nat.le_of_ble_eq_true rfl⟩ rfl hl.1 rfl (Nat.le_of_ble_eq_true rfl) dX8_seeAsk_26 ⟨Nat.le_refl 0, Nat.le_refl 0⟩) X (fun v16 t15 H lc q13 X14 => ?_)
    unfold po_X8_fail_t11 at q13
    obtain ⟨q17, q18, q19, q20⟩ := q13
    have F21 : Fr [(11, 1), (11, 2)] [] τ t15 := Fr_call Fr_rfl q18 (by decide)
    exact r_ret S hr hlk X14 ⟨q17, F21, (R_of q19 rfl), (fun h => by exfalso; omega), (QY_b (sLook_b1 (fun h => absurd ((RT_k hR.1).2.1.mpr h.1) (by rw [z4]; omega))) (by omega) (by rw [q20]; omega) (RG_at (RG_fr hR (fun j => ((q18 1 j (by simp [fz])).trans rfl)) (fun j => ((q18 2 j (by simp [fz])).trans rfl)) (fun j => ((q18 201 j (by simp [fz])).trans rfl)) ((q18 23 2 (by decide)).trans rfl) ((q18 23 3 (by decide)).trans rfl) (fun j => ((q18 228 j (by simp [fz])).trans rfl)) (fun j => ((q18 229 j (by simp [fz])).trans rfl)))))⟩ (nr_bool (R_of (lo := 0) (hi := 1) q19 rfl)) dX8_seeAsk_29
  ·
    have r22 : R (2) (2) v3 := ⟨by omega, by omega⟩
    refine r_aload_n S dX8_seeAsk_11 rfl (lv_at hl 0 rfl) ?_
    refine r_get (K := 11) (v := .ref (G.2.2.2.1 1)) S X (Nat.le_of_ble_eq_true rfl) rfl lk8_9_1 (fun _ => ⟨_, rfl, rfl⟩) dX8_seeAsk_12 ?_
    refine r_getJ (K := 1) S X (Nat.le_of_ble_eq_true rfl) rfl lk8_58_7 (fun _ => ⟨_, rfl, rfl⟩) dX8_seeAsk_15 (fun j23 z24 => ?_)
    refine r_ki (q_S (As := [.long j23]) (rest := []) S X (c_X9_isKept_q l G τ hI j23 (wrd bb t) (by rw [← z24]; exact (RT_low hR.1 ((RT_k hR.1).2.1.mp (by rw [z4]; omega))).2) (RT_low hR.1 ((RT_k hR.1).2.1.mp (by rw [z4]; omega))).1) ck8_62 ⟨Nat.le_of_ble_eq_true rfl, Nat.le_of_ble_eq_true rfl⟩ rfl hl.1 rfl (Nat.le_of_ble_eq_true rfl) dX8_seeAsk_18 ⟨Nat.le_refl 0, Nat.le_refl 0⟩) X (fun v28 t27 H lc q25 X26 => ?_)
    unfold po_X9_isKept_q at q25
    obtain ⟨q29, q30, q31⟩ := q25
    rw [q29] at X26
    refine r_if_eq (tgt := 30) S dX8_seeAsk_21 (by decide) (fun c32 => ?_) (fun c32 => ?_)
    ·
      have r33 : R (0) (0) v28 := ⟨by omega, by omega⟩
      have p34 := (iff_n q31) (by omega)
      refine r_aload_n S dX8_seeAsk_30 rfl (lv_at hl 0 rfl) ?_
      refine r_aload_n S dX8_seeAsk_31 rfl (lv_at hl 1 rfl) ?_
      refine r_aload_n S dX8_seeAsk_32 rfl (lv_at hl 0 rfl) ?_
      refine r_get (K := 11) (v := .ref (G.2.2.2.1 1)) S X26 (Nat.le_of_ble_eq_true rfl) rfl lk8_9_1 (fun _ => ⟨_, rfl, rfl⟩) dX8_seeAsk_33 ?_
      refine r_getJ (K := 1) S X26 (Nat.le_of_ble_eq_true rfl) rfl lk8_58_7 (fun _ => ⟨_, rfl, rfl⟩) dX8_seeAsk_36 (fun j35 z36 => ?_)
      refine r_ki (q_V (As := [.long j35]) (rest := [.ref (G.2.2.2.1 11)]) (K := 4) (ci := 2) S X26 (c_X2_askNamed_qw l G τ hI j35 an (wrd bb t) hR.2.1 (by rw [← z36]; exact (RT_low hR.1 ((RT_k hR.1).2.1.mp (by rw [z4]; omega))).2) (RT_low hR.1 ((RT_k hR.1).2.1.mp (by rw [z4]; omega))).1) ck8_72 (Nat.le_of_ble_eq_true rfl) rfl (fun _ => ⟨_, rfl⟩) ⟨_, _, rfl⟩ ⟨Nat.le_of_ble_eq_true rfl, Nat.le_of_ble_eq_true rfl⟩ rfl hl.1 rfl (Nat.le_of_ble_eq_true rfl) dX8_seeAsk_39 ⟨Nat.le_refl 0, Nat.le_refl 0⟩) X26 (fun v40 t39 H lc q37 X38 => ?_)
      unfold po_X2_askNamed_qw at q37
      obtain ⟨q41, q42, q43⟩ := q37
      rw [q41] at X38
      refine r_put (K := 11) (ty := .int) S X38 (Nat.le_of_ble_eq_true rfl) rfl lk8_42_1 (fun _ => ⟨_, rfl, Nat.le_of_ble_eq_true rfl, rfl⟩) (fun _ _ _ h => by cases h; exact ⟨rfl, rfl⟩) rfl rfl dX8_seeAsk_42 (fun t44 H lc M45 X46 => ?_)
      have I47 := Inv_mu hI M45 (R_any v40)
      have F48 : Fr [(11, 1), (11, 2)] [] τ t44 := Fr_mu Fr_rfl M45 (by decide)
      refine r_aload_n S dX8_seeAsk_45 rfl (lv_at hl 0 rfl) ?_
      refine r_geti (K := 11) S X46 (Nat.le_of_ble_eq_true rfl) rfl lk8_42_1 (fun _ => ⟨_, rfl, rfl⟩) M45.1 dX8_seeAsk_46 ?_
      refine r_iconst S dX8_seeAsk_49 (by decide) (fun v49 z50 => ?_)
      have r51 := R_eq z50
      refine r_icmp_ne (tgt := 61) S dX8_seeAsk_50 (by decide) (fun c52 => ?_) (fun c52 => ?_)
      ·
        have r53 : R (0) (8) v40 := ⟨by omega, by omega⟩
        refine r_iconst S dX8_seeAsk_61 (by decide) (fun v54 z55 => ?_)
        have r56 := R_eq z55
        refine r_goto (tgt := 66) S dX8_seeAsk_62 (by decide) ?_
        exact r_ret S hr hlk X46 ⟨I47, F48, (R_of r56 rfl), (fun h => ⟨(by rw [M45.1]; exact R_of r53 rfl), (by rw [((M45.2 11 1 (Or.inr (by decide))).trans z2)]; exact R_of hf_0 rfl)⟩), (QY_r (sLook_g ⟨((RT_k hR.1).2.1.mp (by rw [z4]; omega)), p34⟩ (by rw [← q43]; omega)) (by omega) ⟨show (t44 11 2).toInt = (((fnd an (wrd bb t)).toNat : Nat) : Int) by rw [M45.1, ← q43]; omega, (RG_fr hR (fun j => ((M45.2 1 j (Or.inl (by decide))).trans rfl)) (fun j => ((M45.2 2 j (Or.inl (by decide))).trans rfl)) (fun j => ((M45.2 201 j (Or.inl (by decide))).trans rfl)) ((M45.2 23 2 (Or.inl (by decide))).trans rfl) ((M45.2 23 3 (Or.inl (by decide))).trans rfl) (fun j => ((M45.2 228 j (Or.inl (by decide))).trans rfl)) (fun j => ((M45.2 229 j (Or.inl (by decide))).trans rfl)))⟩)⟩ (nr_bool (R_of (lo := 0) (hi := 1) r56 rfl)) dX8_seeAsk_66
      ·
        have r57 : R (-1) (-1) v40 := ⟨by omega, by omega⟩
        refine r_aload_n S dX8_seeAsk_53 rfl (lv_at hl 0 rfl) ?_
        refine r_iconst S dX8_seeAsk_54 (by decide) (fun v58 z59 => ?_)
        have r60 := R_eq z59
        refine r_ki (q_U (As := [.int v58]) (rest := []) (K := 11) (ci := 1) S X46 (c_X8_fail_t11 l G t44 I47 v58 (R_of (lo := -2147483648) (hi := 2147483647) r60 rfl)) ck8_29_1 (Nat.le_of_ble_eq_true rfl) rfl (fun _ => ⟨_, rfl⟩) ⟨_, _, rfl⟩ ⟨Nat.le_of_ble_eq_true rfl, Nat.le_of_ble_eq_true rfl⟩ rfl hl.1 rfl (Nat.le_of_ble_eq_true rfl) dX8_seeAsk_55 ⟨Nat.le_refl 0, Nat.le_refl 0⟩) X46 (fun v64 t63 H lc q61 X62 => ?_)
        unfold po_X8_fail_t11 at q61
        obtain ⟨q65, q66, q67, q68⟩ := q61
        have F69 : Fr [(11, 1), (11, 2)] [] τ t63 := Fr_call F48 q66 (by decide)
        refine r_if_eq (tgt := 65) S dX8_seeAsk_58 (by decide) (fun c70 => ?_) (fun c70 => ?_)
        ·
          refine r_iconst S dX8_seeAsk_65 (by decide) (fun v71 z72 => ?_)
          have r73 := R_eq z72
          exact r_ret S hr hlk X62 ⟨q65, F69, (R_of r73 rfl), (fun h => by exfalso; omega), (QY_b (sLook_b3 ⟨((RT_k hR.1).2.1.mp (by rw [z4]; omega)), p34⟩ (by rw [← q43]; omega)) (by omega) (by rw [q68]; omega) (RG_at (RG_fr hR (fun j => ((q66 1 j (by simp [fz])).trans ((M45.2 1 j (Or.inl (by decide))).trans rfl))) (fun j => ((q66 2 j (by simp [fz])).trans ((M45.2 2 j (Or.inl (by decide))).trans rfl))) (fun j => ((q66 201 j (by simp [fz])).trans ((M45.2 201 j (Or.inl (by decide))).trans rfl))) ((q66 23 2 (by decide)).trans ((M45.2 23 2 (Or.inl (by decide))).trans rfl)) ((q66 23 3 (by decide)).trans ((M45.2 23 3 (Or.inl (by decide))).trans rfl)) (fun j => ((q66 228 j (by simp [fz])).trans ((M45.2 228 j (Or.inl (by decide))).trans rfl))) (fun j => ((q66 229 j (by simp [fz])).trans ((M45.2 229 j (Or.inl (by decide))).trans rfl))))))⟩ (nr_bool (R_of (lo := 0) (hi := 1) r73 rfl)) dX8_seeAsk_66
        ·
          exfalso; omega
    ·
      have r74 : R (1) (1) v28 := ⟨by omega, by omega⟩
      have p75 := (q31).mp (by omega)
      refine r_aload_n S dX8_seeAsk_24 rfl (lv_at hl 0 rfl) ?_
      refine r_iconst S dX8_seeAsk_25 (by decide) (fun v76 z77 => ?_)
      have r78 := R_eq z77
      refine r_ki (q_U (As := [.int v76]) (rest := []) (K := 11) (ci := 1) S X26 (c_X8_fail_t11 l G τ hI v76 (R_of (lo := -2147483648) (hi := 2147483647) r78 rfl)) ck8_29_1 (Nat.le_of_ble_eq_true rfl) rfl (fun _ => ⟨_, rfl⟩) ⟨_, _, rfl⟩ ⟨Nat.le_of_ble_eq_true rfl, Nat.le_of_ble_eq_true rfl⟩ rfl hl.1 rfl (Nat.le_of_ble_eq_true rfl) dX8_seeAsk_26 ⟨Nat.le_refl 0, Nat.le_refl 0⟩) X26 (fun v82 t81 H lc q79 X80 => ?_)
      unfold po_X8_fail_t11 at q79
      obtain ⟨q83, q84, q85, q86⟩ := q79
      have F87 : Fr [(11, 1), (11, 2)] [] τ t81 := Fr_call Fr_rfl q84 (by decide)
      exact r_ret S hr hlk X80 ⟨q83, F87, (R_of q85 rfl), (fun h => by exfalso; omega), (QY_b (sLook_b1 (fun h => h.2 p75)) (by omega) (by rw [q86]; omega) (RG_at (RG_fr hR (fun j => ((q84 1 j (by simp [fz])).trans rfl)) (fun j => ((q84 2 j (by simp [fz])).trans rfl)) (fun j => ((q84 201 j (by simp [fz])).trans rfl)) ((q84 23 2 (by decide)).trans rfl) ((q84 23 3 (by decide)).trans rfl) (fun j => ((q84 228 j (by simp [fz])).trans rfl)) (fun j => ((q84 229 j (by simp [fz])).trans rfl)))))⟩ (nr_bool (R_of (lo := 0) (hi := 1) q85 rfl)) dX8_seeAsk_29
def po_X7_open_t11 (τ : Tau)  (a0 : Int32)  (bb : Nat → Int) (nb : Nat) (u : Tau) : Prop := Inv u ∧ Fr [(1, 2), (1, 3), (1, 4), (1, 5), (1, 7), (1, 8)] [201] τ u ∧ RT bb nb 400 u (lex bb nb 400 0)
set_option maxHeartbeats 4000000 in
set_option maxRecDepth 100000 in
theorem c_X7_open_t11 (l : Launch) (G : Gx) (τ : Tau) (hI : Inv τ) (a0 : Int32) (h_a0 : R (400) (400) a0) (bb : Nat → Int) (nb : Nat) (hB0 : RB0 bb nb τ) : Cv l G yX7_open cX7_open 2 1 24 [.ref (G.2.2.2.1 1), .int a0] τ (po_X7_open_t11 τ  a0  bb nb) := by
  unfold Cv
  refine C_of (own := RX7) (by decide) rfl (Nat.le_of_ble_eq_true rfl) ?_
  intro p e s m below meth c ls S hr hlk X hl
  have hl : lv_has ls 2 [(0, .ref (G.2.2.2.1 1)), (1, .int a0)] := hl
  refine r_aload_n S dX7_open_0 rfl (lv_at hl 0 rfl) ?_
  refine r_iload_n S dX7_open_1 rfl (lv_at hl 1 rfl) ?_
  refine r_put (K := 1) (ty := .int) S X (Nat.le_of_ble_eq_true rfl) rfl lk7_19_7 (fun _ => ⟨_, rfl, Nat.le_of_ble_eq_true rfl, rfl⟩) (fun _ _ _ h => by cases h; exact ⟨rfl, rfl⟩) rfl rfl dX7_open_2 (fun t1 H lc M2 X3 => ?_)
  have I4 := Inv_mu hI M2 (show Rg (kd 1) 2 a0 from (R_of (lo := 0) (hi := 900) h_a0 rfl))
  have F5 : Fr [(1, 2), (1, 3), (1, 4), (1, 5), (1, 7), (1, 8)] [201] τ t1 := Fr_mu Fr_rfl M2 (by decide)
  refine r_aload_n S dX7_open_5 rfl (lv_at hl 0 rfl) ?_
  refine r_iconst S dX7_open_6 (by decide) (fun v6 z7 => ?_)
  have r8 := R_eq z7
  refine r_put (K := 1) (ty := .int) S X3 (Nat.le_of_ble_eq_true rfl) rfl lk7_22_7 (fun _ => ⟨_, rfl, Nat.le_of_ble_eq_true rfl, rfl⟩) (fun _ _ _ h => by cases h; exact ⟨rfl, rfl⟩) rfl rfl dX7_open_7 (fun t9 H lc M10 X11 => ?_)
  have I12 := Inv_mu I4 M10 (show Rg (kd 1) 4 v6 from (R_of (lo := 0) (hi := 940) r8 rfl))
  have F13 : Fr [(1, 2), (1, 3), (1, 4), (1, 5), (1, 7), (1, 8)] [201] τ t9 := Fr_mu F5 M10 (by decide)
  refine r_aload_n S dX7_open_10 rfl (lv_at hl 0 rfl) ?_
  refine r_kv (q_V (As := []) (rest := []) (K := 1) (ci := 7) S X11 (c_X7_step_q l G t9 I12 bb nb 400 0 (RB_of (RB0_eq hB0 (F13 1 1 (by simp [fz])) (fun j => F13 2 j (by simp [fz]))) ((M10.2 1 2 (Or.inr (by decide))).trans M2.1) (by omega)) (by rw [M10.1]; omega) (Nat.zero_le _)) ck7_25 (Nat.le_of_ble_eq_true rfl) rfl (fun _ => ⟨_, rfl⟩) ⟨_, _, rfl⟩ ⟨Nat.le_of_ble_eq_true rfl, Nat.le_of_ble_eq_true rfl⟩ rfl hl.1 rfl (Nat.le_of_ble_eq_true rfl) dX7_open_11 ⟨Nat.le_refl 0, Nat.le_refl 0⟩) X11 (fun t16 H lc q14 X15 => ?_)
  unfold po_X7_step_q at q14
  obtain ⟨q17, q18, q19⟩ := q14
  have F20 : Fr [(1, 2), (1, 3), (1, 4), (1, 5), (1, 7), (1, 8)] [201] τ t16 := Fr_call F13 q18 (by decide)
  exact r_vret S hr hlk X15 ⟨q17, F20, q19⟩ dX7_open_14
def po_X8_open_t11 (τ : Tau)  (a0 : Int32)  (bb : Nat → Int) (nb : Nat) (u : Tau) : Prop := Inv u ∧ Fr [(11, 1), (1, 2), (1, 3), (1, 4), (1, 5), (1, 7), (1, 8)] [201] τ u ∧ R (0) (0) (u 11 1) ∧ RT bb nb 400 u (lex bb nb 400 0)
set_option maxHeartbeats 4000000 in
set_option maxRecDepth 100000 in
theorem c_X8_open_t11 (l : Launch) (G : Gx) (τ : Tau) (hI : Inv τ) (a0 : Int32) (h_a0 : R (400) (400) a0) (bb : Nat → Int) (nb : Nat) (hB0 : RB0 bb nb τ) : Cv l G yX8_open cX8_open 2 2 45 [.ref (G.2.2.2.1 11), .int a0] τ (po_X8_open_t11 τ  a0  bb nb) := by
  unfold Cv
  refine C_of (own := RX8) (by decide) rfl (Nat.le_of_ble_eq_true rfl) ?_
  intro p e s m below meth c ls S hr hlk X hl
  have hl : lv_has ls 2 [(0, .ref (G.2.2.2.1 11)), (1, .int a0)] := hl
  refine r_aload_n S dX8_open_0 rfl (lv_at hl 0 rfl) ?_
  refine r_iconst S dX8_open_1 (by decide) (fun v1 z2 => ?_)
  have r3 := R_eq z2
  refine r_put (K := 11) (ty := .int) S X (Nat.le_of_ble_eq_true rfl) rfl lk8_15_1 (fun _ => ⟨_, rfl, Nat.le_of_ble_eq_true rfl, rfl⟩) (fun _ _ _ h => by cases h; exact ⟨rfl, rfl⟩) rfl rfl dX8_open_2 (fun t4 H lc M5 X6 => ?_)
  have I7 := Inv_mu hI M5 (R_any v1)
  have F8 : Fr [(11, 1), (1, 2), (1, 3), (1, 4), (1, 5), (1, 7), (1, 8)] [201] τ t4 := Fr_mu Fr_rfl M5 (by decide)
  refine r_aload_n S dX8_open_5 rfl (lv_at hl 0 rfl) ?_
  refine r_get (K := 11) (v := .ref (G.2.2.2.1 1)) S X6 (Nat.le_of_ble_eq_true rfl) rfl lk8_9_1 (fun _ => ⟨_, rfl, rfl⟩) dX8_open_6 ?_
  refine r_iload_n S dX8_open_9 rfl (lv_at hl 1 rfl) ?_
  refine r_kv (q_V (As := [.int a0]) (rest := []) (K := 1) (ci := 7) S X6 (c_X7_open_t11 l G t4 I7 a0 h_a0 bb nb (RB0_eq hB0 (F8 1 1 (by simp [fz])) (fun j => F8 2 j (by simp [fz])))) ck8_19 (Nat.le_of_ble_eq_true rfl) rfl (fun _ => ⟨_, rfl⟩) ⟨_, _, rfl⟩ ⟨Nat.le_of_ble_eq_true rfl, Nat.le_of_ble_eq_true rfl⟩ rfl hl.1 rfl (Nat.le_of_ble_eq_true rfl) dX8_open_10 ⟨Nat.le_refl 0, Nat.le_refl 0⟩) X6 (fun t11 H lc q9 X10 => ?_)
  unfold po_X7_open_t11 at q9
  obtain ⟨q12, q13, q14⟩ := q9
  have F15 : Fr [(11, 1), (1, 2), (1, 3), (1, 4), (1, 5), (1, 7), (1, 8)] [201] τ t11 := Fr_call F8 q13 (by decide)
  exact r_vret S hr hlk X10 ⟨q12, F15, (by rw [((q13 11 1 (by decide)).trans M5.1)]; exact R_of r3 rfl), (RT_fr q14 (fun j => rfl) (fun j => rfl) (fun j => rfl))⟩ dX8_open_13
def po_X1_readCrossing_q (τ : Tau)    (bb : Nat → Int) (nb : Nat) (an mn : List (List Int)) (t : Tk) (r : Int32) (u : Tau) : Prop := Inv u ∧ Fr [(11, 1), (11, 2), (1, 3), (1, 4), (1, 5), (1, 7), (1, 8)] [12, 13, 14, 15, 201] τ u ∧ LR u ∧ R (0) (1) r ∧ (r.toInt = 1 → R (0) (0) (u 11 1)) ∧ QY 11 (lCr bb nb 400 mn 11 (fun _ => false) t) r u (fun g => RG bb nb 400 an mn u g)
set_option maxHeartbeats 4000000 in
set_option maxRecDepth 100000 in
theorem c_X1_readCrossing_q (l : Launch) (G : Gx) (τ : Tau) (hI : Inv τ) (hf_0 : R (0) (39) (τ 11 3)) (hf_1 : R (0) (0) (τ 11 1)) (hLR : LR τ) (bb : Nat → Int) (nb : Nat) (an mn : List (List Int)) (t : Tk) (hR : RG bb nb 400 an mn τ t) : Ci l G yX1_readCrossing cX1_readCrossing 4 (some .boolean) 2 44 [.ref (G.2.2.2.1 11), .ref (G.2.2.2.1 23)] τ (po_X1_readCrossing_q τ    bb nb an mn t) := by
  unfold Ci
  refine C_of (own := RX1) (by decide) rfl (Nat.le_of_ble_eq_true rfl) ?_
  intro p e s m below meth c ls S hr hlk X hl
  have hl : lv_has ls 4 [(0, .ref (G.2.2.2.1 11)), (1, .ref (G.2.2.2.1 23))] := hl
  obtain ⟨v1, z2⟩ : ∃ x, τ 11 3 = x := ⟨_, rfl⟩
  rw [z2] at hf_0
  obtain ⟨v3, z4⟩ : ∃ x, τ 11 1 = x := ⟨_, rfl⟩
  rw [z4] at hf_1
  refine r_iconst S dX1_readCrossing_0 (by decide) (fun v5 z6 => ?_)
  have r7 := R_eq z6
  refine r_istore_n (lv' := [(2, .int v5), (0, .ref (G.2.2.2.1 11)), (1, .ref (G.2.2.2.1 23))]) S dX1_readCrossing_1 rfl hl (by decide) rfl (fun ls hl => ?_)
  refine r_iconst S dX1_readCrossing_2 (by decide) (fun v8 z9 => ?_)
  have r10 := R_eq z9
  refine r_istore_n (lv' := [(3, .int v8), (2, .int v5), (0, .ref (G.2.2.2.1 11)), (1, .ref (G.2.2.2.1 23))]) S dX1_readCrossing_3 rfl hl (by decide) rfl (fun ls hl => ?_)
  have L1455 : ∀ (n : Nat) (t1446 : Tau) (H : Heap) (lc : List Loc) (ls : Array Slot) (i1442 : Int32) (i1444 : Int32) (f1452 : Int32), Xd G s H lc t1446 → Inv t1446 → Fr [(11, 1), (11, 2), (1, 3), (1, 4), (1, 5), (1, 7), (1, 8)] [12, 13, 14, 15, 201] τ t1446 → LR t1446 → R (0) (1023) i1442 → R (0) (19) i1444 → t1446 11 3 = v1 → t1446 11 1 = f1452 → R (0) (0) f1452 → (∃ (tc : Tk) (op : Nat → Bool), RG bb nb 400 an mn t1446 tc ∧ BS (i1442) op ∧ (i1444).toInt = (cnt10 op : Int) ∧ lCr bb nb 400 mn (11 - (i1444).toInt.toNat) op tc = lCr bb nb 400 mn 11 (fun _ => false) t) → lv_has ls 4 [(0, .ref (G.2.2.2.1 11)), (1, .ref (G.2.2.2.1 23)), (2, .int i1442), (3, .int i1444)] → (19 - i1444.toInt).toNat < n → W p l e (Rm 2 44) s m ([.ref (G.2.2.2.1 11), .ref (G.2.2.2.1 23)] : List Value).toArray below meth c H lc 0 0 (MQ below (va_Qi (po_X1_readCrossing_q τ    bb nb an mn t) (Bs G) G.2.2.2.2) ([.ref (G.2.2.2.1 11), .ref (G.2.2.2.1 23)] : List Value).toArray s 0 0 G.2.2.2.2) (F0 m 4 ls []) := by
    intro n
    induction n with
    | zero => intros; omega
    | succ n ih1457 =>
      intro t1446 H lc ls i1442 i1444 f1452 X1450 I1447 F1448 hLR1449 r1443 r1445 z1451 z1454 r1453 x1456 hl hm
      obtain ⟨tc1458, op1459, hR1460, hB1461, hc1462, he1463⟩ := x1456
      refine r_iload_n S dX1_readCrossing_4 rfl (lv_at hl 3 rfl) ?_
      refine r_bipush S dX1_readCrossing_5 (by decide) (fun v1464 z1465 => ?_)
      have r1466 := R_eq z1465
      refine r_icmp_gt (tgt := 76) S dX1_readCrossing_7 (by decide) (fun c1467 => ?_) (fun c1467 => ?_)
      ·
        have r1468 : R (11) (19) i1444 := ⟨by omega, by omega⟩
        refine r_aload_n S dX1_readCrossing_76 rfl (lv_at hl 0 rfl) ?_
        refine r_iconst S dX1_readCrossing_77 (by decide) (fun v1469 z1470 => ?_)
        have r1471 := R_eq z1470
        refine r_iload_n S dX1_readCrossing_78 rfl (lv_at hl 2 rfl) ?_
        refine r_iconst S dX1_readCrossing_79 (by decide) (fun v1472 z1473 => ?_)
        have r1474 := R_eq z1473
        refine r_iconst S dX1_readCrossing_80 (by decide) (fun v1475 z1476 => ?_)
        have r1477 := R_eq z1476
        refine r_ki (q_V (As := [.int v1469, .int i1442, .int v1472, .int v1475]) (rest := []) (K := 11) (ci := 1) S X1450 (c_X1_keep_0 l G t1446 I1447 v1469 i1442 v1472 v1475 r1471 r1443 r1474 r1477 (by rw [z1451]; exact R_of hf_0 rfl) hLR1449) ck1_99 (Nat.le_of_ble_eq_true rfl) rfl (fun _ => ⟨_, rfl⟩) ⟨_, _, rfl⟩ ⟨Nat.le_of_ble_eq_true rfl, Nat.le_of_ble_eq_true rfl⟩ rfl hl.1 rfl (Nat.le_of_ble_eq_true rfl) dX1_readCrossing_81 ⟨Nat.le_refl 0, Nat.le_refl 0⟩) X1450 (fun v1481 t1480 H lc q1478 X1479 => ?_)
        unfold po_X1_keep_0 at q1478
        obtain ⟨q1482, q1483, q1484, q1485⟩ := q1478
        have F1486 : Fr [(11, 1), (11, 2), (1, 3), (1, 4), (1, 5), (1, 7), (1, 8)] [12, 13, 14, 15, 201] τ t1480 := Fr_call F1448 q1483 (by decide)
        exact r_ret S hr hlk X1479 ⟨q1482, F1486, q1484, (R_of q1485 rfl), (fun h => (by rw [((q1483 11 1 (by decide)).trans z1454)]; exact R_of r1453 rfl)), (QY_r (by rw [← he1463, show 11 - i1444.toInt.toNat = 0 by omega]; rfl) (by omega) (RG_fr hR1460 (fun j => ((q1483 1 j (by simp [fz])).trans rfl)) (fun j => ((q1483 2 j (by simp [fz])).trans rfl)) (fun j => ((q1483 201 j (by simp [fz])).trans rfl)) ((q1483 23 2 (by decide)).trans rfl) ((q1483 23 3 (by decide)).trans rfl) (fun j => ((q1483 228 j (by simp [fz])).trans rfl)) (fun j => ((q1483 229 j (by simp [fz])).trans rfl))))⟩ (nr_bool (R_of (lo := 0) (hi := 1) q1485 rfl)) dX1_readCrossing_84
      ·
        have r1487 : R (0) (10) i1444 := ⟨by omega, by omega⟩
        refine r_iload_n S dX1_readCrossing_10 rfl (lv_at hl 3 rfl) ?_
        refine r_if_eq (tgt := 26) S dX1_readCrossing_11 (by decide) (fun c1488 => ?_) (fun c1488 => ?_)
        ·
          have r1489 : R (0) (0) i1444 := ⟨by omega, by omega⟩
          refine r_aload_n S dX1_readCrossing_26 rfl (lv_at hl 0 rfl) ?_
          refine r_aload_n S dX1_readCrossing_27 rfl (lv_at hl 1 rfl) ?_
          refine r_ki (q_U (As := [.ref (G.2.2.2.1 23)]) (rest := []) (K := 11) (ci := 1) S X1450 (c_X8_seeMan_t11 l G t1446 I1447 (by rw [z1454]; exact R_of r1453 rfl) bb nb an mn tc1458 hR1460 ) ck1_65_1 (Nat.le_of_ble_eq_true rfl) rfl (fun _ => ⟨_, rfl⟩) ⟨_, _, rfl⟩ ⟨Nat.le_of_ble_eq_true rfl, Nat.le_of_ble_eq_true rfl⟩ rfl hl.1 rfl (Nat.le_of_ble_eq_true rfl) dX1_readCrossing_28 ⟨Nat.le_refl 0, Nat.le_refl 0⟩) X1450 (fun v1493 t1492 H lc q1490 X1491 => ?_)
          unfold po_X8_seeMan_t11 at q1490
          obtain ⟨q1494, q1495, q1496, q1497, q1498⟩ := q1490
          have F1499 : Fr [(11, 1), (11, 2), (1, 3), (1, 4), (1, 5), (1, 7), (1, 8)] [12, 13, 14, 15, 201] τ t1492 := Fr_call F1448 q1495 (by decide)
          refine r_if_ne (tgt := 36) S dX1_readCrossing_31 (by decide) (fun c1500 => ?_) (fun c1500 => ?_)
          ·
            have r1501 : R (1) (1) v1493 := ⟨by omega, by omega⟩
            obtain ⟨p1502, p1503⟩ := q1497 (by omega)
            obtain ⟨v1504, z1505⟩ : ∃ x, t1492 11 2 = x := ⟨_, rfl⟩
            rw [z1505] at p1502
            obtain ⟨v1506, z1507⟩ : ∃ x, t1492 11 1 = x := ⟨_, rfl⟩
            rw [z1507] at p1503
            have p1508 := (QY_1 q1498) (by omega)
            obtain ⟨g1509, e1510, hP1511⟩ := p1508
            refine r_iload_n S dX1_readCrossing_36 rfl (lv_at hl 2 rfl) ?_
            refine r_aload_n S dX1_readCrossing_37 rfl (lv_at hl 0 rfl) ?_
            refine r_geti (K := 11) S X1491 (Nat.le_of_ble_eq_true rfl) rfl lk1_72_1 (fun _ => ⟨_, rfl, rfl⟩) z1505 dX1_readCrossing_38 ?_
            have e1512 : v1504.toInt = g1509 := by rw [← z1505]; exact hP1511.1
            refine r_ki (q_N (As := [.int i1442, .int v1504]) (rest := []) S X1491 (c_X11_bit_q l G t1492 q1494 i1442 v1504 r1443 p1502) ck1_95 ⟨Nat.le_of_ble_eq_true rfl, Nat.le_of_ble_eq_true rfl⟩ rfl hl.1 rfl (Nat.le_of_ble_eq_true rfl) dX1_readCrossing_41 ⟨Nat.le_refl 0, Nat.le_refl 0⟩) X1491 (fun v1516 t1515 H lc q1513 X1514 => ?_)
            unfold po_X11_bit_q at q1513
            obtain ⟨q1517, q1518, q1519⟩ := q1513
            rw [q1517] at X1514
            refine r_iconst S dX1_readCrossing_44 (by decide) (fun v1520 z1521 => ?_)
            have r1522 := R_eq z1521
            refine r_icmp_ne (tgt := 54) S dX1_readCrossing_45 (by decide) (fun c1523 => ?_) (fun c1523 => ?_)
            ·
              have r1524 : R (0) (0) v1516 := ⟨by omega, by omega⟩
              have p1525 := (iff_n q1519) (by omega)
              refine r_iload_n S dX1_readCrossing_54 rfl (lv_at hl 2 rfl) ?_
              refine r_iconst S dX1_readCrossing_55 (by decide) (fun v1526 z1527 => ?_)
              have r1528 := R_eq z1527
              refine r_aload_n S dX1_readCrossing_56 rfl (lv_at hl 0 rfl) ?_
              refine r_geti (K := 11) S X1514 (Nat.le_of_ble_eq_true rfl) rfl lk1_72_1 (fun _ => ⟨_, rfl, rfl⟩) z1505 dX1_readCrossing_57 ?_
              refine r_ishl S dX1_readCrossing_60 (fun v1529 z1530 => ?_)
              have r1532 : R (1) (512) v1529 := i_shl z1530 r1528 p1502 rfl
              refine r_ior S dX1_readCrossing_61 (fun v1533 z1534 => ?_)
              have r1536 : R (0) (1023) v1533 := i_or 10 z1534 r1443 r1532 rfl
              refine r_istore_n (lv' := [(2, .int v1533), (0, .ref (G.2.2.2.1 11)), (1, .ref (G.2.2.2.1 23)), (3, .int i1444)]) S dX1_readCrossing_62 rfl hl (by decide) rfl (fun ls hl => ?_)
              refine r_aload_n S dX1_readCrossing_63 rfl (lv_at hl 1 rfl) ?_
              refine r_get (K := 11) (v := .ref (G.2.2.2.1 1)) S X1514 (Nat.le_of_ble_eq_true rfl) rfl lk1_32_1 (fun _ => ⟨_, rfl, rfl⟩) dX1_readCrossing_64 ?_
              refine r_kv (q_V (As := []) (rest := []) (K := 1) (ci := 7) S X1514 (c_X7_step_q l G t1492 q1494 bb nb 400 tc1458.2.2 (RT_st hP1511.2.1 (Or.inl (sLook_n e1510).1)).1 (RT_st hP1511.2.1 (Or.inl (sLook_n e1510).1)).2.1 (RT_st hP1511.2.1 (Or.inl (sLook_n e1510).1)).2.2) ck1_75 (Nat.le_of_ble_eq_true rfl) rfl (fun _ => ⟨_, rfl⟩) ⟨_, _, rfl⟩ ⟨Nat.le_of_ble_eq_true rfl, Nat.le_of_ble_eq_true rfl⟩ rfl hl.1 rfl (Nat.le_of_ble_eq_true rfl) dX1_readCrossing_67 ⟨Nat.le_refl 0, Nat.le_refl 0⟩) X1514 (fun t1539 H lc q1537 X1538 => ?_)
              unfold po_X7_step_q at q1537
              obtain ⟨q1540, q1541, q1542⟩ := q1537
              have F1543 : Fr [(11, 1), (11, 2), (1, 3), (1, 4), (1, 5), (1, 7), (1, 8)] [12, 13, 14, 15, 201] τ t1539 := Fr_call F1499 q1541 (by decide)
              have hR1544 : RG bb nb 400 an mn t1539 (nx bb nb 400 tc1458) := ⟨q1542, NM2_fr hP1511.2.2 ((q1541 23 2 (by decide)).trans rfl) ((q1541 23 3 (by decide)).trans rfl) (fun j => ((q1541 228 j (by simp [fz])).trans rfl)) (fun j => ((q1541 229 j (by simp [fz])).trans rfl))⟩
              refine r_iinc (k := 3) S dX1_readCrossing_70 hl rfl (by decide) (by decide) (fun v1545 d1546 ls z1547 z1548 hl => ?_)
              obtain ⟨e1549, r1550⟩ := i_add (lo := 1) (hi := 1) z1547 r1489 (R_eq z1548) rfl
              have hl : lv_has ls 4 [(3, .int v1545), (2, .int v1533), (0, .ref (G.2.2.2.1 11)), (1, .ref (G.2.2.2.1 23))] := hl
              refine r_goto (tgt := 4) S dX1_readCrossing_73 (by decide) ?_
              exact ih1457 t1539 _ _ _ v1533 v1545 v1506 X1538 q1540 F1543 (LR_eq hLR1449 (fun j => ((q1541 12 j (by simp [fz])).trans ((q1495 12 j (by simp [fz])).trans rfl))) (fun j => ((q1541 13 j (by simp [fz])).trans ((q1495 13 j (by simp [fz])).trans rfl))) (fun j => ((q1541 14 j (by simp [fz])).trans ((q1495 14 j (by simp [fz])).trans rfl)))) r1536 (R_of r1550 rfl) ((q1541 11 3 (by decide)).trans ((q1495 11 3 (by decide)).trans z1451)) ((q1541 11 1 (by decide)).trans z1507) ⟨by omega, by omega⟩ ⟨(nx bb nb 400 tc1458), (fun j => op1459 j || j == g1509), hR1544, (BS_or hB1461 (by rw [z1534, z1530, show v1526 = 1 from Int32.toInt_inj.mp (by show v1526.toInt = 1; omega)]) ⟨by omega, by omega⟩ (by omega)), (by rw [cnt10_up (by omega) (fun h => p1525 (by have q := ((hB1461 g1509 (by omega))).mpr h; rw [show v1504.toInt.toNat = g1509 by omega]; exact q))]; show _ = ((cnt10 op1459 + 1 : Nat) : Int); omega), (by rw [← he1463, show 11 - i1444.toInt.toNat = (11 - v1545.toInt.toNat) + 1 by omega]; exact (lCr_r (fun h => by have q := h.1; omega) e1510 (fun h => p1525 (by have q := ((hB1461 g1509 (by omega))).mpr h; rw [show v1504.toInt.toNat = g1509 by omega]; exact q))).symm)⟩ (lv_sub hl [2, 3, 1, 0] rfl) (by omega)
            ·
              have r1551 : R (1) (1) v1516 := ⟨by omega, by omega⟩
              have p1552 := (q1519).mp (by omega)
              refine r_aload_n S dX1_readCrossing_48 rfl (lv_at hl 0 rfl) ?_
              refine r_iconst S dX1_readCrossing_49 (by decide) (fun v1553 z1554 => ?_)
              have r1555 := R_eq z1554
              refine r_ki (q_U (As := [.int v1553]) (rest := []) (K := 11) (ci := 1) S X1514 (c_X8_fail_t11 l G t1492 q1494 v1553 (R_of (lo := -2147483648) (hi := 2147483647) r1555 rfl)) ck1_68_1 (Nat.le_of_ble_eq_true rfl) rfl (fun _ => ⟨_, rfl⟩) ⟨_, _, rfl⟩ ⟨Nat.le_of_ble_eq_true rfl, Nat.le_of_ble_eq_true rfl⟩ rfl hl.1 rfl (Nat.le_of_ble_eq_true rfl) dX1_readCrossing_50 ⟨Nat.le_refl 0, Nat.le_refl 0⟩) X1514 (fun v1559 t1558 H lc q1556 X1557 => ?_)
              unfold po_X8_fail_t11 at q1556
              obtain ⟨q1560, q1561, q1562, q1563⟩ := q1556
              have F1564 : Fr [(11, 1), (11, 2), (1, 3), (1, 4), (1, 5), (1, 7), (1, 8)] [12, 13, 14, 15, 201] τ t1558 := Fr_call F1499 q1561 (by decide)
              exact r_ret S hr hlk X1557 ⟨q1560, F1564, (LR_eq hLR1449 (fun j => ((q1561 12 j (by simp [fz])).trans ((q1495 12 j (by simp [fz])).trans rfl))) (fun j => ((q1561 13 j (by simp [fz])).trans ((q1495 13 j (by simp [fz])).trans rfl))) (fun j => ((q1561 14 j (by simp [fz])).trans ((q1495 14 j (by simp [fz])).trans rfl)))), (R_of q1562 rfl), (fun h => by exfalso; omega), (QY_b (by rw [← he1463, show 11 - i1444.toInt.toNat = (10 - i1444.toInt.toNat) + 1 by omega]; exact lCr_b (fun h => by have q := h.1; omega) e1510 (((hB1461 g1509 (by omega))).mp (by have q := p1552; rw [show v1504.toInt.toNat = g1509 by omega] at q; exact q))) (by omega) (by rw [q1563]; omega) (RG_at (RG_fr hP1511.2 (fun j => ((q1561 1 j (by simp [fz])).trans rfl)) (fun j => ((q1561 2 j (by simp [fz])).trans rfl)) (fun j => ((q1561 201 j (by simp [fz])).trans rfl)) ((q1561 23 2 (by decide)).trans rfl) ((q1561 23 3 (by decide)).trans rfl) (fun j => ((q1561 228 j (by simp [fz])).trans rfl)) (fun j => ((q1561 229 j (by simp [fz])).trans rfl)))))⟩ (nr_bool (R_of (lo := 0) (hi := 1) q1562 rfl)) dX1_readCrossing_53
          ·
            have r1565 : R (0) (0) v1493 := ⟨by omega, by omega⟩
            have p1566 := (QY_0 q1498) (by omega)
            obtain ⟨q1567, e1568, h1569, h1570⟩ := p1566
            refine r_iconst S dX1_readCrossing_34 (by decide) (fun v1571 z1572 => ?_)
            have r1573 := R_eq z1572
            exact r_ret S hr hlk X1491 ⟨q1494, F1499, (LR_eq hLR1449 (fun j => ((q1495 12 j (by simp [fz])).trans rfl)) (fun j => ((q1495 13 j (by simp [fz])).trans rfl)) (fun j => ((q1495 14 j (by simp [fz])).trans rfl))), (R_of r1573 rfl), (fun h => by exfalso; omega), (QY_l (by rw [← he1463, show 11 - i1444.toInt.toNat = (10 - i1444.toInt.toNat) + 1 by omega]; exact lCr_l (fun h => by have q := h.1; omega) e1568) (by omega) h1569 h1570)⟩ (nr_bool (R_of (lo := 0) (hi := 1) r1573 rfl)) dX1_readCrossing_35
        ·
          have r1574 : R (1) (10) i1444 := ⟨by omega, by omega⟩
          refine r_aload_n S dX1_readCrossing_14 rfl (lv_at hl 0 rfl) ?_
          refine r_get (K := 11) (v := .ref (G.2.2.2.1 1)) S X1450 (Nat.le_of_ble_eq_true rfl) rfl lk1_32_1 (fun _ => ⟨_, rfl, rfl⟩) dX1_readCrossing_15 ?_
          refine r_bipush S dX1_readCrossing_18 (by decide) (fun v1575 z1576 => ?_)
          have r1577 := R_eq z1576
          refine r_ki (q_V (As := [.int v1575]) (rest := []) (K := 1) (ci := 7) S X1450 (c_X7_isSigned_q l G t1446 I1447 v1575 (R_of (lo := 0) (hi := 65535) r1577 rfl) bb nb 400 tc1458 hR1460.1) ck1_92 (Nat.le_of_ble_eq_true rfl) rfl (fun _ => ⟨_, rfl⟩) ⟨_, _, rfl⟩ ⟨Nat.le_of_ble_eq_true rfl, Nat.le_of_ble_eq_true rfl⟩ rfl hl.1 rfl (Nat.le_of_ble_eq_true rfl) dX1_readCrossing_20 ⟨Nat.le_refl 0, Nat.le_refl 0⟩) X1450 (fun v1581 t1580 H lc q1578 X1579 => ?_)
          unfold po_X7_isSigned_q at q1578
          obtain ⟨q1582, q1583, q1584⟩ := q1578
          rw [q1582] at X1579
          refine r_if_ne (tgt := 76) S dX1_readCrossing_23 (by decide) (fun c1585 => ?_) (fun c1585 => ?_)
          ·
            have r1586 : R (1) (1) v1581 := ⟨by omega, by omega⟩
            have p1587 := (q1584).mp (by omega)
            refine r_aload_n S dX1_readCrossing_76 rfl (lv_at hl 0 rfl) ?_
            refine r_iconst S dX1_readCrossing_77 (by decide) (fun v1588 z1589 => ?_)
            have r1590 := R_eq z1589
            refine r_iload_n S dX1_readCrossing_78 rfl (lv_at hl 2 rfl) ?_
            refine r_iconst S dX1_readCrossing_79 (by decide) (fun v1591 z1592 => ?_)
            have r1593 := R_eq z1592
            refine r_iconst S dX1_readCrossing_80 (by decide) (fun v1594 z1595 => ?_)
            have r1596 := R_eq z1595
            refine r_ki (q_V (As := [.int v1588, .int i1442, .int v1591, .int v1594]) (rest := []) (K := 11) (ci := 1) S X1579 (c_X1_keep_0 l G t1446 I1447 v1588 i1442 v1591 v1594 r1590 r1443 r1593 r1596 (by rw [z1451]; exact R_of hf_0 rfl) hLR1449) ck1_99 (Nat.le_of_ble_eq_true rfl) rfl (fun _ => ⟨_, rfl⟩) ⟨_, _, rfl⟩ ⟨Nat.le_of_ble_eq_true rfl, Nat.le_of_ble_eq_true rfl⟩ rfl hl.1 rfl (Nat.le_of_ble_eq_true rfl) dX1_readCrossing_81 ⟨Nat.le_refl 0, Nat.le_refl 0⟩) X1579 (fun v1600 t1599 H lc q1597 X1598 => ?_)
            unfold po_X1_keep_0 at q1597
            obtain ⟨q1601, q1602, q1603, q1604⟩ := q1597
            have F1605 : Fr [(11, 1), (11, 2), (1, 3), (1, 4), (1, 5), (1, 7), (1, 8)] [12, 13, 14, 15, 201] τ t1599 := Fr_call F1448 q1602 (by decide)
            exact r_ret S hr hlk X1598 ⟨q1601, F1605, q1603, (R_of q1604 rfl), (fun h => (by rw [((q1602 11 1 (by decide)).trans z1454)]; exact R_of r1453 rfl)), (QY_r (by rw [← he1463]; exact lCr_e (by omega) ⟨p1587.1, by have q := p1587.2; omega⟩) (by omega) (RG_fr hR1460 (fun j => ((q1602 1 j (by simp [fz])).trans rfl)) (fun j => ((q1602 2 j (by simp [fz])).trans rfl)) (fun j => ((q1602 201 j (by simp [fz])).trans rfl)) ((q1602 23 2 (by decide)).trans rfl) ((q1602 23 3 (by decide)).trans rfl) (fun j => ((q1602 228 j (by simp [fz])).trans rfl)) (fun j => ((q1602 229 j (by simp [fz])).trans rfl))))⟩ (nr_bool (R_of (lo := 0) (hi := 1) q1604 rfl)) dX1_readCrossing_84
          ·
            have r1606 : R (0) (0) v1581 := ⟨by omega, by omega⟩
            have p1607 := (iff_n q1584) (by omega)
            refine r_aload_n S dX1_readCrossing_26 rfl (lv_at hl 0 rfl) ?_
            refine r_aload_n S dX1_readCrossing_27 rfl (lv_at hl 1 rfl) ?_
            refine r_ki (q_U (As := [.ref (G.2.2.2.1 23)]) (rest := []) (K := 11) (ci := 1) S X1579 (c_X8_seeMan_t11 l G t1446 I1447 (by rw [z1454]; exact R_of r1453 rfl) bb nb an mn tc1458 hR1460 ) ck1_65_1 (Nat.le_of_ble_eq_true rfl) rfl (fun _ => ⟨_, rfl⟩) ⟨_, _, rfl⟩ ⟨Nat.le_of_ble_eq_true rfl, Nat.le_of_ble_eq_true rfl⟩ rfl hl.1 rfl (Nat.le_of_ble_eq_true rfl) dX1_readCrossing_28 ⟨Nat.le_refl 0, Nat.le_refl 0⟩) X1579 (fun v1611 t1610 H lc q1608 X1609 => ?_)
            unfold po_X8_seeMan_t11 at q1608
            obtain ⟨q1612, q1613, q1614, q1615, q1616⟩ := q1608
            have F1617 : Fr [(11, 1), (11, 2), (1, 3), (1, 4), (1, 5), (1, 7), (1, 8)] [12, 13, 14, 15, 201] τ t1610 := Fr_call F1448 q1613 (by decide)
            refine r_if_ne (tgt := 36) S dX1_readCrossing_31 (by decide) (fun c1618 => ?_) (fun c1618 => ?_)
            ·
              have r1619 : R (1) (1) v1611 := ⟨by omega, by omega⟩
              obtain ⟨p1620, p1621⟩ := q1615 (by omega)
              obtain ⟨v1622, z1623⟩ : ∃ x, t1610 11 2 = x := ⟨_, rfl⟩
              rw [z1623] at p1620
              obtain ⟨v1624, z1625⟩ : ∃ x, t1610 11 1 = x := ⟨_, rfl⟩
              rw [z1625] at p1621
              have p1626 := (QY_1 q1616) (by omega)
              obtain ⟨g1627, e1628, hP1629⟩ := p1626
              refine r_iload_n S dX1_readCrossing_36 rfl (lv_at hl 2 rfl) ?_
              refine r_aload_n S dX1_readCrossing_37 rfl (lv_at hl 0 rfl) ?_
              refine r_geti (K := 11) S X1609 (Nat.le_of_ble_eq_true rfl) rfl lk1_72_1 (fun _ => ⟨_, rfl, rfl⟩) z1623 dX1_readCrossing_38 ?_
              have e1630 : v1622.toInt = g1627 := by rw [← z1623]; exact hP1629.1
              refine r_ki (q_N (As := [.int i1442, .int v1622]) (rest := []) S X1609 (c_X11_bit_q l G t1610 q1612 i1442 v1622 r1443 p1620) ck1_95 ⟨Nat.le_of_ble_eq_true rfl, Nat.le_of_ble_eq_true rfl⟩ rfl hl.1 rfl (Nat.le_of_ble_eq_true rfl) dX1_readCrossing_41 ⟨Nat.le_refl 0, Nat.le_refl 0⟩) X1609 (fun v1634 t1633 H lc q1631 X1632 => ?_)
              unfold po_X11_bit_q at q1631
              obtain ⟨q1635, q1636, q1637⟩ := q1631
              rw [q1635] at X1632
              refine r_iconst S dX1_readCrossing_44 (by decide) (fun v1638 z1639 => ?_)
              have r1640 := R_eq z1639
              refine r_icmp_ne (tgt := 54) S dX1_readCrossing_45 (by decide) (fun c1641 => ?_) (fun c1641 => ?_)
              ·
                have r1642 : R (0) (0) v1634 := ⟨by omega, by omega⟩
                have p1643 := (iff_n q1637) (by omega)
                refine r_iload_n S dX1_readCrossing_54 rfl (lv_at hl 2 rfl) ?_
                refine r_iconst S dX1_readCrossing_55 (by decide) (fun v1644 z1645 => ?_)
                have r1646 := R_eq z1645
                refine r_aload_n S dX1_readCrossing_56 rfl (lv_at hl 0 rfl) ?_
                refine r_geti (K := 11) S X1632 (Nat.le_of_ble_eq_true rfl) rfl lk1_72_1 (fun _ => ⟨_, rfl, rfl⟩) z1623 dX1_readCrossing_57 ?_
                refine r_ishl S dX1_readCrossing_60 (fun v1647 z1648 => ?_)
                have r1650 : R (1) (512) v1647 := i_shl z1648 r1646 p1620 rfl
                refine r_ior S dX1_readCrossing_61 (fun v1651 z1652 => ?_)
                have r1654 : R (0) (1023) v1651 := i_or 10 z1652 r1443 r1650 rfl
                refine r_istore_n (lv' := [(2, .int v1651), (0, .ref (G.2.2.2.1 11)), (1, .ref (G.2.2.2.1 23)), (3, .int i1444)]) S dX1_readCrossing_62 rfl hl (by decide) rfl (fun ls hl => ?_)
                refine r_aload_n S dX1_readCrossing_63 rfl (lv_at hl 1 rfl) ?_
                refine r_get (K := 11) (v := .ref (G.2.2.2.1 1)) S X1632 (Nat.le_of_ble_eq_true rfl) rfl lk1_32_1 (fun _ => ⟨_, rfl, rfl⟩) dX1_readCrossing_64 ?_
                refine r_kv (q_V (As := []) (rest := []) (K := 1) (ci := 7) S X1632 (c_X7_step_q l G t1610 q1612 bb nb 400 tc1458.2.2 (RT_st hP1629.2.1 (Or.inl (sLook_n e1628).1)).1 (RT_st hP1629.2.1 (Or.inl (sLook_n e1628).1)).2.1 (RT_st hP1629.2.1 (Or.inl (sLook_n e1628).1)).2.2) ck1_75 (Nat.le_of_ble_eq_true rfl) rfl (fun _ => ⟨_, rfl⟩) ⟨_, _, rfl⟩ ⟨Nat.le_of_ble_eq_true rfl, Nat.le_of_ble_eq_true rfl⟩ rfl hl.1 rfl (Nat.le_of_ble_eq_true rfl) dX1_readCrossing_67 ⟨Nat.le_refl 0, Nat.le_refl 0⟩) X1632 (fun t1657 H lc q1655 X1656 => ?_)
                unfold po_X7_step_q at q1655
                obtain ⟨q1658, q1659, q1660⟩ := q1655
                have F1661 : Fr [(11, 1), (11, 2), (1, 3), (1, 4), (1, 5), (1, 7), (1, 8)] [12, 13, 14, 15, 201] τ t1657 := Fr_call F1617 q1659 (by decide)
                have hR1662 : RG bb nb 400 an mn t1657 (nx bb nb 400 tc1458) := ⟨q1660, NM2_fr hP1629.2.2 ((q1659 23 2 (by decide)).trans rfl) ((q1659 23 3 (by decide)).trans rfl) (fun j => ((q1659 228 j (by simp [fz])).trans rfl)) (fun j => ((q1659 229 j (by simp [fz])).trans rfl))⟩
                refine r_iinc (k := 3) S dX1_readCrossing_70 hl rfl (by decide) (by decide) (fun v1663 d1664 ls z1665 z1666 hl => ?_)
                obtain ⟨e1667, r1668⟩ := i_add (lo := 2) (hi := 11) z1665 r1574 (R_eq z1666) rfl
                have hl : lv_has ls 4 [(3, .int v1663), (2, .int v1651), (0, .ref (G.2.2.2.1 11)), (1, .ref (G.2.2.2.1 23))] := hl
                refine r_goto (tgt := 4) S dX1_readCrossing_73 (by decide) ?_
                exact ih1457 t1657 _ _ _ v1651 v1663 v1624 X1656 q1658 F1661 (LR_eq hLR1449 (fun j => ((q1659 12 j (by simp [fz])).trans ((q1613 12 j (by simp [fz])).trans rfl))) (fun j => ((q1659 13 j (by simp [fz])).trans ((q1613 13 j (by simp [fz])).trans rfl))) (fun j => ((q1659 14 j (by simp [fz])).trans ((q1613 14 j (by simp [fz])).trans rfl)))) r1654 (R_of r1668 rfl) ((q1659 11 3 (by decide)).trans ((q1613 11 3 (by decide)).trans z1451)) ((q1659 11 1 (by decide)).trans z1625) ⟨by omega, by omega⟩ ⟨(nx bb nb 400 tc1458), (fun j => op1459 j || j == g1627), hR1662, (BS_or hB1461 (by rw [z1652, z1648, show v1644 = 1 from Int32.toInt_inj.mp (by show v1644.toInt = 1; omega)]) ⟨by omega, by omega⟩ (by omega)), (by rw [cnt10_up (by omega) (fun h => p1643 (by have q := ((hB1461 g1627 (by omega))).mpr h; rw [show v1622.toInt.toNat = g1627 by omega]; exact q))]; show _ = ((cnt10 op1459 + 1 : Nat) : Int); omega), (by rw [← he1463, show 11 - i1444.toInt.toNat = (11 - v1663.toInt.toNat) + 1 by omega]; exact (lCr_r (fun h => p1607 ⟨h.2.1, by have q := h.2.2; omega⟩) e1628 (fun h => p1643 (by have q := ((hB1461 g1627 (by omega))).mpr h; rw [show v1622.toInt.toNat = g1627 by omega]; exact q))).symm)⟩ (lv_sub hl [2, 3, 1, 0] rfl) (by omega)
              ·
                have r1669 : R (1) (1) v1634 := ⟨by omega, by omega⟩
                have p1670 := (q1637).mp (by omega)
                refine r_aload_n S dX1_readCrossing_48 rfl (lv_at hl 0 rfl) ?_
                refine r_iconst S dX1_readCrossing_49 (by decide) (fun v1671 z1672 => ?_)
                have r1673 := R_eq z1672
                refine r_ki (q_U (As := [.int v1671]) (rest := []) (K := 11) (ci := 1) S X1632 (c_X8_fail_t11 l G t1610 q1612 v1671 (R_of (lo := -2147483648) (hi := 2147483647) r1673 rfl)) ck1_68_1 (Nat.le_of_ble_eq_true rfl) rfl (fun _ => ⟨_, rfl⟩) ⟨_, _, rfl⟩ ⟨Nat.le_of_ble_eq_true rfl, Nat.le_of_ble_eq_true rfl⟩ rfl hl.1 rfl (Nat.le_of_ble_eq_true rfl) dX1_readCrossing_50 ⟨Nat.le_refl 0, Nat.le_refl 0⟩) X1632 (fun v1677 t1676 H lc q1674 X1675 => ?_)
                unfold po_X8_fail_t11 at q1674
                obtain ⟨q1678, q1679, q1680, q1681⟩ := q1674
                have F1682 : Fr [(11, 1), (11, 2), (1, 3), (1, 4), (1, 5), (1, 7), (1, 8)] [12, 13, 14, 15, 201] τ t1676 := Fr_call F1617 q1679 (by decide)
                exact r_ret S hr hlk X1675 ⟨q1678, F1682, (LR_eq hLR1449 (fun j => ((q1679 12 j (by simp [fz])).trans ((q1613 12 j (by simp [fz])).trans rfl))) (fun j => ((q1679 13 j (by simp [fz])).trans ((q1613 13 j (by simp [fz])).trans rfl))) (fun j => ((q1679 14 j (by simp [fz])).trans ((q1613 14 j (by simp [fz])).trans rfl)))), (R_of q1680 rfl), (fun h => by exfalso; omega), (QY_b (by rw [← he1463, show 11 - i1444.toInt.toNat = (10 - i1444.toInt.toNat) + 1 by omega]; exact lCr_b (fun h => p1607 ⟨h.2.1, by have q := h.2.2; omega⟩) e1628 (((hB1461 g1627 (by omega))).mp (by have q := p1670; rw [show v1622.toInt.toNat = g1627 by omega] at q; exact q))) (by omega) (by rw [q1681]; omega) (RG_at (RG_fr hP1629.2 (fun j => ((q1679 1 j (by simp [fz])).trans rfl)) (fun j => ((q1679 2 j (by simp [fz])).trans rfl)) (fun j => ((q1679 201 j (by simp [fz])).trans rfl)) ((q1679 23 2 (by decide)).trans rfl) ((q1679 23 3 (by decide)).trans rfl) (fun j => ((q1679 228 j (by simp [fz])).trans rfl)) (fun j => ((q1679 229 j (by simp [fz])).trans rfl)))))⟩ (nr_bool (R_of (lo := 0) (hi := 1) q1680 rfl)) dX1_readCrossing_53
            ·
              have r1683 : R (0) (0) v1611 := ⟨by omega, by omega⟩
              have p1684 := (QY_0 q1616) (by omega)
              obtain ⟨q1685, e1686, h1687, h1688⟩ := p1684
              refine r_iconst S dX1_readCrossing_34 (by decide) (fun v1689 z1690 => ?_)
              have r1691 := R_eq z1690
              exact r_ret S hr hlk X1609 ⟨q1612, F1617, (LR_eq hLR1449 (fun j => ((q1613 12 j (by simp [fz])).trans rfl)) (fun j => ((q1613 13 j (by simp [fz])).trans rfl)) (fun j => ((q1613 14 j (by simp [fz])).trans rfl))), (R_of r1691 rfl), (fun h => by exfalso; omega), (QY_l (by rw [← he1463, show 11 - i1444.toInt.toNat = (10 - i1444.toInt.toNat) + 1 by omega]; exact lCr_l (fun h => p1607 ⟨h.2.1, by have q := h.2.2; omega⟩) e1686) (by omega) h1687 h1688)⟩ (nr_bool (R_of (lo := 0) (hi := 1) r1691 rfl)) dX1_readCrossing_35
  exact L1455 _ τ _ _ _ v5 v8 v3 X hI Fr_rfl hLR (R_of r7 rfl) (R_of r10 rfl) z2 z4 ⟨by omega, by omega⟩ ⟨t, (fun _ => false), hR, BS_0 (by omega), (by rw [cnt10_0]; show v8.toInt = ((0 : Nat) : Int); omega), (by rw [show v8.toInt.toNat = 0 by omega])⟩ (lv_sub hl [2, 3, 1, 0] rfl) (Nat.lt_succ_self _)
def po_X1_readRaising_q (τ : Tau)    (bb : Nat → Int) (nb : Nat) (an mn : List (List Int)) (t : Tk) (r : Int32) (u : Tau) : Prop := Inv u ∧ Fr [(11, 1), (11, 2), (1, 3), (1, 4), (1, 5), (1, 7), (1, 8)] [12, 13, 14, 15, 201] τ u ∧ LR u ∧ R (0) (1) r ∧ (r.toInt = 1 → R (0) (0) (u 11 1)) ∧ QY 11 (lNm bb nb 400 an t) r u (fun g => RG bb nb 400 an mn u g)
set_option maxHeartbeats 4000000 in
set_option maxRecDepth 100000 in
theorem c_X1_readRaising_q (l : Launch) (G : Gx) (τ : Tau) (hI : Inv τ) (hf_0 : R (0) (39) (τ 11 3)) (hf_1 : R (0) (0) (τ 11 1)) (hLR : LR τ) (bb : Nat → Int) (nb : Nat) (an mn : List (List Int)) (t : Tk) (hR : RG bb nb 400 an mn τ t) : Ci l G yX1_readRaising cX1_readRaising 2 (some .boolean) 2 44 [.ref (G.2.2.2.1 11), .ref (G.2.2.2.1 23)] τ (po_X1_readRaising_q τ    bb nb an mn t) := by
  unfold Ci
  refine C_of (own := RX1) (by decide) rfl (Nat.le_of_ble_eq_true rfl) ?_
  intro p e s m below meth c ls S hr hlk X hl
  have hl : lv_has ls 2 [(0, .ref (G.2.2.2.1 11)), (1, .ref (G.2.2.2.1 23))] := hl
  obtain ⟨v1, z2⟩ : ∃ x, τ 11 3 = x := ⟨_, rfl⟩
  rw [z2] at hf_0
  obtain ⟨v3, z4⟩ : ∃ x, τ 11 1 = x := ⟨_, rfl⟩
  rw [z4] at hf_1
  refine r_aload_n S dX1_readRaising_0 rfl (lv_at hl 0 rfl) ?_
  refine r_aload_n S dX1_readRaising_1 rfl (lv_at hl 1 rfl) ?_
  refine r_ki (q_U (As := [.ref (G.2.2.2.1 23)]) (rest := []) (K := 11) (ci := 1) S X (c_X8_seeAsk_t11 l G τ hI (by rw [z4]; exact R_of hf_1 rfl) bb nb an mn t hR ) ck1_103_1 (Nat.le_of_ble_eq_true rfl) rfl (fun _ => ⟨_, rfl⟩) ⟨_, _, rfl⟩ ⟨Nat.le_of_ble_eq_true rfl, Nat.le_of_ble_eq_true rfl⟩ rfl hl.1 rfl (Nat.le_of_ble_eq_true rfl) dX1_readRaising_2 ⟨Nat.le_refl 0, Nat.le_refl 0⟩) X (fun v8 t7 H lc q5 X6 => ?_)
  unfold po_X8_seeAsk_t11 at q5
  obtain ⟨q9, q10, q11, q12, q13⟩ := q5
  have F14 : Fr [(11, 1), (11, 2), (1, 3), (1, 4), (1, 5), (1, 7), (1, 8)] [12, 13, 14, 15, 201] τ t7 := Fr_call Fr_rfl q10 (by decide)
  refine r_if_ne (tgt := 10) S dX1_readRaising_5 (by decide) (fun c15 => ?_) (fun c15 => ?_)
  ·
    have r16 : R (1) (1) v8 := ⟨by omega, by omega⟩
    obtain ⟨p17, p18⟩ := q12 (by omega)
    obtain ⟨v19, z20⟩ : ∃ x, t7 11 2 = x := ⟨_, rfl⟩
    rw [z20] at p17
    obtain ⟨v21, z22⟩ : ∃ x, t7 11 1 = x := ⟨_, rfl⟩
    rw [z22] at p18
    have p23 := (QY_1 q13) (by omega)
    obtain ⟨g24, e25, hP26⟩ := p23
    refine r_aload_n S dX1_readRaising_10 rfl (lv_at hl 0 rfl) ?_
    refine r_get (K := 11) (v := .ref (G.2.2.2.1 1)) S X6 (Nat.le_of_ble_eq_true rfl) rfl lk1_32_1 (fun _ => ⟨_, rfl, rfl⟩) dX1_readRaising_11 ?_
    refine r_kv (q_V (As := []) (rest := []) (K := 1) (ci := 7) S X6 (c_X7_step_q l G t7 q9 bb nb 400 t.2.2 (RT_st hP26.2.1 (Or.inl (sLook_n e25).1)).1 (RT_st hP26.2.1 (Or.inl (sLook_n e25).1)).2.1 (RT_st hP26.2.1 (Or.inl (sLook_n e25).1)).2.2) ck1_75 (Nat.le_of_ble_eq_true rfl) rfl (fun _ => ⟨_, rfl⟩) ⟨_, _, rfl⟩ ⟨Nat.le_of_ble_eq_true rfl, Nat.le_of_ble_eq_true rfl⟩ rfl hl.1 rfl (Nat.le_of_ble_eq_true rfl) dX1_readRaising_14 ⟨Nat.le_refl 0, Nat.le_refl 0⟩) X6 (fun t29 H lc q27 X28 => ?_)
    unfold po_X7_step_q at q27
    obtain ⟨q30, q31, q32⟩ := q27
    have F33 : Fr [(11, 1), (11, 2), (1, 3), (1, 4), (1, 5), (1, 7), (1, 8)] [12, 13, 14, 15, 201] τ t29 := Fr_call F14 q31 (by decide)
    have hR34 : RG bb nb 400 an mn t29 (nx bb nb 400 t) := ⟨q32, NM2_fr hP26.2.2 ((q31 23 2 (by decide)).trans rfl) ((q31 23 3 (by decide)).trans rfl) (fun j => ((q31 228 j (by simp [fz])).trans rfl)) (fun j => ((q31 229 j (by simp [fz])).trans rfl))⟩
    refine r_aload_n S dX1_readRaising_17 rfl (lv_at hl 0 rfl) ?_
    refine r_iconst S dX1_readRaising_18 (by decide) (fun v35 z36 => ?_)
    have r37 := R_eq z36
    refine r_iconst S dX1_readRaising_19 (by decide) (fun v38 z39 => ?_)
    have r40 := R_eq z39
    refine r_aload_n S dX1_readRaising_20 rfl (lv_at hl 0 rfl) ?_
    refine r_geti (K := 11) S X28 (Nat.le_of_ble_eq_true rfl) rfl lk1_72_1 (fun _ => ⟨_, rfl, rfl⟩) ((q31 11 2 (by decide)).trans z20) dX1_readRaising_21 ?_
    refine r_iconst S dX1_readRaising_24 (by decide) (fun v41 z42 => ?_)
    have r43 := R_eq z42
    refine r_ki (q_V (As := [.int v35, .int v38, .int v19, .int v41]) (rest := []) (K := 11) (ci := 1) S X28 (c_X1_keep_1 l G t29 q30 v35 v38 v19 v41 r37 r40 p17 r43 (by rw [((q31 11 3 (by decide)).trans ((q10 11 3 (by decide)).trans z2))]; exact R_of hf_0 rfl) (LR_eq hLR (fun j => ((q31 12 j (by simp [fz])).trans ((q10 12 j (by simp [fz])).trans rfl))) (fun j => ((q31 13 j (by simp [fz])).trans ((q10 13 j (by simp [fz])).trans rfl))) (fun j => ((q31 14 j (by simp [fz])).trans ((q10 14 j (by simp [fz])).trans rfl))))) ck1_99 (Nat.le_of_ble_eq_true rfl) rfl (fun _ => ⟨_, rfl⟩) ⟨_, _, rfl⟩ ⟨Nat.le_of_ble_eq_true rfl, Nat.le_of_ble_eq_true rfl⟩ rfl hl.1 rfl (Nat.le_of_ble_eq_true rfl) dX1_readRaising_25 ⟨Nat.le_refl 0, Nat.le_refl 0⟩) X28 (fun v47 t46 H lc q44 X45 => ?_)
    unfold po_X1_keep_1 at q44
    obtain ⟨q48, q49, q50, q51⟩ := q44
    have F52 : Fr [(11, 1), (11, 2), (1, 3), (1, 4), (1, 5), (1, 7), (1, 8)] [12, 13, 14, 15, 201] τ t46 := Fr_call F33 q49 (by decide)
    exact r_ret S hr hlk X45 ⟨q48, F52, q50, (R_of q51 rfl), (fun h => (by rw [((q49 11 1 (by decide)).trans ((q31 11 1 (by decide)).trans z22))]; exact R_of p18 rfl)), (QY_r (thn_r e25) (by omega) (RG_fr hR34 (fun j => ((q49 1 j (by simp [fz])).trans rfl)) (fun j => ((q49 2 j (by simp [fz])).trans rfl)) (fun j => ((q49 201 j (by simp [fz])).trans rfl)) ((q49 23 2 (by decide)).trans rfl) ((q49 23 3 (by decide)).trans rfl) (fun j => ((q49 228 j (by simp [fz])).trans rfl)) (fun j => ((q49 229 j (by simp [fz])).trans rfl))))⟩ (nr_bool (R_of (lo := 0) (hi := 1) q51 rfl)) dX1_readRaising_28
  ·
    have r53 : R (0) (0) v8 := ⟨by omega, by omega⟩
    have p54 := (QY_0 q13) (by omega)
    obtain ⟨q55, e56, h57, h58⟩ := p54
    refine r_iconst S dX1_readRaising_8 (by decide) (fun v59 z60 => ?_)
    have r61 := R_eq z60
    exact r_ret S hr hlk X6 ⟨q9, F14, (LR_eq hLR (fun j => ((q10 12 j (by simp [fz])).trans rfl)) (fun j => ((q10 13 j (by simp [fz])).trans rfl)) (fun j => ((q10 14 j (by simp [fz])).trans rfl))), (R_of r61 rfl), (fun h => by exfalso; omega), (QY_l (thn_l e56) (by omega) h57 h58)⟩ (nr_bool (R_of (lo := 0) (hi := 1) r61 rfl)) dX1_readRaising_9
def po_X1_readHiring_q (τ : Tau)    (bb : Nat → Int) (nb : Nat) (an mn : List (List Int)) (t : Tk) (r : Int32) (u : Tau) : Prop := Inv u ∧ Fr [(11, 1), (11, 2), (1, 3), (1, 4), (1, 5), (1, 7), (1, 8)] [12, 13, 14, 15, 201] τ u ∧ LR u ∧ R (0) (1) r ∧ (r.toInt = 1 → R (0) (0) (u 11 1)) ∧ QY 11 (lNm bb nb 400 mn t) r u (fun g => RG bb nb 400 an mn u g)
set_option maxHeartbeats 4000000 in
set_option maxRecDepth 100000 in
theorem c_X1_readHiring_q (l : Launch) (G : Gx) (τ : Tau) (hI : Inv τ) (hf_0 : R (0) (39) (τ 11 3)) (hf_1 : R (0) (0) (τ 11 1)) (hLR : LR τ) (bb : Nat → Int) (nb : Nat) (an mn : List (List Int)) (t : Tk) (hR : RG bb nb 400 an mn τ t) : Ci l G yX1_readHiring cX1_readHiring 2 (some .boolean) 2 44 [.ref (G.2.2.2.1 11), .ref (G.2.2.2.1 23)] τ (po_X1_readHiring_q τ    bb nb an mn t) := by
  unfold Ci
  refine C_of (own := RX1) (by decide) rfl (Nat.le_of_ble_eq_true rfl) ?_
  intro p e s m below meth c ls S hr hlk X hl
  have hl : lv_has ls 2 [(0, .ref (G.2.2.2.1 11)), (1, .ref (G.2.2.2.1 23))] := hl
  obtain ⟨v1, z2⟩ : ∃ x, τ 11 3 = x := ⟨_, rfl⟩
  rw [z2] at hf_0
  obtain ⟨v3, z4⟩ : ∃ x, τ 11 1 = x := ⟨_, rfl⟩
  rw [z4] at hf_1
  refine r_aload_n S dX1_readHiring_0 rfl (lv_at hl 0 rfl) ?_
  refine r_aload_n S dX1_readHiring_1 rfl (lv_at hl 1 rfl) ?_
  refine r_ki (q_U (As := [.ref (G.2.2.2.1 23)]) (rest := []) (K := 11) (ci := 1) S X (c_X8_seeMan_t11 l G τ hI (by rw [z4]; exact R_of hf_1 rfl) bb nb an mn t hR ) ck1_65_1 (Nat.le_of_ble_eq_true rfl) rfl (fun _ => ⟨_, rfl⟩) ⟨_, _, rfl⟩ ⟨Nat.le_of_ble_eq_true rfl, Nat.le_of_ble_eq_true rfl⟩ rfl hl.1 rfl (Nat.le_of_ble_eq_true rfl) dX1_readHiring_2 ⟨Nat.le_refl 0, Nat.le_refl 0⟩) X (fun v8 t7 H lc q5 X6 => ?_)
  unfold po_X8_seeMan_t11 at q5
  obtain ⟨q9, q10, q11, q12, q13⟩ := q5
  have F14 : Fr [(11, 1), (11, 2), (1, 3), (1, 4), (1, 5), (1, 7), (1, 8)] [12, 13, 14, 15, 201] τ t7 := Fr_call Fr_rfl q10 (by decide)
  refine r_if_ne (tgt := 10) S dX1_readHiring_5 (by decide) (fun c15 => ?_) (fun c15 => ?_)
  ·
    have r16 : R (1) (1) v8 := ⟨by omega, by omega⟩
    obtain ⟨p17, p18⟩ := q12 (by omega)
    obtain ⟨v19, z20⟩ : ∃ x, t7 11 2 = x := ⟨_, rfl⟩
    rw [z20] at p17
    obtain ⟨v21, z22⟩ : ∃ x, t7 11 1 = x := ⟨_, rfl⟩
    rw [z22] at p18
    have p23 := (QY_1 q13) (by omega)
    obtain ⟨g24, e25, hP26⟩ := p23
    refine r_aload_n S dX1_readHiring_10 rfl (lv_at hl 0 rfl) ?_
    refine r_get (K := 11) (v := .ref (G.2.2.2.1 1)) S X6 (Nat.le_of_ble_eq_true rfl) rfl lk1_32_1 (fun _ => ⟨_, rfl, rfl⟩) dX1_readHiring_11 ?_
    refine r_kv (q_V (As := []) (rest := []) (K := 1) (ci := 7) S X6 (c_X7_step_q l G t7 q9 bb nb 400 t.2.2 (RT_st hP26.2.1 (Or.inl (sLook_n e25).1)).1 (RT_st hP26.2.1 (Or.inl (sLook_n e25).1)).2.1 (RT_st hP26.2.1 (Or.inl (sLook_n e25).1)).2.2) ck1_75 (Nat.le_of_ble_eq_true rfl) rfl (fun _ => ⟨_, rfl⟩) ⟨_, _, rfl⟩ ⟨Nat.le_of_ble_eq_true rfl, Nat.le_of_ble_eq_true rfl⟩ rfl hl.1 rfl (Nat.le_of_ble_eq_true rfl) dX1_readHiring_14 ⟨Nat.le_refl 0, Nat.le_refl 0⟩) X6 (fun t29 H lc q27 X28 => ?_)
    unfold po_X7_step_q at q27
    obtain ⟨q30, q31, q32⟩ := q27
    have F33 : Fr [(11, 1), (11, 2), (1, 3), (1, 4), (1, 5), (1, 7), (1, 8)] [12, 13, 14, 15, 201] τ t29 := Fr_call F14 q31 (by decide)
    have hR34 : RG bb nb 400 an mn t29 (nx bb nb 400 t) := ⟨q32, NM2_fr hP26.2.2 ((q31 23 2 (by decide)).trans rfl) ((q31 23 3 (by decide)).trans rfl) (fun j => ((q31 228 j (by simp [fz])).trans rfl)) (fun j => ((q31 229 j (by simp [fz])).trans rfl))⟩
    refine r_aload_n S dX1_readHiring_17 rfl (lv_at hl 0 rfl) ?_
    refine r_iconst S dX1_readHiring_18 (by decide) (fun v35 z36 => ?_)
    have r37 := R_eq z36
    refine r_aload_n S dX1_readHiring_19 rfl (lv_at hl 0 rfl) ?_
    refine r_geti (K := 11) S X28 (Nat.le_of_ble_eq_true rfl) rfl lk1_72_1 (fun _ => ⟨_, rfl, rfl⟩) ((q31 11 2 (by decide)).trans z20) dX1_readHiring_20 ?_
    refine r_iconst S dX1_readHiring_23 (by decide) (fun v38 z39 => ?_)
    have r40 := R_eq z39
    refine r_iconst S dX1_readHiring_24 (by decide) (fun v41 z42 => ?_)
    have r43 := R_eq z42
    refine r_ki (q_V (As := [.int v35, .int v19, .int v38, .int v41]) (rest := []) (K := 11) (ci := 1) S X28 (c_X1_keep_2 l G t29 q30 v35 v19 v38 v41 r37 p17 r40 r43 (by rw [((q31 11 3 (by decide)).trans ((q10 11 3 (by decide)).trans z2))]; exact R_of hf_0 rfl) (LR_eq hLR (fun j => ((q31 12 j (by simp [fz])).trans ((q10 12 j (by simp [fz])).trans rfl))) (fun j => ((q31 13 j (by simp [fz])).trans ((q10 13 j (by simp [fz])).trans rfl))) (fun j => ((q31 14 j (by simp [fz])).trans ((q10 14 j (by simp [fz])).trans rfl))))) ck1_99 (Nat.le_of_ble_eq_true rfl) rfl (fun _ => ⟨_, rfl⟩) ⟨_, _, rfl⟩ ⟨Nat.le_of_ble_eq_true rfl, Nat.le_of_ble_eq_true rfl⟩ rfl hl.1 rfl (Nat.le_of_ble_eq_true rfl) dX1_readHiring_25 ⟨Nat.le_refl 0, Nat.le_refl 0⟩) X28 (fun v47 t46 H lc q44 X45 => ?_)
    unfold po_X1_keep_2 at q44
    obtain ⟨q48, q49, q50, q51⟩ := q44
    have F52 : Fr [(11, 1), (11, 2), (1, 3), (1, 4), (1, 5), (1, 7), (1, 8)] [12, 13, 14, 15, 201] τ t46 := Fr_call F33 q49 (by decide)
    exact r_ret S hr hlk X45 ⟨q48, F52, q50, (R_of q51 rfl), (fun h => (by rw [((q49 11 1 (by decide)).trans ((q31 11 1 (by decide)).trans z22))]; exact R_of p18 rfl)), (QY_r (thn_r e25) (by omega) (RG_fr hR34 (fun j => ((q49 1 j (by simp [fz])).trans rfl)) (fun j => ((q49 2 j (by simp [fz])).trans rfl)) (fun j => ((q49 201 j (by simp [fz])).trans rfl)) ((q49 23 2 (by decide)).trans rfl) ((q49 23 3 (by decide)).trans rfl) (fun j => ((q49 228 j (by simp [fz])).trans rfl)) (fun j => ((q49 229 j (by simp [fz])).trans rfl))))⟩ (nr_bool (R_of (lo := 0) (hi := 1) q51 rfl)) dX1_readHiring_28
  ·
    have r53 : R (0) (0) v8 := ⟨by omega, by omega⟩
    have p54 := (QY_0 q13) (by omega)
    obtain ⟨q55, e56, h57, h58⟩ := p54
    refine r_iconst S dX1_readHiring_8 (by decide) (fun v59 z60 => ?_)
    have r61 := R_eq z60
    exact r_ret S hr hlk X6 ⟨q9, F14, (LR_eq hLR (fun j => ((q10 12 j (by simp [fz])).trans rfl)) (fun j => ((q10 13 j (by simp [fz])).trans rfl)) (fun j => ((q10 14 j (by simp [fz])).trans rfl))), (R_of r61 rfl), (fun h => by exfalso; omega), (QY_l (thn_l e56) (by omega) h57 h58)⟩ (nr_bool (R_of (lo := 0) (hi := 1) r61 rfl)) dX1_readHiring_9
def po_X1_readSpeech_q (τ : Tau)  (a1 : Int32)  (bb : Nat → Int) (nb : Nat) (an mn : List (List Int)) (t : Tk) (r : Int32) (u : Tau) : Prop := Inv u ∧ Fr [(11, 1), (11, 2), (1, 3), (1, 4), (1, 5), (1, 7), (1, 8)] [12, 13, 14, 15, 201] τ u ∧ LR u ∧ R (0) (1) r ∧ (r.toInt = 1 → R (0) (0) (u 11 1)) ∧ QY 11 (lSp bb nb 400 an t) r u (fun g => RG bb nb 400 an mn u g)
set_option maxHeartbeats 4000000 in
set_option maxRecDepth 100000 in
theorem c_X1_readSpeech_q (l : Launch) (G : Gx) (τ : Tau) (hI : Inv τ) (a1 : Int32) (h_a1 : R (0) (9) a1) (hf_0 : R (0) (39) (τ 11 3)) (hf_1 : R (0) (0) (τ 11 1)) (hLR : LR τ) (bb : Nat → Int) (nb : Nat) (an mn : List (List Int)) (t : Tk) (hR : RG bb nb 400 an mn τ t) : Ci l G yX1_readSpeech cX1_readSpeech 6 (some .boolean) 2 46 [.ref (G.2.2.2.1 11), .ref (G.2.2.2.1 23), .int a1] τ (po_X1_readSpeech_q τ  a1  bb nb an mn t) := by
  unfold Ci
  refine C_of (own := RX1) (by decide) rfl (Nat.le_of_ble_eq_true rfl) ?_
  intro p e s m below meth c ls S hr hlk X hl
  have hl : lv_has ls 6 [(0, .ref (G.2.2.2.1 11)), (1, .ref (G.2.2.2.1 23)), (2, .int a1)] := hl
  obtain ⟨v1, z2⟩ : ∃ x, τ 11 3 = x := ⟨_, rfl⟩
  rw [z2] at hf_0
  obtain ⟨v3, z4⟩ : ∃ x, τ 11 1 = x := ⟨_, rfl⟩
  rw [z4] at hf_1
  refine r_aload_n S dX1_readSpeech_0 rfl (lv_at hl 0 rfl) ?_
  refine r_get (K := 11) (v := .ref (G.2.2.2.1 1)) S X (Nat.le_of_ble_eq_true rfl) rfl lk1_32_1 (fun _ => ⟨_, rfl, rfl⟩) dX1_readSpeech_1 ?_
  refine r_wst (i := 11) S X (by decide) kw52 dX1_readSpeech_4 ?_
  refine r_ki (q_V (As := [.ref (G.2.2.1 11)]) (rest := []) (K := 1) (ci := 7) S X (c_X7_is_q l G τ hI 11 (by decide) bb nb 400 t hR.1) ck1_55 (Nat.le_of_ble_eq_true rfl) rfl (fun _ => ⟨_, rfl⟩) ⟨_, _, rfl⟩ ⟨Nat.le_of_ble_eq_true rfl, Nat.le_of_ble_eq_true rfl⟩ rfl hl.1 rfl (Nat.le_of_ble_eq_true rfl) dX1_readSpeech_7 ⟨Nat.le_refl 0, Nat.le_refl 0⟩) X (fun v8 t7 H lc q5 X6 => ?_)
  unfold po_X7_is_q at q5
  obtain ⟨q9, q10, q11⟩ := q5
  rw [q9] at X6
  refine r_istore_n (lv' := [(3, .int v8), (0, .ref (G.2.2.2.1 11)), (1, .ref (G.2.2.2.1 23)), (2, .int a1)]) S dX1_readSpeech_10 rfl hl (by decide) rfl (fun ls hl => ?_)
  refine r_iload_n S dX1_readSpeech_11 rfl (lv_at hl 0 rfl) ?_
  refine r_if_ne (tgt := 34) S dX1_readSpeech_12 (by decide) (fun c12 => ?_) (fun c12 => ?_)
  ·
    have r13 : R (1) (1) v8 := ⟨by omega, by omega⟩
    have p14 := (q11).mp (by omega)
    refine r_aload_n S dX1_readSpeech_34 rfl (lv_at hl 1 rfl) ?_
    refine r_get (K := 11) (v := .ref (G.2.2.2.1 1)) S X6 (Nat.le_of_ble_eq_true rfl) rfl lk1_32_1 (fun _ => ⟨_, rfl, rfl⟩) dX1_readSpeech_35 ?_
    refine r_kv (q_V (As := []) (rest := []) (K := 1) (ci := 7) S X6 (c_X7_step_q l G τ hI bb nb 400 t.2.2 (RT_st hR.1 (Or.inl p14.1)).1 (RT_st hR.1 (Or.inl p14.1)).2.1 (RT_st hR.1 (Or.inl p14.1)).2.2) ck1_75 (Nat.le_of_ble_eq_true rfl) rfl (fun _ => ⟨_, rfl⟩) ⟨_, _, rfl⟩ ⟨Nat.le_of_ble_eq_true rfl, Nat.le_of_ble_eq_true rfl⟩ rfl hl.1 rfl (Nat.le_of_ble_eq_true rfl) dX1_readSpeech_38 ⟨Nat.le_refl 0, Nat.le_refl 0⟩) X6 (fun t17 H lc q15 X16 => ?_)
    unfold po_X7_step_q at q15
    obtain ⟨q18, q19, q20⟩ := q15
    have F21 : Fr [(11, 1), (11, 2), (1, 3), (1, 4), (1, 5), (1, 7), (1, 8)] [12, 13, 14, 15, 201] τ t17 := Fr_call Fr_rfl q19 (by decide)
    have hR22 : RG bb nb 400 an mn t17 (nx bb nb 400 t) := ⟨q20, NM2_fr hR.2 ((q19 23 2 (by decide)).trans rfl) ((q19 23 3 (by decide)).trans rfl) (fun j => ((q19 228 j (by simp [fz])).trans rfl)) (fun j => ((q19 229 j (by simp [fz])).trans rfl))⟩
    refine r_aload_n S dX1_readSpeech_41 rfl (lv_at hl 1 rfl) ?_
    refine r_aload_n S dX1_readSpeech_42 rfl (lv_at hl 2 rfl) ?_
    refine r_ki (q_U (As := [.ref (G.2.2.2.1 23)]) (rest := []) (K := 11) (ci := 1) S X16 (c_X8_seeAsk_t11 l G t17 q18 (by rw [((q19 11 1 (by decide)).trans z4)]; exact R_of hf_1 rfl) bb nb an mn (nx bb nb 400 t) hR22 ) ck1_103_1 (Nat.le_of_ble_eq_true rfl) rfl (fun _ => ⟨_, rfl⟩) ⟨_, _, rfl⟩ ⟨Nat.le_of_ble_eq_true rfl, Nat.le_of_ble_eq_true rfl⟩ rfl hl.1 rfl (Nat.le_of_ble_eq_true rfl) dX1_readSpeech_43 ⟨Nat.le_refl 0, Nat.le_refl 0⟩) X16 (fun v26 t25 H lc q23 X24 => ?_)
    unfold po_X8_seeAsk_t11 at q23
    obtain ⟨q27, q28, q29, q30, q31⟩ := q23
    have F32 : Fr [(11, 1), (11, 2), (1, 3), (1, 4), (1, 5), (1, 7), (1, 8)] [12, 13, 14, 15, 201] τ t25 := Fr_call F21 q28 (by decide)
    refine r_if_ne (tgt := 51) S dX1_readSpeech_46 (by decide) (fun c33 => ?_) (fun c33 => ?_)
    ·
      have r34 : R (1) (1) v26 := ⟨by omega, by omega⟩
      obtain ⟨p35, p36⟩ := q30 (by omega)
      obtain ⟨v37, z38⟩ : ∃ x, t25 11 2 = x := ⟨_, rfl⟩
      rw [z38] at p35
      obtain ⟨v39, z40⟩ : ∃ x, t25 11 1 = x := ⟨_, rfl⟩
      rw [z40] at p36
      have p41 := (QY_1 q31) (by omega)
      obtain ⟨g42, e43, hP44⟩ := p41
      refine r_aload_n S dX1_readSpeech_51 rfl (lv_at hl 1 rfl) ?_
      refine r_geti (K := 11) S X24 (Nat.le_of_ble_eq_true rfl) rfl lk1_72_1 (fun _ => ⟨_, rfl, rfl⟩) z38 dX1_readSpeech_52 ?_
      refine r_istore (lv' := [(4, .int v37), (3, .int v8), (0, .ref (G.2.2.2.1 11)), (1, .ref (G.2.2.2.1 23)), (2, .int a1)]) S dX1_readSpeech_55 hl (by decide) rfl (fun ls hl => ?_)
      refine r_aload_n S dX1_readSpeech_57 rfl (lv_at hl 2 rfl) ?_
      refine r_get (K := 11) (v := .ref (G.2.2.2.1 1)) S X24 (Nat.le_of_ble_eq_true rfl) rfl lk1_32_1 (fun _ => ⟨_, rfl, rfl⟩) dX1_readSpeech_58 ?_
      refine r_kv (q_V (As := []) (rest := []) (K := 1) (ci := 7) S X24 (c_X7_step_q l G t25 q27 bb nb 400 (nx bb nb 400 t).2.2 (RT_st hP44.2.1 (Or.inl (sLook_n e43).1)).1 (RT_st hP44.2.1 (Or.inl (sLook_n e43).1)).2.1 (RT_st hP44.2.1 (Or.inl (sLook_n e43).1)).2.2) ck1_75 (Nat.le_of_ble_eq_true rfl) rfl (fun _ => ⟨_, rfl⟩) ⟨_, _, rfl⟩ ⟨Nat.le_of_ble_eq_true rfl, Nat.le_of_ble_eq_true rfl⟩ rfl hl.1 rfl (Nat.le_of_ble_eq_true rfl) dX1_readSpeech_61 ⟨Nat.le_refl 0, Nat.le_refl 0⟩) X24 (fun t47 H lc q45 X46 => ?_)
      unfold po_X7_step_q at q45
      obtain ⟨q48, q49, q50⟩ := q45
      have F51 : Fr [(11, 1), (11, 2), (1, 3), (1, 4), (1, 5), (1, 7), (1, 8)] [12, 13, 14, 15, 201] τ t47 := Fr_call F32 q49 (by decide)
      have hR52 : RG bb nb 400 an mn t47 (nx bb nb 400 (nx bb nb 400 t)) := ⟨q50, NM2_fr hP44.2.2 ((q49 23 2 (by decide)).trans rfl) ((q49 23 3 (by decide)).trans rfl) (fun j => ((q49 228 j (by simp [fz])).trans rfl)) (fun j => ((q49 229 j (by simp [fz])).trans rfl))⟩
      refine r_aload_n S dX1_readSpeech_64 rfl (lv_at hl 2 rfl) ?_
      refine r_ki (q_U (As := []) (rest := []) (K := 11) (ci := 1) S X46 (c_X8_takeYesOrNo_t11 l G t47 q48 (by rw [((q49 11 1 (by decide)).trans z40)]; exact R_of p36 rfl) bb nb an mn (nx bb nb 400 (nx bb nb 400 t)) hR52 ) ck1_112_1 (Nat.le_of_ble_eq_true rfl) rfl (fun _ => ⟨_, rfl⟩) ⟨_, _, rfl⟩ ⟨Nat.le_of_ble_eq_true rfl, Nat.le_of_ble_eq_true rfl⟩ rfl hl.1 rfl (Nat.le_of_ble_eq_true rfl) dX1_readSpeech_65 ⟨Nat.le_refl 0, Nat.le_refl 0⟩) X46 (fun v56 t55 H lc q53 X54 => ?_)
      unfold po_X8_takeYesOrNo_t11 at q53
      obtain ⟨q57, q58, q59, q60, q61⟩ := q53
      have F62 : Fr [(11, 1), (11, 2), (1, 3), (1, 4), (1, 5), (1, 7), (1, 8)] [12, 13, 14, 15, 201] τ t55 := Fr_call F51 q58 (by decide)
      refine r_if_ne (tgt := 73) S dX1_readSpeech_68 (by decide) (fun c63 => ?_) (fun c63 => ?_)
      ·
        have r64 : R (1) (1) v56 := ⟨by omega, by omega⟩
        obtain ⟨p65, p66⟩ := q60 (by omega)
        obtain ⟨v67, z68⟩ : ∃ x, t55 11 2 = x := ⟨_, rfl⟩
        rw [z68] at p65
        obtain ⟨v69, z70⟩ : ∃ x, t55 11 1 = x := ⟨_, rfl⟩
        rw [z70] at p66
        have p71 := (QY_1 q61) (by omega)
        obtain ⟨g72, e73, hP74⟩ := p71
        refine r_aload_n S dX1_readSpeech_73 rfl (lv_at hl 2 rfl) ?_
        refine r_geti (K := 11) S X54 (Nat.le_of_ble_eq_true rfl) rfl lk1_72_1 (fun _ => ⟨_, rfl, rfl⟩) z68 dX1_readSpeech_74 ?_
        refine r_istore (lv' := [(5, .int v67), (4, .int v37), (3, .int v8), (0, .ref (G.2.2.2.1 11)), (1, .ref (G.2.2.2.1 23)), (2, .int a1)]) S dX1_readSpeech_77 hl (by decide) rfl (fun ls hl => ?_)
        refine r_aload_n S dX1_readSpeech_79 rfl (lv_at hl 3 rfl) ?_
        refine r_iconst S dX1_readSpeech_80 (by decide) (fun v75 z76 => ?_)
        have r77 := R_eq z76
        refine r_bipush S dX1_readSpeech_81 (by decide) (fun v78 z79 => ?_)
        have r80 := R_eq z79
        refine r_ki (q_U (As := [.int v75, .int v78]) (rest := []) (K := 11) (ci := 1) S X54 (c_X8_takeNumber_t11 l G t55 q57 v75 v78 r77 r80 (by rw [z70]; exact R_of p66 rfl) bb nb an mn g72 hP74.2 ) ck1_116_1 (Nat.le_of_ble_eq_true rfl) rfl (fun _ => ⟨_, rfl⟩) ⟨_, _, rfl⟩ ⟨Nat.le_of_ble_eq_true rfl, Nat.le_of_ble_eq_true rfl⟩ rfl hl.1 rfl (Nat.le_of_ble_eq_true rfl) dX1_readSpeech_83 ⟨Nat.le_refl 0, Nat.le_refl 0⟩) X54 (fun v84 t83 H lc q81 X82 => ?_)
        unfold po_X8_takeNumber_t11 at q81
        obtain ⟨q85, q86, q87, q88, q89⟩ := q81
        have F90 : Fr [(11, 1), (11, 2), (1, 3), (1, 4), (1, 5), (1, 7), (1, 8)] [12, 13, 14, 15, 201] τ t83 := Fr_call F62 q86 (by decide)
        refine r_if_ne (tgt := 91) S dX1_readSpeech_86 (by decide) (fun c91 => ?_) (fun c91 => ?_)
        ·
          have r92 : R (1) (1) v84 := ⟨by omega, by omega⟩
          obtain ⟨p93, p94⟩ := q88 (by omega)
          obtain ⟨v95, z96⟩ : ∃ x, t83 11 2 = x := ⟨_, rfl⟩
          rw [z96] at p93
          obtain ⟨v97, z98⟩ : ∃ x, t83 11 1 = x := ⟨_, rfl⟩
          rw [z98] at p94
          have p99 := (QY_1 q89) (by omega)
          obtain ⟨g100, e101, hP102⟩ := p99
          refine r_aload_n S dX1_readSpeech_91 rfl (lv_at hl 3 rfl) ?_
          refine r_iload_n S dX1_readSpeech_92 rfl (lv_at hl 2 rfl) ?_
          refine r_if_eq (tgt := 100) S dX1_readSpeech_93 (by decide) (fun c103 => ?_) (fun c103 => ?_)
          ·
            exfalso; omega
          ·
            refine r_iconst S dX1_readSpeech_96 (by decide) (fun v104 z105 => ?_)
            have r106 := R_eq z105
            refine r_goto (tgt := 101) S dX1_readSpeech_97 (by decide) ?_
            refine r_iload_n S dX1_readSpeech_101 rfl (lv_at hl 5 rfl) ?_
            refine r_iload S dX1_readSpeech_102 (lv_at hl 1 rfl) ?_
            refine r_iload S dX1_readSpeech_104 (lv_at hl 0 rfl) ?_
            refine r_aload_n S dX1_readSpeech_106 rfl (lv_at hl 3 rfl) ?_
            refine r_geti (K := 11) S X82 (Nat.le_of_ble_eq_true rfl) rfl lk1_72_1 (fun _ => ⟨_, rfl, rfl⟩) z96 dX1_readSpeech_107 ?_
            refine r_imul S dX1_readSpeech_110 (fun v107 z108 => ?_)
            obtain ⟨e109, r110⟩ := i_mul (lo := -9) (hi := 9) z108 p65 p93 rfl rfl
            refine r_ki (q_V (As := [.int v104, .int a1, .int v37, .int v107]) (rest := []) (K := 11) (ci := 1) S X82 (c_X1_keep_3 l G t83 q85 v104 a1 v37 v107 r106 h_a1 p35 r110 (by rw [((q86 11 3 (by decide)).trans ((q58 11 3 (by decide)).trans ((q49 11 3 (by decide)).trans ((q28 11 3 (by decide)).trans ((q19 11 3 (by decide)).trans z2)))))]; exact R_of hf_0 rfl) (LR_eq hLR (fun j => ((q86 12 j (by simp [fz])).trans ((q58 12 j (by simp [fz])).trans ((q49 12 j (by simp [fz])).trans ((q28 12 j (by simp [fz])).trans ((q19 12 j (by simp [fz])).trans rfl)))))) (fun j => ((q86 13 j (by simp [fz])).trans ((q58 13 j (by simp [fz])).trans ((q49 13 j (by simp [fz])).trans ((q28 13 j (by simp [fz])).trans ((q19 13 j (by simp [fz])).trans rfl)))))) (fun j => ((q86 14 j (by simp [fz])).trans ((q58 14 j (by simp [fz])).trans ((q49 14 j (by simp [fz])).trans ((q28 14 j (by simp [fz])).trans ((q19 14 j (by simp [fz])).trans rfl)))))))) ck1_99 (Nat.le_of_ble_eq_true rfl) rfl (fun _ => ⟨_, rfl⟩) ⟨_, _, rfl⟩ ⟨Nat.le_of_ble_eq_true rfl, Nat.le_of_ble_eq_true rfl⟩ rfl hl.1 rfl (Nat.le_of_ble_eq_true rfl) dX1_readSpeech_111 ⟨Nat.le_refl 0, Nat.le_refl 0⟩) X82 (fun v114 t113 H lc q111 X112 => ?_)
            unfold po_X1_keep_3 at q111
            obtain ⟨q115, q116, q117, q118⟩ := q111
            have F119 : Fr [(11, 1), (11, 2), (1, 3), (1, 4), (1, 5), (1, 7), (1, 8)] [12, 13, 14, 15, 201] τ t113 := Fr_call F90 q116 (by decide)
            exact r_ret S hr hlk X112 ⟨q115, F119, q117, (R_of q118 rfl), (fun h => (by rw [((q116 11 1 (by decide)).trans z98)]; exact R_of p94 rfl)), (QY_r ((((lSp_r (Or.inl p14)).trans (thn_r (thn_r e43))).trans (thn_r e73)).trans (thn_r e101)) (by omega) (RG_fr hP102.2 (fun j => ((q116 1 j (by simp [fz])).trans rfl)) (fun j => ((q116 2 j (by simp [fz])).trans rfl)) (fun j => ((q116 201 j (by simp [fz])).trans rfl)) ((q116 23 2 (by decide)).trans rfl) ((q116 23 3 (by decide)).trans rfl) (fun j => ((q116 228 j (by simp [fz])).trans rfl)) (fun j => ((q116 229 j (by simp [fz])).trans rfl))))⟩ (nr_bool (R_of (lo := 0) (hi := 1) q118 rfl)) dX1_readSpeech_114
        ·
          have r120 : R (0) (0) v84 := ⟨by omega, by omega⟩
          have p121 := (QY_0 q89) (by omega)
          obtain ⟨q122, e123, h124, h125⟩ := p121
          refine r_iconst S dX1_readSpeech_89 (by decide) (fun v126 z127 => ?_)
          have r128 := R_eq z127
          exact r_ret S hr hlk X82 ⟨q85, F90, (LR_eq hLR (fun j => ((q86 12 j (by simp [fz])).trans ((q58 12 j (by simp [fz])).trans ((q49 12 j (by simp [fz])).trans ((q28 12 j (by simp [fz])).trans ((q19 12 j (by simp [fz])).trans rfl)))))) (fun j => ((q86 13 j (by simp [fz])).trans ((q58 13 j (by simp [fz])).trans ((q49 13 j (by simp [fz])).trans ((q28 13 j (by simp [fz])).trans ((q19 13 j (by simp [fz])).trans rfl)))))) (fun j => ((q86 14 j (by simp [fz])).trans ((q58 14 j (by simp [fz])).trans ((q49 14 j (by simp [fz])).trans ((q28 14 j (by simp [fz])).trans ((q19 14 j (by simp [fz])).trans rfl))))))), (R_of r128 rfl), (fun h => by exfalso; omega), (QY_l ((((lSp_r (Or.inl p14)).trans (thn_r (thn_r e43))).trans (thn_r e73)).trans (thn_l e123)) (by omega) h124 h125)⟩ (nr_bool (R_of (lo := 0) (hi := 1) r128 rfl)) dX1_readSpeech_90
      ·
        have r129 : R (0) (0) v56 := ⟨by omega, by omega⟩
        have p130 := (QY_0 q61) (by omega)
        obtain ⟨q131, e132, h133, h134⟩ := p130
        refine r_iconst S dX1_readSpeech_71 (by decide) (fun v135 z136 => ?_)
        have r137 := R_eq z136
        exact r_ret S hr hlk X54 ⟨q57, F62, (LR_eq hLR (fun j => ((q58 12 j (by simp [fz])).trans ((q49 12 j (by simp [fz])).trans ((q28 12 j (by simp [fz])).trans ((q19 12 j (by simp [fz])).trans rfl))))) (fun j => ((q58 13 j (by simp [fz])).trans ((q49 13 j (by simp [fz])).trans ((q28 13 j (by simp [fz])).trans ((q19 13 j (by simp [fz])).trans rfl))))) (fun j => ((q58 14 j (by simp [fz])).trans ((q49 14 j (by simp [fz])).trans ((q28 14 j (by simp [fz])).trans ((q19 14 j (by simp [fz])).trans rfl)))))), (R_of r137 rfl), (fun h => by exfalso; omega), (QY_l (((lSp_r (Or.inl p14)).trans (thn_r (thn_r e43))).trans (thn_l e132)) (by omega) h133 h134)⟩ (nr_bool (R_of (lo := 0) (hi := 1) r137 rfl)) dX1_readSpeech_72
    ·
      have r138 : R (0) (0) v26 := ⟨by omega, by omega⟩
      have p139 := (QY_0 q31) (by omega)
      obtain ⟨q140, e141, h142, h143⟩ := p139
      refine r_iconst S dX1_readSpeech_49 (by decide) (fun v144 z145 => ?_)
      have r146 := R_eq z145
      exact r_ret S hr hlk X24 ⟨q27, F32, (LR_eq hLR (fun j => ((q28 12 j (by simp [fz])).trans ((q19 12 j (by simp [fz])).trans rfl))) (fun j => ((q28 13 j (by simp [fz])).trans ((q19 13 j (by simp [fz])).trans rfl))) (fun j => ((q28 14 j (by simp [fz])).trans ((q19 14 j (by simp [fz])).trans rfl)))), (R_of r146 rfl), (fun h => by exfalso; omega), (QY_l ((lSp_r (Or.inl p14)).trans (thn_l (thn_l e141))) (by omega) h142 h143)⟩ (nr_bool (R_of (lo := 0) (hi := 1) r146 rfl)) dX1_readSpeech_50
  ·
    have r147 : R (0) (0) v8 := ⟨by omega, by omega⟩
    have p148 := (iff_n q11) (by omega)
    refine r_aload_n S dX1_readSpeech_15 rfl (lv_at hl 1 rfl) ?_
    refine r_get (K := 11) (v := .ref (G.2.2.2.1 1)) S X6 (Nat.le_of_ble_eq_true rfl) rfl lk1_32_1 (fun _ => ⟨_, rfl, rfl⟩) dX1_readSpeech_16 ?_
    refine r_wst (i := 12) S X6 (by decide) kw53 dX1_readSpeech_19 ?_
    refine r_ki (q_V (As := [.ref (G.2.2.1 12)]) (rest := []) (K := 1) (ci := 7) S X6 (c_X7_is_q l G τ hI 12 (by decide) bb nb 400 t hR.1) ck1_55 (Nat.le_of_ble_eq_true rfl) rfl (fun _ => ⟨_, rfl⟩) ⟨_, _, rfl⟩ ⟨Nat.le_of_ble_eq_true rfl, Nat.le_of_ble_eq_true rfl⟩ rfl hl.1 rfl (Nat.le_of_ble_eq_true rfl) dX1_readSpeech_22 ⟨Nat.le_refl 0, Nat.le_refl 0⟩) X6 (fun v152 t151 H lc q149 X150 => ?_)
    unfold po_X7_is_q at q149
    obtain ⟨q153, q154, q155⟩ := q149
    rw [q153] at X150
    refine r_if_ne (tgt := 34) S dX1_readSpeech_25 (by decide) (fun c156 => ?_) (fun c156 => ?_)
    ·
      have r157 : R (1) (1) v152 := ⟨by omega, by omega⟩
      have p158 := (q155).mp (by omega)
      refine r_aload_n S dX1_readSpeech_34 rfl (lv_at hl 1 rfl) ?_
      refine r_get (K := 11) (v := .ref (G.2.2.2.1 1)) S X150 (Nat.le_of_ble_eq_true rfl) rfl lk1_32_1 (fun _ => ⟨_, rfl, rfl⟩) dX1_readSpeech_35 ?_
      refine r_kv (q_V (As := []) (rest := []) (K := 1) (ci := 7) S X150 (c_X7_step_q l G τ hI bb nb 400 t.2.2 (RT_st hR.1 (Or.inl p158.1)).1 (RT_st hR.1 (Or.inl p158.1)).2.1 (RT_st hR.1 (Or.inl p158.1)).2.2) ck1_75 (Nat.le_of_ble_eq_true rfl) rfl (fun _ => ⟨_, rfl⟩) ⟨_, _, rfl⟩ ⟨Nat.le_of_ble_eq_true rfl, Nat.le_of_ble_eq_true rfl⟩ rfl hl.1 rfl (Nat.le_of_ble_eq_true rfl) dX1_readSpeech_38 ⟨Nat.le_refl 0, Nat.le_refl 0⟩) X150 (fun t161 H lc q159 X160 => ?_)
      unfold po_X7_step_q at q159
      obtain ⟨q162, q163, q164⟩ := q159
      have F165 : Fr [(11, 1), (11, 2), (1, 3), (1, 4), (1, 5), (1, 7), (1, 8)] [12, 13, 14, 15, 201] τ t161 := Fr_call Fr_rfl q163 (by decide)
      have hR166 : RG bb nb 400 an mn t161 (nx bb nb 400 t) := ⟨q164, NM2_fr hR.2 ((q163 23 2 (by decide)).trans rfl) ((q163 23 3 (by decide)).trans rfl) (fun j => ((q163 228 j (by simp [fz])).trans rfl)) (fun j => ((q163 229 j (by simp [fz])).trans rfl))⟩
      refine r_aload_n S dX1_readSpeech_41 rfl (lv_at hl 1 rfl) ?_
      refine r_aload_n S dX1_readSpeech_42 rfl (lv_at hl 2 rfl) ?_
      refine r_ki (q_U (As := [.ref (G.2.2.2.1 23)]) (rest := []) (K := 11) (ci := 1) S X160 (c_X8_seeAsk_t11 l G t161 q162 (by rw [((q163 11 1 (by decide)).trans z4)]; exact R_of hf_1 rfl) bb nb an mn (nx bb nb 400 t) hR166 ) ck1_103_1 (Nat.le_of_ble_eq_true rfl) rfl (fun _ => ⟨_, rfl⟩) ⟨_, _, rfl⟩ ⟨Nat.le_of_ble_eq_true rfl, Nat.le_of_ble_eq_true rfl⟩ rfl hl.1 rfl (Nat.le_of_ble_eq_true rfl) dX1_readSpeech_43 ⟨Nat.le_refl 0, Nat.le_refl 0⟩) X160 (fun v170 t169 H lc q167 X168 => ?_)
      unfold po_X8_seeAsk_t11 at q167
      obtain ⟨q171, q172, q173, q174, q175⟩ := q167
      have F176 : Fr [(11, 1), (11, 2), (1, 3), (1, 4), (1, 5), (1, 7), (1, 8)] [12, 13, 14, 15, 201] τ t169 := Fr_call F165 q172 (by decide)
      refine r_if_ne (tgt := 51) S dX1_readSpeech_46 (by decide) (fun c177 => ?_) (fun c177 => ?_)
      ·
        have r178 : R (1) (1) v170 := ⟨by omega, by omega⟩
        obtain ⟨p179, p180⟩ := q174 (by omega)
        obtain ⟨v181, z182⟩ : ∃ x, t169 11 2 = x := ⟨_, rfl⟩
        rw [z182] at p179
        obtain ⟨v183, z184⟩ : ∃ x, t169 11 1 = x := ⟨_, rfl⟩
        rw [z184] at p180
        have p185 := (QY_1 q175) (by omega)
        obtain ⟨g186, e187, hP188⟩ := p185
        refine r_aload_n S dX1_readSpeech_51 rfl (lv_at hl 1 rfl) ?_
        refine r_geti (K := 11) S X168 (Nat.le_of_ble_eq_true rfl) rfl lk1_72_1 (fun _ => ⟨_, rfl, rfl⟩) z182 dX1_readSpeech_52 ?_
        refine r_istore (lv' := [(4, .int v181), (3, .int v8), (0, .ref (G.2.2.2.1 11)), (1, .ref (G.2.2.2.1 23)), (2, .int a1)]) S dX1_readSpeech_55 hl (by decide) rfl (fun ls hl => ?_)
        refine r_aload_n S dX1_readSpeech_57 rfl (lv_at hl 2 rfl) ?_
        refine r_get (K := 11) (v := .ref (G.2.2.2.1 1)) S X168 (Nat.le_of_ble_eq_true rfl) rfl lk1_32_1 (fun _ => ⟨_, rfl, rfl⟩) dX1_readSpeech_58 ?_
        refine r_kv (q_V (As := []) (rest := []) (K := 1) (ci := 7) S X168 (c_X7_step_q l G t169 q171 bb nb 400 (nx bb nb 400 t).2.2 (RT_st hP188.2.1 (Or.inl (sLook_n e187).1)).1 (RT_st hP188.2.1 (Or.inl (sLook_n e187).1)).2.1 (RT_st hP188.2.1 (Or.inl (sLook_n e187).1)).2.2) ck1_75 (Nat.le_of_ble_eq_true rfl) rfl (fun _ => ⟨_, rfl⟩) ⟨_, _, rfl⟩ ⟨Nat.le_of_ble_eq_true rfl, Nat.le_of_ble_eq_true rfl⟩ rfl hl.1 rfl (Nat.le_of_ble_eq_true rfl) dX1_readSpeech_61 ⟨Nat.le_refl 0, Nat.le_refl 0⟩) X168 (fun t191 H lc q189 X190 => ?_)
        unfold po_X7_step_q at q189
        obtain ⟨q192, q193, q194⟩ := q189
        have F195 : Fr [(11, 1), (11, 2), (1, 3), (1, 4), (1, 5), (1, 7), (1, 8)] [12, 13, 14, 15, 201] τ t191 := Fr_call F176 q193 (by decide)
        have hR196 : RG bb nb 400 an mn t191 (nx bb nb 400 (nx bb nb 400 t)) := ⟨q194, NM2_fr hP188.2.2 ((q193 23 2 (by decide)).trans rfl) ((q193 23 3 (by decide)).trans rfl) (fun j => ((q193 228 j (by simp [fz])).trans rfl)) (fun j => ((q193 229 j (by simp [fz])).trans rfl))⟩
        refine r_aload_n S dX1_readSpeech_64 rfl (lv_at hl 2 rfl) ?_
        refine r_ki (q_U (As := []) (rest := []) (K := 11) (ci := 1) S X190 (c_X8_takeYesOrNo_t11 l G t191 q192 (by rw [((q193 11 1 (by decide)).trans z184)]; exact R_of p180 rfl) bb nb an mn (nx bb nb 400 (nx bb nb 400 t)) hR196 ) ck1_112_1 (Nat.le_of_ble_eq_true rfl) rfl (fun _ => ⟨_, rfl⟩) ⟨_, _, rfl⟩ ⟨Nat.le_of_ble_eq_true rfl, Nat.le_of_ble_eq_true rfl⟩ rfl hl.1 rfl (Nat.le_of_ble_eq_true rfl) dX1_readSpeech_65 ⟨Nat.le_refl 0, Nat.le_refl 0⟩) X190 (fun v200 t199 H lc q197 X198 => ?_)
        unfold po_X8_takeYesOrNo_t11 at q197
        obtain ⟨q201, q202, q203, q204, q205⟩ := q197
        have F206 : Fr [(11, 1), (11, 2), (1, 3), (1, 4), (1, 5), (1, 7), (1, 8)] [12, 13, 14, 15, 201] τ t199 := Fr_call F195 q202 (by decide)
        refine r_if_ne (tgt := 73) S dX1_readSpeech_68 (by decide) (fun c207 => ?_) (fun c207 => ?_)
        ·
          have r208 : R (1) (1) v200 := ⟨by omega, by omega⟩
          obtain ⟨p209, p210⟩ := q204 (by omega)
          obtain ⟨v211, z212⟩ : ∃ x, t199 11 2 = x := ⟨_, rfl⟩
          rw [z212] at p209
          obtain ⟨v213, z214⟩ : ∃ x, t199 11 1 = x := ⟨_, rfl⟩
          rw [z214] at p210
          have p215 := (QY_1 q205) (by omega)
          obtain ⟨g216, e217, hP218⟩ := p215
          refine r_aload_n S dX1_readSpeech_73 rfl (lv_at hl 2 rfl) ?_
          refine r_geti (K := 11) S X198 (Nat.le_of_ble_eq_true rfl) rfl lk1_72_1 (fun _ => ⟨_, rfl, rfl⟩) z212 dX1_readSpeech_74 ?_
          refine r_istore (lv' := [(5, .int v211), (4, .int v181), (3, .int v8), (0, .ref (G.2.2.2.1 11)), (1, .ref (G.2.2.2.1 23)), (2, .int a1)]) S dX1_readSpeech_77 hl (by decide) rfl (fun ls hl => ?_)
          refine r_aload_n S dX1_readSpeech_79 rfl (lv_at hl 3 rfl) ?_
          refine r_iconst S dX1_readSpeech_80 (by decide) (fun v219 z220 => ?_)
          have r221 := R_eq z220
          refine r_bipush S dX1_readSpeech_81 (by decide) (fun v222 z223 => ?_)
          have r224 := R_eq z223
          refine r_ki (q_U (As := [.int v219, .int v222]) (rest := []) (K := 11) (ci := 1) S X198 (c_X8_takeNumber_t11 l G t199 q201 v219 v222 r221 r224 (by rw [z214]; exact R_of p210 rfl) bb nb an mn g216 hP218.2 ) ck1_116_1 (Nat.le_of_ble_eq_true rfl) rfl (fun _ => ⟨_, rfl⟩) ⟨_, _, rfl⟩ ⟨Nat.le_of_ble_eq_true rfl, Nat.le_of_ble_eq_true rfl⟩ rfl hl.1 rfl (Nat.le_of_ble_eq_true rfl) dX1_readSpeech_83 ⟨Nat.le_refl 0, Nat.le_refl 0⟩) X198 (fun v228 t227 H lc q225 X226 => ?_)
          unfold po_X8_takeNumber_t11 at q225
          obtain ⟨q229, q230, q231, q232, q233⟩ := q225
          have F234 : Fr [(11, 1), (11, 2), (1, 3), (1, 4), (1, 5), (1, 7), (1, 8)] [12, 13, 14, 15, 201] τ t227 := Fr_call F206 q230 (by decide)
          refine r_if_ne (tgt := 91) S dX1_readSpeech_86 (by decide) (fun c235 => ?_) (fun c235 => ?_)
          ·
            have r236 : R (1) (1) v228 := ⟨by omega, by omega⟩
            obtain ⟨p237, p238⟩ := q232 (by omega)
            obtain ⟨v239, z240⟩ : ∃ x, t227 11 2 = x := ⟨_, rfl⟩
            rw [z240] at p237
            obtain ⟨v241, z242⟩ : ∃ x, t227 11 1 = x := ⟨_, rfl⟩
            rw [z242] at p238
            have p243 := (QY_1 q233) (by omega)
            obtain ⟨g244, e245, hP246⟩ := p243
            refine r_aload_n S dX1_readSpeech_91 rfl (lv_at hl 3 rfl) ?_
            refine r_iload_n S dX1_readSpeech_92 rfl (lv_at hl 2 rfl) ?_
            refine r_if_eq (tgt := 100) S dX1_readSpeech_93 (by decide) (fun c247 => ?_) (fun c247 => ?_)
            ·
              refine r_iconst S dX1_readSpeech_100 (by decide) (fun v248 z249 => ?_)
              have r250 := R_eq z249
              refine r_iload_n S dX1_readSpeech_101 rfl (lv_at hl 5 rfl) ?_
              refine r_iload S dX1_readSpeech_102 (lv_at hl 1 rfl) ?_
              refine r_iload S dX1_readSpeech_104 (lv_at hl 0 rfl) ?_
              refine r_aload_n S dX1_readSpeech_106 rfl (lv_at hl 3 rfl) ?_
              refine r_geti (K := 11) S X226 (Nat.le_of_ble_eq_true rfl) rfl lk1_72_1 (fun _ => ⟨_, rfl, rfl⟩) z240 dX1_readSpeech_107 ?_
              refine r_imul S dX1_readSpeech_110 (fun v251 z252 => ?_)
              obtain ⟨e253, r254⟩ := i_mul (lo := -9) (hi := 9) z252 p209 p237 rfl rfl
              refine r_ki (q_V (As := [.int v248, .int a1, .int v181, .int v251]) (rest := []) (K := 11) (ci := 1) S X226 (c_X1_keep_4 l G t227 q229 v248 a1 v181 v251 r250 h_a1 p179 r254 (by rw [((q230 11 3 (by decide)).trans ((q202 11 3 (by decide)).trans ((q193 11 3 (by decide)).trans ((q172 11 3 (by decide)).trans ((q163 11 3 (by decide)).trans z2)))))]; exact R_of hf_0 rfl) (LR_eq hLR (fun j => ((q230 12 j (by simp [fz])).trans ((q202 12 j (by simp [fz])).trans ((q193 12 j (by simp [fz])).trans ((q172 12 j (by simp [fz])).trans ((q163 12 j (by simp [fz])).trans rfl)))))) (fun j => ((q230 13 j (by simp [fz])).trans ((q202 13 j (by simp [fz])).trans ((q193 13 j (by simp [fz])).trans ((q172 13 j (by simp [fz])).trans ((q163 13 j (by simp [fz])).trans rfl)))))) (fun j => ((q230 14 j (by simp [fz])).trans ((q202 14 j (by simp [fz])).trans ((q193 14 j (by simp [fz])).trans ((q172 14 j (by simp [fz])).trans ((q163 14 j (by simp [fz])).trans rfl)))))))) ck1_99 (Nat.le_of_ble_eq_true rfl) rfl (fun _ => ⟨_, rfl⟩) ⟨_, _, rfl⟩ ⟨Nat.le_of_ble_eq_true rfl, Nat.le_of_ble_eq_true rfl⟩ rfl hl.1 rfl (Nat.le_of_ble_eq_true rfl) dX1_readSpeech_111 ⟨Nat.le_refl 0, Nat.le_refl 0⟩) X226 (fun v258 t257 H lc q255 X256 => ?_)
              unfold po_X1_keep_4 at q255
              obtain ⟨q259, q260, q261, q262⟩ := q255
              have F263 : Fr [(11, 1), (11, 2), (1, 3), (1, 4), (1, 5), (1, 7), (1, 8)] [12, 13, 14, 15, 201] τ t257 := Fr_call F234 q260 (by decide)
              exact r_ret S hr hlk X256 ⟨q259, F263, q261, (R_of q262 rfl), (fun h => (by rw [((q260 11 1 (by decide)).trans z242)]; exact R_of p238 rfl)), (QY_r ((((lSp_r (Or.inr p158)).trans (thn_r (thn_r e187))).trans (thn_r e217)).trans (thn_r e245)) (by omega) (RG_fr hP246.2 (fun j => ((q260 1 j (by simp [fz])).trans rfl)) (fun j => ((q260 2 j (by simp [fz])).trans rfl)) (fun j => ((q260 201 j (by simp [fz])).trans rfl)) ((q260 23 2 (by decide)).trans rfl) ((q260 23 3 (by decide)).trans rfl) (fun j => ((q260 228 j (by simp [fz])).trans rfl)) (fun j => ((q260 229 j (by simp [fz])).trans rfl))))⟩ (nr_bool (R_of (lo := 0) (hi := 1) q262 rfl)) dX1_readSpeech_114
            ·
              exfalso; omega
          ·
            have r264 : R (0) (0) v228 := ⟨by omega, by omega⟩
            have p265 := (QY_0 q233) (by omega)
            obtain ⟨q266, e267, h268, h269⟩ := p265
            refine r_iconst S dX1_readSpeech_89 (by decide) (fun v270 z271 => ?_)
            have r272 := R_eq z271
            exact r_ret S hr hlk X226 ⟨q229, F234, (LR_eq hLR (fun j => ((q230 12 j (by simp [fz])).trans ((q202 12 j (by simp [fz])).trans ((q193 12 j (by simp [fz])).trans ((q172 12 j (by simp [fz])).trans ((q163 12 j (by simp [fz])).trans rfl)))))) (fun j => ((q230 13 j (by simp [fz])).trans ((q202 13 j (by simp [fz])).trans ((q193 13 j (by simp [fz])).trans ((q172 13 j (by simp [fz])).trans ((q163 13 j (by simp [fz])).trans rfl)))))) (fun j => ((q230 14 j (by simp [fz])).trans ((q202 14 j (by simp [fz])).trans ((q193 14 j (by simp [fz])).trans ((q172 14 j (by simp [fz])).trans ((q163 14 j (by simp [fz])).trans rfl))))))), (R_of r272 rfl), (fun h => by exfalso; omega), (QY_l ((((lSp_r (Or.inr p158)).trans (thn_r (thn_r e187))).trans (thn_r e217)).trans (thn_l e267)) (by omega) h268 h269)⟩ (nr_bool (R_of (lo := 0) (hi := 1) r272 rfl)) dX1_readSpeech_90
        ·
          have r273 : R (0) (0) v200 := ⟨by omega, by omega⟩
          have p274 := (QY_0 q205) (by omega)
          obtain ⟨q275, e276, h277, h278⟩ := p274
          refine r_iconst S dX1_readSpeech_71 (by decide) (fun v279 z280 => ?_)
          have r281 := R_eq z280
          exact r_ret S hr hlk X198 ⟨q201, F206, (LR_eq hLR (fun j => ((q202 12 j (by simp [fz])).trans ((q193 12 j (by simp [fz])).trans ((q172 12 j (by simp [fz])).trans ((q163 12 j (by simp [fz])).trans rfl))))) (fun j => ((q202 13 j (by simp [fz])).trans ((q193 13 j (by simp [fz])).trans ((q172 13 j (by simp [fz])).trans ((q163 13 j (by simp [fz])).trans rfl))))) (fun j => ((q202 14 j (by simp [fz])).trans ((q193 14 j (by simp [fz])).trans ((q172 14 j (by simp [fz])).trans ((q163 14 j (by simp [fz])).trans rfl)))))), (R_of r281 rfl), (fun h => by exfalso; omega), (QY_l (((lSp_r (Or.inr p158)).trans (thn_r (thn_r e187))).trans (thn_l e276)) (by omega) h277 h278)⟩ (nr_bool (R_of (lo := 0) (hi := 1) r281 rfl)) dX1_readSpeech_72
      ·
        have r282 : R (0) (0) v170 := ⟨by omega, by omega⟩
        have p283 := (QY_0 q175) (by omega)
        obtain ⟨q284, e285, h286, h287⟩ := p283
        refine r_iconst S dX1_readSpeech_49 (by decide) (fun v288 z289 => ?_)
        have r290 := R_eq z289
        exact r_ret S hr hlk X168 ⟨q171, F176, (LR_eq hLR (fun j => ((q172 12 j (by simp [fz])).trans ((q163 12 j (by simp [fz])).trans rfl))) (fun j => ((q172 13 j (by simp [fz])).trans ((q163 13 j (by simp [fz])).trans rfl))) (fun j => ((q172 14 j (by simp [fz])).trans ((q163 14 j (by simp [fz])).trans rfl)))), (R_of r290 rfl), (fun h => by exfalso; omega), (QY_l ((lSp_r (Or.inr p158)).trans (thn_l (thn_l e285))) (by omega) h286 h287)⟩ (nr_bool (R_of (lo := 0) (hi := 1) r290 rfl)) dX1_readSpeech_50
    ·
      have r291 : R (0) (0) v152 := ⟨by omega, by omega⟩
      have p292 := (iff_n q155) (by omega)
      refine r_aload_n S dX1_readSpeech_28 rfl (lv_at hl 1 rfl) ?_
      refine r_iconst S dX1_readSpeech_29 (by decide) (fun v293 z294 => ?_)
      have r295 := R_eq z294
      refine r_ki (q_U (As := [.int v293]) (rest := []) (K := 11) (ci := 1) S X150 (c_X8_fail_t11 l G τ hI v293 (R_of (lo := -2147483648) (hi := 2147483647) r295 rfl)) ck1_68_1 (Nat.le_of_ble_eq_true rfl) rfl (fun _ => ⟨_, rfl⟩) ⟨_, _, rfl⟩ ⟨Nat.le_of_ble_eq_true rfl, Nat.le_of_ble_eq_true rfl⟩ rfl hl.1 rfl (Nat.le_of_ble_eq_true rfl) dX1_readSpeech_30 ⟨Nat.le_refl 0, Nat.le_refl 0⟩) X150 (fun v299 t298 H lc q296 X297 => ?_)
      unfold po_X8_fail_t11 at q296
      obtain ⟨q300, q301, q302, q303⟩ := q296
      have F304 : Fr [(11, 1), (11, 2), (1, 3), (1, 4), (1, 5), (1, 7), (1, 8)] [12, 13, 14, 15, 201] τ t298 := Fr_call Fr_rfl q301 (by decide)
      exact r_ret S hr hlk X297 ⟨q300, F304, (LR_eq hLR (fun j => ((q301 12 j (by simp [fz])).trans rfl)) (fun j => ((q301 13 j (by simp [fz])).trans rfl)) (fun j => ((q301 14 j (by simp [fz])).trans rfl))), (R_of q302 rfl), (fun h => by exfalso; omega), (QY_b (lSp_b p148 p292) (by omega) (by rw [q303]; omega) (RG_at (RG_fr hR (fun j => ((q301 1 j (by simp [fz])).trans rfl)) (fun j => ((q301 2 j (by simp [fz])).trans rfl)) (fun j => ((q301 201 j (by simp [fz])).trans rfl)) ((q301 23 2 (by decide)).trans rfl) ((q301 23 3 (by decide)).trans rfl) (fun j => ((q301 228 j (by simp [fz])).trans rfl)) (fun j => ((q301 229 j (by simp [fz])).trans rfl)))))⟩ (nr_bool (R_of (lo := 0) (hi := 1) q302 rfl)) dX1_readSpeech_33
def po_X1_readLine_q (τ : Tau)    (bb : Nat → Int) (nb : Nat) (an mn : List (List Int)) (t : Tk) (ln : Nat) (r : Int32) (u : Tau) : Prop := Inv u ∧ Fr [(11, 1), (11, 2), (1, 3), (1, 4), (1, 5), (1, 7), (1, 8)] [12, 13, 14, 15, 201] τ u ∧ LR u ∧ R (0) (1) r ∧ (r.toInt = 1 → R (0) (39) (u 11 3) ∧ R (0) (0) (u 11 1)) ∧ QY 11 (sLg bb nb 400 an mn t ln) r u (fun g => RG bb nb 400 an mn u g)
set_option maxHeartbeats 4000000 in
set_option maxRecDepth 100000 in
theorem c_X1_readLine_q (l : Launch) (G : Gx) (τ : Tau) (hI : Inv τ) (hf_0 : R (0) (0) (τ 11 1)) (hLR : LR τ) (bb : Nat → Int) (nb : Nat) (an mn : List (List Int)) (t : Tk) (ln : Nat) (hR : RG bb nb 400 an mn τ t) (hln : (τ 11 3).toInt = ln) : Ci l G yX1_readLine cX1_readLine 6 (some .boolean) 3 71 [.ref (G.2.2.2.1 11), .ref (G.2.2.2.1 23)] τ (po_X1_readLine_q τ    bb nb an mn t ln) := by
  unfold Ci
  refine C_of (own := RX1) (by decide) rfl (Nat.le_of_ble_eq_true rfl) ?_
  intro p e s m below meth c ls S hr hlk X hl
  have hl : lv_has ls 6 [(0, .ref (G.2.2.2.1 11)), (1, .ref (G.2.2.2.1 23))] := hl
  obtain ⟨v1, z2⟩ : ∃ x, τ 11 1 = x := ⟨_, rfl⟩
  rw [z2] at hf_0
  obtain ⟨v3, z4⟩ : ∃ x, τ 11 3 = x := ⟨_, rfl⟩
  have r5 : R (0) (40) v3 := rd hI rfl z4
  refine r_aload_n S dX1_readLine_0 rfl (lv_at hl 0 rfl) ?_
  refine r_get (K := 11) (v := .ref (G.2.2.2.1 1)) S X (Nat.le_of_ble_eq_true rfl) rfl lk1_32_1 (fun _ => ⟨_, rfl, rfl⟩) dX1_readLine_1 ?_
  refine r_wst (i := 8) S X (by decide) kw54 dX1_readLine_4 ?_
  refine r_ki (q_V (As := [.ref (G.2.2.1 8)]) (rest := []) (K := 1) (ci := 7) S X (c_X7_is_q l G τ hI 8 (by decide) bb nb 400 t hR.1) ck1_55 (Nat.le_of_ble_eq_true rfl) rfl (fun _ => ⟨_, rfl⟩) ⟨_, _, rfl⟩ ⟨Nat.le_of_ble_eq_true rfl, Nat.le_of_ble_eq_true rfl⟩ rfl hl.1 rfl (Nat.le_of_ble_eq_true rfl) dX1_readLine_7 ⟨Nat.le_refl 0, Nat.le_refl 0⟩) X (fun v9 t8 H lc q6 X7 => ?_)
  unfold po_X7_is_q at q6
  obtain ⟨q10, q11, q12⟩ := q6
  rw [q10] at X7
  refine r_istore_n (lv' := [(2, .int v9), (0, .ref (G.2.2.2.1 11)), (1, .ref (G.2.2.2.1 23))]) S dX1_readLine_10 rfl hl (by decide) rfl (fun ls hl => ?_)
  refine r_aload_n S dX1_readLine_11 rfl (lv_at hl 1 rfl) ?_
  refine r_get (K := 11) (v := .ref (G.2.2.2.1 1)) S X7 (Nat.le_of_ble_eq_true rfl) rfl lk1_32_1 (fun _ => ⟨_, rfl, rfl⟩) dX1_readLine_12 ?_
  refine r_wst (i := 9) S X7 (by decide) kw55 dX1_readLine_15 ?_
  refine r_ki (q_V (As := [.ref (G.2.2.1 9)]) (rest := []) (K := 1) (ci := 7) S X7 (c_X7_is_q l G τ hI 9 (by decide) bb nb 400 t hR.1) ck1_55 (Nat.le_of_ble_eq_true rfl) rfl (fun _ => ⟨_, rfl⟩) ⟨_, _, rfl⟩ ⟨Nat.le_of_ble_eq_true rfl, Nat.le_of_ble_eq_true rfl⟩ rfl hl.1 rfl (Nat.le_of_ble_eq_true rfl) dX1_readLine_18 ⟨Nat.le_refl 0, Nat.le_refl 0⟩) X7 (fun v16 t15 H lc q13 X14 => ?_)
  unfold po_X7_is_q at q13
  obtain ⟨q17, q18, q19⟩ := q13
  rw [q17] at X14
  refine r_istore_n (lv' := [(3, .int v16), (2, .int v9), (0, .ref (G.2.2.2.1 11)), (1, .ref (G.2.2.2.1 23))]) S dX1_readLine_21 rfl hl (by decide) rfl (fun ls hl => ?_)
  refine r_aload_n S dX1_readLine_22 rfl (lv_at hl 2 rfl) ?_
  refine r_get (K := 11) (v := .ref (G.2.2.2.1 1)) S X14 (Nat.le_of_ble_eq_true rfl) rfl lk1_32_1 (fun _ => ⟨_, rfl, rfl⟩) dX1_readLine_23 ?_
  refine r_wst (i := 10) S X14 (by decide) kw56 dX1_readLine_26 ?_
  refine r_ki (q_V (As := [.ref (G.2.2.1 10)]) (rest := []) (K := 1) (ci := 7) S X14 (c_X7_is_q l G τ hI 10 (by decide) bb nb 400 t hR.1) ck1_55 (Nat.le_of_ble_eq_true rfl) rfl (fun _ => ⟨_, rfl⟩) ⟨_, _, rfl⟩ ⟨Nat.le_of_ble_eq_true rfl, Nat.le_of_ble_eq_true rfl⟩ rfl hl.1 rfl (Nat.le_of_ble_eq_true rfl) dX1_readLine_29 ⟨Nat.le_refl 0, Nat.le_refl 0⟩) X14 (fun v23 t22 H lc q20 X21 => ?_)
  unfold po_X7_is_q at q20
  obtain ⟨q24, q25, q26⟩ := q20
  rw [q24] at X21
  refine r_istore (lv' := [(4, .int v23), (3, .int v16), (2, .int v9), (0, .ref (G.2.2.2.1 11)), (1, .ref (G.2.2.2.1 23))]) S dX1_readLine_32 hl (by decide) rfl (fun ls hl => ?_)
  refine r_iload_n S dX1_readLine_34 rfl (lv_at hl 2 rfl) ?_
  refine r_if_ne (tgt := 57) S dX1_readLine_35 (by decide) (fun c27 => ?_) (fun c27 => ?_)
  ·
    have r28 : R (1) (1) v9 := ⟨by omega, by omega⟩
    have p29 := (q12).mp (by omega)
    refine r_aload_n S dX1_readLine_57 rfl (lv_at hl 3 rfl) ?_
    refine r_geti (K := 11) S X21 (Nat.le_of_ble_eq_true rfl) rfl lk1_24_1 (fun _ => ⟨_, rfl, rfl⟩) z4 dX1_readLine_58 ?_
    have e30 : v3.toInt = (ln : Int) := by rw [← z4]; exact hln
    refine r_bipush S dX1_readLine_61 (by decide) (fun v31 z32 => ?_)
    have r33 := R_eq z32
    refine r_icmp_lt (tgt := 72) S dX1_readLine_63 (by decide) (fun c34 => ?_) (fun c34 => ?_)
    ·
      have r35 : R (0) (39) v3 := ⟨by omega, by omega⟩
      refine r_aload_n S dX1_readLine_72 rfl (lv_at hl 3 rfl) ?_
      refine r_getn (K := 11) S X21 (Nat.le_of_ble_eq_true rfl) rfl lk1_72_1 (fun _ => ⟨_, rfl, rfl⟩) dX1_readLine_73 (fun v36 z37 => ?_)
      have r39 := R_any v36
      refine r_istore (lv' := [(5, .int v36), (4, .int v23), (3, .int v16), (2, .int v9), (0, .ref (G.2.2.2.1 11)), (1, .ref (G.2.2.2.1 23))]) S dX1_readLine_76 hl (by decide) rfl (fun ls hl => ?_)
      refine r_aload_n S dX1_readLine_78 rfl (lv_at hl 4 rfl) ?_
      refine r_get (K := 11) (v := .ref (G.2.2.2.1 1)) S X21 (Nat.le_of_ble_eq_true rfl) rfl lk1_32_1 (fun _ => ⟨_, rfl, rfl⟩) dX1_readLine_79 ?_
      refine r_kv (q_V (As := []) (rest := []) (K := 1) (ci := 7) S X21 (c_X7_step_q l G τ hI bb nb 400 t.2.2 (RT_st hR.1 (Or.inl p29.1)).1 (RT_st hR.1 (Or.inl p29.1)).2.1 (RT_st hR.1 (Or.inl p29.1)).2.2) ck1_75 (Nat.le_of_ble_eq_true rfl) rfl (fun _ => ⟨_, rfl⟩) ⟨_, _, rfl⟩ ⟨Nat.le_of_ble_eq_true rfl, Nat.le_of_ble_eq_true rfl⟩ rfl hl.1 rfl (Nat.le_of_ble_eq_true rfl) dX1_readLine_82 ⟨Nat.le_refl 0, Nat.le_refl 0⟩) X21 (fun t42 H lc q40 X41 => ?_)
      unfold po_X7_step_q at q40
      obtain ⟨q43, q44, q45⟩ := q40
      have F46 : Fr [(11, 1), (11, 2), (1, 3), (1, 4), (1, 5), (1, 7), (1, 8)] [12, 13, 14, 15, 201] τ t42 := Fr_call Fr_rfl q44 (by decide)
      have hR47 : RG bb nb 400 an mn t42 (nx bb nb 400 t) := ⟨q45, NM2_fr hR.2 ((q44 23 2 (by decide)).trans rfl) ((q44 23 3 (by decide)).trans rfl) (fun j => ((q44 228 j (by simp [fz])).trans rfl)) (fun j => ((q44 229 j (by simp [fz])).trans rfl))⟩
      refine r_iload_n S dX1_readLine_85 rfl (lv_at hl 3 rfl) ?_
      refine r_if_eq (tgt := 95) S dX1_readLine_86 (by decide) (fun c48 => ?_) (fun c48 => ?_)
      ·
        exfalso; omega
      ·
        refine r_aload_n S dX1_readLine_89 rfl (lv_at hl 4 rfl) ?_
        refine r_aload_n S dX1_readLine_90 rfl (lv_at hl 5 rfl) ?_
        refine r_ki (q_V (As := [.ref (G.2.2.2.1 23)]) (rest := []) (K := 11) (ci := 1) S X41 (c_X1_readCrossing_q l G t42 q43 (by rw [((q44 11 3 (by decide)).trans z4)]; exact R_of r35 rfl) (by rw [((q44 11 1 (by decide)).trans z2)]; exact R_of hf_0 rfl) (LR_eq hLR (fun j => ((q44 12 j (by simp [fz])).trans rfl)) (fun j => ((q44 13 j (by simp [fz])).trans rfl)) (fun j => ((q44 14 j (by simp [fz])).trans rfl))) bb nb an mn (nx bb nb 400 t) hR47 ) ck1_79 (Nat.le_of_ble_eq_true rfl) rfl (fun _ => ⟨_, rfl⟩) ⟨_, _, rfl⟩ ⟨Nat.le_of_ble_eq_true rfl, Nat.le_of_ble_eq_true rfl⟩ rfl hl.1 rfl (Nat.le_of_ble_eq_true rfl) dX1_readLine_91 ⟨Nat.le_refl 0, Nat.le_refl 0⟩) X41 (fun v52 t51 H lc q49 X50 => ?_)
        unfold po_X1_readCrossing_q at q49
        obtain ⟨q53, q54, q55, q56, q57, q58⟩ := q49
        have F59 : Fr [(11, 1), (11, 2), (1, 3), (1, 4), (1, 5), (1, 7), (1, 8)] [12, 13, 14, 15, 201] τ t51 := Fr_call F46 q54 (by decide)
        exact r_ret S hr hlk X50 ⟨q53, F59, q55, q56, (fun h => ⟨(by rw [((q54 11 3 (by decide)).trans ((q44 11 3 (by decide)).trans z4))]; exact R_of r35 rfl), (q57 h)⟩), (by rw [(sLg_8 p29), cif_neg (show ¬ 40 ≤ ln by omega)]; exact q58)⟩ (nr_bool (R_of (lo := 0) (hi := 1) q56 rfl)) dX1_readLine_94
    ·
      have r60 : R (40) (40) v3 := ⟨by omega, by omega⟩
      refine r_aload_n S dX1_readLine_66 rfl (lv_at hl 3 rfl) ?_
      refine r_iconst S dX1_readLine_67 (by decide) (fun v61 z62 => ?_)
      have r63 := R_eq z62
      refine r_ki (q_U (As := [.int v61]) (rest := []) (K := 11) (ci := 1) S X21 (c_X8_fail_t11 l G τ hI v61 (R_of (lo := -2147483648) (hi := 2147483647) r63 rfl)) ck1_68_1 (Nat.le_of_ble_eq_true rfl) rfl (fun _ => ⟨_, rfl⟩) ⟨_, _, rfl⟩ ⟨Nat.le_of_ble_eq_true rfl, Nat.le_of_ble_eq_true rfl⟩ rfl hl.1 rfl (Nat.le_of_ble_eq_true rfl) dX1_readLine_68 ⟨Nat.le_refl 0, Nat.le_refl 0⟩) X21 (fun v67 t66 H lc q64 X65 => ?_)
      unfold po_X8_fail_t11 at q64
      obtain ⟨q68, q69, q70, q71⟩ := q64
      have F72 : Fr [(11, 1), (11, 2), (1, 3), (1, 4), (1, 5), (1, 7), (1, 8)] [12, 13, 14, 15, 201] τ t66 := Fr_call Fr_rfl q69 (by decide)
      exact r_ret S hr hlk X65 ⟨q68, F72, (LR_eq hLR (fun j => ((q69 12 j (by simp [fz])).trans rfl)) (fun j => ((q69 13 j (by simp [fz])).trans rfl)) (fun j => ((q69 14 j (by simp [fz])).trans rfl))), (R_of q70 rfl), (fun h => by exfalso; omega), (QY_b ((sLg_8 p29).trans (cif_pos (by omega))) (by omega) (by rw [q71]; omega) (RG_at (RG_fr hR (fun j => ((q69 1 j (by simp [fz])).trans rfl)) (fun j => ((q69 2 j (by simp [fz])).trans rfl)) (fun j => ((q69 201 j (by simp [fz])).trans rfl)) ((q69 23 2 (by decide)).trans rfl) ((q69 23 3 (by decide)).trans rfl) (fun j => ((q69 228 j (by simp [fz])).trans rfl)) (fun j => ((q69 229 j (by simp [fz])).trans rfl)))))⟩ (nr_bool (R_of (lo := 0) (hi := 1) q70 rfl)) dX1_readLine_71
  ·
    have r73 : R (0) (0) v9 := ⟨by omega, by omega⟩
    have p74 := (iff_n q12) (by omega)
    refine r_iload_n S dX1_readLine_38 rfl (lv_at hl 1 rfl) ?_
    refine r_if_ne (tgt := 57) S dX1_readLine_39 (by decide) (fun c75 => ?_) (fun c75 => ?_)
    ·
      have r76 : R (1) (1) v16 := ⟨by omega, by omega⟩
      have p77 := (q19).mp (by omega)
      refine r_aload_n S dX1_readLine_57 rfl (lv_at hl 3 rfl) ?_
      refine r_geti (K := 11) S X21 (Nat.le_of_ble_eq_true rfl) rfl lk1_24_1 (fun _ => ⟨_, rfl, rfl⟩) z4 dX1_readLine_58 ?_
      have e78 : v3.toInt = (ln : Int) := by rw [← z4]; exact hln
      refine r_bipush S dX1_readLine_61 (by decide) (fun v79 z80 => ?_)
      have r81 := R_eq z80
      refine r_icmp_lt (tgt := 72) S dX1_readLine_63 (by decide) (fun c82 => ?_) (fun c82 => ?_)
      ·
        have r83 : R (0) (39) v3 := ⟨by omega, by omega⟩
        refine r_aload_n S dX1_readLine_72 rfl (lv_at hl 3 rfl) ?_
        refine r_getn (K := 11) S X21 (Nat.le_of_ble_eq_true rfl) rfl lk1_72_1 (fun _ => ⟨_, rfl, rfl⟩) dX1_readLine_73 (fun v84 z85 => ?_)
        have r87 := R_any v84
        refine r_istore (lv' := [(5, .int v84), (4, .int v23), (3, .int v16), (2, .int v9), (0, .ref (G.2.2.2.1 11)), (1, .ref (G.2.2.2.1 23))]) S dX1_readLine_76 hl (by decide) rfl (fun ls hl => ?_)
        refine r_aload_n S dX1_readLine_78 rfl (lv_at hl 4 rfl) ?_
        refine r_get (K := 11) (v := .ref (G.2.2.2.1 1)) S X21 (Nat.le_of_ble_eq_true rfl) rfl lk1_32_1 (fun _ => ⟨_, rfl, rfl⟩) dX1_readLine_79 ?_
        refine r_kv (q_V (As := []) (rest := []) (K := 1) (ci := 7) S X21 (c_X7_step_q l G τ hI bb nb 400 t.2.2 (RT_st hR.1 (Or.inl p77.1)).1 (RT_st hR.1 (Or.inl p77.1)).2.1 (RT_st hR.1 (Or.inl p77.1)).2.2) ck1_75 (Nat.le_of_ble_eq_true rfl) rfl (fun _ => ⟨_, rfl⟩) ⟨_, _, rfl⟩ ⟨Nat.le_of_ble_eq_true rfl, Nat.le_of_ble_eq_true rfl⟩ rfl hl.1 rfl (Nat.le_of_ble_eq_true rfl) dX1_readLine_82 ⟨Nat.le_refl 0, Nat.le_refl 0⟩) X21 (fun t90 H lc q88 X89 => ?_)
        unfold po_X7_step_q at q88
        obtain ⟨q91, q92, q93⟩ := q88
        have F94 : Fr [(11, 1), (11, 2), (1, 3), (1, 4), (1, 5), (1, 7), (1, 8)] [12, 13, 14, 15, 201] τ t90 := Fr_call Fr_rfl q92 (by decide)
        have hR95 : RG bb nb 400 an mn t90 (nx bb nb 400 t) := ⟨q93, NM2_fr hR.2 ((q92 23 2 (by decide)).trans rfl) ((q92 23 3 (by decide)).trans rfl) (fun j => ((q92 228 j (by simp [fz])).trans rfl)) (fun j => ((q92 229 j (by simp [fz])).trans rfl))⟩
        refine r_iload_n S dX1_readLine_85 rfl (lv_at hl 3 rfl) ?_
        refine r_if_eq (tgt := 95) S dX1_readLine_86 (by decide) (fun c96 => ?_) (fun c96 => ?_)
        ·
          refine r_iload_n S dX1_readLine_95 rfl (lv_at hl 2 rfl) ?_
          refine r_if_eq (tgt := 105) S dX1_readLine_96 (by decide) (fun c97 => ?_) (fun c97 => ?_)
          ·
            exfalso; omega
          ·
            refine r_aload_n S dX1_readLine_99 rfl (lv_at hl 4 rfl) ?_
            refine r_aload_n S dX1_readLine_100 rfl (lv_at hl 5 rfl) ?_
            refine r_ki (q_V (As := [.ref (G.2.2.2.1 23)]) (rest := []) (K := 11) (ci := 1) S X89 (c_X1_readRaising_q l G t90 q91 (by rw [((q92 11 3 (by decide)).trans z4)]; exact R_of r83 rfl) (by rw [((q92 11 1 (by decide)).trans z2)]; exact R_of hf_0 rfl) (LR_eq hLR (fun j => ((q92 12 j (by simp [fz])).trans rfl)) (fun j => ((q92 13 j (by simp [fz])).trans rfl)) (fun j => ((q92 14 j (by simp [fz])).trans rfl))) bb nb an mn (nx bb nb 400 t) hR95 ) ck1_82 (Nat.le_of_ble_eq_true rfl) rfl (fun _ => ⟨_, rfl⟩) ⟨_, _, rfl⟩ ⟨Nat.le_of_ble_eq_true rfl, Nat.le_of_ble_eq_true rfl⟩ rfl hl.1 rfl (Nat.le_of_ble_eq_true rfl) dX1_readLine_101 ⟨Nat.le_refl 0, Nat.le_refl 0⟩) X89 (fun v101 t100 H lc q98 X99 => ?_)
            unfold po_X1_readRaising_q at q98
            obtain ⟨q102, q103, q104, q105, q106, q107⟩ := q98
            have F108 : Fr [(11, 1), (11, 2), (1, 3), (1, 4), (1, 5), (1, 7), (1, 8)] [12, 13, 14, 15, 201] τ t100 := Fr_call F94 q103 (by decide)
            exact r_ret S hr hlk X99 ⟨q102, F108, q104, q105, (fun h => ⟨(by rw [((q103 11 3 (by decide)).trans ((q92 11 3 (by decide)).trans z4))]; exact R_of r83 rfl), (q106 h)⟩), (by rw [(sLg_9 p74 p77), cif_neg (show ¬ 40 ≤ ln by omega)]; exact q107)⟩ (nr_bool (R_of (lo := 0) (hi := 1) q105 rfl)) dX1_readLine_104
        ·
          exfalso; omega
      ·
        have r109 : R (40) (40) v3 := ⟨by omega, by omega⟩
        refine r_aload_n S dX1_readLine_66 rfl (lv_at hl 3 rfl) ?_
        refine r_iconst S dX1_readLine_67 (by decide) (fun v110 z111 => ?_)
        have r112 := R_eq z111
        refine r_ki (q_U (As := [.int v110]) (rest := []) (K := 11) (ci := 1) S X21 (c_X8_fail_t11 l G τ hI v110 (R_of (lo := -2147483648) (hi := 2147483647) r112 rfl)) ck1_68_1 (Nat.le_of_ble_eq_true rfl) rfl (fun _ => ⟨_, rfl⟩) ⟨_, _, rfl⟩ ⟨Nat.le_of_ble_eq_true rfl, Nat.le_of_ble_eq_true rfl⟩ rfl hl.1 rfl (Nat.le_of_ble_eq_true rfl) dX1_readLine_68 ⟨Nat.le_refl 0, Nat.le_refl 0⟩) X21 (fun v116 t115 H lc q113 X114 => ?_)
        unfold po_X8_fail_t11 at q113
        obtain ⟨q117, q118, q119, q120⟩ := q113
        have F121 : Fr [(11, 1), (11, 2), (1, 3), (1, 4), (1, 5), (1, 7), (1, 8)] [12, 13, 14, 15, 201] τ t115 := Fr_call Fr_rfl q118 (by decide)
        exact r_ret S hr hlk X114 ⟨q117, F121, (LR_eq hLR (fun j => ((q118 12 j (by simp [fz])).trans rfl)) (fun j => ((q118 13 j (by simp [fz])).trans rfl)) (fun j => ((q118 14 j (by simp [fz])).trans rfl))), (R_of q119 rfl), (fun h => by exfalso; omega), (QY_b ((sLg_9 p74 p77).trans (cif_pos (by omega))) (by omega) (by rw [q120]; omega) (RG_at (RG_fr hR (fun j => ((q118 1 j (by simp [fz])).trans rfl)) (fun j => ((q118 2 j (by simp [fz])).trans rfl)) (fun j => ((q118 201 j (by simp [fz])).trans rfl)) ((q118 23 2 (by decide)).trans rfl) ((q118 23 3 (by decide)).trans rfl) (fun j => ((q118 228 j (by simp [fz])).trans rfl)) (fun j => ((q118 229 j (by simp [fz])).trans rfl)))))⟩ (nr_bool (R_of (lo := 0) (hi := 1) q119 rfl)) dX1_readLine_71
    ·
      have r122 : R (0) (0) v16 := ⟨by omega, by omega⟩
      have p123 := (iff_n q19) (by omega)
      refine r_iload S dX1_readLine_42 (lv_at hl 0 rfl) ?_
      refine r_if_ne (tgt := 57) S dX1_readLine_44 (by decide) (fun c124 => ?_) (fun c124 => ?_)
      ·
        have r125 : R (1) (1) v23 := ⟨by omega, by omega⟩
        have p126 := (q26).mp (by omega)
        refine r_aload_n S dX1_readLine_57 rfl (lv_at hl 3 rfl) ?_
        refine r_geti (K := 11) S X21 (Nat.le_of_ble_eq_true rfl) rfl lk1_24_1 (fun _ => ⟨_, rfl, rfl⟩) z4 dX1_readLine_58 ?_
        have e127 : v3.toInt = (ln : Int) := by rw [← z4]; exact hln
        refine r_bipush S dX1_readLine_61 (by decide) (fun v128 z129 => ?_)
        have r130 := R_eq z129
        refine r_icmp_lt (tgt := 72) S dX1_readLine_63 (by decide) (fun c131 => ?_) (fun c131 => ?_)
        ·
          have r132 : R (0) (39) v3 := ⟨by omega, by omega⟩
          refine r_aload_n S dX1_readLine_72 rfl (lv_at hl 3 rfl) ?_
          refine r_getn (K := 11) S X21 (Nat.le_of_ble_eq_true rfl) rfl lk1_72_1 (fun _ => ⟨_, rfl, rfl⟩) dX1_readLine_73 (fun v133 z134 => ?_)
          have r136 := R_any v133
          refine r_istore (lv' := [(5, .int v133), (4, .int v23), (3, .int v16), (2, .int v9), (0, .ref (G.2.2.2.1 11)), (1, .ref (G.2.2.2.1 23))]) S dX1_readLine_76 hl (by decide) rfl (fun ls hl => ?_)
          refine r_aload_n S dX1_readLine_78 rfl (lv_at hl 4 rfl) ?_
          refine r_get (K := 11) (v := .ref (G.2.2.2.1 1)) S X21 (Nat.le_of_ble_eq_true rfl) rfl lk1_32_1 (fun _ => ⟨_, rfl, rfl⟩) dX1_readLine_79 ?_
          refine r_kv (q_V (As := []) (rest := []) (K := 1) (ci := 7) S X21 (c_X7_step_q l G τ hI bb nb 400 t.2.2 (RT_st hR.1 (Or.inl p126.1)).1 (RT_st hR.1 (Or.inl p126.1)).2.1 (RT_st hR.1 (Or.inl p126.1)).2.2) ck1_75 (Nat.le_of_ble_eq_true rfl) rfl (fun _ => ⟨_, rfl⟩) ⟨_, _, rfl⟩ ⟨Nat.le_of_ble_eq_true rfl, Nat.le_of_ble_eq_true rfl⟩ rfl hl.1 rfl (Nat.le_of_ble_eq_true rfl) dX1_readLine_82 ⟨Nat.le_refl 0, Nat.le_refl 0⟩) X21 (fun t139 H lc q137 X138 => ?_)
          unfold po_X7_step_q at q137
          obtain ⟨q140, q141, q142⟩ := q137
          have F143 : Fr [(11, 1), (11, 2), (1, 3), (1, 4), (1, 5), (1, 7), (1, 8)] [12, 13, 14, 15, 201] τ t139 := Fr_call Fr_rfl q141 (by decide)
          have hR144 : RG bb nb 400 an mn t139 (nx bb nb 400 t) := ⟨q142, NM2_fr hR.2 ((q141 23 2 (by decide)).trans rfl) ((q141 23 3 (by decide)).trans rfl) (fun j => ((q141 228 j (by simp [fz])).trans rfl)) (fun j => ((q141 229 j (by simp [fz])).trans rfl))⟩
          refine r_iload_n S dX1_readLine_85 rfl (lv_at hl 3 rfl) ?_
          refine r_if_eq (tgt := 95) S dX1_readLine_86 (by decide) (fun c145 => ?_) (fun c145 => ?_)
          ·
            refine r_iload_n S dX1_readLine_95 rfl (lv_at hl 2 rfl) ?_
            refine r_if_eq (tgt := 105) S dX1_readLine_96 (by decide) (fun c146 => ?_) (fun c146 => ?_)
            ·
              refine r_iload S dX1_readLine_105 (lv_at hl 1 rfl) ?_
              refine r_if_eq (tgt := 118) S dX1_readLine_107 (by decide) (fun c147 => ?_) (fun c147 => ?_)
              ·
                exfalso; omega
              ·
                refine r_aload_n S dX1_readLine_110 rfl (lv_at hl 4 rfl) ?_
                refine r_aload_n S dX1_readLine_111 rfl (lv_at hl 5 rfl) ?_
                refine r_ki (q_V (As := [.ref (G.2.2.2.1 23)]) (rest := []) (K := 11) (ci := 1) S X138 (c_X1_readHiring_q l G t139 q140 (by rw [((q141 11 3 (by decide)).trans z4)]; exact R_of r132 rfl) (by rw [((q141 11 1 (by decide)).trans z2)]; exact R_of hf_0 rfl) (LR_eq hLR (fun j => ((q141 12 j (by simp [fz])).trans rfl)) (fun j => ((q141 13 j (by simp [fz])).trans rfl)) (fun j => ((q141 14 j (by simp [fz])).trans rfl))) bb nb an mn (nx bb nb 400 t) hR144 ) ck1_85 (Nat.le_of_ble_eq_true rfl) rfl (fun _ => ⟨_, rfl⟩) ⟨_, _, rfl⟩ ⟨Nat.le_of_ble_eq_true rfl, Nat.le_of_ble_eq_true rfl⟩ rfl hl.1 rfl (Nat.le_of_ble_eq_true rfl) dX1_readLine_112 ⟨Nat.le_refl 0, Nat.le_refl 0⟩) X138 (fun v151 t150 H lc q148 X149 => ?_)
                unfold po_X1_readHiring_q at q148
                obtain ⟨q152, q153, q154, q155, q156, q157⟩ := q148
                have F158 : Fr [(11, 1), (11, 2), (1, 3), (1, 4), (1, 5), (1, 7), (1, 8)] [12, 13, 14, 15, 201] τ t150 := Fr_call F143 q153 (by decide)
                refine r_goto (tgt := 125) S dX1_readLine_115 (by decide) ?_
                exact r_ret S hr hlk X149 ⟨q152, F158, q154, q155, (fun h => ⟨(by rw [((q153 11 3 (by decide)).trans ((q141 11 3 (by decide)).trans z4))]; exact R_of r132 rfl), (q156 h)⟩), (by rw [(sLg_10 p74 p123 p126), cif_neg (show ¬ 40 ≤ ln by omega)]; exact q157)⟩ (nr_bool (R_of (lo := 0) (hi := 1) q155 rfl)) dX1_readLine_125
            ·
              exfalso; omega
          ·
            exfalso; omega
        ·
          have r159 : R (40) (40) v3 := ⟨by omega, by omega⟩
          refine r_aload_n S dX1_readLine_66 rfl (lv_at hl 3 rfl) ?_
          refine r_iconst S dX1_readLine_67 (by decide) (fun v160 z161 => ?_)
          have r162 := R_eq z161
          refine r_ki (q_U (As := [.int v160]) (rest := []) (K := 11) (ci := 1) S X21 (c_X8_fail_t11 l G τ hI v160 (R_of (lo := -2147483648) (hi := 2147483647) r162 rfl)) ck1_68_1 (Nat.le_of_ble_eq_true rfl) rfl (fun _ => ⟨_, rfl⟩) ⟨_, _, rfl⟩ ⟨Nat.le_of_ble_eq_true rfl, Nat.le_of_ble_eq_true rfl⟩ rfl hl.1 rfl (Nat.le_of_ble_eq_true rfl) dX1_readLine_68 ⟨Nat.le_refl 0, Nat.le_refl 0⟩) X21 (fun v166 t165 H lc q163 X164 => ?_)
          unfold po_X8_fail_t11 at q163
          obtain ⟨q167, q168, q169, q170⟩ := q163
          have F171 : Fr [(11, 1), (11, 2), (1, 3), (1, 4), (1, 5), (1, 7), (1, 8)] [12, 13, 14, 15, 201] τ t165 := Fr_call Fr_rfl q168 (by decide)
          exact r_ret S hr hlk X164 ⟨q167, F171, (LR_eq hLR (fun j => ((q168 12 j (by simp [fz])).trans rfl)) (fun j => ((q168 13 j (by simp [fz])).trans rfl)) (fun j => ((q168 14 j (by simp [fz])).trans rfl))), (R_of q169 rfl), (fun h => by exfalso; omega), (QY_b ((sLg_10 p74 p123 p126).trans (cif_pos (by omega))) (by omega) (by rw [q170]; omega) (RG_at (RG_fr hR (fun j => ((q168 1 j (by simp [fz])).trans rfl)) (fun j => ((q168 2 j (by simp [fz])).trans rfl)) (fun j => ((q168 201 j (by simp [fz])).trans rfl)) ((q168 23 2 (by decide)).trans rfl) ((q168 23 3 (by decide)).trans rfl) (fun j => ((q168 228 j (by simp [fz])).trans rfl)) (fun j => ((q168 229 j (by simp [fz])).trans rfl)))))⟩ (nr_bool (R_of (lo := 0) (hi := 1) q169 rfl)) dX1_readLine_71
      ·
        have r172 : R (0) (0) v23 := ⟨by omega, by omega⟩
        have p173 := (iff_n q26) (by omega)
        refine r_aload_n S dX1_readLine_47 rfl (lv_at hl 3 rfl) ?_
        refine r_aload_n S dX1_readLine_48 rfl (lv_at hl 4 rfl) ?_
        refine r_ki (q_U (As := [.ref (G.2.2.2.1 23)]) (rest := []) (K := 11) (ci := 1) S X21 (c_X8_seeMan_t11 l G τ hI (by rw [z2]; exact R_of hf_0 rfl) bb nb an mn t hR ) ck1_65_1 (Nat.le_of_ble_eq_true rfl) rfl (fun _ => ⟨_, rfl⟩) ⟨_, _, rfl⟩ ⟨Nat.le_of_ble_eq_true rfl, Nat.le_of_ble_eq_true rfl⟩ rfl hl.1 rfl (Nat.le_of_ble_eq_true rfl) dX1_readLine_49 ⟨Nat.le_refl 0, Nat.le_refl 0⟩) X21 (fun v177 t176 H lc q174 X175 => ?_)
        unfold po_X8_seeMan_t11 at q174
        obtain ⟨q178, q179, q180, q181, q182⟩ := q174
        have F183 : Fr [(11, 1), (11, 2), (1, 3), (1, 4), (1, 5), (1, 7), (1, 8)] [12, 13, 14, 15, 201] τ t176 := Fr_call Fr_rfl q179 (by decide)
        refine r_if_ne (tgt := 57) S dX1_readLine_52 (by decide) (fun c184 => ?_) (fun c184 => ?_)
        ·
          have r185 : R (1) (1) v177 := ⟨by omega, by omega⟩
          obtain ⟨p186, p187⟩ := q181 (by omega)
          obtain ⟨v188, z189⟩ : ∃ x, t176 11 2 = x := ⟨_, rfl⟩
          rw [z189] at p186
          obtain ⟨v190, z191⟩ : ∃ x, t176 11 1 = x := ⟨_, rfl⟩
          rw [z191] at p187
          have p192 := (QY_1 q182) (by omega)
          obtain ⟨g193, e194, hP195⟩ := p192
          refine r_aload_n S dX1_readLine_57 rfl (lv_at hl 3 rfl) ?_
          refine r_geti (K := 11) S X175 (Nat.le_of_ble_eq_true rfl) rfl lk1_24_1 (fun _ => ⟨_, rfl, rfl⟩) ((q179 11 3 (by decide)).trans z4) dX1_readLine_58 ?_
          have e196 : v3.toInt = (ln : Int) := by rw [← z4]; exact hln
          refine r_bipush S dX1_readLine_61 (by decide) (fun v197 z198 => ?_)
          have r199 := R_eq z198
          refine r_icmp_lt (tgt := 72) S dX1_readLine_63 (by decide) (fun c200 => ?_) (fun c200 => ?_)
          ·
            have r201 : R (0) (39) v3 := ⟨by omega, by omega⟩
            refine r_aload_n S dX1_readLine_72 rfl (lv_at hl 3 rfl) ?_
            refine r_geti (K := 11) S X175 (Nat.le_of_ble_eq_true rfl) rfl lk1_72_1 (fun _ => ⟨_, rfl, rfl⟩) z189 dX1_readLine_73 ?_
            refine r_istore (lv' := [(5, .int v188), (4, .int v23), (3, .int v16), (2, .int v9), (0, .ref (G.2.2.2.1 11)), (1, .ref (G.2.2.2.1 23))]) S dX1_readLine_76 hl (by decide) rfl (fun ls hl => ?_)
            refine r_aload_n S dX1_readLine_78 rfl (lv_at hl 4 rfl) ?_
            refine r_get (K := 11) (v := .ref (G.2.2.2.1 1)) S X175 (Nat.le_of_ble_eq_true rfl) rfl lk1_32_1 (fun _ => ⟨_, rfl, rfl⟩) dX1_readLine_79 ?_
            refine r_kv (q_V (As := []) (rest := []) (K := 1) (ci := 7) S X175 (c_X7_step_q l G t176 q178 bb nb 400 t.2.2 (RT_st hP195.2.1 (Or.inl (sLook_n e194).1)).1 (RT_st hP195.2.1 (Or.inl (sLook_n e194).1)).2.1 (RT_st hP195.2.1 (Or.inl (sLook_n e194).1)).2.2) ck1_75 (Nat.le_of_ble_eq_true rfl) rfl (fun _ => ⟨_, rfl⟩) ⟨_, _, rfl⟩ ⟨Nat.le_of_ble_eq_true rfl, Nat.le_of_ble_eq_true rfl⟩ rfl hl.1 rfl (Nat.le_of_ble_eq_true rfl) dX1_readLine_82 ⟨Nat.le_refl 0, Nat.le_refl 0⟩) X175 (fun t204 H lc q202 X203 => ?_)
            unfold po_X7_step_q at q202
            obtain ⟨q205, q206, q207⟩ := q202
            have F208 : Fr [(11, 1), (11, 2), (1, 3), (1, 4), (1, 5), (1, 7), (1, 8)] [12, 13, 14, 15, 201] τ t204 := Fr_call F183 q206 (by decide)
            have hR209 : RG bb nb 400 an mn t204 (nx bb nb 400 t) := ⟨q207, NM2_fr hP195.2.2 ((q206 23 2 (by decide)).trans rfl) ((q206 23 3 (by decide)).trans rfl) (fun j => ((q206 228 j (by simp [fz])).trans rfl)) (fun j => ((q206 229 j (by simp [fz])).trans rfl))⟩
            refine r_iload_n S dX1_readLine_85 rfl (lv_at hl 3 rfl) ?_
            refine r_if_eq (tgt := 95) S dX1_readLine_86 (by decide) (fun c210 => ?_) (fun c210 => ?_)
            ·
              refine r_iload_n S dX1_readLine_95 rfl (lv_at hl 2 rfl) ?_
              refine r_if_eq (tgt := 105) S dX1_readLine_96 (by decide) (fun c211 => ?_) (fun c211 => ?_)
              ·
                refine r_iload S dX1_readLine_105 (lv_at hl 1 rfl) ?_
                refine r_if_eq (tgt := 118) S dX1_readLine_107 (by decide) (fun c212 => ?_) (fun c212 => ?_)
                ·
                  refine r_aload_n S dX1_readLine_118 rfl (lv_at hl 4 rfl) ?_
                  refine r_aload_n S dX1_readLine_119 rfl (lv_at hl 5 rfl) ?_
                  refine r_iload S dX1_readLine_120 (lv_at hl 0 rfl) ?_
                  refine r_ki (q_V (As := [.ref (G.2.2.2.1 23), .int v188]) (rest := []) (K := 11) (ci := 1) S X203 (c_X1_readSpeech_q l G t204 q205 v188 p186 (by rw [((q206 11 3 (by decide)).trans ((q179 11 3 (by decide)).trans z4))]; exact R_of r201 rfl) (by rw [((q206 11 1 (by decide)).trans z191)]; exact R_of p187 rfl) (LR_eq hLR (fun j => ((q206 12 j (by simp [fz])).trans ((q179 12 j (by simp [fz])).trans rfl))) (fun j => ((q206 13 j (by simp [fz])).trans ((q179 13 j (by simp [fz])).trans rfl))) (fun j => ((q206 14 j (by simp [fz])).trans ((q179 14 j (by simp [fz])).trans rfl)))) bb nb an mn (nx bb nb 400 t) hR209 ) ck1_88 (Nat.le_of_ble_eq_true rfl) rfl (fun _ => ⟨_, rfl⟩) ⟨_, _, rfl⟩ ⟨Nat.le_of_ble_eq_true rfl, Nat.le_of_ble_eq_true rfl⟩ rfl hl.1 rfl (Nat.le_of_ble_eq_true rfl) dX1_readLine_122 ⟨Nat.le_refl 0, Nat.le_refl 0⟩) X203 (fun v216 t215 H lc q213 X214 => ?_)
                  unfold po_X1_readSpeech_q at q213
                  obtain ⟨q217, q218, q219, q220, q221, q222⟩ := q213
                  have F223 : Fr [(11, 1), (11, 2), (1, 3), (1, 4), (1, 5), (1, 7), (1, 8)] [12, 13, 14, 15, 201] τ t215 := Fr_call F208 q218 (by decide)
                  exact r_ret S hr hlk X214 ⟨q217, F223, q219, q220, (fun h => ⟨(by rw [((q218 11 3 (by decide)).trans ((q206 11 3 (by decide)).trans ((q179 11 3 (by decide)).trans z4)))]; exact R_of r201 rfl), (q221 h)⟩), (by rw [((sLg_m p74 p123 p173).trans (thn_r e194)), cif_neg (show ¬ 40 ≤ ln by omega)]; exact q222)⟩ (nr_bool (R_of (lo := 0) (hi := 1) q220 rfl)) dX1_readLine_125
                ·
                  exfalso; omega
              ·
                exfalso; omega
            ·
              exfalso; omega
          ·
            have r224 : R (40) (40) v3 := ⟨by omega, by omega⟩
            refine r_aload_n S dX1_readLine_66 rfl (lv_at hl 3 rfl) ?_
            refine r_iconst S dX1_readLine_67 (by decide) (fun v225 z226 => ?_)
            have r227 := R_eq z226
            refine r_ki (q_U (As := [.int v225]) (rest := []) (K := 11) (ci := 1) S X175 (c_X8_fail_t11 l G t176 q178 v225 (R_of (lo := -2147483648) (hi := 2147483647) r227 rfl)) ck1_68_1 (Nat.le_of_ble_eq_true rfl) rfl (fun _ => ⟨_, rfl⟩) ⟨_, _, rfl⟩ ⟨Nat.le_of_ble_eq_true rfl, Nat.le_of_ble_eq_true rfl⟩ rfl hl.1 rfl (Nat.le_of_ble_eq_true rfl) dX1_readLine_68 ⟨Nat.le_refl 0, Nat.le_refl 0⟩) X175 (fun v231 t230 H lc q228 X229 => ?_)
            unfold po_X8_fail_t11 at q228
            obtain ⟨q232, q233, q234, q235⟩ := q228
            have F236 : Fr [(11, 1), (11, 2), (1, 3), (1, 4), (1, 5), (1, 7), (1, 8)] [12, 13, 14, 15, 201] τ t230 := Fr_call F183 q233 (by decide)
            exact r_ret S hr hlk X229 ⟨q232, F236, (LR_eq hLR (fun j => ((q233 12 j (by simp [fz])).trans ((q179 12 j (by simp [fz])).trans rfl))) (fun j => ((q233 13 j (by simp [fz])).trans ((q179 13 j (by simp [fz])).trans rfl))) (fun j => ((q233 14 j (by simp [fz])).trans ((q179 14 j (by simp [fz])).trans rfl)))), (R_of q234 rfl), (fun h => by exfalso; omega), (QY_b (((sLg_m p74 p123 p173).trans (thn_r e194)).trans (cif_pos (by omega))) (by omega) (by rw [q235]; omega) (RG_at (RG_fr hP195.2 (fun j => ((q233 1 j (by simp [fz])).trans rfl)) (fun j => ((q233 2 j (by simp [fz])).trans rfl)) (fun j => ((q233 201 j (by simp [fz])).trans rfl)) ((q233 23 2 (by decide)).trans rfl) ((q233 23 3 (by decide)).trans rfl) (fun j => ((q233 228 j (by simp [fz])).trans rfl)) (fun j => ((q233 229 j (by simp [fz])).trans rfl)))))⟩ (nr_bool (R_of (lo := 0) (hi := 1) q234 rfl)) dX1_readLine_71
        ·
          have r237 : R (0) (0) v177 := ⟨by omega, by omega⟩
          have p238 := (QY_0 q182) (by omega)
          obtain ⟨q239, e240, h241, h242⟩ := p238
          refine r_iconst S dX1_readLine_55 (by decide) (fun v243 z244 => ?_)
          have r245 := R_eq z244
          exact r_ret S hr hlk X175 ⟨q178, F183, (LR_eq hLR (fun j => ((q179 12 j (by simp [fz])).trans rfl)) (fun j => ((q179 13 j (by simp [fz])).trans rfl)) (fun j => ((q179 14 j (by simp [fz])).trans rfl))), (R_of r245 rfl), (fun h => by exfalso; omega), (QY_l ((sLg_m p74 p123 p173).trans (thn_l e240)) (by omega) h241 h242)⟩ (nr_bool (R_of (lo := 0) (hi := 1) r245 rfl)) dX1_readLine_56
def po_X1_read_q (τ : Tau)    (bb : Nat → Int) (nb : Nat) (an mn : List (List Int)) (r : Int32) (u : Tau) : Prop := Inv u ∧ Fr [(11, 1), (11, 2), (1, 3), (1, 4), (1, 5), (1, 7), (1, 8), (11, 3), (1, 2)] [12, 13, 14, 15, 201] τ u ∧ LR u ∧ R (0) (1) r ∧ (r.toInt = 1 → R (0) (0) (u 11 1)) ∧ QY 11 (sLo bb nb an mn) r u (fun _ => True)
set_option maxHeartbeats 4000000 in
set_option maxRecDepth 100000 in
theorem c_X1_read_q (l : Launch) (G : Gx) (τ : Tau) (hI : Inv τ) (hLR : LR τ) (bb : Nat → Int) (nb : Nat) (an mn : List (List Int)) (hB0 : RB0 bb nb τ) (hN : NM τ 23 2 28 an ∧ NM τ 23 3 29 mn) : Ci l G yX1_read cX1_read 3 (some .boolean) 4 96 [.ref (G.2.2.2.1 11), .ref (G.2.2.2.1 23)] τ (po_X1_read_q τ    bb nb an mn) := by
  unfold Ci
  refine C_of (own := RX1) (by decide) rfl (Nat.le_of_ble_eq_true rfl) ?_
  intro p e s m below meth c ls S hr hlk X hl
  have hl : lv_has ls 3 [(0, .ref (G.2.2.2.1 11)), (1, .ref (G.2.2.2.1 23))] := hl
  refine r_aload_n S dX1_read_0 rfl (lv_at hl 0 rfl) ?_
  refine r_iconst S dX1_read_1 (by decide) (fun v1 z2 => ?_)
  have r3 := R_eq z2
  refine r_put (K := 11) (ty := .int) S X (Nat.le_of_ble_eq_true rfl) rfl lk1_24_1 (fun _ => ⟨_, rfl, Nat.le_of_ble_eq_true rfl, rfl⟩) (fun _ _ _ h => by cases h; exact ⟨rfl, rfl⟩) rfl rfl dX1_read_2 (fun t4 H lc M5 X6 => ?_)
  have I7 := Inv_mu hI M5 (show Rg (kd 11) 3 v1 from (R_of (lo := 0) (hi := 40) r3 rfl))
  have F8 : Fr [(11, 1), (11, 2), (1, 3), (1, 4), (1, 5), (1, 7), (1, 8), (11, 3), (1, 2)] [12, 13, 14, 15, 201] τ t4 := Fr_mu Fr_rfl M5 (by decide)
  refine r_aload_n S dX1_read_5 rfl (lv_at hl 0 rfl) ?_
  refine r_sipush S dX1_read_6 (by decide) (fun v9 z10 => ?_)
  have r11 := R_eq z10
  refine r_kv (q_U (As := [.int v9]) (rest := []) (K := 11) (ci := 1) S X6 (c_X8_open_t11 l G t4 I7 v9 r11 bb nb (RB0_eq hB0 (F8 1 1 (by simp [fz])) (fun j => F8 2 j (by simp [fz])))) ck1_28_1 (Nat.le_of_ble_eq_true rfl) rfl (fun _ => ⟨_, rfl⟩) ⟨_, _, rfl⟩ ⟨Nat.le_of_ble_eq_true rfl, Nat.le_of_ble_eq_true rfl⟩ rfl hl.1 rfl (Nat.le_of_ble_eq_true rfl) dX1_read_9 ⟨Nat.le_refl 0, Nat.le_refl 0⟩) X6 (fun t14 H lc q12 X13 => ?_)
  unfold po_X8_open_t11 at q12
  obtain ⟨q15, q16, q17, q18⟩ := q12
  have F19 : Fr [(11, 1), (11, 2), (1, 3), (1, 4), (1, 5), (1, 7), (1, 8), (11, 3), (1, 2)] [12, 13, 14, 15, 201] τ t14 := Fr_call F8 q16 (by decide)
  obtain ⟨v20, z21⟩ : ∃ x, t14 11 1 = x := ⟨_, rfl⟩
  rw [z21] at q17
  refine r_iconst S dX1_read_12 (by decide) (fun v22 z23 => ?_)
  have r24 := R_eq z23
  refine r_istore_n (lv' := [(2, .int v22), (0, .ref (G.2.2.2.1 11)), (1, .ref (G.2.2.2.1 23))]) S dX1_read_13 rfl hl (by decide) rfl (fun ls hl => ?_)
  have L1468 : ∀ (n : Nat) (t1457 : Tau) (H : Heap) (lc : List Loc) (ls : Array Slot) (i1455 : Int32) (f1462 : Int32) (f1465 : Int32), Xd G s H lc t1457 → Inv t1457 → Fr [(11, 1), (11, 2), (1, 3), (1, 4), (1, 5), (1, 7), (1, 8), (11, 3), (1, 2)] [12, 13, 14, 15, 201] τ t1457 → LR t1457 → R (0) (41) i1455 → t1457 11 3 = f1462 → R (0) (40) f1462 → t1457 11 1 = f1465 → R (0) (0) f1465 → (∃ tc : Tk, RG bb nb 400 an mn t1457 tc ∧ (f1462).toInt = (i1455).toInt ∧ lRd bb nb 400 an mn (41 - (i1455).toInt.toNat) tc (i1455).toInt.toNat = lRd bb nb 400 an mn 41 (lex bb nb 400 0) 0) → lv_has ls 3 [(0, .ref (G.2.2.2.1 11)), (1, .ref (G.2.2.2.1 23)), (2, .int i1455)] → (41 - i1455.toInt).toNat < n → W p l e (Rm 4 96) s m ([.ref (G.2.2.2.1 11), .ref (G.2.2.2.1 23)] : List Value).toArray below meth c H lc 0 0 (MQ below (va_Qi (po_X1_read_q τ    bb nb an mn) (Bs G) G.2.2.2.2) ([.ref (G.2.2.2.1 11), .ref (G.2.2.2.1 23)] : List Value).toArray s 0 0 G.2.2.2.2) (F0 m 14 ls []) := by
    intro n
    induction n with
    | zero => intros; omega
    | succ n ih1470 =>
      intro t1457 H lc ls i1455 f1462 f1465 X1461 I1458 F1459 hLR1460 r1456 z1464 r1463 z1467 r1466 x1469 hl hm
      obtain ⟨tc1471, hR1472, hl1473, he1474⟩ := x1469
      refine r_iload_n S dX1_read_14 rfl (lv_at hl 2 rfl) ?_
      refine r_bipush S dX1_read_15 (by decide) (fun v1475 z1476 => ?_)
      have r1477 := R_eq z1476
      refine r_icmp_gt (tgt := 65) S dX1_read_17 (by decide) (fun c1478 => ?_) (fun c1478 => ?_)
      ·
        have r1479 : R (41) (41) i1455 := ⟨by omega, by omega⟩
        refine r_iconst S dX1_read_65 (by decide) (fun v1480 z1481 => ?_)
        have r1482 := R_eq z1481
        exact r_ret S hr hlk X1461 ⟨I1458, F1459, hLR1460, (R_of r1482 rfl), (fun h => (by rw [z1467]; exact R_of r1466 rfl)), (QY_r (by rw [sLo_d, ← he1474, show 41 - i1455.toInt.toNat = 0 by omega]; rfl) (by omega) trivial)⟩ (nr_bool (R_of (lo := 0) (hi := 1) r1482 rfl)) dX1_read_66
      ·
        have r1483 : R (0) (40) i1455 := ⟨by omega, by omega⟩
        refine r_aload_n S dX1_read_20 rfl (lv_at hl 0 rfl) ?_
        refine r_get (K := 11) (v := .ref (G.2.2.2.1 1)) S X1461 (Nat.le_of_ble_eq_true rfl) rfl lk1_32_1 (fun _ => ⟨_, rfl, rfl⟩) dX1_read_21 ?_
        refine r_getn (K := 1) S X1461 (Nat.le_of_ble_eq_true rfl) rfl lk1_36_7 (fun _ => ⟨_, rfl, rfl⟩) dX1_read_24 (fun v1484 z1485 => ?_)
        have r1486 : R (0) (4) v1484 := rd I1458 rfl z1485
        refine r_if_eq (tgt := 65) S dX1_read_27 (by decide) (fun c1487 => ?_) (fun c1487 => ?_)
        ·
          have r1488 : R (0) (0) v1484 := ⟨by omega, by omega⟩
          refine r_iconst S dX1_read_65 (by decide) (fun v1489 z1490 => ?_)
          have r1491 := R_eq z1490
          exact r_ret S hr hlk X1461 ⟨I1458, F1459, hLR1460, (R_of r1491 rfl), (fun h => (by rw [z1467]; exact R_of r1466 rfl)), (QY_r (by rw [sLo_d, ← he1474]; exact lRd_e ((RT_k hR1472.1).1.mp (by rw [z1485]; omega))) (by omega) trivial)⟩ (nr_bool (R_of (lo := 0) (hi := 1) r1491 rfl)) dX1_read_66
        ·
          have r1492 : R (1) (4) v1484 := ⟨by omega, by omega⟩
          refine r_aload_n S dX1_read_30 rfl (lv_at hl 0 rfl) ?_
          refine r_aload_n S dX1_read_31 rfl (lv_at hl 1 rfl) ?_
          refine r_ki (q_V (As := [.ref (G.2.2.2.1 23)]) (rest := []) (K := 11) (ci := 1) S X1461 (c_X1_readLine_q l G t1457 I1458 (by rw [z1467]; exact R_of r1466 rfl) hLR1460 bb nb an mn tc1471 f1462.toInt.toNat hR1472 (by rw [z1464]; omega)) ck1_41 (Nat.le_of_ble_eq_true rfl) rfl (fun _ => ⟨_, rfl⟩) ⟨_, _, rfl⟩ ⟨Nat.le_of_ble_eq_true rfl, Nat.le_of_ble_eq_true rfl⟩ rfl hl.1 rfl (Nat.le_of_ble_eq_true rfl) dX1_read_32 ⟨Nat.le_refl 0, Nat.le_refl 0⟩) X1461 (fun v1496 t1495 H lc q1493 X1494 => ?_)
          unfold po_X1_readLine_q at q1493
          obtain ⟨q1497, q1498, q1499, q1500, q1501, q1502⟩ := q1493
          have F1503 : Fr [(11, 1), (11, 2), (1, 3), (1, 4), (1, 5), (1, 7), (1, 8), (11, 3), (1, 2)] [12, 13, 14, 15, 201] τ t1495 := Fr_call F1459 q1498 (by decide)
          refine r_if_eq (tgt := 47) S dX1_read_35 (by decide) (fun c1504 => ?_) (fun c1504 => ?_)
          ·
            have r1505 : R (0) (0) v1496 := ⟨by omega, by omega⟩
            have p1506 := (QY_0 q1502) (by omega)
            obtain ⟨q1507, e1508, h1509, h1510⟩ := p1506
            have e1511 := e1508
            rw [show f1462.toInt.toNat = i1455.toInt.toNat by omega] at e1511
            refine r_iconst S dX1_read_47 (by decide) (fun v1512 z1513 => ?_)
            have r1514 := R_eq z1513
            exact r_ret S hr hlk X1494 ⟨q1497, F1503, q1499, (R_of r1514 rfl), (fun h => by exfalso; omega), (QY_l (by rw [sLo_d, ← he1474, show 41 - i1455.toInt.toNat = (40 - i1455.toInt.toNat) + 1 by omega]; exact lRd_l1 (fun h => absurd ((RT_k hR1472.1).1.mpr h) (by rw [z1485]; omega)) e1511) (by omega) h1509 h1510)⟩ (nr_bool (R_of (lo := 0) (hi := 1) r1514 rfl)) dX1_read_48
          ·
            have r1515 : R (1) (1) v1496 := ⟨by omega, by omega⟩
            obtain ⟨p1516, p1517⟩ := q1501 (by omega)
            have r1518 : R (0) (39) f1462 := ((q1498 11 3 (by decide)).trans z1464) ▸ p1516
            have r1519 : R (0) (39) f1462 := ⟨by omega, by omega⟩
            obtain ⟨v1520, z1521⟩ : ∃ x, t1495 11 1 = x := ⟨_, rfl⟩
            rw [z1521] at p1517
            have p1522 := (QY_1 q1502) (by omega)
            obtain ⟨g1523, e1524, hP1525⟩ := p1522
            have e1526 := e1524
            rw [show f1462.toInt.toNat = i1455.toInt.toNat by omega] at e1526
            refine r_aload_n S dX1_read_38 rfl (lv_at hl 0 rfl) ?_
            refine r_bipush S dX1_read_39 (by decide) (fun v1527 z1528 => ?_)
            have r1529 := R_eq z1528
            refine r_ki (q_U (As := [.int v1527]) (rest := []) (K := 11) (ci := 1) S X1494 (c_X8_takeSign_t11 l G t1495 q1497 v1527 r1529 (by rw [z1521]; exact R_of p1517 rfl) bb nb an mn g1523 hP1525 ) ck1_45_1 (Nat.le_of_ble_eq_true rfl) rfl (fun _ => ⟨_, rfl⟩) ⟨_, _, rfl⟩ ⟨Nat.le_of_ble_eq_true rfl, Nat.le_of_ble_eq_true rfl⟩ rfl hl.1 rfl (Nat.le_of_ble_eq_true rfl) dX1_read_41 ⟨Nat.le_refl 0, Nat.le_refl 0⟩) X1494 (fun v1533 t1532 H lc q1530 X1531 => ?_)
            unfold po_X8_takeSign_t11 at q1530
            obtain ⟨q1534, q1535, q1536, q1537, q1538⟩ := q1530
            have F1539 : Fr [(11, 1), (11, 2), (1, 3), (1, 4), (1, 5), (1, 7), (1, 8), (11, 3), (1, 2)] [12, 13, 14, 15, 201] τ t1532 := Fr_call F1503 q1535 (by decide)
            refine r_if_ne (tgt := 49) S dX1_read_44 (by decide) (fun c1540 => ?_) (fun c1540 => ?_)
            ·
              have r1541 : R (1) (1) v1533 := ⟨by omega, by omega⟩
              have p1542 := q1537 (by omega)
              obtain ⟨v1543, z1544⟩ : ∃ x, t1532 11 1 = x := ⟨_, rfl⟩
              rw [z1544] at p1542
              have p1545 := (QY_1 q1538) (by omega)
              obtain ⟨g1546, e1547, hP1548⟩ := p1545
              refine r_aload_n S dX1_read_49 rfl (lv_at hl 0 rfl) ?_
              refine r_dup S dX1_read_50 rfl ?_
              refine r_geti (K := 11) S X1531 (Nat.le_of_ble_eq_true rfl) rfl lk1_24_1 (fun _ => ⟨_, rfl, rfl⟩) ((q1535 11 3 (by decide)).trans ((q1498 11 3 (by decide)).trans z1464)) dX1_read_51 ?_
              refine r_iconst S dX1_read_54 (by decide) (fun v1549 z1550 => ?_)
              have r1551 := R_eq z1550
              refine r_iadd S dX1_read_55 (fun v1552 z1553 => ?_)
              obtain ⟨e1554, r1555⟩ := i_add (lo := 1) (hi := 40) z1553 r1519 r1551 rfl
              refine r_put (K := 11) (ty := .int) S X1531 (Nat.le_of_ble_eq_true rfl) rfl lk1_24_1 (fun _ => ⟨_, rfl, Nat.le_of_ble_eq_true rfl, rfl⟩) (fun _ _ _ h => by cases h; exact ⟨rfl, rfl⟩) rfl rfl dX1_read_56 (fun t1556 H lc M1557 X1558 => ?_)
              have I1559 := Inv_mu q1534 M1557 (show Rg (kd 11) 3 v1552 from (R_of (lo := 0) (hi := 40) r1555 rfl))
              have F1560 : Fr [(11, 1), (11, 2), (1, 3), (1, 4), (1, 5), (1, 7), (1, 8), (11, 3), (1, 2)] [12, 13, 14, 15, 201] τ t1556 := Fr_mu F1539 M1557 (by decide)
              refine r_iinc (k := 2) S dX1_read_59 hl rfl (by decide) (by decide) (fun v1561 d1562 ls z1563 z1564 hl => ?_)
              obtain ⟨e1565, r1566⟩ := i_add (lo := 1) (hi := 41) z1563 r1483 (R_eq z1564) rfl
              have hl : lv_has ls 3 [(2, .int v1561), (0, .ref (G.2.2.2.1 11)), (1, .ref (G.2.2.2.1 23))] := hl
              refine r_goto (tgt := 14) S dX1_read_62 (by decide) ?_
              exact ih1470 t1556 _ _ _ v1561 v1552 v1543 X1558 I1559 F1560 (LR_eq q1499 (fun j => ((M1557.2 12 j (Or.inl (by decide))).trans ((q1535 12 j (by simp [fz])).trans rfl))) (fun j => ((M1557.2 13 j (Or.inl (by decide))).trans ((q1535 13 j (by simp [fz])).trans rfl))) (fun j => ((M1557.2 14 j (Or.inl (by decide))).trans ((q1535 14 j (by simp [fz])).trans rfl)))) (R_of r1566 rfl) M1557.1 ⟨by omega, by omega⟩ ((M1557.2 11 1 (Or.inr (by decide))).trans z1544) ⟨by omega, by omega⟩ ⟨g1546, (RG_fr hP1548 (fun j => ((M1557.2 1 j (Or.inl (by decide))).trans rfl)) (fun j => ((M1557.2 2 j (Or.inl (by decide))).trans rfl)) (fun j => ((M1557.2 201 j (Or.inl (by decide))).trans rfl)) ((M1557.2 23 2 (Or.inl (by decide))).trans rfl) ((M1557.2 23 3 (Or.inl (by decide))).trans rfl) (fun j => ((M1557.2 228 j (Or.inl (by decide))).trans rfl)) (fun j => ((M1557.2 229 j (Or.inl (by decide))).trans rfl))), (by omega), (by rw [← he1474, show 41 - i1455.toInt.toNat = (41 - v1561.toInt.toNat) + 1 by omega, show v1561.toInt.toNat = i1455.toInt.toNat + 1 by omega]; exact (lRd_r (fun h => absurd ((RT_k hR1472.1).1.mpr h) (by rw [z1485]; omega)) e1526 e1547).symm)⟩ (lv_sub hl [1, 2, 0] rfl) (by omega)
            ·
              have r1567 : R (0) (0) v1533 := ⟨by omega, by omega⟩
              have p1568 := (QY_0 q1538) (by omega)
              obtain ⟨q1569, e1570, h1571, h1572⟩ := p1568
              refine r_iconst S dX1_read_47 (by decide) (fun v1573 z1574 => ?_)
              have r1575 := R_eq z1574
              exact r_ret S hr hlk X1531 ⟨q1534, F1539, (LR_eq q1499 (fun j => ((q1535 12 j (by simp [fz])).trans rfl)) (fun j => ((q1535 13 j (by simp [fz])).trans rfl)) (fun j => ((q1535 14 j (by simp [fz])).trans rfl))), (R_of r1575 rfl), (fun h => by exfalso; omega), (QY_l (by rw [sLo_d, ← he1474, show 41 - i1455.toInt.toNat = (40 - i1455.toInt.toNat) + 1 by omega]; exact lRd_l2 (fun h => absurd ((RT_k hR1472.1).1.mpr h) (by rw [z1485]; omega)) e1526 e1570) (by omega) h1571 h1572)⟩ (nr_bool (R_of (lo := 0) (hi := 1) r1575 rfl)) dX1_read_48
  exact L1468 _ t14 _ _ _ v22 v1 v20 X13 q15 F19 (LR_eq hLR (fun j => ((q16 12 j (by simp [fz])).trans ((M5.2 12 j (Or.inl (by decide))).trans rfl))) (fun j => ((q16 13 j (by simp [fz])).trans ((M5.2 13 j (Or.inl (by decide))).trans rfl))) (fun j => ((q16 14 j (by simp [fz])).trans ((M5.2 14 j (Or.inl (by decide))).trans rfl)))) (R_of r24 rfl) ((q16 11 3 (by decide)).trans M5.1) ⟨by omega, by omega⟩ z21 ⟨by omega, by omega⟩ ⟨lex bb nb 400 0, ⟨q18, NM2_fr hN ((q16 23 2 (by decide)).trans ((M5.2 23 2 (Or.inl (by decide))).trans rfl)) ((q16 23 3 (by decide)).trans ((M5.2 23 3 (Or.inl (by decide))).trans rfl)) (fun j => ((q16 228 j (by simp [fz])).trans ((M5.2 228 j (Or.inl (by decide))).trans rfl))) (fun j => ((q16 229 j (by simp [fz])).trans ((M5.2 229 j (Or.inl (by decide))).trans rfl)))⟩, (by omega), (by rw [show v22.toInt.toNat = 0 by omega])⟩ (lv_sub hl [1, 2, 0] rfl) (Nat.lt_succ_self _)
def po_X11_log_q (τ : Tau)  (a0 : Int32)  (bb : Nat → Int) (nb : Nat) (an mn : List (List Int)) (r : Int32) (u : Tau) : Prop := Inv u ∧ Fr [(11, 1), (11, 2), (1, 3), (1, 4), (1, 5), (1, 7), (1, 8), (11, 3), (1, 2), (1, 1), (0, 12), (0, 8), (0, 9), (30, 4), (30, 5), (30, 6), (30, 10), (30, 8), (30, 9), (30, 7), (40, 4), (40, 5), (40, 6), (40, 7), (40, 8), (40, 9), (40, 10)] [12, 13, 14, 15, 52, 53, 54, 55, 56, 57, 58, 59, 60, 61, 62, 63, 64, 65, 66, 67, 68, 69, 70, 71, 72, 73, 74, 75, 76, 77, 78, 79, 80, 81, 82, 83, 84, 85, 86, 87, 88, 89, 90, 91, 31, 32, 33, 34, 130, 41, 42, 43, 44, 201] τ u ∧ WI u ∧ HI u ∧ LR u ∧ (0 ≤ a0.toInt ∧ a0.toInt ≤ 1 → (u 1 1).toInt = 0) ∧ (a0.toInt < 0 ∨ 1 < a0.toInt → (u 1 1).toInt = (τ 1 1).toInt) ∧ ((0 ≤ a0.toInt ∧ a0.toInt ≤ 1 → QL (sLo bb nb an mn) (u 0 12).toInt) ∧ (a0.toInt < 0 ∨ 1 < a0.toInt → u 0 12 = τ 0 12))
set_option maxHeartbeats 4000000 in
set_option maxRecDepth 100000 in
theorem c_X11_log_q (l : Launch) (G : Gx) (τ : Tau) (hI : Inv τ) (a0 : Int32) (h_a0 : R (-2147483648) (2147483647) a0) (hWI : WI τ) (hHI : HI τ) (hLR : LR τ) (bb : Nat → Int) (nb : Nat) (an mn : List (List Int)) (hB0 : RB0 bb nb τ) (hN : NM τ 23 2 28 an ∧ NM τ 23 3 29 mn) : Ci l G yX11_log cX11_log 4 (some .int) 7 170 [.ref (G.2.2.2.1 0), .int a0] τ (po_X11_log_q τ  a0  bb nb an mn) := by
  unfold Ci
  refine C_of (own := RX11) (by decide) rfl (Nat.le_of_ble_eq_true rfl) ?_
  intro p e s m below meth c ls S hr hlk X hl
  have hl : lv_has ls 4 [(0, .ref (G.2.2.2.1 0)), (1, .int a0)] := hl
  obtain ⟨v1, z2⟩ : ∃ x, τ 23 2 = x := ⟨_, rfl⟩
  have r3 : R (0) (9) v1 := rd hI rfl z2
  obtain ⟨v4, z5⟩ : ∃ x, τ 30 8 = x := ⟨_, rfl⟩
  have r6 : R (-1) (8) v4 := rd hI rfl z5
  have hab : 0 < v1.toInt → 0 ≤ v4.toInt := by have h := hWI; unfold WI at h; rw [z2, z5] at h; exact h
  refine r_iload_n S dX11_log_0 rfl (lv_at hl 1 rfl) ?_
  refine r_if_eq (tgt := 13) S dX11_log_1 (by decide) (fun c7 => ?_) (fun c7 => ?_)
  ·
    have r8 : R (0) (0) a0 := ⟨by omega, by omega⟩
    refine r_aload_n S dX11_log_13 rfl (lv_at hl 0 rfl) ?_
    refine r_get (K := 0) (v := .ref (G.2.2.2.1 11)) S X (Nat.le_of_ble_eq_true rfl) rfl lk11_28_9 (fun _ => ⟨_, rfl, rfl⟩) dX11_log_14 ?_
    refine r_aload_n S dX11_log_17 rfl (lv_at hl 0 rfl) ?_
    refine r_get (K := 0) (v := .ref (G.2.2.2.1 22)) S X (Nat.le_of_ble_eq_true rfl) rfl lk11_42_9 (fun _ => ⟨_, rfl, rfl⟩) dX11_log_18 ?_
    refine r_get (K := 22) (v := .ref (G.2.2.2.1 23)) S X (Nat.le_of_ble_eq_true rfl) rfl lk11_139_8 (fun _ => ⟨_, rfl, rfl⟩) dX11_log_21 ?_
    refine r_ki (q_V (As := [.ref (G.2.2.2.1 23)]) (rest := []) (K := 11) (ci := 1) S X (c_X1_read_q l G τ hI hLR bb nb an mn hB0 hN) ck11_272 (Nat.le_of_ble_eq_true rfl) rfl (fun _ => ⟨_, rfl⟩) ⟨_, _, rfl⟩ ⟨Nat.le_of_ble_eq_true rfl, Nat.le_of_ble_eq_true rfl⟩ rfl hl.1 rfl (Nat.le_of_ble_eq_true rfl) dX11_log_24 ⟨Nat.le_refl 0, Nat.le_refl 0⟩) X (fun v12 t11 H lc q9 X10 => ?_)
    unfold po_X1_read_q at q9
    obtain ⟨q13, q14, q15, q16, q17, q18⟩ := q9
    have F19 : Fr [(11, 1), (11, 2), (1, 3), (1, 4), (1, 5), (1, 7), (1, 8), (11, 3), (1, 2), (1, 1), (0, 12), (0, 8), (0, 9), (30, 4), (30, 5), (30, 6), (30, 10), (30, 8), (30, 9), (30, 7), (40, 4), (40, 5), (40, 6), (40, 7), (40, 8), (40, 9), (40, 10)] [12, 13, 14, 15, 52, 53, 54, 55, 56, 57, 58, 59, 60, 61, 62, 63, 64, 65, 66, 67, 68, 69, 70, 71, 72, 73, 74, 75, 76, 77, 78, 79, 80, 81, 82, 83, 84, 85, 86, 87, 88, 89, 90, 91, 31, 32, 33, 34, 130, 41, 42, 43, 44, 201] τ t11 := Fr_call Fr_rfl q14 (by decide)
    refine r_istore_n (lv' := [(2, .int v12), (0, .ref (G.2.2.2.1 0)), (1, .int a0)]) S dX11_log_27 rfl hl (by decide) rfl (fun ls hl => ?_)
    refine r_aload_n S dX11_log_28 rfl (lv_at hl 1 rfl) ?_
    refine r_aload_n S dX11_log_29 rfl (lv_at hl 1 rfl) ?_
    refine r_get (K := 0) (v := .ref (G.2.2.2.1 11)) S X10 (Nat.le_of_ble_eq_true rfl) rfl lk11_28_9 (fun _ => ⟨_, rfl, rfl⟩) dX11_log_30 ?_
    refine r_getn (K := 11) S X10 (Nat.le_of_ble_eq_true rfl) rfl lk11_275_1 (fun _ => ⟨_, rfl, rfl⟩) dX11_log_33 (fun v20 z21 => ?_)
    have r23 := R_any v20
    refine r_put (K := 0) (ty := .int) S X10 (Nat.le_of_ble_eq_true rfl) rfl lk11_102_9 (fun _ => ⟨_, rfl, Nat.le_of_ble_eq_true rfl, rfl⟩) (fun _ _ _ h => by cases h; exact ⟨rfl, rfl⟩) rfl rfl dX11_log_36 (fun t24 H lc M25 X26 => ?_)
    have I27 := Inv_mu q13 M25 (R_any v20)
    have F28 : Fr [(11, 1), (11, 2), (1, 3), (1, 4), (1, 5), (1, 7), (1, 8), (11, 3), (1, 2), (1, 1), (0, 12), (0, 8), (0, 9), (30, 4), (30, 5), (30, 6), (30, 10), (30, 8), (30, 9), (30, 7), (40, 4), (40, 5), (40, 6), (40, 7), (40, 8), (40, 9), (40, 10)] [12, 13, 14, 15, 52, 53, 54, 55, 56, 57, 58, 59, 60, 61, 62, 63, 64, 65, 66, 67, 68, 69, 70, 71, 72, 73, 74, 75, 76, 77, 78, 79, 80, 81, 82, 83, 84, 85, 86, 87, 88, 89, 90, 91, 31, 32, 33, 34, 130, 41, 42, 43, 44, 201] τ t24 := Fr_mu F19 M25 (by decide)
    refine r_aload_n S dX11_log_39 rfl (lv_at hl 1 rfl) ?_
    refine r_get (K := 0) (v := .ref (G.2.2.2.1 1)) S X26 (Nat.le_of_ble_eq_true rfl) rfl lk11_12_9 (fun _ => ⟨_, rfl, rfl⟩) dX11_log_40 ?_
    refine r_iconst S dX11_log_43 (by decide) (fun v29 z30 => ?_)
    have r31 := R_eq z30
    refine r_put (K := 1) (ty := .int) S X26 (Nat.le_of_ble_eq_true rfl) rfl lk11_88_7 (fun _ => ⟨_, rfl, Nat.le_of_ble_eq_true rfl, rfl⟩) (fun _ _ _ h => by cases h; exact ⟨rfl, rfl⟩) rfl rfl dX11_log_44 (fun t32 H lc M33 X34 => ?_)
    have I35 := Inv_mu I27 M33 (show Rg (kd 1) 1 v29 from (R_of (lo := 0) (hi := 940) r31 rfl))
    have F36 : Fr [(11, 1), (11, 2), (1, 3), (1, 4), (1, 5), (1, 7), (1, 8), (11, 3), (1, 2), (1, 1), (0, 12), (0, 8), (0, 9), (30, 4), (30, 5), (30, 6), (30, 10), (30, 8), (30, 9), (30, 7), (40, 4), (40, 5), (40, 6), (40, 7), (40, 8), (40, 9), (40, 10)] [12, 13, 14, 15, 52, 53, 54, 55, 56, 57, 58, 59, 60, 61, 62, 63, 64, 65, 66, 67, 68, 69, 70, 71, 72, 73, 74, 75, 76, 77, 78, 79, 80, 81, 82, 83, 84, 85, 86, 87, 88, 89, 90, 91, 31, 32, 33, 34, 130, 41, 42, 43, 44, 201] τ t32 := Fr_mu F28 M33 (by decide)
    refine r_iload_n S dX11_log_47 rfl (lv_at hl 0 rfl) ?_
    refine r_if_ne (tgt := 62) S dX11_log_48 (by decide) (fun c37 => ?_) (fun c37 => ?_)
    ·
      have r38 : R (1) (1) v12 := ⟨by omega, by omega⟩
      have p39 := q17 (by omega)
      have r40 : R (0) (0) v20 := z21 ▸ p39
      have r41 : R (0) (0) v20 := ⟨by omega, by omega⟩
      have p42 := (QY_1 q18) (by omega)
      obtain ⟨g43, e44, hP45⟩ := p42
      refine r_iload_n S dX11_log_62 rfl (lv_at hl 2 rfl) ?_
      refine r_iconst S dX11_log_63 (by decide) (fun v46 z47 => ?_)
      have r48 := R_eq z47
      refine r_icmp_ne (tgt := 74) S dX11_log_64 (by decide) (fun c49 => ?_) (fun c49 => ?_)
      ·
        refine r_aload_n S dX11_log_74 rfl (lv_at hl 1 rfl) ?_
        refine r_get (K := 0) (v := .ref (G.2.2.2.1 40)) S X34 (Nat.le_of_ble_eq_true rfl) rfl lk11_49_9 (fun _ => ⟨_, rfl, rfl⟩) dX11_log_75 ?_
        refine r_aload_n S dX11_log_78 rfl (lv_at hl 1 rfl) ?_
        refine r_get (K := 0) (v := .ref (G.2.2.2.1 22)) S X34 (Nat.le_of_ble_eq_true rfl) rfl lk11_42_9 (fun _ => ⟨_, rfl, rfl⟩) dX11_log_79 ?_
        refine r_get (K := 22) (v := .ref (G.2.2.2.1 30)) S X34 (Nat.le_of_ble_eq_true rfl) rfl lk11_129_8 (fun _ => ⟨_, rfl, rfl⟩) dX11_log_82 ?_
        refine r_kv (q_V (As := [.ref (G.2.2.2.1 30)]) (rest := []) (K := 23) (ci := 3) S X34 (c_scopy_40_30 l G t32 I35 ) ck11_206 (Nat.le_of_ble_eq_true rfl) rfl (fun _ => ⟨_, rfl⟩) ⟨_, _, rfl⟩ ⟨Nat.le_of_ble_eq_true rfl, Nat.le_of_ble_eq_true rfl⟩ rfl hl.1 rfl (Nat.le_of_ble_eq_true rfl) dX11_log_85 ⟨Nat.le_refl 0, Nat.le_refl 0⟩) X34 (fun t52 H lc q50 X51 => ?_)
        unfold po_scopy_40_30 at q50
        obtain ⟨q53, q54, q55⟩ := q50
        have F56 : Fr [(11, 1), (11, 2), (1, 3), (1, 4), (1, 5), (1, 7), (1, 8), (11, 3), (1, 2), (1, 1), (0, 12), (0, 8), (0, 9), (30, 4), (30, 5), (30, 6), (30, 10), (30, 8), (30, 9), (30, 7), (40, 4), (40, 5), (40, 6), (40, 7), (40, 8), (40, 9), (40, 10)] [12, 13, 14, 15, 52, 53, 54, 55, 56, 57, 58, 59, 60, 61, 62, 63, 64, 65, 66, 67, 68, 69, 70, 71, 72, 73, 74, 75, 76, 77, 78, 79, 80, 81, 82, 83, 84, 85, 86, 87, 88, 89, 90, 91, 31, 32, 33, 34, 130, 41, 42, 43, 44, 201] τ t52 := Fr_call F36 q54 (by decide)
        refine r_aload_n S dX11_log_88 rfl (lv_at hl 1 rfl) ?_
        refine r_ki (q_V (As := []) (rest := []) (K := 0) (ci := 9) S X51 (c_X11_liveLog l G t52 q53 (WI_eq hWI ((q54 23 2 (by decide)).trans ((M33.2 23 2 (Or.inl (by decide))).trans ((M25.2 23 2 (Or.inl (by decide))).trans ((q14 23 2 (by decide)).trans rfl)))) ((q54 30 8 (by decide)).trans ((M33.2 30 8 (Or.inl (by decide))).trans ((M25.2 30 8 (Or.inl (by decide))).trans ((q14 30 8 (by decide)).trans rfl))))) (LR_eq q15 (fun j => ((q54 12 j (by simp [fz])).trans ((M33.2 12 j (Or.inl (by decide))).trans ((M25.2 12 j (Or.inl (by decide))).trans rfl)))) (fun j => ((q54 13 j (by simp [fz])).trans ((M33.2 13 j (Or.inl (by decide))).trans ((M25.2 13 j (Or.inl (by decide))).trans rfl)))) (fun j => ((q54 14 j (by simp [fz])).trans ((M33.2 14 j (Or.inl (by decide))).trans ((M25.2 14 j (Or.inl (by decide))).trans rfl)))))) ck11_276 (Nat.le_of_ble_eq_true rfl) rfl (fun _ => ⟨_, rfl⟩) ⟨_, _, rfl⟩ ⟨Nat.le_of_ble_eq_true rfl, Nat.le_of_ble_eq_true rfl⟩ rfl hl.1 rfl (Nat.le_of_ble_eq_true rfl) dX11_log_89 ⟨Nat.le_refl 0, Nat.le_refl 0⟩) X51 (fun v60 t59 H lc q57 X58 => ?_)
        unfold po_X11_liveLog at q57
        obtain ⟨q61, q62, q63⟩ := q57
        have F64 : Fr [(11, 1), (11, 2), (1, 3), (1, 4), (1, 5), (1, 7), (1, 8), (11, 3), (1, 2), (1, 1), (0, 12), (0, 8), (0, 9), (30, 4), (30, 5), (30, 6), (30, 10), (30, 8), (30, 9), (30, 7), (40, 4), (40, 5), (40, 6), (40, 7), (40, 8), (40, 9), (40, 10)] [12, 13, 14, 15, 52, 53, 54, 55, 56, 57, 58, 59, 60, 61, 62, 63, 64, 65, 66, 67, 68, 69, 70, 71, 72, 73, 74, 75, 76, 77, 78, 79, 80, 81, 82, 83, 84, 85, 86, 87, 88, 89, 90, 91, 31, 32, 33, 34, 130, 41, 42, 43, 44, 201] τ t59 := Fr_call F56 q62 (by decide)
        have r65 := R_any v60
        refine r_istore_n (lv' := [(3, .int v60), (2, .int v12), (0, .ref (G.2.2.2.1 0)), (1, .int a0)]) S dX11_log_92 rfl hl (by decide) rfl (fun ls hl => ?_)
        refine r_iload_n S dX11_log_93 rfl (lv_at hl 3 rfl) ?_
        refine r_if_ne (tgt := 111) S dX11_log_94 (by decide) (fun c66 => ?_) (fun c66 => ?_)
        ·
          exfalso; omega
        ·
          refine r_aload_n S dX11_log_97 rfl (lv_at hl 2 rfl) ?_
          refine r_get (K := 0) (v := .ref (G.2.2.2.1 22)) S X58 (Nat.le_of_ble_eq_true rfl) rfl lk11_42_9 (fun _ => ⟨_, rfl, rfl⟩) dX11_log_98 ?_
          refine r_get (K := 22) (v := .ref (G.2.2.2.1 30)) S X58 (Nat.le_of_ble_eq_true rfl) rfl lk11_129_8 (fun _ => ⟨_, rfl, rfl⟩) dX11_log_101 ?_
          refine r_aload_n S dX11_log_104 rfl (lv_at hl 2 rfl) ?_
          refine r_get (K := 0) (v := .ref (G.2.2.2.1 40)) S X58 (Nat.le_of_ble_eq_true rfl) rfl lk11_49_9 (fun _ => ⟨_, rfl, rfl⟩) dX11_log_105 ?_
          refine r_kv (q_V (As := [.ref (G.2.2.2.1 40)]) (rest := []) (K := 23) (ci := 3) S X58 (c_scopy_30_40 l G t59 q61 ) ck11_206 (Nat.le_of_ble_eq_true rfl) rfl (fun _ => ⟨_, rfl⟩) ⟨_, _, rfl⟩ ⟨Nat.le_of_ble_eq_true rfl, Nat.le_of_ble_eq_true rfl⟩ rfl hl.1 rfl (Nat.le_of_ble_eq_true rfl) dX11_log_108 ⟨Nat.le_refl 0, Nat.le_refl 0⟩) X58 (fun t69 H lc q67 X68 => ?_)
          unfold po_scopy_30_40 at q67
          obtain ⟨q70, q71, q72⟩ := q67
          have F73 : Fr [(11, 1), (11, 2), (1, 3), (1, 4), (1, 5), (1, 7), (1, 8), (11, 3), (1, 2), (1, 1), (0, 12), (0, 8), (0, 9), (30, 4), (30, 5), (30, 6), (30, 10), (30, 8), (30, 9), (30, 7), (40, 4), (40, 5), (40, 6), (40, 7), (40, 8), (40, 9), (40, 10)] [12, 13, 14, 15, 52, 53, 54, 55, 56, 57, 58, 59, 60, 61, 62, 63, 64, 65, 66, 67, 68, 69, 70, 71, 72, 73, 74, 75, 76, 77, 78, 79, 80, 81, 82, 83, 84, 85, 86, 87, 88, 89, 90, 91, 31, 32, 33, 34, 130, 41, 42, 43, 44, 201] τ t69 := Fr_call F64 q71 (by decide)
          have hW74 : WI t69 := WI_mk ((q71 23 2 (by decide)).trans ((q62 23 2 (by decide)).trans ((q54 23 2 (by decide)).trans ((M33.2 23 2 (Or.inl (by decide))).trans ((M25.2 23 2 (Or.inl (by decide))).trans ((q14 23 2 (by decide)).trans z2)))))) (q72.trans ((q62 40 8 (by decide)).trans (q55.trans ((M33.2 30 8 (Or.inl (by decide))).trans ((M25.2 30 8 (Or.inl (by decide))).trans ((q14 30 8 (by decide)).trans z5)))))) hab
          refine r_iload_n S dX11_log_111 rfl (lv_at hl 0 rfl) ?_
          exact r_ret S hr hlk X68 ⟨q70, F73, hW74, (HI_eq hHI ((q71 23 2 (by decide)).trans ((q62 23 2 (by decide)).trans ((q54 23 2 (by decide)).trans ((M33.2 23 2 (Or.inl (by decide))).trans ((M25.2 23 2 (Or.inl (by decide))).trans ((q14 23 2 (by decide)).trans rfl)))))) ((q71 0 8 (by decide)).trans ((q62 0 8 (by decide)).trans ((q54 0 8 (by decide)).trans ((M33.2 0 8 (Or.inl (by decide))).trans ((M25.2 0 8 (Or.inr (by decide))).trans ((q14 0 8 (by decide)).trans rfl)))))) ((q71 0 9 (by decide)).trans ((q62 0 9 (by decide)).trans ((q54 0 9 (by decide)).trans ((M33.2 0 9 (Or.inl (by decide))).trans ((M25.2 0 9 (Or.inr (by decide))).trans ((q14 0 9 (by decide)).trans rfl)))))) ((q71 52 8 (by decide)).trans ((q62 52 8 (by decide)).trans ((q54 52 8 (by decide)).trans ((M33.2 52 8 (Or.inl (by decide))).trans ((M25.2 52 8 (Or.inl (by decide))).trans ((q14 52 8 (by decide)).trans rfl)))))) ((q71 57 8 (by decide)).trans ((q62 57 8 (by decide)).trans ((q54 57 8 (by decide)).trans ((M33.2 57 8 (Or.inl (by decide))).trans ((M25.2 57 8 (Or.inl (by decide))).trans ((q14 57 8 (by decide)).trans rfl)))))) ((q71 62 8 (by decide)).trans ((q62 62 8 (by decide)).trans ((q54 62 8 (by decide)).trans ((M33.2 62 8 (Or.inl (by decide))).trans ((M25.2 62 8 (Or.inl (by decide))).trans ((q14 62 8 (by decide)).trans rfl)))))) ((q71 67 8 (by decide)).trans ((q62 67 8 (by decide)).trans ((q54 67 8 (by decide)).trans ((M33.2 67 8 (Or.inl (by decide))).trans ((M25.2 67 8 (Or.inl (by decide))).trans ((q14 67 8 (by decide)).trans rfl)))))) ((q71 72 8 (by decide)).trans ((q62 72 8 (by decide)).trans ((q54 72 8 (by decide)).trans ((M33.2 72 8 (Or.inl (by decide))).trans ((M25.2 72 8 (Or.inl (by decide))).trans ((q14 72 8 (by decide)).trans rfl)))))) ((q71 77 8 (by decide)).trans ((q62 77 8 (by decide)).trans ((q54 77 8 (by decide)).trans ((M33.2 77 8 (Or.inl (by decide))).trans ((M25.2 77 8 (Or.inl (by decide))).trans ((q14 77 8 (by decide)).trans rfl)))))) ((q71 82 8 (by decide)).trans ((q62 82 8 (by decide)).trans ((q54 82 8 (by decide)).trans ((M33.2 82 8 (Or.inl (by decide))).trans ((M25.2 82 8 (Or.inl (by decide))).trans ((q14 82 8 (by decide)).trans rfl)))))) ((q71 87 8 (by decide)).trans ((q62 87 8 (by decide)).trans ((q54 87 8 (by decide)).trans ((M33.2 87 8 (Or.inl (by decide))).trans ((M25.2 87 8 (Or.inl (by decide))).trans ((q14 87 8 (by decide)).trans rfl))))))), (LR_eq q15 (fun j => ((q71 12 j (by simp [fz])).trans ((q62 12 j (by simp [fz])).trans ((q54 12 j (by simp [fz])).trans ((M33.2 12 j (Or.inl (by decide))).trans ((M25.2 12 j (Or.inl (by decide))).trans rfl)))))) (fun j => ((q71 13 j (by simp [fz])).trans ((q62 13 j (by simp [fz])).trans ((q54 13 j (by simp [fz])).trans ((M33.2 13 j (Or.inl (by decide))).trans ((M25.2 13 j (Or.inl (by decide))).trans rfl)))))) (fun j => ((q71 14 j (by simp [fz])).trans ((q62 14 j (by simp [fz])).trans ((q54 14 j (by simp [fz])).trans ((M33.2 14 j (Or.inl (by decide))).trans ((M25.2 14 j (Or.inl (by decide))).trans rfl))))))), (by have h1_0 := congrArg Int32.toInt ((q71 1 1 (by decide)).trans ((q62 1 1 (by decide)).trans ((q54 1 1 (by decide)).trans M33.1))); omega), (by have h1_0 := congrArg Int32.toInt ((q71 1 1 (by decide)).trans ((q62 1 1 (by decide)).trans ((q54 1 1 (by decide)).trans M33.1))); omega), ⟨fun _ => QL_r e44 (by have q := congrArg Int32.toInt ((q71 0 12 (by decide)).trans ((q62 0 12 (by decide)).trans ((q54 0 12 (by decide)).trans ((M33.2 0 12 (Or.inl (by decide))).trans M25.1)))); omega), fun h => by exfalso; omega⟩⟩ rfl dX11_log_112
      ·
        exfalso; omega
    ·
      have r75 : R (0) (0) v12 := ⟨by omega, by omega⟩
      have p76 := (QY_0 q18) (by omega)
      obtain ⟨q77, e78, h79, h80⟩ := p76
      refine r_bipush S dX11_log_51 (by decide) (fun v81 z82 => ?_)
      have r83 := R_eq z82
      refine r_aload_n S dX11_log_53 rfl (lv_at hl 1 rfl) ?_
      refine r_get (K := 0) (v := .ref (G.2.2.2.1 1)) S X34 (Nat.le_of_ble_eq_true rfl) rfl lk11_12_9 (fun _ => ⟨_, rfl, rfl⟩) dX11_log_54 ?_
      refine r_getn (K := 1) S X34 (Nat.le_of_ble_eq_true rfl) rfl lk11_105_7 (fun _ => ⟨_, rfl, rfl⟩) dX11_log_57 (fun v84 z85 => ?_)
      have r86 : R (0) (940) v84 := rd I35 rfl z85
      refine r_isub S dX11_log_60 (fun v87 z88 => ?_)
      obtain ⟨e89, r90⟩ := i_sub (lo := -942) (hi := -2) z88 r83 r86 rfl
      exact r_ret S hr hlk X34 ⟨I35, F36, (WI_eq hWI ((M33.2 23 2 (Or.inl (by decide))).trans ((M25.2 23 2 (Or.inl (by decide))).trans ((q14 23 2 (by decide)).trans rfl))) ((M33.2 30 8 (Or.inl (by decide))).trans ((M25.2 30 8 (Or.inl (by decide))).trans ((q14 30 8 (by decide)).trans rfl)))), (HI_eq hHI ((M33.2 23 2 (Or.inl (by decide))).trans ((M25.2 23 2 (Or.inl (by decide))).trans ((q14 23 2 (by decide)).trans rfl))) ((M33.2 0 8 (Or.inl (by decide))).trans ((M25.2 0 8 (Or.inr (by decide))).trans ((q14 0 8 (by decide)).trans rfl))) ((M33.2 0 9 (Or.inl (by decide))).trans ((M25.2 0 9 (Or.inr (by decide))).trans ((q14 0 9 (by decide)).trans rfl))) ((M33.2 52 8 (Or.inl (by decide))).trans ((M25.2 52 8 (Or.inl (by decide))).trans ((q14 52 8 (by decide)).trans rfl))) ((M33.2 57 8 (Or.inl (by decide))).trans ((M25.2 57 8 (Or.inl (by decide))).trans ((q14 57 8 (by decide)).trans rfl))) ((M33.2 62 8 (Or.inl (by decide))).trans ((M25.2 62 8 (Or.inl (by decide))).trans ((q14 62 8 (by decide)).trans rfl))) ((M33.2 67 8 (Or.inl (by decide))).trans ((M25.2 67 8 (Or.inl (by decide))).trans ((q14 67 8 (by decide)).trans rfl))) ((M33.2 72 8 (Or.inl (by decide))).trans ((M25.2 72 8 (Or.inl (by decide))).trans ((q14 72 8 (by decide)).trans rfl))) ((M33.2 77 8 (Or.inl (by decide))).trans ((M25.2 77 8 (Or.inl (by decide))).trans ((q14 77 8 (by decide)).trans rfl))) ((M33.2 82 8 (Or.inl (by decide))).trans ((M25.2 82 8 (Or.inl (by decide))).trans ((q14 82 8 (by decide)).trans rfl))) ((M33.2 87 8 (Or.inl (by decide))).trans ((M25.2 87 8 (Or.inl (by decide))).trans ((q14 87 8 (by decide)).trans rfl)))), (LR_eq q15 (fun j => ((M33.2 12 j (Or.inl (by decide))).trans ((M25.2 12 j (Or.inl (by decide))).trans rfl))) (fun j => ((M33.2 13 j (Or.inl (by decide))).trans ((M25.2 13 j (Or.inl (by decide))).trans rfl))) (fun j => ((M33.2 14 j (Or.inl (by decide))).trans ((M25.2 14 j (Or.inl (by decide))).trans rfl)))), (by have h1_0 := congrArg Int32.toInt M33.1; omega), (by have h1_0 := congrArg Int32.toInt M33.1; omega), ⟨fun _ => QL_l e78 (by have q1 := h79; have q2 := congrArg Int32.toInt ((M33.2 0 12 (Or.inl (by decide))).trans M25.1); have q3 := congrArg Int32.toInt z21; omega), fun h => by exfalso; omega⟩⟩ rfl dX11_log_61
  ·
    refine r_iload_n S dX11_log_4 rfl (lv_at hl 1 rfl) ?_
    refine r_iconst S dX11_log_5 (by decide) (fun v91 z92 => ?_)
    have r93 := R_eq z92
    refine r_icmp_eq (tgt := 13) S dX11_log_6 (by decide) (fun c94 => ?_) (fun c94 => ?_)
    ·
      have r95 : R (1) (1) a0 := ⟨by omega, by omega⟩
      refine r_aload_n S dX11_log_13 rfl (lv_at hl 0 rfl) ?_
      refine r_get (K := 0) (v := .ref (G.2.2.2.1 11)) S X (Nat.le_of_ble_eq_true rfl) rfl lk11_28_9 (fun _ => ⟨_, rfl, rfl⟩) dX11_log_14 ?_
      refine r_aload_n S dX11_log_17 rfl (lv_at hl 0 rfl) ?_
      refine r_get (K := 0) (v := .ref (G.2.2.2.1 22)) S X (Nat.le_of_ble_eq_true rfl) rfl lk11_42_9 (fun _ => ⟨_, rfl, rfl⟩) dX11_log_18 ?_
      refine r_get (K := 22) (v := .ref (G.2.2.2.1 23)) S X (Nat.le_of_ble_eq_true rfl) rfl lk11_139_8 (fun _ => ⟨_, rfl, rfl⟩) dX11_log_21 ?_
      refine r_ki (q_V (As := [.ref (G.2.2.2.1 23)]) (rest := []) (K := 11) (ci := 1) S X (c_X1_read_q l G τ hI hLR bb nb an mn hB0 hN) ck11_272 (Nat.le_of_ble_eq_true rfl) rfl (fun _ => ⟨_, rfl⟩) ⟨_, _, rfl⟩ ⟨Nat.le_of_ble_eq_true rfl, Nat.le_of_ble_eq_true rfl⟩ rfl hl.1 rfl (Nat.le_of_ble_eq_true rfl) dX11_log_24 ⟨Nat.le_refl 0, Nat.le_refl 0⟩) X (fun v99 t98 H lc q96 X97 => ?_)
      unfold po_X1_read_q at q96
      obtain ⟨q100, q101, q102, q103, q104, q105⟩ := q96
      have F106 : Fr [(11, 1), (11, 2), (1, 3), (1, 4), (1, 5), (1, 7), (1, 8), (11, 3), (1, 2), (1, 1), (0, 12), (0, 8), (0, 9), (30, 4), (30, 5), (30, 6), (30, 10), (30, 8), (30, 9), (30, 7), (40, 4), (40, 5), (40, 6), (40, 7), (40, 8), (40, 9), (40, 10)] [12, 13, 14, 15, 52, 53, 54, 55, 56, 57, 58, 59, 60, 61, 62, 63, 64, 65, 66, 67, 68, 69, 70, 71, 72, 73, 74, 75, 76, 77, 78, 79, 80, 81, 82, 83, 84, 85, 86, 87, 88, 89, 90, 91, 31, 32, 33, 34, 130, 41, 42, 43, 44, 201] τ t98 := Fr_call Fr_rfl q101 (by decide)
      refine r_istore_n (lv' := [(2, .int v99), (0, .ref (G.2.2.2.1 0)), (1, .int a0)]) S dX11_log_27 rfl hl (by decide) rfl (fun ls hl => ?_)
      refine r_aload_n S dX11_log_28 rfl (lv_at hl 1 rfl) ?_
      refine r_aload_n S dX11_log_29 rfl (lv_at hl 1 rfl) ?_
      refine r_get (K := 0) (v := .ref (G.2.2.2.1 11)) S X97 (Nat.le_of_ble_eq_true rfl) rfl lk11_28_9 (fun _ => ⟨_, rfl, rfl⟩) dX11_log_30 ?_
      refine r_getn (K := 11) S X97 (Nat.le_of_ble_eq_true rfl) rfl lk11_275_1 (fun _ => ⟨_, rfl, rfl⟩) dX11_log_33 (fun v107 z108 => ?_)
      have r110 := R_any v107
      refine r_put (K := 0) (ty := .int) S X97 (Nat.le_of_ble_eq_true rfl) rfl lk11_102_9 (fun _ => ⟨_, rfl, Nat.le_of_ble_eq_true rfl, rfl⟩) (fun _ _ _ h => by cases h; exact ⟨rfl, rfl⟩) rfl rfl dX11_log_36 (fun t111 H lc M112 X113 => ?_)
      have I114 := Inv_mu q100 M112 (R_any v107)
      have F115 : Fr [(11, 1), (11, 2), (1, 3), (1, 4), (1, 5), (1, 7), (1, 8), (11, 3), (1, 2), (1, 1), (0, 12), (0, 8), (0, 9), (30, 4), (30, 5), (30, 6), (30, 10), (30, 8), (30, 9), (30, 7), (40, 4), (40, 5), (40, 6), (40, 7), (40, 8), (40, 9), (40, 10)] [12, 13, 14, 15, 52, 53, 54, 55, 56, 57, 58, 59, 60, 61, 62, 63, 64, 65, 66, 67, 68, 69, 70, 71, 72, 73, 74, 75, 76, 77, 78, 79, 80, 81, 82, 83, 84, 85, 86, 87, 88, 89, 90, 91, 31, 32, 33, 34, 130, 41, 42, 43, 44, 201] τ t111 := Fr_mu F106 M112 (by decide)
      refine r_aload_n S dX11_log_39 rfl (lv_at hl 1 rfl) ?_
      refine r_get (K := 0) (v := .ref (G.2.2.2.1 1)) S X113 (Nat.le_of_ble_eq_true rfl) rfl lk11_12_9 (fun _ => ⟨_, rfl, rfl⟩) dX11_log_40 ?_
      refine r_iconst S dX11_log_43 (by decide) (fun v116 z117 => ?_)
      have r118 := R_eq z117
      refine r_put (K := 1) (ty := .int) S X113 (Nat.le_of_ble_eq_true rfl) rfl lk11_88_7 (fun _ => ⟨_, rfl, Nat.le_of_ble_eq_true rfl, rfl⟩) (fun _ _ _ h => by cases h; exact ⟨rfl, rfl⟩) rfl rfl dX11_log_44 (fun t119 H lc M120 X121 => ?_)
      have I122 := Inv_mu I114 M120 (show Rg (kd 1) 1 v116 from (R_of (lo := 0) (hi := 940) r118 rfl))
      have F123 : Fr [(11, 1), (11, 2), (1, 3), (1, 4), (1, 5), (1, 7), (1, 8), (11, 3), (1, 2), (1, 1), (0, 12), (0, 8), (0, 9), (30, 4), (30, 5), (30, 6), (30, 10), (30, 8), (30, 9), (30, 7), (40, 4), (40, 5), (40, 6), (40, 7), (40, 8), (40, 9), (40, 10)] [12, 13, 14, 15, 52, 53, 54, 55, 56, 57, 58, 59, 60, 61, 62, 63, 64, 65, 66, 67, 68, 69, 70, 71, 72, 73, 74, 75, 76, 77, 78, 79, 80, 81, 82, 83, 84, 85, 86, 87, 88, 89, 90, 91, 31, 32, 33, 34, 130, 41, 42, 43, 44, 201] τ t119 := Fr_mu F115 M120 (by decide)
      refine r_iload_n S dX11_log_47 rfl (lv_at hl 0 rfl) ?_
      refine r_if_ne (tgt := 62) S dX11_log_48 (by decide) (fun c124 => ?_) (fun c124 => ?_)
      ·
        have r125 : R (1) (1) v99 := ⟨by omega, by omega⟩
        have p126 := q104 (by omega)
        have r127 : R (0) (0) v107 := z108 ▸ p126
        have r128 : R (0) (0) v107 := ⟨by omega, by omega⟩
        have p129 := (QY_1 q105) (by omega)
        obtain ⟨g130, e131, hP132⟩ := p129
        refine r_iload_n S dX11_log_62 rfl (lv_at hl 2 rfl) ?_
        refine r_iconst S dX11_log_63 (by decide) (fun v133 z134 => ?_)
        have r135 := R_eq z134
        refine r_icmp_ne (tgt := 74) S dX11_log_64 (by decide) (fun c136 => ?_) (fun c136 => ?_)
        ·
          exfalso; omega
        ·
          refine r_aload_n S dX11_log_67 rfl (lv_at hl 1 rfl) ?_
          refine r_kv (q_V (As := []) (rest := []) (K := 0) (ci := 9) S X121 (c_X11_remember l G t119 I122 (WI_eq hWI ((M120.2 23 2 (Or.inl (by decide))).trans ((M112.2 23 2 (Or.inl (by decide))).trans ((q101 23 2 (by decide)).trans rfl))) ((M120.2 30 8 (Or.inl (by decide))).trans ((M112.2 30 8 (Or.inl (by decide))).trans ((q101 30 8 (by decide)).trans rfl)))) (HI_eq hHI ((M120.2 23 2 (Or.inl (by decide))).trans ((M112.2 23 2 (Or.inl (by decide))).trans ((q101 23 2 (by decide)).trans rfl))) ((M120.2 0 8 (Or.inl (by decide))).trans ((M112.2 0 8 (Or.inr (by decide))).trans ((q101 0 8 (by decide)).trans rfl))) ((M120.2 0 9 (Or.inl (by decide))).trans ((M112.2 0 9 (Or.inr (by decide))).trans ((q101 0 9 (by decide)).trans rfl))) ((M120.2 52 8 (Or.inl (by decide))).trans ((M112.2 52 8 (Or.inl (by decide))).trans ((q101 52 8 (by decide)).trans rfl))) ((M120.2 57 8 (Or.inl (by decide))).trans ((M112.2 57 8 (Or.inl (by decide))).trans ((q101 57 8 (by decide)).trans rfl))) ((M120.2 62 8 (Or.inl (by decide))).trans ((M112.2 62 8 (Or.inl (by decide))).trans ((q101 62 8 (by decide)).trans rfl))) ((M120.2 67 8 (Or.inl (by decide))).trans ((M112.2 67 8 (Or.inl (by decide))).trans ((q101 67 8 (by decide)).trans rfl))) ((M120.2 72 8 (Or.inl (by decide))).trans ((M112.2 72 8 (Or.inl (by decide))).trans ((q101 72 8 (by decide)).trans rfl))) ((M120.2 77 8 (Or.inl (by decide))).trans ((M112.2 77 8 (Or.inl (by decide))).trans ((q101 77 8 (by decide)).trans rfl))) ((M120.2 82 8 (Or.inl (by decide))).trans ((M112.2 82 8 (Or.inl (by decide))).trans ((q101 82 8 (by decide)).trans rfl))) ((M120.2 87 8 (Or.inl (by decide))).trans ((M112.2 87 8 (Or.inl (by decide))).trans ((q101 87 8 (by decide)).trans rfl))))) ck11_266 (Nat.le_of_ble_eq_true rfl) rfl (fun _ => ⟨_, rfl⟩) ⟨_, _, rfl⟩ ⟨Nat.le_of_ble_eq_true rfl, Nat.le_of_ble_eq_true rfl⟩ rfl hl.1 rfl (Nat.le_of_ble_eq_true rfl) dX11_log_68 ⟨Nat.le_refl 0, Nat.le_refl 0⟩) X121 (fun t139 H lc q137 X138 => ?_)
          unfold po_X11_remember at q137
          obtain ⟨q140, q141, q142⟩ := q137
          have F143 : Fr [(11, 1), (11, 2), (1, 3), (1, 4), (1, 5), (1, 7), (1, 8), (11, 3), (1, 2), (1, 1), (0, 12), (0, 8), (0, 9), (30, 4), (30, 5), (30, 6), (30, 10), (30, 8), (30, 9), (30, 7), (40, 4), (40, 5), (40, 6), (40, 7), (40, 8), (40, 9), (40, 10)] [12, 13, 14, 15, 52, 53, 54, 55, 56, 57, 58, 59, 60, 61, 62, 63, 64, 65, 66, 67, 68, 69, 70, 71, 72, 73, 74, 75, 76, 77, 78, 79, 80, 81, 82, 83, 84, 85, 86, 87, 88, 89, 90, 91, 31, 32, 33, 34, 130, 41, 42, 43, 44, 201] τ t139 := Fr_call F123 q141 (by decide)
          refine r_goto (tgt := 88) S dX11_log_71 (by decide) ?_
          refine r_aload_n S dX11_log_88 rfl (lv_at hl 1 rfl) ?_
          refine r_ki (q_V (As := []) (rest := []) (K := 0) (ci := 9) S X138 (c_X11_liveLog l G t139 q140 (WI_eq hWI ((q141 23 2 (by decide)).trans ((M120.2 23 2 (Or.inl (by decide))).trans ((M112.2 23 2 (Or.inl (by decide))).trans ((q101 23 2 (by decide)).trans rfl)))) ((q141 30 8 (by decide)).trans ((M120.2 30 8 (Or.inl (by decide))).trans ((M112.2 30 8 (Or.inl (by decide))).trans ((q101 30 8 (by decide)).trans rfl))))) (LR_eq q102 (fun j => ((q141 12 j (by simp [fz])).trans ((M120.2 12 j (Or.inl (by decide))).trans ((M112.2 12 j (Or.inl (by decide))).trans rfl)))) (fun j => ((q141 13 j (by simp [fz])).trans ((M120.2 13 j (Or.inl (by decide))).trans ((M112.2 13 j (Or.inl (by decide))).trans rfl)))) (fun j => ((q141 14 j (by simp [fz])).trans ((M120.2 14 j (Or.inl (by decide))).trans ((M112.2 14 j (Or.inl (by decide))).trans rfl)))))) ck11_276 (Nat.le_of_ble_eq_true rfl) rfl (fun _ => ⟨_, rfl⟩) ⟨_, _, rfl⟩ ⟨Nat.le_of_ble_eq_true rfl, Nat.le_of_ble_eq_true rfl⟩ rfl hl.1 rfl (Nat.le_of_ble_eq_true rfl) dX11_log_89 ⟨Nat.le_refl 0, Nat.le_refl 0⟩) X138 (fun v147 t146 H lc q144 X145 => ?_)
          unfold po_X11_liveLog at q144
          obtain ⟨q148, q149, q150⟩ := q144
          have F151 : Fr [(11, 1), (11, 2), (1, 3), (1, 4), (1, 5), (1, 7), (1, 8), (11, 3), (1, 2), (1, 1), (0, 12), (0, 8), (0, 9), (30, 4), (30, 5), (30, 6), (30, 10), (30, 8), (30, 9), (30, 7), (40, 4), (40, 5), (40, 6), (40, 7), (40, 8), (40, 9), (40, 10)] [12, 13, 14, 15, 52, 53, 54, 55, 56, 57, 58, 59, 60, 61, 62, 63, 64, 65, 66, 67, 68, 69, 70, 71, 72, 73, 74, 75, 76, 77, 78, 79, 80, 81, 82, 83, 84, 85, 86, 87, 88, 89, 90, 91, 31, 32, 33, 34, 130, 41, 42, 43, 44, 201] τ t146 := Fr_call F143 q149 (by decide)
          have r152 := R_any v147
          refine r_istore_n (lv' := [(3, .int v147), (2, .int v99), (0, .ref (G.2.2.2.1 0)), (1, .int a0)]) S dX11_log_92 rfl hl (by decide) rfl (fun ls hl => ?_)
          refine r_iload_n S dX11_log_93 rfl (lv_at hl 3 rfl) ?_
          refine r_if_ne (tgt := 111) S dX11_log_94 (by decide) (fun c153 => ?_) (fun c153 => ?_)
          ·
            refine r_iload_n S dX11_log_111 rfl (lv_at hl 0 rfl) ?_
            exact r_ret S hr hlk X145 ⟨q148, F151, q150, (HI_eq q142 ((q149 23 2 (by decide)).trans rfl) ((q149 0 8 (by decide)).trans rfl) ((q149 0 9 (by decide)).trans rfl) ((q149 52 8 (by decide)).trans rfl) ((q149 57 8 (by decide)).trans rfl) ((q149 62 8 (by decide)).trans rfl) ((q149 67 8 (by decide)).trans rfl) ((q149 72 8 (by decide)).trans rfl) ((q149 77 8 (by decide)).trans rfl) ((q149 82 8 (by decide)).trans rfl) ((q149 87 8 (by decide)).trans rfl)), (LR_eq q102 (fun j => ((q149 12 j (by simp [fz])).trans ((q141 12 j (by simp [fz])).trans ((M120.2 12 j (Or.inl (by decide))).trans ((M112.2 12 j (Or.inl (by decide))).trans rfl))))) (fun j => ((q149 13 j (by simp [fz])).trans ((q141 13 j (by simp [fz])).trans ((M120.2 13 j (Or.inl (by decide))).trans ((M112.2 13 j (Or.inl (by decide))).trans rfl))))) (fun j => ((q149 14 j (by simp [fz])).trans ((q141 14 j (by simp [fz])).trans ((M120.2 14 j (Or.inl (by decide))).trans ((M112.2 14 j (Or.inl (by decide))).trans rfl)))))), (by have h1_0 := congrArg Int32.toInt ((q149 1 1 (by decide)).trans ((q141 1 1 (by decide)).trans M120.1)); omega), (by have h1_0 := congrArg Int32.toInt ((q149 1 1 (by decide)).trans ((q141 1 1 (by decide)).trans M120.1)); omega), ⟨fun _ => QL_r e131 (by have q := congrArg Int32.toInt ((q149 0 12 (by decide)).trans ((q141 0 12 (by decide)).trans ((M120.2 0 12 (Or.inl (by decide))).trans M112.1))); omega), fun h => by exfalso; omega⟩⟩ rfl dX11_log_112
          ·
            exfalso; omega
      ·
        have r154 : R (0) (0) v99 := ⟨by omega, by omega⟩
        have p155 := (QY_0 q105) (by omega)
        obtain ⟨q156, e157, h158, h159⟩ := p155
        refine r_bipush S dX11_log_51 (by decide) (fun v160 z161 => ?_)
        have r162 := R_eq z161
        refine r_aload_n S dX11_log_53 rfl (lv_at hl 1 rfl) ?_
        refine r_get (K := 0) (v := .ref (G.2.2.2.1 1)) S X121 (Nat.le_of_ble_eq_true rfl) rfl lk11_12_9 (fun _ => ⟨_, rfl, rfl⟩) dX11_log_54 ?_
        refine r_getn (K := 1) S X121 (Nat.le_of_ble_eq_true rfl) rfl lk11_105_7 (fun _ => ⟨_, rfl, rfl⟩) dX11_log_57 (fun v163 z164 => ?_)
        have r165 : R (0) (940) v163 := rd I122 rfl z164
        refine r_isub S dX11_log_60 (fun v166 z167 => ?_)
        obtain ⟨e168, r169⟩ := i_sub (lo := -942) (hi := -2) z167 r162 r165 rfl
        exact r_ret S hr hlk X121 ⟨I122, F123, (WI_eq hWI ((M120.2 23 2 (Or.inl (by decide))).trans ((M112.2 23 2 (Or.inl (by decide))).trans ((q101 23 2 (by decide)).trans rfl))) ((M120.2 30 8 (Or.inl (by decide))).trans ((M112.2 30 8 (Or.inl (by decide))).trans ((q101 30 8 (by decide)).trans rfl)))), (HI_eq hHI ((M120.2 23 2 (Or.inl (by decide))).trans ((M112.2 23 2 (Or.inl (by decide))).trans ((q101 23 2 (by decide)).trans rfl))) ((M120.2 0 8 (Or.inl (by decide))).trans ((M112.2 0 8 (Or.inr (by decide))).trans ((q101 0 8 (by decide)).trans rfl))) ((M120.2 0 9 (Or.inl (by decide))).trans ((M112.2 0 9 (Or.inr (by decide))).trans ((q101 0 9 (by decide)).trans rfl))) ((M120.2 52 8 (Or.inl (by decide))).trans ((M112.2 52 8 (Or.inl (by decide))).trans ((q101 52 8 (by decide)).trans rfl))) ((M120.2 57 8 (Or.inl (by decide))).trans ((M112.2 57 8 (Or.inl (by decide))).trans ((q101 57 8 (by decide)).trans rfl))) ((M120.2 62 8 (Or.inl (by decide))).trans ((M112.2 62 8 (Or.inl (by decide))).trans ((q101 62 8 (by decide)).trans rfl))) ((M120.2 67 8 (Or.inl (by decide))).trans ((M112.2 67 8 (Or.inl (by decide))).trans ((q101 67 8 (by decide)).trans rfl))) ((M120.2 72 8 (Or.inl (by decide))).trans ((M112.2 72 8 (Or.inl (by decide))).trans ((q101 72 8 (by decide)).trans rfl))) ((M120.2 77 8 (Or.inl (by decide))).trans ((M112.2 77 8 (Or.inl (by decide))).trans ((q101 77 8 (by decide)).trans rfl))) ((M120.2 82 8 (Or.inl (by decide))).trans ((M112.2 82 8 (Or.inl (by decide))).trans ((q101 82 8 (by decide)).trans rfl))) ((M120.2 87 8 (Or.inl (by decide))).trans ((M112.2 87 8 (Or.inl (by decide))).trans ((q101 87 8 (by decide)).trans rfl)))), (LR_eq q102 (fun j => ((M120.2 12 j (Or.inl (by decide))).trans ((M112.2 12 j (Or.inl (by decide))).trans rfl))) (fun j => ((M120.2 13 j (Or.inl (by decide))).trans ((M112.2 13 j (Or.inl (by decide))).trans rfl))) (fun j => ((M120.2 14 j (Or.inl (by decide))).trans ((M112.2 14 j (Or.inl (by decide))).trans rfl)))), (by have h1_0 := congrArg Int32.toInt M120.1; omega), (by have h1_0 := congrArg Int32.toInt M120.1; omega), ⟨fun _ => QL_l e157 (by have q1 := h158; have q2 := congrArg Int32.toInt ((M120.2 0 12 (Or.inl (by decide))).trans M112.1); have q3 := congrArg Int32.toInt z108; omega), fun h => by exfalso; omega⟩⟩ rfl dX11_log_61
    ·
      refine r_sipush S dX11_log_9 (by decide) (fun v170 z171 => ?_)
      have r172 := R_eq z171
      exact r_ret S hr hlk X ⟨hI, Fr_rfl, hWI, hHI, hLR, (by omega), (by omega), ⟨fun h => by exfalso; omega, fun _ => rfl⟩⟩ rfl dX11_log_12
def po_X11_fault_q (τ : Tau)     (r : Int32) (u : Tau) : Prop := u = τ ∧ r = τ 0 12
set_option maxHeartbeats 4000000 in
set_option maxRecDepth 100000 in
theorem c_X11_fault_q (l : Launch) (G : Gx) (τ : Tau) (hI : Inv τ) : Ci l G yX11_fault cX11_fault 1 (some .int) 0 0 [.ref (G.2.2.2.1 0)] τ (po_X11_fault_q τ    ) := by
  unfold Ci
  refine C_of (own := RX11) (by decide) rfl (Nat.le_of_ble_eq_true rfl) ?_
  intro p e s m below meth c ls S hr hlk X hl
  have hl : lv_has ls 1 [(0, .ref (G.2.2.2.1 0))] := hl
  refine r_aload_n S dX11_fault_0 rfl (lv_at hl 0 rfl) ?_
  refine r_getn (K := 0) S X (Nat.le_of_ble_eq_true rfl) rfl lk11_102_9 (fun _ => ⟨_, rfl, rfl⟩) dX11_fault_1 (fun v1 z2 => ?_)
  have r4 := R_any v1
  exact r_ret S hr hlk X ⟨rfl, z2.symm⟩ rfl dX11_fault_4
def po_X12_fault_q (τ : Tau)     (r : Int32) (u : Tau) : Prop := Inv u ∧ Fr [(131, 0)] [] τ u ∧ r = τ 131 15
set_option maxHeartbeats 4000000 in
set_option maxRecDepth 100000 in
theorem c_X12_fault_q (l : Launch) (G : Gx) (τ : Tau) (hI : Inv τ) : Ci l G yX12_fault cX12_fault 1 (some .int) 0 0 [.ref (G.2.2.2.1 131)] τ (po_X12_fault_q τ    ) := by
  unfold Ci
  refine C_of (own := RX12) (by decide) rfl (Nat.le_of_ble_eq_true rfl) ?_
  intro p e s m below meth c ls S hr hlk X hl
  have hl : lv_has ls 1 [(0, .ref (G.2.2.2.1 131))] := hl
  obtain ⟨v1, z2⟩ : ∃ x, τ 131 15 = x := ⟨_, rfl⟩
  have r3 := R_any v1
  refine r_aload_n S dX12_fault_0 rfl (lv_at hl 0 rfl) ?_
  refine r_iconst S dX12_fault_1 (by decide) (fun v4 z5 => ?_)
  have r6 := R_eq z5
  refine r_put (K := 38) (ty := .int) S X (Nat.le_of_ble_eq_true rfl) rfl lk12_1_10 (fun _ => ⟨_, rfl, Nat.le_of_ble_eq_true rfl, rfl⟩) (fun _ _ _ h => by cases h; exact ⟨rfl, rfl⟩) rfl rfl dX12_fault_2 (fun t7 H lc M8 X9 => ?_)
  have I10 := Inv_mu hI M8 (R_any v4)
  have F11 : Fr [(131, 0)] [] τ t7 := Fr_mu Fr_rfl M8 (by decide)
  refine r_aload_n S dX12_fault_5 rfl (lv_at hl 0 rfl) ?_
  refine r_geti (K := 38) S X9 (Nat.le_of_ble_eq_true rfl) rfl lk12_174_10 (fun _ => ⟨_, rfl, rfl⟩) ((M8.2 131 15 (Or.inr (by decide))).trans z2) dX12_fault_6 ?_
  exact r_ret S hr hlk X9 ⟨I10, F11, z2.symm⟩ rfl dX12_fault_9
