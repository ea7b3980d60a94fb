def po_X8_takeSign_q (τ : Tau)  (a0 : Int32)  (bb : Nat → Int) (nb : Nat) (fs : FS) (r : Int32) (u : Tau) : Prop := Inv u ∧ Fr [(3, 1), (1, 3), (1, 4), (1, 5), (1, 7), (1, 8)] [201] τ u ∧ R (0) (1) r ∧ (r.toInt = 1 → R (0) (0) (u 3 1)) ∧ QX (sSgn bb nb 59 fs) r u (fun g => RC bb nb u g)
set_option maxHeartbeats 4000000 in
set_option maxRecDepth 100000 in
theorem c_X8_takeSign_q (l : Launch) (G : Gx) (τ : Tau) (hI : Inv τ) (a0 : Int32) (h_a0 : R (59) (59) a0) (hf_0 : R (0) (0) (τ 3 1)) (bb : Nat → Int) (nb : Nat) (fs : FS) (hR : RC bb nb τ fs) : Ci l G yX8_takeSign cX8_takeSign 2 (some .boolean) 1 24 [.ref (G.2.2.2.1 3), .int a0] τ (po_X8_takeSign_q τ  a0  bb nb fs) := by
  unfold Ci
  refine C_of (own := RX8) (by decide) rfl (Nat.le_of_ble_eq_true rfl) ?_
  intro p e s m below meth c ls S hr hlk X hl
  have hl : lv_has ls 2 [(0, .ref (G.2.2.2.1 3)), (1, .int a0)] := hl
  obtain ⟨v1, z2⟩ : ∃ x, τ 3 1 = x := ⟨_, rfl⟩
  rw [z2] at hf_0
  refine r_aload_n S dX8_takeSign_0 rfl (lv_at hl 0 rfl) ?_
  refine r_get (K := 3) (v := .ref (G.2.2.2.1 1)) S X (Nat.le_of_ble_eq_true rfl) rfl lk8_9_0 (fun _ => ⟨_, rfl, rfl⟩) dX8_takeSign_1 ?_
  refine r_iload_n S dX8_takeSign_4 rfl (lv_at hl 1 rfl) ?_
  refine r_ki (q_V (As := [.int a0]) (rest := []) (K := 1) (ci := 7) S X (c_X7_isSigned_q l G τ hI a0 (R_of (lo := 0) (hi := 65535) h_a0 rfl) bb nb 900 fs.1 hR.1) ck8_25 (Nat.le_of_ble_eq_true rfl) rfl (fun _ => ⟨_, rfl⟩) ⟨_, _, rfl⟩ ⟨Nat.le_of_ble_eq_true rfl, Nat.le_of_ble_eq_true rfl⟩ rfl hl.1 rfl (Nat.le_of_ble_eq_true rfl) dX8_takeSign_5 ⟨Nat.le_refl 0, Nat.le_refl 0⟩) X (fun v6 t5 H lc q3 X4 => ?_)
  unfold po_X7_isSigned_q at q3
  obtain ⟨q7, q8, q9⟩ := q3
  rw [q7] at X4
  refine r_if_ne (tgt := 17) S dX8_takeSign_8 (by decide) (fun c10 => ?_) (fun c10 => ?_)
  ·
    have r11 : R (1) (1) v6 := ⟨by omega, by omega⟩
    have p12 := (q9).mp (by omega)
    refine r_aload_n S dX8_takeSign_17 rfl (lv_at hl 0 rfl) ?_
    refine r_get (K := 3) (v := .ref (G.2.2.2.1 1)) S X4 (Nat.le_of_ble_eq_true rfl) rfl lk8_9_0 (fun _ => ⟨_, rfl, rfl⟩) dX8_takeSign_18 ?_
    refine r_kv (q_V (As := []) (rest := []) (K := 1) (ci := 7) S X4 (c_X7_step_q l G τ hI bb nb 900 fs.1.2.2 (RT_st hR.1 (Or.inr (Or.inr p12.1))).1 (RT_st hR.1 (Or.inr (Or.inr p12.1))).2.1 (RT_st hR.1 (Or.inr (Or.inr p12.1))).2.2) ck8_33 (Nat.le_of_ble_eq_true rfl) rfl (fun _ => ⟨_, rfl⟩) ⟨_, _, rfl⟩ ⟨Nat.le_of_ble_eq_true rfl, Nat.le_of_ble_eq_true rfl⟩ rfl hl.1 rfl (Nat.le_of_ble_eq_true rfl) dX8_takeSign_21 ⟨Nat.le_refl 0, Nat.le_refl 0⟩) X4 (fun t15 H lc q13 X14 => ?_)
    unfold po_X7_step_q at q13
    obtain ⟨q16, q17, q18⟩ := q13
    have F19 : Fr [(3, 1), (1, 3), (1, 4), (1, 5), (1, 7), (1, 8)] [201] τ t15 := Fr_call Fr_rfl q17 (by decide)
    have hR20 : RC bb nb t15 (stp bb nb fs) := ⟨q18, RP_fr hR.2 ((q17 3 5 (by decide)).trans rfl) ((q17 3 6 (by decide)).trans rfl) (fun j => ((q17 4 j (by simp [fz])).trans rfl)) (fun j => ((q17 6 j (by simp [fz])).trans rfl)) (fun j => ((q17 7 j (by simp [fz])).trans rfl)) (fun j => ((q17 8 j (by simp [fz])).trans rfl)) (fun j => ((q17 209 j (by simp [fz])).trans rfl)) (fun j => ((q17 210 j (by simp [fz])).trans rfl))⟩
    refine r_iconst S dX8_takeSign_24 (by decide) (fun v21 z22 => ?_)
    have r23 := R_eq z22
    exact r_ret S hr hlk X14 ⟨q16, F19, (R_of r23 rfl), (fun h => (by rw [((q17 3 1 (by decide)).trans z2)]; exact R_of hf_0 rfl)), (QX_r (sSgn_g ⟨p12.1, by have q := p12.2; omega⟩) (by omega) hR20)⟩ (nr_bool (R_of (lo := 0) (hi := 1) r23 rfl)) dX8_takeSign_25
  ·
    have r24 : R (0) (0) v6 := ⟨by omega, by omega⟩
    have p25 := (iff_n q9) (by omega)
    refine r_aload_n S dX8_takeSign_11 rfl (lv_at hl 0 rfl) ?_
    refine r_iconst S dX8_takeSign_12 (by decide) (fun v26 z27 => ?_)
    have r28 := R_eq z27
    refine r_ki (q_U (As := [.int v26]) (rest := []) (K := 3) (ci := 0) S X4 (c_X8_fail_q l G τ hI v26 (R_of (lo := -2147483648) (hi := 2147483647) r28 rfl)) ck8_29_0 (Nat.le_of_ble_eq_true rfl) rfl (fun _ => ⟨_, rfl⟩) ⟨_, _, rfl⟩ ⟨Nat.le_of_ble_eq_true rfl, Nat.le_of_ble_eq_true rfl⟩ rfl hl.1 rfl (Nat.le_of_ble_eq_true rfl) dX8_takeSign_13 ⟨Nat.le_refl 0, Nat.le_refl 0⟩) X4 (fun v32 t31 H lc q29 X30 => ?_)
    unfold po_X8_fail_q at q29
    obtain ⟨q33, q34, q35, q36⟩ := q29
    have F37 : Fr [(3, 1), (1, 3), (1, 4), (1, 5), (1, 7), (1, 8)] [201] τ t31 := Fr_call Fr_rfl q34 (by decide)
    exact r_ret S hr hlk X30 ⟨q33, F37, (R_of q35 rfl), (fun h => by exfalso; omega), (QX_b (sSgn_b (fun h => p25 ⟨h.1, by have q := h.2; omega⟩)) (by omega) (by rw [q36]; omega) (RC_at (RC_fr hR (fun j => ((q34 1 j (by simp [fz])).trans rfl)) (fun j => ((q34 2 j (by simp [fz])).trans rfl)) (fun j => ((q34 201 j (by simp [fz])).trans rfl)) ((q34 3 5 (by decide)).trans rfl) ((q34 3 6 (by decide)).trans rfl) (fun j => ((q34 4 j (by simp [fz])).trans rfl)) (fun j => ((q34 6 j (by simp [fz])).trans rfl)) (fun j => ((q34 7 j (by simp [fz])).trans rfl)) (fun j => ((q34 8 j (by simp [fz])).trans rfl)) (fun j => ((q34 209 j (by simp [fz])).trans rfl)) (fun j => ((q34 210 j (by simp [fz])).trans rfl)))))⟩ (nr_bool (R_of (lo := 0) (hi := 1) q35 rfl)) dX8_takeSign_16
def po_X8_takeNumber_q_1_8 (τ : Tau)  (a0 a1 : Int32)  (bb : Nat → Int) (nb : Nat) (fs : FS) (r : Int32) (u : Tau) : Prop := Inv u ∧ Fr [(3, 1), (3, 2), (1, 3), (1, 4), (1, 5), (1, 7), (1, 8)] [201] τ u ∧ R (0) (1) r ∧ (r.toInt = 1 → R (1) (8) (u 3 2) ∧ R (0) (0) (u 3 1)) ∧ QX (sNum bb nb 1 8 fs) r u (fun g => (u 3 2).toInt = g.1 ∧ RC bb nb u g.2)
set_option maxHeartbeats 4000000 in
set_option maxRecDepth 100000 in
theorem c_X8_takeNumber_q_1_8 (l : Launch) (G : Gx) (τ : Tau) (hI : Inv τ) (a0 : Int32) (a1 : Int32) (h_a0 : R (1) (1) a0) (h_a1 : R (8) (8) a1) (hf_0 : R (0) (0) (τ 3 1)) (bb : Nat → Int) (nb : Nat) (fs : FS) (hR : RC bb nb τ fs) : Ci l G yX8_takeNumber cX8_takeNumber 3 (some .boolean) 1 24 [.ref (G.2.2.2.1 3), .int a0, .int a1] τ (po_X8_takeNumber_q_1_8 τ  a0 a1  bb nb fs) := by
  unfold Ci
  refine C_of (own := RX8) (by decide) rfl (Nat.le_of_ble_eq_true rfl) ?_
  intro p e s m below meth c ls S hr hlk X hl
  have hl : lv_has ls 3 [(0, .ref (G.2.2.2.1 3)), (1, .int a0), (2, .int a1)] := hl
  obtain ⟨v1, z2⟩ : ∃ x, τ 3 1 = x := ⟨_, rfl⟩
  rw [z2] at hf_0
  refine r_aload_n S dX8_takeNumber_0 rfl (lv_at hl 0 rfl) ?_
  refine r_get (K := 3) (v := .ref (G.2.2.2.1 1)) S X (Nat.le_of_ble_eq_true rfl) rfl lk8_9_0 (fun _ => ⟨_, rfl, rfl⟩) dX8_takeNumber_1 ?_
  refine r_getn (K := 1) S X (Nat.le_of_ble_eq_true rfl) rfl lk8_36_7 (fun _ => ⟨_, rfl, rfl⟩) dX8_takeNumber_4 (fun v3 z4 => ?_)
  have r5 : R (0) (4) v3 := rd hI rfl z4
  refine r_iconst S dX8_takeNumber_7 (by decide) (fun v6 z7 => ?_)
  have r8 := R_eq z7
  refine r_icmp_eq (tgt := 17) S dX8_takeNumber_8 (by decide) (fun c9 => ?_) (fun c9 => ?_)
  ·
    have r10 : R (3) (3) v3 := ⟨by omega, by omega⟩
    refine r_aload_n S dX8_takeNumber_17 rfl (lv_at hl 0 rfl) ?_
    refine r_get (K := 3) (v := .ref (G.2.2.2.1 1)) S X (Nat.le_of_ble_eq_true rfl) rfl lk8_9_0 (fun _ => ⟨_, rfl, rfl⟩) dX8_takeNumber_18 ?_
    refine r_getn (K := 1) S X (Nat.le_of_ble_eq_true rfl) rfl lk8_39_7 (fun _ => ⟨_, rfl, rfl⟩) dX8_takeNumber_21 (fun v11 z12 => ?_)
    have r14 := R_any v11
    refine r_iload_n S dX8_takeNumber_24 rfl (lv_at hl 1 rfl) ?_
    refine r_icmp_lt (tgt := 39) S dX8_takeNumber_25 (by decide) (fun c15 => ?_) (fun c15 => ?_)
    ·
      have r16 : R (-2147483648) (0) v11 := ⟨by omega, by omega⟩
      refine r_aload_n S dX8_takeNumber_39 rfl (lv_at hl 0 rfl) ?_
      refine r_iconst S dX8_takeNumber_40 (by decide) (fun v17 z18 => ?_)
      have r19 := R_eq z18
      refine r_ki (q_U (As := [.int v17]) (rest := []) (K := 3) (ci := 0) S X (c_X8_fail_q l G τ hI v17 (R_of (lo := -2147483648) (hi := 2147483647) r19 rfl)) ck8_29_0 (Nat.le_of_ble_eq_true rfl) rfl (fun _ => ⟨_, rfl⟩) ⟨_, _, rfl⟩ ⟨Nat.le_of_ble_eq_true rfl, Nat.le_of_ble_eq_true rfl⟩ rfl hl.1 rfl (Nat.le_of_ble_eq_true rfl) dX8_takeNumber_41 ⟨Nat.le_refl 0, Nat.le_refl 0⟩) X (fun v23 t22 H lc q20 X21 => ?_)
      unfold po_X8_fail_q at q20
      obtain ⟨q24, q25, q26, q27⟩ := q20
      have F28 : Fr [(3, 1), (3, 2), (1, 3), (1, 4), (1, 5), (1, 7), (1, 8)] [201] τ t22 := Fr_call Fr_rfl q25 (by decide)
      exact r_ret S hr hlk X21 ⟨q24, F28, (R_of q26 rfl), (fun h => by exfalso; omega), (QX_b (sNum_b2 ((RT_k hR.1).2.2.1.mp (by rw [z4]; omega)) (by rw [← RT_nm hR.1 ((RT_k hR.1).2.2.1.mp (by rw [z4]; omega)), z12]; omega)) (by omega) (by rw [q27]; omega) (RC_at (RC_fr hR (fun j => ((q25 1 j (by simp [fz])).trans rfl)) (fun j => ((q25 2 j (by simp [fz])).trans rfl)) (fun j => ((q25 201 j (by simp [fz])).trans rfl)) ((q25 3 5 (by decide)).trans rfl) ((q25 3 6 (by decide)).trans rfl) (fun j => ((q25 4 j (by simp [fz])).trans rfl)) (fun j => ((q25 6 j (by simp [fz])).trans rfl)) (fun j => ((q25 7 j (by simp [fz])).trans rfl)) (fun j => ((q25 8 j (by simp [fz])).trans rfl)) (fun j => ((q25 209 j (by simp [fz])).trans rfl)) (fun j => ((q25 210 j (by simp [fz])).trans rfl)))))⟩ (nr_bool (R_of (lo := 0) (hi := 1) q26 rfl)) dX8_takeNumber_44
    ·
      have r29 : R (1) (2147483647) v11 := ⟨by omega, by omega⟩
      refine r_aload_n S dX8_takeNumber_28 rfl (lv_at hl 0 rfl) ?_
      refine r_get (K := 3) (v := .ref (G.2.2.2.1 1)) S X (Nat.le_of_ble_eq_true rfl) rfl lk8_9_0 (fun _ => ⟨_, rfl, rfl⟩) dX8_takeNumber_29 ?_
      refine r_geti (K := 1) S X (Nat.le_of_ble_eq_true rfl) rfl lk8_39_7 (fun _ => ⟨_, rfl, rfl⟩) z12 dX8_takeNumber_32 ?_
      refine r_iload_n S dX8_takeNumber_35 rfl (lv_at hl 2 rfl) ?_
      refine r_icmp_le (tgt := 45) S dX8_takeNumber_36 (by decide) (fun c30 => ?_) (fun c30 => ?_)
      ·
        have r31 : R (1) (8) v11 := ⟨by omega, by omega⟩
        refine r_aload_n S dX8_takeNumber_45 rfl (lv_at hl 0 rfl) ?_
        refine r_aload_n S dX8_takeNumber_46 rfl (lv_at hl 0 rfl) ?_
        refine r_get (K := 3) (v := .ref (G.2.2.2.1 1)) S X (Nat.le_of_ble_eq_true rfl) rfl lk8_9_0 (fun _ => ⟨_, rfl, rfl⟩) dX8_takeNumber_47 ?_
        refine r_geti (K := 1) S X (Nat.le_of_ble_eq_true rfl) rfl lk8_39_7 (fun _ => ⟨_, rfl, rfl⟩) z12 dX8_takeNumber_50 ?_
        refine r_put (K := 3) (ty := .int) S X (Nat.le_of_ble_eq_true rfl) rfl lk8_42_0 (fun _ => ⟨_, rfl, Nat.le_of_ble_eq_true rfl, rfl⟩) (fun _ _ _ h => by cases h; exact ⟨rfl, rfl⟩) rfl rfl dX8_takeNumber_53 (fun t32 H lc M33 X34 => ?_)
        have I35 := Inv_mu hI M33 (R_any v11)
        have F36 : Fr [(3, 1), (3, 2), (1, 3), (1, 4), (1, 5), (1, 7), (1, 8)] [201] τ t32 := Fr_mu Fr_rfl M33 (by decide)
        refine r_aload_n S dX8_takeNumber_56 rfl (lv_at hl 0 rfl) ?_
        refine r_get (K := 3) (v := .ref (G.2.2.2.1 1)) S X34 (Nat.le_of_ble_eq_true rfl) rfl lk8_9_0 (fun _ => ⟨_, rfl, rfl⟩) dX8_takeNumber_57 ?_
        refine r_kv (q_V (As := []) (rest := []) (K := 1) (ci := 7) S X34 (c_X7_step_q l G t32 I35 bb nb 900 fs.1.2.2 (RT_st (RC_fr hR (fun j => ((M33.2 1 j (Or.inl (by decide))).trans rfl)) (fun j => ((M33.2 2 j (Or.inl (by decide))).trans rfl)) (fun j => ((M33.2 201 j (Or.inl (by decide))).trans rfl)) ((M33.2 3 5 (Or.inr (by decide))).trans rfl) ((M33.2 3 6 (Or.inr (by decide))).trans rfl) (fun j => ((M33.2 4 j (Or.inl (by decide))).trans rfl)) (fun j => ((M33.2 6 j (Or.inl (by decide))).trans rfl)) (fun j => ((M33.2 7 j (Or.inl (by decide))).trans rfl)) (fun j => ((M33.2 8 j (Or.inl (by decide))).trans rfl)) (fun j => ((M33.2 209 j (Or.inl (by decide))).trans rfl)) (fun j => ((M33.2 210 j (Or.inl (by decide))).trans rfl))).1 (Or.inr (Or.inl ((RT_k hR.1).2.2.1.mp (by rw [z4]; omega))))).1 (RT_st (RC_fr hR (fun j => ((M33.2 1 j (Or.inl (by decide))).trans rfl)) (fun j => ((M33.2 2 j (Or.inl (by decide))).trans rfl)) (fun j => ((M33.2 201 j (Or.inl (by decide))).trans rfl)) ((M33.2 3 5 (Or.inr (by decide))).trans rfl) ((M33.2 3 6 (Or.inr (by decide))).trans rfl) (fun j => ((M33.2 4 j (Or.inl (by decide))).trans rfl)) (fun j => ((M33.2 6 j (Or.inl (by decide))).trans rfl)) (fun j => ((M33.2 7 j (Or.inl (by decide))).trans rfl)) (fun j => ((M33.2 8 j (Or.inl (by decide))).trans rfl)) (fun j => ((M33.2 209 j (Or.inl (by decide))).trans rfl)) (fun j => ((M33.2 210 j (Or.inl (by decide))).trans rfl))).1 (Or.inr (Or.inl ((RT_k hR.1).2.2.1.mp (by rw [z4]; omega))))).2.1 (RT_st (RC_fr hR (fun j => ((M33.2 1 j (Or.inl (by decide))).trans rfl)) (fun j => ((M33.2 2 j (Or.inl (by decide))).trans rfl)) (fun j => ((M33.2 201 j (Or.inl (by decide))).trans rfl)) ((M33.2 3 5 (Or.inr (by decide))).trans rfl) ((M33.2 3 6 (Or.inr (by decide))).trans rfl) (fun j => ((M33.2 4 j (Or.inl (by decide))).trans rfl)) (fun j => ((M33.2 6 j (Or.inl (by decide))).trans rfl)) (fun j => ((M33.2 7 j (Or.inl (by decide))).trans rfl)) (fun j => ((M33.2 8 j (Or.inl (by decide))).trans rfl)) (fun j => ((M33.2 209 j (Or.inl (by decide))).trans rfl)) (fun j => ((M33.2 210 j (Or.inl (by decide))).trans rfl))).1 (Or.inr (Or.inl ((RT_k hR.1).2.2.1.mp (by rw [z4]; omega))))).2.2) ck8_33 (Nat.le_of_ble_eq_true rfl) rfl (fun _ => ⟨_, rfl⟩) ⟨_, _, rfl⟩ ⟨Nat.le_of_ble_eq_true rfl, Nat.le_of_ble_eq_true rfl⟩ rfl hl.1 rfl (Nat.le_of_ble_eq_true rfl) dX8_takeNumber_60 ⟨Nat.le_refl 0, Nat.le_refl 0⟩) X34 (fun t39 H lc q37 X38 => ?_)
        unfold po_X7_step_q at q37
        obtain ⟨q40, q41, q42⟩ := q37
        have F43 : Fr [(3, 1), (3, 2), (1, 3), (1, 4), (1, 5), (1, 7), (1, 8)] [201] τ t39 := Fr_call F36 q41 (by decide)
        have hR44 : RC bb nb t39 (stp bb nb fs) := ⟨q42, RP_fr hR.2 ((q41 3 5 (by decide)).trans ((M33.2 3 5 (Or.inr (by decide))).trans rfl)) ((q41 3 6 (by decide)).trans ((M33.2 3 6 (Or.inr (by decide))).trans rfl)) (fun j => ((q41 4 j (by simp [fz])).trans ((M33.2 4 j (Or.inl (by decide))).trans rfl))) (fun j => ((q41 6 j (by simp [fz])).trans ((M33.2 6 j (Or.inl (by decide))).trans rfl))) (fun j => ((q41 7 j (by simp [fz])).trans ((M33.2 7 j (Or.inl (by decide))).trans rfl))) (fun j => ((q41 8 j (by simp [fz])).trans ((M33.2 8 j (Or.inl (by decide))).trans rfl))) (fun j => ((q41 209 j (by simp [fz])).trans ((M33.2 209 j (Or.inl (by decide))).trans rfl))) (fun j => ((q41 210 j (by simp [fz])).trans ((M33.2 210 j (Or.inl (by decide))).trans rfl)))⟩
        refine r_iconst S dX8_takeNumber_63 (by decide) (fun v45 z46 => ?_)
        have r47 := R_eq z46
        exact r_ret S hr hlk X38 ⟨q40, F43, (R_of r47 rfl), (fun h => ⟨(by rw [((q41 3 2 (by decide)).trans M33.1)]; exact R_of r31 rfl), (by rw [((q41 3 1 (by decide)).trans ((M33.2 3 1 (Or.inr (by decide))).trans z2))]; exact R_of hf_0 rfl)⟩), (QX_r (sNum_g ((RT_k hR.1).2.2.1.mp (by rw [z4]; omega)) (by rw [← RT_nm hR.1 ((RT_k hR.1).2.2.1.mp (by rw [z4]; omega)), z12]; omega)) (by omega) ⟨show (t39 3 2).toInt = nbr bb fs.1 by rw [((q41 3 2 (by decide)).trans M33.1), ← RT_nm hR.1 ((RT_k hR.1).2.2.1.mp (by rw [z4]; omega)), z12], hR44⟩)⟩ (nr_bool (R_of (lo := 0) (hi := 1) r47 rfl)) dX8_takeNumber_64
      ·
        have r48 : R (9) (2147483647) v11 := ⟨by omega, by omega⟩
        refine r_aload_n S dX8_takeNumber_39 rfl (lv_at hl 0 rfl) ?_
        refine r_iconst S dX8_takeNumber_40 (by decide) (fun v49 z50 => ?_)
        have r51 := R_eq z50
        refine r_ki (q_U (As := [.int v49]) (rest := []) (K := 3) (ci := 0) S X (c_X8_fail_q l G τ hI v49 (R_of (lo := -2147483648) (hi := 2147483647) r51 rfl)) ck8_29_0 (Nat.le_of_ble_eq_true rfl) rfl (fun _ => ⟨_, rfl⟩) ⟨_, _, rfl⟩ ⟨Nat.le_of_ble_eq_true rfl, Nat.le_of_ble_eq_true rfl⟩ rfl hl.1 rfl (Nat.le_of_ble_eq_true rfl) dX8_takeNumber_41 ⟨Nat.le_refl 0, Nat.le_refl 0⟩) X (fun v55 t54 H lc q52 X53 => ?_)
        unfold po_X8_fail_q at q52
        obtain ⟨q56, q57, q58, q59⟩ := q52
        have F60 : Fr [(3, 1), (3, 2), (1, 3), (1, 4), (1, 5), (1, 7), (1, 8)] [201] τ t54 := Fr_call Fr_rfl q57 (by decide)
        exact r_ret S hr hlk X53 ⟨q56, F60, (R_of q58 rfl), (fun h => by exfalso; omega), (QX_b (sNum_b2 ((RT_k hR.1).2.2.1.mp (by rw [z4]; omega)) (by rw [← RT_nm hR.1 ((RT_k hR.1).2.2.1.mp (by rw [z4]; omega)), z12]; omega)) (by omega) (by rw [q59]; omega) (RC_at (RC_fr hR (fun j => ((q57 1 j (by simp [fz])).trans rfl)) (fun j => ((q57 2 j (by simp [fz])).trans rfl)) (fun j => ((q57 201 j (by simp [fz])).trans rfl)) ((q57 3 5 (by decide)).trans rfl) ((q57 3 6 (by decide)).trans rfl) (fun j => ((q57 4 j (by simp [fz])).trans rfl)) (fun j => ((q57 6 j (by simp [fz])).trans rfl)) (fun j => ((q57 7 j (by simp [fz])).trans rfl)) (fun j => ((q57 8 j (by simp [fz])).trans rfl)) (fun j => ((q57 209 j (by simp [fz])).trans rfl)) (fun j => ((q57 210 j (by simp [fz])).trans rfl)))))⟩ (nr_bool (R_of (lo := 0) (hi := 1) q58 rfl)) dX8_takeNumber_44
  ·
    refine r_aload_n S dX8_takeNumber_11 rfl (lv_at hl 0 rfl) ?_
    refine r_iconst S dX8_takeNumber_12 (by decide) (fun v61 z62 => ?_)
    have r63 := R_eq z62
    refine r_ki (q_U (As := [.int v61]) (rest := []) (K := 3) (ci := 0) S X (c_X8_fail_q l G τ hI v61 (R_of (lo := -2147483648) (hi := 2147483647) r63 rfl)) ck8_29_0 (Nat.le_of_ble_eq_true rfl) rfl (fun _ => ⟨_, rfl⟩) ⟨_, _, rfl⟩ ⟨Nat.le_of_ble_eq_true rfl, Nat.le_of_ble_eq_true rfl⟩ rfl hl.1 rfl (Nat.le_of_ble_eq_true rfl) dX8_takeNumber_13 ⟨Nat.le_refl 0, Nat.le_refl 0⟩) X (fun v67 t66 H lc q64 X65 => ?_)
    unfold po_X8_fail_q at q64
    obtain ⟨q68, q69, q70, q71⟩ := q64
    have F72 : Fr [(3, 1), (3, 2), (1, 3), (1, 4), (1, 5), (1, 7), (1, 8)] [201] τ t66 := Fr_call Fr_rfl q69 (by decide)
    exact r_ret S hr hlk X65 ⟨q68, F72, (R_of q70 rfl), (fun h => by exfalso; omega), (QX_b (sNum_b1 (fun h => absurd ((RT_k hR.1).2.2.1.mpr h) (by rw [z4]; omega))) (by omega) (by rw [q71]; omega) (RC_at (RC_fr hR (fun j => ((q69 1 j (by simp [fz])).trans rfl)) (fun j => ((q69 2 j (by simp [fz])).trans rfl)) (fun j => ((q69 201 j (by simp [fz])).trans rfl)) ((q69 3 5 (by decide)).trans rfl) ((q69 3 6 (by decide)).trans rfl) (fun j => ((q69 4 j (by simp [fz])).trans rfl)) (fun j => ((q69 6 j (by simp [fz])).trans rfl)) (fun j => ((q69 7 j (by simp [fz])).trans rfl)) (fun j => ((q69 8 j (by simp [fz])).trans rfl)) (fun j => ((q69 209 j (by simp [fz])).trans rfl)) (fun j => ((q69 210 j (by simp [fz])).trans rfl)))))⟩ (nr_bool (R_of (lo := 0) (hi := 1) q70 rfl)) dX8_takeNumber_16
def po_X8_takeNumber_q_0_9 (τ : Tau)  (a0 a1 : Int32)  (bb : Nat → Int) (nb : Nat) (fs : FS) (r : Int32) (u : Tau) : Prop := Inv u ∧ Fr [(3, 1), (3, 2), (1, 3), (1, 4), (1, 5), (1, 7), (1, 8)] [201] τ u ∧ R (0) (1) r ∧ (r.toInt = 1 → R (0) (9) (u 3 2) ∧ R (0) (0) (u 3 1)) ∧ QX (sNum bb nb 0 9 fs) r u (fun g => (u 3 2).toInt = g.1 ∧ RC bb nb u g.2)
set_option maxHeartbeats 4000000 in
set_option maxRecDepth 100000 in
theorem c_X8_takeNumber_q_0_9 (l : Launch) (G : Gx) (τ : Tau) (hI : Inv τ) (a0 : Int32) (a1 : Int32) (h_a0 : R (0) (0) a0) (h_a1 : R (9) (9) a1) (hf_0 : R (0) (0) (τ 3 1)) (bb : Nat → Int) (nb : Nat) (fs : FS) (hR : RC bb nb τ fs) : Ci l G yX8_takeNumber cX8_takeNumber 3 (some .boolean) 1 24 [.ref (G.2.2.2.1 3), .int a0, .int a1] τ (po_X8_takeNumber_q_0_9 τ  a0 a1  bb nb fs) := by
  unfold Ci
  refine C_of (own := RX8) (by decide) rfl (Nat.le_of_ble_eq_true rfl) ?_
  intro p e s m below meth c ls S hr hlk X hl
  have hl : lv_has ls 3 [(0, .ref (G.2.2.2.1 3)), (1, .int a0), (2, .int a1)] := hl
  obtain ⟨v1, z2⟩ : ∃ x, τ 3 1 = x := ⟨_, rfl⟩
  rw [z2] at hf_0
  refine r_aload_n S dX8_takeNumber_0 rfl (lv_at hl 0 rfl) ?_
  refine r_get (K := 3) (v := .ref (G.2.2.2.1 1)) S X (Nat.le_of_ble_eq_true rfl) rfl lk8_9_0 (fun _ => ⟨_, rfl, rfl⟩) dX8_takeNumber_1 ?_
  refine r_getn (K := 1) S X (Nat.le_of_ble_eq_true rfl) rfl lk8_36_7 (fun _ => ⟨_, rfl, rfl⟩) dX8_takeNumber_4 (fun v3 z4 => ?_)
  have r5 : R (0) (4) v3 := rd hI rfl z4
  refine r_iconst S dX8_takeNumber_7 (by decide) (fun v6 z7 => ?_)
  have r8 := R_eq z7
  refine r_icmp_eq (tgt := 17) S dX8_takeNumber_8 (by decide) (fun c9 => ?_) (fun c9 => ?_)
  ·
    have r10 : R (3) (3) v3 := ⟨by omega, by omega⟩
    refine r_aload_n S dX8_takeNumber_17 rfl (lv_at hl 0 rfl) ?_
    refine r_get (K := 3) (v := .ref (G.2.2.2.1 1)) S X (Nat.le_of_ble_eq_true rfl) rfl lk8_9_0 (fun _ => ⟨_, rfl, rfl⟩) dX8_takeNumber_18 ?_
    refine r_getn (K := 1) S X (Nat.le_of_ble_eq_true rfl) rfl lk8_39_7 (fun _ => ⟨_, rfl, rfl⟩) dX8_takeNumber_21 (fun v11 z12 => ?_)
    have r14 := R_any v11
    refine r_iload_n S dX8_takeNumber_24 rfl (lv_at hl 1 rfl) ?_
    refine r_icmp_lt (tgt := 39) S dX8_takeNumber_25 (by decide) (fun c15 => ?_) (fun c15 => ?_)
    ·
      have r16 : R (-2147483648) (-1) v11 := ⟨by omega, by omega⟩
      refine r_aload_n S dX8_takeNumber_39 rfl (lv_at hl 0 rfl) ?_
      refine r_iconst S dX8_takeNumber_40 (by decide) (fun v17 z18 => ?_)
      have r19 := R_eq z18
      refine r_ki (q_U (As := [.int v17]) (rest := []) (K := 3) (ci := 0) S X (c_X8_fail_q l G τ hI v17 (R_of (lo := -2147483648) (hi := 2147483647) r19 rfl)) ck8_29_0 (Nat.le_of_ble_eq_true rfl) rfl (fun _ => ⟨_, rfl⟩) ⟨_, _, rfl⟩ ⟨Nat.le_of_ble_eq_true rfl, Nat.le_of_ble_eq_true rfl⟩ rfl hl.1 rfl (Nat.le_of_ble_eq_true rfl) dX8_takeNumber_41 ⟨Nat.le_refl 0, Nat.le_refl 0⟩) X (fun v23 t22 H lc q20 X21 => ?_)
      unfold po_X8_fail_q at q20
      obtain ⟨q24, q25, q26, q27⟩ := q20
      have F28 : Fr [(3, 1), (3, 2), (1, 3), (1, 4), (1, 5), (1, 7), (1, 8)] [201] τ t22 := Fr_call Fr_rfl q25 (by decide)
      exact r_ret S hr hlk X21 ⟨q24, F28, (R_of q26 rfl), (fun h => by exfalso; omega), (QX_b (sNum_b2 ((RT_k hR.1).2.2.1.mp (by rw [z4]; omega)) (by rw [← RT_nm hR.1 ((RT_k hR.1).2.2.1.mp (by rw [z4]; omega)), z12]; omega)) (by omega) (by rw [q27]; omega) (RC_at (RC_fr hR (fun j => ((q25 1 j (by simp [fz])).trans rfl)) (fun j => ((q25 2 j (by simp [fz])).trans rfl)) (fun j => ((q25 201 j (by simp [fz])).trans rfl)) ((q25 3 5 (by decide)).trans rfl) ((q25 3 6 (by decide)).trans rfl) (fun j => ((q25 4 j (by simp [fz])).trans rfl)) (fun j => ((q25 6 j (by simp [fz])).trans rfl)) (fun j => ((q25 7 j (by simp [fz])).trans rfl)) (fun j => ((q25 8 j (by simp [fz])).trans rfl)) (fun j => ((q25 209 j (by simp [fz])).trans rfl)) (fun j => ((q25 210 j (by simp [fz])).trans rfl)))))⟩ (nr_bool (R_of (lo := 0) (hi := 1) q26 rfl)) dX8_takeNumber_44
    ·
      have r29 : R (0) (2147483647) v11 := ⟨by omega, by omega⟩
      refine r_aload_n S dX8_takeNumber_28 rfl (lv_at hl 0 rfl) ?_
      refine r_get (K := 3) (v := .ref (G.2.2.2.1 1)) S X (Nat.le_of_ble_eq_true rfl) rfl lk8_9_0 (fun _ => ⟨_, rfl, rfl⟩) dX8_takeNumber_29 ?_
      refine r_geti (K := 1) S X (Nat.le_of_ble_eq_true rfl) rfl lk8_39_7 (fun _ => ⟨_, rfl, rfl⟩) z12 dX8_takeNumber_32 ?_
      refine r_iload_n S dX8_takeNumber_35 rfl (lv_at hl 2 rfl) ?_
      refine r_icmp_le (tgt := 45) S dX8_takeNumber_36 (by decide) (fun c30 => ?_) (fun c30 => ?_)
      ·
        have r31 : R (0) (9) v11 := ⟨by omega, by omega⟩
        refine r_aload_n S dX8_takeNumber_45 rfl (lv_at hl 0 rfl) ?_
        refine r_aload_n S dX8_takeNumber_46 rfl (lv_at hl 0 rfl) ?_
        refine r_get (K := 3) (v := .ref (G.2.2.2.1 1)) S X (Nat.le_of_ble_eq_true rfl) rfl lk8_9_0 (fun _ => ⟨_, rfl, rfl⟩) dX8_takeNumber_47 ?_
        refine r_geti (K := 1) S X (Nat.le_of_ble_eq_true rfl) rfl lk8_39_7 (fun _ => ⟨_, rfl, rfl⟩) z12 dX8_takeNumber_50 ?_
        refine r_put (K := 3) (ty := .int) S X (Nat.le_of_ble_eq_true rfl) rfl lk8_42_0 (fun _ => ⟨_, rfl, Nat.le_of_ble_eq_true rfl, rfl⟩) (fun _ _ _ h => by cases h; exact ⟨rfl, rfl⟩) rfl rfl dX8_takeNumber_53 (fun t32 H lc M33 X34 => ?_)
        have I35 := Inv_mu hI M33 (R_any v11)
        have F36 : Fr [(3, 1), (3, 2), (1, 3), (1, 4), (1, 5), (1, 7), (1, 8)] [201] τ t32 := Fr_mu Fr_rfl M33 (by decide)
        refine r_aload_n S dX8_takeNumber_56 rfl (lv_at hl 0 rfl) ?_
        refine r_get (K := 3) (v := .ref (G.2.2.2.1 1)) S X34 (Nat.le_of_ble_eq_true rfl) rfl lk8_9_0 (fun _ => ⟨_, rfl, rfl⟩) dX8_takeNumber_57 ?_
        refine r_kv (q_V (As := []) (rest := []) (K := 1) (ci := 7) S X34 (c_X7_step_q l G t32 I35 bb nb 900 fs.1.2.2 (RT_st (RC_fr hR (fun j => ((M33.2 1 j (Or.inl (by decide))).trans rfl)) (fun j => ((M33.2 2 j (Or.inl (by decide))).trans rfl)) (fun j => ((M33.2 201 j (Or.inl (by decide))).trans rfl)) ((M33.2 3 5 (Or.inr (by decide))).trans rfl) ((M33.2 3 6 (Or.inr (by decide))).trans rfl) (fun j => ((M33.2 4 j (Or.inl (by decide))).trans rfl)) (fun j => ((M33.2 6 j (Or.inl (by decide))).trans rfl)) (fun j => ((M33.2 7 j (Or.inl (by decide))).trans rfl)) (fun j => ((M33.2 8 j (Or.inl (by decide))).trans rfl)) (fun j => ((M33.2 209 j (Or.inl (by decide))).trans rfl)) (fun j => ((M33.2 210 j (Or.inl (by decide))).trans rfl))).1 (Or.inr (Or.inl ((RT_k hR.1).2.2.1.mp (by rw [z4]; omega))))).1 (RT_st (RC_fr hR (fun j => ((M33.2 1 j (Or.inl (by decide))).trans rfl)) (fun j => ((M33.2 2 j (Or.inl (by decide))).trans rfl)) (fun j => ((M33.2 201 j (Or.inl (by decide))).trans rfl)) ((M33.2 3 5 (Or.inr (by decide))).trans rfl) ((M33.2 3 6 (Or.inr (by decide))).trans rfl) (fun j => ((M33.2 4 j (Or.inl (by decide))).trans rfl)) (fun j => ((M33.2 6 j (Or.inl (by decide))).trans rfl)) (fun j => ((M33.2 7 j (Or.inl (by decide))).trans rfl)) (fun j => ((M33.2 8 j (Or.inl (by decide))).trans rfl)) (fun j => ((M33.2 209 j (Or.inl (by decide))).trans rfl)) (fun j => ((M33.2 210 j (Or.inl (by decide))).trans rfl))).1 (Or.inr (Or.inl ((RT_k hR.1).2.2.1.mp (by rw [z4]; omega))))).2.1 (RT_st (RC_fr hR (fun j => ((M33.2 1 j (Or.inl (by decide))).trans rfl)) (fun j => ((M33.2 2 j (Or.inl (by decide))).trans rfl)) (fun j => ((M33.2 201 j (Or.inl (by decide))).trans rfl)) ((M33.2 3 5 (Or.inr (by decide))).trans rfl) ((M33.2 3 6 (Or.inr (by decide))).trans rfl) (fun j => ((M33.2 4 j (Or.inl (by decide))).trans rfl)) (fun j => ((M33.2 6 j (Or.inl (by decide))).trans rfl)) (fun j => ((M33.2 7 j (Or.inl (by decide))).trans rfl)) (fun j => ((M33.2 8 j (Or.inl (by decide))).trans rfl)) (fun j => ((M33.2 209 j (Or.inl (by decide))).trans rfl)) (fun j => ((M33.2 210 j (Or.inl (by decide))).trans rfl))).1 (Or.inr (Or.inl ((RT_k hR.1).2.2.1.mp (by rw [z4]; omega))))).2.2) ck8_33 (Nat.le_of_ble_eq_true rfl) rfl (fun _ => ⟨_, rfl⟩) ⟨_, _, rfl⟩ ⟨Nat.le_of_ble_eq_true rfl, Nat.le_of_ble_eq_true rfl⟩ rfl hl.1 rfl (Nat.le_of_ble_eq_true rfl) dX8_takeNumber_60 ⟨Nat.le_refl 0, Nat.le_refl 0⟩) X34 (fun t39 H lc q37 X38 => ?_)
        unfold po_X7_step_q at q37
        obtain ⟨q40, q41, q42⟩ := q37
        have F43 : Fr [(3, 1), (3, 2), (1, 3), (1, 4), (1, 5), (1, 7), (1, 8)] [201] τ t39 := Fr_call F36 q41 (by decide)
        have hR44 : RC bb nb t39 (stp bb nb fs) := ⟨q42, RP_fr hR.2 ((q41 3 5 (by decide)).trans ((M33.2 3 5 (Or.inr (by decide))).trans rfl)) ((q41 3 6 (by decide)).trans ((M33.2 3 6 (Or.inr (by decide))).trans rfl)) (fun j => ((q41 4 j (by simp [fz])).trans ((M33.2 4 j (Or.inl (by decide))).trans rfl))) (fun j => ((q41 6 j (by simp [fz])).trans ((M33.2 6 j (Or.inl (by decide))).trans rfl))) (fun j => ((q41 7 j (by simp [fz])).trans ((M33.2 7 j (Or.inl (by decide))).trans rfl))) (fun j => ((q41 8 j (by simp [fz])).trans ((M33.2 8 j (Or.inl (by decide))).trans rfl))) (fun j => ((q41 209 j (by simp [fz])).trans ((M33.2 209 j (Or.inl (by decide))).trans rfl))) (fun j => ((q41 210 j (by simp [fz])).trans ((M33.2 210 j (Or.inl (by decide))).trans rfl)))⟩
        refine r_iconst S dX8_takeNumber_63 (by decide) (fun v45 z46 => ?_)
        have r47 := R_eq z46
        exact r_ret S hr hlk X38 ⟨q40, F43, (R_of r47 rfl), (fun h => ⟨(by rw [((q41 3 2 (by decide)).trans M33.1)]; exact R_of r31 rfl), (by rw [((q41 3 1 (by decide)).trans ((M33.2 3 1 (Or.inr (by decide))).trans z2))]; exact R_of hf_0 rfl)⟩), (QX_r (sNum_g ((RT_k hR.1).2.2.1.mp (by rw [z4]; omega)) (by rw [← RT_nm hR.1 ((RT_k hR.1).2.2.1.mp (by rw [z4]; omega)), z12]; omega)) (by omega) ⟨show (t39 3 2).toInt = nbr bb fs.1 by rw [((q41 3 2 (by decide)).trans M33.1), ← RT_nm hR.1 ((RT_k hR.1).2.2.1.mp (by rw [z4]; omega)), z12], hR44⟩)⟩ (nr_bool (R_of (lo := 0) (hi := 1) r47 rfl)) dX8_takeNumber_64
      ·
        have r48 : R (10) (2147483647) v11 := ⟨by omega, by omega⟩
        refine r_aload_n S dX8_takeNumber_39 rfl (lv_at hl 0 rfl) ?_
        refine r_iconst S dX8_takeNumber_40 (by decide) (fun v49 z50 => ?_)
        have r51 := R_eq z50
        refine r_ki (q_U (As := [.int v49]) (rest := []) (K := 3) (ci := 0) S X (c_X8_fail_q l G τ hI v49 (R_of (lo := -2147483648) (hi := 2147483647) r51 rfl)) ck8_29_0 (Nat.le_of_ble_eq_true rfl) rfl (fun _ => ⟨_, rfl⟩) ⟨_, _, rfl⟩ ⟨Nat.le_of_ble_eq_true rfl, Nat.le_of_ble_eq_true rfl⟩ rfl hl.1 rfl (Nat.le_of_ble_eq_true rfl) dX8_takeNumber_41 ⟨Nat.le_refl 0, Nat.le_refl 0⟩) X (fun v55 t54 H lc q52 X53 => ?_)
        unfold po_X8_fail_q at q52
        obtain ⟨q56, q57, q58, q59⟩ := q52
        have F60 : Fr [(3, 1), (3, 2), (1, 3), (1, 4), (1, 5), (1, 7), (1, 8)] [201] τ t54 := Fr_call Fr_rfl q57 (by decide)
        exact r_ret S hr hlk X53 ⟨q56, F60, (R_of q58 rfl), (fun h => by exfalso; omega), (QX_b (sNum_b2 ((RT_k hR.1).2.2.1.mp (by rw [z4]; omega)) (by rw [← RT_nm hR.1 ((RT_k hR.1).2.2.1.mp (by rw [z4]; omega)), z12]; omega)) (by omega) (by rw [q59]; omega) (RC_at (RC_fr hR (fun j => ((q57 1 j (by simp [fz])).trans rfl)) (fun j => ((q57 2 j (by simp [fz])).trans rfl)) (fun j => ((q57 201 j (by simp [fz])).trans rfl)) ((q57 3 5 (by decide)).trans rfl) ((q57 3 6 (by decide)).trans rfl) (fun j => ((q57 4 j (by simp [fz])).trans rfl)) (fun j => ((q57 6 j (by simp [fz])).trans rfl)) (fun j => ((q57 7 j (by simp [fz])).trans rfl)) (fun j => ((q57 8 j (by simp [fz])).trans rfl)) (fun j => ((q57 209 j (by simp [fz])).trans rfl)) (fun j => ((q57 210 j (by simp [fz])).trans rfl)))))⟩ (nr_bool (R_of (lo := 0) (hi := 1) q58 rfl)) dX8_takeNumber_44
  ·
    refine r_aload_n S dX8_takeNumber_11 rfl (lv_at hl 0 rfl) ?_
    refine r_iconst S dX8_takeNumber_12 (by decide) (fun v61 z62 => ?_)
    have r63 := R_eq z62
    refine r_ki (q_U (As := [.int v61]) (rest := []) (K := 3) (ci := 0) S X (c_X8_fail_q l G τ hI v61 (R_of (lo := -2147483648) (hi := 2147483647) r63 rfl)) ck8_29_0 (Nat.le_of_ble_eq_true rfl) rfl (fun _ => ⟨_, rfl⟩) ⟨_, _, rfl⟩ ⟨Nat.le_of_ble_eq_true rfl, Nat.le_of_ble_eq_true rfl⟩ rfl hl.1 rfl (Nat.le_of_ble_eq_true rfl) dX8_takeNumber_13 ⟨Nat.le_refl 0, Nat.le_refl 0⟩) X (fun v67 t66 H lc q64 X65 => ?_)
    unfold po_X8_fail_q at q64
    obtain ⟨q68, q69, q70, q71⟩ := q64
    have F72 : Fr [(3, 1), (3, 2), (1, 3), (1, 4), (1, 5), (1, 7), (1, 8)] [201] τ t66 := Fr_call Fr_rfl q69 (by decide)
    exact r_ret S hr hlk X65 ⟨q68, F72, (R_of q70 rfl), (fun h => by exfalso; omega), (QX_b (sNum_b1 (fun h => absurd ((RT_k hR.1).2.2.1.mpr h) (by rw [z4]; omega))) (by omega) (by rw [q71]; omega) (RC_at (RC_fr hR (fun j => ((q69 1 j (by simp [fz])).trans rfl)) (fun j => ((q69 2 j (by simp [fz])).trans rfl)) (fun j => ((q69 201 j (by simp [fz])).trans rfl)) ((q69 3 5 (by decide)).trans rfl) ((q69 3 6 (by decide)).trans rfl) (fun j => ((q69 4 j (by simp [fz])).trans rfl)) (fun j => ((q69 6 j (by simp [fz])).trans rfl)) (fun j => ((q69 7 j (by simp [fz])).trans rfl)) (fun j => ((q69 8 j (by simp [fz])).trans rfl)) (fun j => ((q69 209 j (by simp [fz])).trans rfl)) (fun j => ((q69 210 j (by simp [fz])).trans rfl)))))⟩ (nr_bool (R_of (lo := 0) (hi := 1) q70 rfl)) dX8_takeNumber_16
def po_X8_takeNumber_q_0_20 (τ : Tau)  (a0 a1 : Int32)  (bb : Nat → Int) (nb : Nat) (fs : FS) (r : Int32) (u : Tau) : Prop := Inv u ∧ Fr [(3, 1), (3, 2), (1, 3), (1, 4), (1, 5), (1, 7), (1, 8)] [201] τ u ∧ R (0) (1) r ∧ (r.toInt = 1 → R (0) (20) (u 3 2) ∧ R (0) (0) (u 3 1)) ∧ QX (sNum bb nb 0 20 fs) r u (fun g => (u 3 2).toInt = g.1 ∧ RC bb nb u g.2)
set_option maxHeartbeats 4000000 in
set_option maxRecDepth 100000 in
theorem c_X8_takeNumber_q_0_20 (l : Launch) (G : Gx) (τ : Tau) (hI : Inv τ) (a0 : Int32) (a1 : Int32) (h_a0 : R (0) (0) a0) (h_a1 : R (20) (20) a1) (hf_0 : R (0) (0) (τ 3 1)) (bb : Nat → Int) (nb : Nat) (fs : FS) (hR : RC bb nb τ fs) : Ci l G yX8_takeNumber cX8_takeNumber 3 (some .boolean) 1 24 [.ref (G.2.2.2.1 3), .int a0, .int a1] τ (po_X8_takeNumber_q_0_20 τ  a0 a1  bb nb fs) := by
  unfold Ci
  refine C_of (own := RX8) (by decide) rfl (Nat.le_of_ble_eq_true rfl) ?_
  intro p e s m below meth c ls S hr hlk X hl
  have hl : lv_has ls 3 [(0, .ref (G.2.2.2.1 3)), (1, .int a0), (2, .int a1)] := hl
  obtain ⟨v1, z2⟩ : ∃ x, τ 3 1 = x := ⟨_, rfl⟩
  rw [z2] at hf_0
  refine r_aload_n S dX8_takeNumber_0 rfl (lv_at hl 0 rfl) ?_
  refine r_get (K := 3) (v := .ref (G.2.2.2.1 1)) S X (Nat.le_of_ble_eq_true rfl) rfl lk8_9_0 (fun _ => ⟨_, rfl, rfl⟩) dX8_takeNumber_1 ?_
  refine r_getn (K := 1) S X (Nat.le_of_ble_eq_true rfl) rfl lk8_36_7 (fun _ => ⟨_, rfl, rfl⟩) dX8_takeNumber_4 (fun v3 z4 => ?_)
  have r5 : R (0) (4) v3 := rd hI rfl z4
  refine r_iconst S dX8_takeNumber_7 (by decide) (fun v6 z7 => ?_)
  have r8 := R_eq z7
  refine r_icmp_eq (tgt := 17) S dX8_takeNumber_8 (by decide) (fun c9 => ?_) (fun c9 => ?_)
  ·
    have r10 : R (3) (3) v3 := ⟨by omega, by omega⟩
    refine r_aload_n S dX8_takeNumber_17 rfl (lv_at hl 0 rfl) ?_
    refine r_get (K := 3) (v := .ref (G.2.2.2.1 1)) S X (Nat.le_of_ble_eq_true rfl) rfl lk8_9_0 (fun _ => ⟨_, rfl, rfl⟩) dX8_takeNumber_18 ?_
    refine r_getn (K := 1) S X (Nat.le_of_ble_eq_true rfl) rfl lk8_39_7 (fun _ => ⟨_, rfl, rfl⟩) dX8_takeNumber_21 (fun v11 z12 => ?_)
    have r14 := R_any v11
    refine r_iload_n S dX8_takeNumber_24 rfl (lv_at hl 1 rfl) ?_
    refine r_icmp_lt (tgt := 39) S dX8_takeNumber_25 (by decide) (fun c15 => ?_) (fun c15 => ?_)
    ·
      have r16 : R (-2147483648) (-1) v11 := ⟨by omega, by omega⟩
      refine r_aload_n S dX8_takeNumber_39 rfl (lv_at hl 0 rfl) ?_
      refine r_iconst S dX8_takeNumber_40 (by decide) (fun v17 z18 => ?_)
      have r19 := R_eq z18
      refine r_ki (q_U (As := [.int v17]) (rest := []) (K := 3) (ci := 0) S X (c_X8_fail_q l G τ hI v17 (R_of (lo := -2147483648) (hi := 2147483647) r19 rfl)) ck8_29_0 (Nat.le_of_ble_eq_true rfl) rfl (fun _ => ⟨_, rfl⟩) ⟨_, _, rfl⟩ ⟨Nat.le_of_ble_eq_true rfl, Nat.le_of_ble_eq_true rfl⟩ rfl hl.1 rfl (Nat.le_of_ble_eq_true rfl) dX8_takeNumber_41 ⟨Nat.le_refl 0, Nat.le_refl 0⟩) X (fun v23 t22 H lc q20 X21 => ?_)
      unfold po_X8_fail_q at q20
      obtain ⟨q24, q25, q26, q27⟩ := q20
      have F28 : Fr [(3, 1), (3, 2), (1, 3), (1, 4), (1, 5), (1, 7), (1, 8)] [201] τ t22 := Fr_call Fr_rfl q25 (by decide)
      exact r_ret S hr hlk X21 ⟨q24, F28, (R_of q26 rfl), (fun h => by exfalso; omega), (QX_b (sNum_b2 ((RT_k hR.1).2.2.1.mp (by rw [z4]; omega)) (by rw [← RT_nm hR.1 ((RT_k hR.1).2.2.1.mp (by rw [z4]; omega)), z12]; omega)) (by omega) (by rw [q27]; omega) (RC_at (RC_fr hR (fun j => ((q25 1 j (by simp [fz])).trans rfl)) (fun j => ((q25 2 j (by simp [fz])).trans rfl)) (fun j => ((q25 201 j (by simp [fz])).trans rfl)) ((q25 3 5 (by decide)).trans rfl) ((q25 3 6 (by decide)).trans rfl) (fun j => ((q25 4 j (by simp [fz])).trans rfl)) (fun j => ((q25 6 j (by simp [fz])).trans rfl)) (fun j => ((q25 7 j (by simp [fz])).trans rfl)) (fun j => ((q25 8 j (by simp [fz])).trans rfl)) (fun j => ((q25 209 j (by simp [fz])).trans rfl)) (fun j => ((q25 210 j (by simp [fz])).trans rfl)))))⟩ (nr_bool (R_of (lo := 0) (hi := 1) q26 rfl)) dX8_takeNumber_44
    ·
      have r29 : R (0) (2147483647) v11 := ⟨by omega, by omega⟩
      refine r_aload_n S dX8_takeNumber_28 rfl (lv_at hl 0 rfl) ?_
      refine r_get (K := 3) (v := .ref (G.2.2.2.1 1)) S X (Nat.le_of_ble_eq_true rfl) rfl lk8_9_0 (fun _ => ⟨_, rfl, rfl⟩) dX8_takeNumber_29 ?_
      refine r_geti (K := 1) S X (Nat.le_of_ble_eq_true rfl) rfl lk8_39_7 (fun _ => ⟨_, rfl, rfl⟩) z12 dX8_takeNumber_32 ?_
      refine r_iload_n S dX8_takeNumber_35 rfl (lv_at hl 2 rfl) ?_
      refine r_icmp_le (tgt := 45) S dX8_takeNumber_36 (by decide) (fun c30 => ?_) (fun c30 => ?_)
      ·
        have r31 : R (0) (20) v11 := ⟨by omega, by omega⟩
        refine r_aload_n S dX8_takeNumber_45 rfl (lv_at hl 0 rfl) ?_
        refine r_aload_n S dX8_takeNumber_46 rfl (lv_at hl 0 rfl) ?_
        refine r_get (K := 3) (v := .ref (G.2.2.2.1 1)) S X (Nat.le_of_ble_eq_true rfl) rfl lk8_9_0 (fun _ => ⟨_, rfl, rfl⟩) dX8_takeNumber_47 ?_
        refine r_geti (K := 1) S X (Nat.le_of_ble_eq_true rfl) rfl lk8_39_7 (fun _ => ⟨_, rfl, rfl⟩) z12 dX8_takeNumber_50 ?_
        refine r_put (K := 3) (ty := .int) S X (Nat.le_of_ble_eq_true rfl) rfl lk8_42_0 (fun _ => ⟨_, rfl, Nat.le_of_ble_eq_true rfl, rfl⟩) (fun _ _ _ h => by cases h; exact ⟨rfl, rfl⟩) rfl rfl dX8_takeNumber_53 (fun t32 H lc M33 X34 => ?_)
        have I35 := Inv_mu hI M33 (R_any v11)
        have F36 : Fr [(3, 1), (3, 2), (1, 3), (1, 4), (1, 5), (1, 7), (1, 8)] [201] τ t32 := Fr_mu Fr_rfl M33 (by decide)
        refine r_aload_n S dX8_takeNumber_56 rfl (lv_at hl 0 rfl) ?_
        refine r_get (K := 3) (v := .ref (G.2.2.2.1 1)) S X34 (Nat.le_of_ble_eq_true rfl) rfl lk8_9_0 (fun _ => ⟨_, rfl, rfl⟩) dX8_takeNumber_57 ?_
        refine r_kv (q_V (As := []) (rest := []) (K := 1) (ci := 7) S X34 (c_X7_step_q l G t32 I35 bb nb 900 fs.1.2.2 (RT_st (RC_fr hR (fun j => ((M33.2 1 j (Or.inl (by decide))).trans rfl)) (fun j => ((M33.2 2 j (Or.inl (by decide))).trans rfl)) (fun j => ((M33.2 201 j (Or.inl (by decide))).trans rfl)) ((M33.2 3 5 (Or.inr (by decide))).trans rfl) ((M33.2 3 6 (Or.inr (by decide))).trans rfl) (fun j => ((M33.2 4 j (Or.inl (by decide))).trans rfl)) (fun j => ((M33.2 6 j (Or.inl (by decide))).trans rfl)) (fun j => ((M33.2 7 j (Or.inl (by decide))).trans rfl)) (fun j => ((M33.2 8 j (Or.inl (by decide))).trans rfl)) (fun j => ((M33.2 209 j (Or.inl (by decide))).trans rfl)) (fun j => ((M33.2 210 j (Or.inl (by decide))).trans rfl))).1 (Or.inr (Or.inl ((RT_k hR.1).2.2.1.mp (by rw [z4]; omega))))).1 (RT_st (RC_fr hR (fun j => ((M33.2 1 j (Or.inl (by decide))).trans rfl)) (fun j => ((M33.2 2 j (Or.inl (by decide))).trans rfl)) (fun j => ((M33.2 201 j (Or.inl (by decide))).trans rfl)) ((M33.2 3 5 (Or.inr (by decide))).trans rfl) ((M33.2 3 6 (Or.inr (by decide))).trans rfl) (fun j => ((M33.2 4 j (Or.inl (by decide))).trans rfl)) (fun j => ((M33.2 6 j (Or.inl (by decide))).trans rfl)) (fun j => ((M33.2 7 j (Or.inl (by decide))).trans rfl)) (fun j => ((M33.2 8 j (Or.inl (by decide))).trans rfl)) (fun j => ((M33.2 209 j (Or.inl (by decide))).trans rfl)) (fun j => ((M33.2 210 j (Or.inl (by decide))).trans rfl))).1 (Or.inr (Or.inl ((RT_k hR.1).2.2.1.mp (by rw [z4]; omega))))).2.1 (RT_st (RC_fr hR (fun j => ((M33.2 1 j (Or.inl (by decide))).trans rfl)) (fun j => ((M33.2 2 j (Or.inl (by decide))).trans rfl)) (fun j => ((M33.2 201 j (Or.inl (by decide))).trans rfl)) ((M33.2 3 5 (Or.inr (by decide))).trans rfl) ((M33.2 3 6 (Or.inr (by decide))).trans rfl) (fun j => ((M33.2 4 j (Or.inl (by decide))).trans rfl)) (fun j => ((M33.2 6 j (Or.inl (by decide))).trans rfl)) (fun j => ((M33.2 7 j (Or.inl (by decide))).trans rfl)) (fun j => ((M33.2 8 j (Or.inl (by decide))).trans rfl)) (fun j => ((M33.2 209 j (Or.inl (by decide))).trans rfl)) (fun j => ((M33.2 210 j (Or.inl (by decide))).trans rfl))).1 (Or.inr (Or.inl ((RT_k hR.1).2.2.1.mp (by rw [z4]; omega))))).2.2) ck8_33 (Nat.le_of_ble_eq_true rfl) rfl (fun _ => ⟨_, rfl⟩) ⟨_, _, rfl⟩ ⟨Nat.le_of_ble_eq_true rfl, Nat.le_of_ble_eq_true rfl⟩ rfl hl.1 rfl (Nat.le_of_ble_eq_true rfl) dX8_takeNumber_60 ⟨Nat.le_refl 0, Nat.le_refl 0⟩) X34 (fun t39 H lc q37 X38 => ?_)
        unfold po_X7_step_q at q37
        obtain ⟨q40, q41, q42⟩ := q37
        have F43 : Fr [(3, 1), (3, 2), (1, 3), (1, 4), (1, 5), (1, 7), (1, 8)] [201] τ t39 := Fr_call F36 q41 (by decide)
        have hR44 : RC bb nb t39 (stp bb nb fs) := ⟨q42, RP_fr hR.2 ((q41 3 5 (by decide)).trans ((M33.2 3 5 (Or.inr (by decide))).trans rfl)) ((q41 3 6 (by decide)).trans ((M33.2 3 6 (Or.inr (by decide))).trans rfl)) (fun j => ((q41 4 j (by simp [fz])).trans ((M33.2 4 j (Or.inl (by decide))).trans rfl))) (fun j => ((q41 6 j (by simp [fz])).trans ((M33.2 6 j (Or.inl (by decide))).trans rfl))) (fun j => ((q41 7 j (by simp [fz])).trans ((M33.2 7 j (Or.inl (by decide))).trans rfl))) (fun j => ((q41 8 j (by simp [fz])).trans ((M33.2 8 j (Or.inl (by decide))).trans rfl))) (fun j => ((q41 209 j (by simp [fz])).trans ((M33.2 209 j (Or.inl (by decide))).trans rfl))) (fun j => ((q41 210 j (by simp [fz])).trans ((M33.2 210 j (Or.inl (by decide))).trans rfl)))⟩
        refine r_iconst S dX8_takeNumber_63 (by decide) (fun v45 z46 => ?_)
        have r47 := R_eq z46
        exact r_ret S hr hlk X38 ⟨q40, F43, (R_of r47 rfl), (fun h => ⟨(by rw [((q41 3 2 (by decide)).trans M33.1)]; exact R_of r31 rfl), (by rw [((q41 3 1 (by decide)).trans ((M33.2 3 1 (Or.inr (by decide))).trans z2))]; exact R_of hf_0 rfl)⟩), (QX_r (sNum_g ((RT_k hR.1).2.2.1.mp (by rw [z4]; omega)) (by rw [← RT_nm hR.1 ((RT_k hR.1).2.2.1.mp (by rw [z4]; omega)), z12]; omega)) (by omega) ⟨show (t39 3 2).toInt = nbr bb fs.1 by rw [((q41 3 2 (by decide)).trans M33.1), ← RT_nm hR.1 ((RT_k hR.1).2.2.1.mp (by rw [z4]; omega)), z12], hR44⟩)⟩ (nr_bool (R_of (lo := 0) (hi := 1) r47 rfl)) dX8_takeNumber_64
      ·
        have r48 : R (21) (2147483647) v11 := ⟨by omega, by omega⟩
        refine r_aload_n S dX8_takeNumber_39 rfl (lv_at hl 0 rfl) ?_
        refine r_iconst S dX8_takeNumber_40 (by decide) (fun v49 z50 => ?_)
        have r51 := R_eq z50
        refine r_ki (q_U (As := [.int v49]) (rest := []) (K := 3) (ci := 0) S X (c_X8_fail_q l G τ hI v49 (R_of (lo := -2147483648) (hi := 2147483647) r51 rfl)) ck8_29_0 (Nat.le_of_ble_eq_true rfl) rfl (fun _ => ⟨_, rfl⟩) ⟨_, _, rfl⟩ ⟨Nat.le_of_ble_eq_true rfl, Nat.le_of_ble_eq_true rfl⟩ rfl hl.1 rfl (Nat.le_of_ble_eq_true rfl) dX8_takeNumber_41 ⟨Nat.le_refl 0, Nat.le_refl 0⟩) X (fun v55 t54 H lc q52 X53 => ?_)
        unfold po_X8_fail_q at q52
        obtain ⟨q56, q57, q58, q59⟩ := q52
        have F60 : Fr [(3, 1), (3, 2), (1, 3), (1, 4), (1, 5), (1, 7), (1, 8)] [201] τ t54 := Fr_call Fr_rfl q57 (by decide)
        exact r_ret S hr hlk X53 ⟨q56, F60, (R_of q58 rfl), (fun h => by exfalso; omega), (QX_b (sNum_b2 ((RT_k hR.1).2.2.1.mp (by rw [z4]; omega)) (by rw [← RT_nm hR.1 ((RT_k hR.1).2.2.1.mp (by rw [z4]; omega)), z12]; omega)) (by omega) (by rw [q59]; omega) (RC_at (RC_fr hR (fun j => ((q57 1 j (by simp [fz])).trans rfl)) (fun j => ((q57 2 j (by simp [fz])).trans rfl)) (fun j => ((q57 201 j (by simp [fz])).trans rfl)) ((q57 3 5 (by decide)).trans rfl) ((q57 3 6 (by decide)).trans rfl) (fun j => ((q57 4 j (by simp [fz])).trans rfl)) (fun j => ((q57 6 j (by simp [fz])).trans rfl)) (fun j => ((q57 7 j (by simp [fz])).trans rfl)) (fun j => ((q57 8 j (by simp [fz])).trans rfl)) (fun j => ((q57 209 j (by simp [fz])).trans rfl)) (fun j => ((q57 210 j (by simp [fz])).trans rfl)))))⟩ (nr_bool (R_of (lo := 0) (hi := 1) q58 rfl)) dX8_takeNumber_44
  ·
    refine r_aload_n S dX8_takeNumber_11 rfl (lv_at hl 0 rfl) ?_
    refine r_iconst S dX8_takeNumber_12 (by decide) (fun v61 z62 => ?_)
    have r63 := R_eq z62
    refine r_ki (q_U (As := [.int v61]) (rest := []) (K := 3) (ci := 0) S X (c_X8_fail_q l G τ hI v61 (R_of (lo := -2147483648) (hi := 2147483647) r63 rfl)) ck8_29_0 (Nat.le_of_ble_eq_true rfl) rfl (fun _ => ⟨_, rfl⟩) ⟨_, _, rfl⟩ ⟨Nat.le_of_ble_eq_true rfl, Nat.le_of_ble_eq_true rfl⟩ rfl hl.1 rfl (Nat.le_of_ble_eq_true rfl) dX8_takeNumber_13 ⟨Nat.le_refl 0, Nat.le_refl 0⟩) X (fun v67 t66 H lc q64 X65 => ?_)
    unfold po_X8_fail_q at q64
    obtain ⟨q68, q69, q70, q71⟩ := q64
    have F72 : Fr [(3, 1), (3, 2), (1, 3), (1, 4), (1, 5), (1, 7), (1, 8)] [201] τ t66 := Fr_call Fr_rfl q69 (by decide)
    exact r_ret S hr hlk X65 ⟨q68, F72, (R_of q70 rfl), (fun h => by exfalso; omega), (QX_b (sNum_b1 (fun h => absurd ((RT_k hR.1).2.2.1.mpr h) (by rw [z4]; omega))) (by omega) (by rw [q71]; omega) (RC_at (RC_fr hR (fun j => ((q69 1 j (by simp [fz])).trans rfl)) (fun j => ((q69 2 j (by simp [fz])).trans rfl)) (fun j => ((q69 201 j (by simp [fz])).trans rfl)) ((q69 3 5 (by decide)).trans rfl) ((q69 3 6 (by decide)).trans rfl) (fun j => ((q69 4 j (by simp [fz])).trans rfl)) (fun j => ((q69 6 j (by simp [fz])).trans rfl)) (fun j => ((q69 7 j (by simp [fz])).trans rfl)) (fun j => ((q69 8 j (by simp [fz])).trans rfl)) (fun j => ((q69 209 j (by simp [fz])).trans rfl)) (fun j => ((q69 210 j (by simp [fz])).trans rfl)))))⟩ (nr_bool (R_of (lo := 0) (hi := 1) q70 rfl)) dX8_takeNumber_16
def po_X8_takeNumber_q_1_9 (τ : Tau)  (a0 a1 : Int32)  (bb : Nat → Int) (nb : Nat) (fs : FS) (r : Int32) (u : Tau) : Prop := Inv u ∧ Fr [(3, 1), (3, 2), (1, 3), (1, 4), (1, 5), (1, 7), (1, 8)] [201] τ u ∧ R (0) (1) r ∧ (r.toInt = 1 → R (1) (9) (u 3 2) ∧ R (0) (0) (u 3 1)) ∧ QX (sNum bb nb 1 9 fs) r u (fun g => (u 3 2).toInt = g.1 ∧ RC bb nb u g.2)
set_option maxHeartbeats 4000000 in
set_option maxRecDepth 100000 in
theorem c_X8_takeNumber_q_1_9 (l : Launch) (G : Gx) (τ : Tau) (hI : Inv τ) (a0 : Int32) (a1 : Int32) (h_a0 : R (1) (1) a0) (h_a1 : R (9) (9) a1) (hf_0 : R (0) (0) (τ 3 1)) (bb : Nat → Int) (nb : Nat) (fs : FS) (hR : RC bb nb τ fs) : Ci l G yX8_takeNumber cX8_takeNumber 3 (some .boolean) 1 24 [.ref (G.2.2.2.1 3), .int a0, .int a1] τ (po_X8_takeNumber_q_1_9 τ  a0 a1  bb nb fs) := by
  unfold Ci
  refine C_of (own := RX8) (by decide) rfl (Nat.le_of_ble_eq_true rfl) ?_
  intro p e s m below meth c ls S hr hlk X hl
  have hl : lv_has ls 3 [(0, .ref (G.2.2.2.1 3)), (1, .int a0), (2, .int a1)] := hl
  obtain ⟨v1, z2⟩ : ∃ x, τ 3 1 = x := ⟨_, rfl⟩
  rw [z2] at hf_0
  refine r_aload_n S dX8_takeNumber_0 rfl (lv_at hl 0 rfl) ?_
  refine r_get (K := 3) (v := .ref (G.2.2.2.1 1)) S X (Nat.le_of_ble_eq_true rfl) rfl lk8_9_0 (fun _ => ⟨_, rfl, rfl⟩) dX8_takeNumber_1 ?_
  refine r_getn (K := 1) S X (Nat.le_of_ble_eq_true rfl) rfl lk8_36_7 (fun _ => ⟨_, rfl, rfl⟩) dX8_takeNumber_4 (fun v3 z4 => ?_)
  have r5 : R (0) (4) v3 := rd hI rfl z4
  refine r_iconst S dX8_takeNumber_7 (by decide) (fun v6 z7 => ?_)
  have r8 := R_eq z7
  refine r_icmp_eq (tgt := 17) S dX8_takeNumber_8 (by decide) (fun c9 => ?_) (fun c9 => ?_)
  ·
    have r10 : R (3) (3) v3 := ⟨by omega, by omega⟩
    refine r_aload_n S dX8_takeNumber_17 rfl (lv_at hl 0 rfl) ?_
    refine r_get (K := 3) (v := .ref (G.2.2.2.1 1)) S X (Nat.le_of_ble_eq_true rfl) rfl lk8_9_0 (fun _ => ⟨_, rfl, rfl⟩) dX8_takeNumber_18 ?_
    refine r_getn (K := 1) S X (Nat.le_of_ble_eq_true rfl) rfl lk8_39_7 (fun _ => ⟨_, rfl, rfl⟩) dX8_takeNumber_21 (fun v11 z12 => ?_)
    have r14 := R_any v11
    refine r_iload_n S dX8_takeNumber_24 rfl (lv_at hl 1 rfl) ?_
    refine r_icmp_lt (tgt := 39) S dX8_takeNumber_25 (by decide) (fun c15 => ?_) (fun c15 => ?_)
    ·
      have r16 : R (-2147483648) (0) v11 := ⟨by omega, by omega⟩
      refine r_aload_n S dX8_takeNumber_39 rfl (lv_at hl 0 rfl) ?_
      refine r_iconst S dX8_takeNumber_40 (by decide) (fun v17 z18 => ?_)
      have r19 := R_eq z18
      refine r_ki (q_U (As := [.int v17]) (rest := []) (K := 3) (ci := 0) S X (c_X8_fail_q l G τ hI v17 (R_of (lo := -2147483648) (hi := 2147483647) r19 rfl)) ck8_29_0 (Nat.le_of_ble_eq_true rfl) rfl (fun _ => ⟨_, rfl⟩) ⟨_, _, rfl⟩ ⟨Nat.le_of_ble_eq_true rfl, Nat.le_of_ble_eq_true rfl⟩ rfl hl.1 rfl (Nat.le_of_ble_eq_true rfl) dX8_takeNumber_41 ⟨Nat.le_refl 0, Nat.le_refl 0⟩) X (fun v23 t22 H lc q20 X21 => ?_)
      unfold po_X8_fail_q at q20
      obtain ⟨q24, q25, q26, q27⟩ := q20
      have F28 : Fr [(3, 1), (3, 2), (1, 3), (1, 4), (1, 5), (1, 7), (1, 8)] [201] τ t22 := Fr_call Fr_rfl q25 (by decide)
      exact r_ret S hr hlk X21 ⟨q24, F28, (R_of q26 rfl), (fun h => by exfalso; omega), (QX_b (sNum_b2 ((RT_k hR.1).2.2.1.mp (by rw [z4]; omega)) (by rw [← RT_nm hR.1 ((RT_k hR.1).2.2.1.mp (by rw [z4]; omega)), z12]; omega)) (by omega) (by rw [q27]; omega) (RC_at (RC_fr hR (fun j => ((q25 1 j (by simp [fz])).trans rfl)) (fun j => ((q25 2 j (by simp [fz])).trans rfl)) (fun j => ((q25 201 j (by simp [fz])).trans rfl)) ((q25 3 5 (by decide)).trans rfl) ((q25 3 6 (by decide)).trans rfl) (fun j => ((q25 4 j (by simp [fz])).trans rfl)) (fun j => ((q25 6 j (by simp [fz])).trans rfl)) (fun j => ((q25 7 j (by simp [fz])).trans rfl)) (fun j => ((q25 8 j (by simp [fz])).trans rfl)) (fun j => ((q25 209 j (by simp [fz])).trans rfl)) (fun j => ((q25 210 j (by simp [fz])).trans rfl)))))⟩ (nr_bool (R_of (lo := 0) (hi := 1) q26 rfl)) dX8_takeNumber_44
    ·
      have r29 : R (1) (2147483647) v11 := ⟨by omega, by omega⟩
      refine r_aload_n S dX8_takeNumber_28 rfl (lv_at hl 0 rfl) ?_
      refine r_get (K := 3) (v := .ref (G.2.2.2.1 1)) S X (Nat.le_of_ble_eq_true rfl) rfl lk8_9_0 (fun _ => ⟨_, rfl, rfl⟩) dX8_takeNumber_29 ?_
      refine r_geti (K := 1) S X (Nat.le_of_ble_eq_true rfl) rfl lk8_39_7 (fun _ => ⟨_, rfl, rfl⟩) z12 dX8_takeNumber_32 ?_
      refine r_iload_n S dX8_takeNumber_35 rfl (lv_at hl 2 rfl) ?_
      refine r_icmp_le (tgt := 45) S dX8_takeNumber_36 (by decide) (fun c30 => ?_) (fun c30 => ?_)
      ·
        have r31 : R (1) (9) v11 := ⟨by omega, by omega⟩
        refine r_aload_n S dX8_takeNumber_45 rfl (lv_at hl 0 rfl) ?_
        refine r_aload_n S dX8_takeNumber_46 rfl (lv_at hl 0 rfl) ?_
        refine r_get (K := 3) (v := .ref (G.2.2.2.1 1)) S X (Nat.le_of_ble_eq_true rfl) rfl lk8_9_0 (fun _ => ⟨_, rfl, rfl⟩) dX8_takeNumber_47 ?_
        refine r_geti (K := 1) S X (Nat.le_of_ble_eq_true rfl) rfl lk8_39_7 (fun _ => ⟨_, rfl, rfl⟩) z12 dX8_takeNumber_50 ?_
        refine r_put (K := 3) (ty := .int) S X (Nat.le_of_ble_eq_true rfl) rfl lk8_42_0 (fun _ => ⟨_, rfl, Nat.le_of_ble_eq_true rfl, rfl⟩) (fun _ _ _ h => by cases h; exact ⟨rfl, rfl⟩) rfl rfl dX8_takeNumber_53 (fun t32 H lc M33 X34 => ?_)
        have I35 := Inv_mu hI M33 (R_any v11)
        have F36 : Fr [(3, 1), (3, 2), (1, 3), (1, 4), (1, 5), (1, 7), (1, 8)] [201] τ t32 := Fr_mu Fr_rfl M33 (by decide)
        refine r_aload_n S dX8_takeNumber_56 rfl (lv_at hl 0 rfl) ?_
        refine r_get (K := 3) (v := .ref (G.2.2.2.1 1)) S X34 (Nat.le_of_ble_eq_true rfl) rfl lk8_9_0 (fun _ => ⟨_, rfl, rfl⟩) dX8_takeNumber_57 ?_
        refine r_kv (q_V (As := []) (rest := []) (K := 1) (ci := 7) S X34 (c_X7_step_q l G t32 I35 bb nb 900 fs.1.2.2 (RT_st (RC_fr hR (fun j => ((M33.2 1 j (Or.inl (by decide))).trans rfl)) (fun j => ((M33.2 2 j (Or.inl (by decide))).trans rfl)) (fun j => ((M33.2 201 j (Or.inl (by decide))).trans rfl)) ((M33.2 3 5 (Or.inr (by decide))).trans rfl) ((M33.2 3 6 (Or.inr (by decide))).trans rfl) (fun j => ((M33.2 4 j (Or.inl (by decide))).trans rfl)) (fun j => ((M33.2 6 j (Or.inl (by decide))).trans rfl)) (fun j => ((M33.2 7 j (Or.inl (by decide))).trans rfl)) (fun j => ((M33.2 8 j (Or.inl (by decide))).trans rfl)) (fun j => ((M33.2 209 j (Or.inl (by decide))).trans rfl)) (fun j => ((M33.2 210 j (Or.inl (by decide))).trans rfl))).1 (Or.inr (Or.inl ((RT_k hR.1).2.2.1.mp (by rw [z4]; omega))))).1 (RT_st (RC_fr hR (fun j => ((M33.2 1 j (Or.inl (by decide))).trans rfl)) (fun j => ((M33.2 2 j (Or.inl (by decide))).trans rfl)) (fun j => ((M33.2 201 j (Or.inl (by decide))).trans rfl)) ((M33.2 3 5 (Or.inr (by decide))).trans rfl) ((M33.2 3 6 (Or.inr (by decide))).trans rfl) (fun j => ((M33.2 4 j (Or.inl (by decide))).trans rfl)) (fun j => ((M33.2 6 j (Or.inl (by decide))).trans rfl)) (fun j => ((M33.2 7 j (Or.inl (by decide))).trans rfl)) (fun j => ((M33.2 8 j (Or.inl (by decide))).trans rfl)) (fun j => ((M33.2 209 j (Or.inl (by decide))).trans rfl)) (fun j => ((M33.2 210 j (Or.inl (by decide))).trans rfl))).1 (Or.inr (Or.inl ((RT_k hR.1).2.2.1.mp (by rw [z4]; omega))))).2.1 (RT_st (RC_fr hR (fun j => ((M33.2 1 j (Or.inl (by decide))).trans rfl)) (fun j => ((M33.2 2 j (Or.inl (by decide))).trans rfl)) (fun j => ((M33.2 201 j (Or.inl (by decide))).trans rfl)) ((M33.2 3 5 (Or.inr (by decide))).trans rfl) ((M33.2 3 6 (Or.inr (by decide))).trans rfl) (fun j => ((M33.2 4 j (Or.inl (by decide))).trans rfl)) (fun j => ((M33.2 6 j (Or.inl (by decide))).trans rfl)) (fun j => ((M33.2 7 j (Or.inl (by decide))).trans rfl)) (fun j => ((M33.2 8 j (Or.inl (by decide))).trans rfl)) (fun j => ((M33.2 209 j (Or.inl (by decide))).trans rfl)) (fun j => ((M33.2 210 j (Or.inl (by decide))).trans rfl))).1 (Or.inr (Or.inl ((RT_k hR.1).2.2.1.mp (by rw [z4]; omega))))).2.2) ck8_33 (Nat.le_of_ble_eq_true rfl) rfl (fun _ => ⟨_, rfl⟩) ⟨_, _, rfl⟩ ⟨Nat.le_of_ble_eq_true rfl, Nat.le_of_ble_eq_true rfl⟩ rfl hl.1 rfl (Nat.le_of_ble_eq_true rfl) dX8_takeNumber_60 ⟨Nat.le_refl 0, Nat.le_refl 0⟩) X34 (fun t39 H lc q37 X38 => ?_)
        unfold po_X7_step_q at q37
        obtain ⟨q40, q41, q42⟩ := q37
        have F43 : Fr [(3, 1), (3, 2), (1, 3), (1, 4), (1, 5), (1, 7), (1, 8)] [201] τ t39 := Fr_call F36 q41 (by decide)
        have hR44 : RC bb nb t39 (stp bb nb fs) := ⟨q42, RP_fr hR.2 ((q41 3 5 (by decide)).trans ((M33.2 3 5 (Or.inr (by decide))).trans rfl)) ((q41 3 6 (by decide)).trans ((M33.2 3 6 (Or.inr (by decide))).trans rfl)) (fun j => ((q41 4 j (by simp [fz])).trans ((M33.2 4 j (Or.inl (by decide))).trans rfl))) (fun j => ((q41 6 j (by simp [fz])).trans ((M33.2 6 j (Or.inl (by decide))).trans rfl))) (fun j => ((q41 7 j (by simp [fz])).trans ((M33.2 7 j (Or.inl (by decide))).trans rfl))) (fun j => ((q41 8 j (by simp [fz])).trans ((M33.2 8 j (Or.inl (by decide))).trans rfl))) (fun j => ((q41 209 j (by simp [fz])).trans ((M33.2 209 j (Or.inl (by decide))).trans rfl))) (fun j => ((q41 210 j (by simp [fz])).trans ((M33.2 210 j (Or.inl (by decide))).trans rfl)))⟩
        refine r_iconst S dX8_takeNumber_63 (by decide) (fun v45 z46 => ?_)
        have r47 := R_eq z46
        exact r_ret S hr hlk X38 ⟨q40, F43, (R_of r47 rfl), (fun h => ⟨(by rw [((q41 3 2 (by decide)).trans M33.1)]; exact R_of r31 rfl), (by rw [((q41 3 1 (by decide)).trans ((M33.2 3 1 (Or.inr (by decide))).trans z2))]; exact R_of hf_0 rfl)⟩), (QX_r (sNum_g ((RT_k hR.1).2.2.1.mp (by rw [z4]; omega)) (by rw [← RT_nm hR.1 ((RT_k hR.1).2.2.1.mp (by rw [z4]; omega)), z12]; omega)) (by omega) ⟨show (t39 3 2).toInt = nbr bb fs.1 by rw [((q41 3 2 (by decide)).trans M33.1), ← RT_nm hR.1 ((RT_k hR.1).2.2.1.mp (by rw [z4]; omega)), z12], hR44⟩)⟩ (nr_bool (R_of (lo := 0) (hi := 1) r47 rfl)) dX8_takeNumber_64
      ·
        have r48 : R (10) (2147483647) v11 := ⟨by omega, by omega⟩
        refine r_aload_n S dX8_takeNumber_39 rfl (lv_at hl 0 rfl) ?_
        refine r_iconst S dX8_takeNumber_40 (by decide) (fun v49 z50 => ?_)
        have r51 := R_eq z50
        refine r_ki (q_U (As := [.int v49]) (rest := []) (K := 3) (ci := 0) S X (c_X8_fail_q l G τ hI v49 (R_of (lo := -2147483648) (hi := 2147483647) r51 rfl)) ck8_29_0 (Nat.le_of_ble_eq_true rfl) rfl (fun _ => ⟨_, rfl⟩) ⟨_, _, rfl⟩ ⟨Nat.le_of_ble_eq_true rfl, Nat.le_of_ble_eq_true rfl⟩ rfl hl.1 rfl (Nat.le_of_ble_eq_true rfl) dX8_takeNumber_41 ⟨Nat.le_refl 0, Nat.le_refl 0⟩) X (fun v55 t54 H lc q52 X53 => ?_)
        unfold po_X8_fail_q at q52
        obtain ⟨q56, q57, q58, q59⟩ := q52
        have F60 : Fr [(3, 1), (3, 2), (1, 3), (1, 4), (1, 5), (1, 7), (1, 8)] [201] τ t54 := Fr_call Fr_rfl q57 (by decide)
        exact r_ret S hr hlk X53 ⟨q56, F60, (R_of q58 rfl), (fun h => by exfalso; omega), (QX_b (sNum_b2 ((RT_k hR.1).2.2.1.mp (by rw [z4]; omega)) (by rw [← RT_nm hR.1 ((RT_k hR.1).2.2.1.mp (by rw [z4]; omega)), z12]; omega)) (by omega) (by rw [q59]; omega) (RC_at (RC_fr hR (fun j => ((q57 1 j (by simp [fz])).trans rfl)) (fun j => ((q57 2 j (by simp [fz])).trans rfl)) (fun j => ((q57 201 j (by simp [fz])).trans rfl)) ((q57 3 5 (by decide)).trans rfl) ((q57 3 6 (by decide)).trans rfl) (fun j => ((q57 4 j (by simp [fz])).trans rfl)) (fun j => ((q57 6 j (by simp [fz])).trans rfl)) (fun j => ((q57 7 j (by simp [fz])).trans rfl)) (fun j => ((q57 8 j (by simp [fz])).trans rfl)) (fun j => ((q57 209 j (by simp [fz])).trans rfl)) (fun j => ((q57 210 j (by simp [fz])).trans rfl)))))⟩ (nr_bool (R_of (lo := 0) (hi := 1) q58 rfl)) dX8_takeNumber_44
  ·
    refine r_aload_n S dX8_takeNumber_11 rfl (lv_at hl 0 rfl) ?_
    refine r_iconst S dX8_takeNumber_12 (by decide) (fun v61 z62 => ?_)
    have r63 := R_eq z62
    refine r_ki (q_U (As := [.int v61]) (rest := []) (K := 3) (ci := 0) S X (c_X8_fail_q l G τ hI v61 (R_of (lo := -2147483648) (hi := 2147483647) r63 rfl)) ck8_29_0 (Nat.le_of_ble_eq_true rfl) rfl (fun _ => ⟨_, rfl⟩) ⟨_, _, rfl⟩ ⟨Nat.le_of_ble_eq_true rfl, Nat.le_of_ble_eq_true rfl⟩ rfl hl.1 rfl (Nat.le_of_ble_eq_true rfl) dX8_takeNumber_13 ⟨Nat.le_refl 0, Nat.le_refl 0⟩) X (fun v67 t66 H lc q64 X65 => ?_)
    unfold po_X8_fail_q at q64
    obtain ⟨q68, q69, q70, q71⟩ := q64
    have F72 : Fr [(3, 1), (3, 2), (1, 3), (1, 4), (1, 5), (1, 7), (1, 8)] [201] τ t66 := Fr_call Fr_rfl q69 (by decide)
    exact r_ret S hr hlk X65 ⟨q68, F72, (R_of q70 rfl), (fun h => by exfalso; omega), (QX_b (sNum_b1 (fun h => absurd ((RT_k hR.1).2.2.1.mpr h) (by rw [z4]; omega))) (by omega) (by rw [q71]; omega) (RC_at (RC_fr hR (fun j => ((q69 1 j (by simp [fz])).trans rfl)) (fun j => ((q69 2 j (by simp [fz])).trans rfl)) (fun j => ((q69 201 j (by simp [fz])).trans rfl)) ((q69 3 5 (by decide)).trans rfl) ((q69 3 6 (by decide)).trans rfl) (fun j => ((q69 4 j (by simp [fz])).trans rfl)) (fun j => ((q69 6 j (by simp [fz])).trans rfl)) (fun j => ((q69 7 j (by simp [fz])).trans rfl)) (fun j => ((q69 8 j (by simp [fz])).trans rfl)) (fun j => ((q69 209 j (by simp [fz])).trans rfl)) (fun j => ((q69 210 j (by simp [fz])).trans rfl)))))⟩ (nr_bool (R_of (lo := 0) (hi := 1) q70 rfl)) dX8_takeNumber_16
def po_X8_takeYesOrNo_q (τ : Tau)    (bb : Nat → Int) (nb : Nat) (fs : FS) (r : Int32) (u : Tau) : Prop := Inv u ∧ Fr [(3, 1), (3, 2), (1, 3), (1, 4), (1, 5), (1, 7), (1, 8)] [201] τ u ∧ R (0) (1) r ∧ (r.toInt = 1 → R (-1) (1) (u 3 2) ∧ R (0) (0) (u 3 1)) ∧ QX (sYN bb nb fs) r u (fun g => ((u 3 2).toInt = 1 ∨ (u 3 2).toInt = -1) ∧ RC bb nb u g)
set_option maxHeartbeats 4000000 in
set_option maxRecDepth 100000 in
theorem c_X8_takeYesOrNo_q (l : Launch) (G : Gx) (τ : Tau) (hI : Inv τ) (hf_0 : R (0) (0) (τ 3 1)) (bb : Nat → Int) (nb : Nat) (fs : FS) (hR : RC bb nb τ fs) : Ci l G yX8_takeYesOrNo cX8_takeYesOrNo 1 (some .boolean) 1 24 [.ref (G.2.2.2.1 3)] τ (po_X8_takeYesOrNo_q τ    bb nb fs) := by
  unfold Ci
  refine C_of (own := RX8) (by decide) rfl (Nat.le_of_ble_eq_true rfl) ?_
  intro p e s m below meth c ls S hr hlk X hl
  have hl : lv_has ls 1 [(0, .ref (G.2.2.2.1 3))] := hl
  obtain ⟨v1, z2⟩ : ∃ x, τ 3 1 = x := ⟨_, rfl⟩
  rw [z2] at hf_0
  refine r_aload_n S dX8_takeYesOrNo_0 rfl (lv_at hl 0 rfl) ?_
  refine r_get (K := 3) (v := .ref (G.2.2.2.1 1)) S X (Nat.le_of_ble_eq_true rfl) rfl lk8_9_0 (fun _ => ⟨_, rfl, rfl⟩) dX8_takeYesOrNo_1 ?_
  refine r_wst (i := 4) S X (by decide) kw16 dX8_takeYesOrNo_4 ?_
  refine r_ki (q_V (As := [.ref (G.2.2.1 4)]) (rest := []) (K := 1) (ci := 7) S X (c_X7_is_q l G τ hI 4 (by decide) bb nb 900 fs.1 hR.1) ck8_51 (Nat.le_of_ble_eq_true rfl) rfl (fun _ => ⟨_, rfl⟩) ⟨_, _, rfl⟩ ⟨Nat.le_of_ble_eq_true rfl, Nat.le_of_ble_eq_true rfl⟩ rfl hl.1 rfl (Nat.le_of_ble_eq_true rfl) dX8_takeYesOrNo_7 ⟨Nat.le_refl 0, Nat.le_refl 0⟩) X (fun v6 t5 H lc q3 X4 => ?_)
  unfold po_X7_is_q at q3
  obtain ⟨q7, q8, q9⟩ := q3
  rw [q7] at X4
  refine r_if_ne (tgt := 32) S dX8_takeYesOrNo_10 (by decide) (fun c10 => ?_) (fun c10 => ?_)
  ·
    have r11 : R (1) (1) v6 := ⟨by omega, by omega⟩
    have p12 := (q9).mp (by omega)
    refine r_aload_n S dX8_takeYesOrNo_32 rfl (lv_at hl 0 rfl) ?_
    refine r_aload_n S dX8_takeYesOrNo_33 rfl (lv_at hl 0 rfl) ?_
    refine r_get (K := 3) (v := .ref (G.2.2.2.1 1)) S X4 (Nat.le_of_ble_eq_true rfl) rfl lk8_9_0 (fun _ => ⟨_, rfl, rfl⟩) dX8_takeYesOrNo_34 ?_
    refine r_wst (i := 4) S X4 (by decide) kw16 dX8_takeYesOrNo_37 ?_
    refine r_ki (q_V (As := [.ref (G.2.2.1 4)]) (rest := [.ref (G.2.2.2.1 3)]) (K := 1) (ci := 7) S X4 (c_X7_is_q l G τ hI 4 (by decide) bb nb 900 fs.1 hR.1) ck8_51 (Nat.le_of_ble_eq_true rfl) rfl (fun _ => ⟨_, rfl⟩) ⟨_, _, rfl⟩ ⟨Nat.le_of_ble_eq_true rfl, Nat.le_of_ble_eq_true rfl⟩ rfl hl.1 rfl (Nat.le_of_ble_eq_true rfl) dX8_takeYesOrNo_40 ⟨Nat.le_refl 0, Nat.le_refl 0⟩) X4 (fun v16 t15 H lc q13 X14 => ?_)
    unfold po_X7_is_q at q13
    obtain ⟨q17, q18, q19⟩ := q13
    rw [q17] at X14
    refine r_if_eq (tgt := 50) S dX8_takeYesOrNo_43 (by decide) (fun c20 => ?_) (fun c20 => ?_)
    ·
      have r21 : R (0) (0) v16 := ⟨by omega, by omega⟩
      have p22 := (iff_n q19) (by omega)
      refine r_iconst S dX8_takeYesOrNo_50 (by decide) (fun v23 z24 => ?_)
      have r25 := R_eq z24
      refine r_put (K := 3) (ty := .int) S X14 (Nat.le_of_ble_eq_true rfl) rfl lk8_42_0 (fun _ => ⟨_, rfl, Nat.le_of_ble_eq_true rfl, rfl⟩) (fun _ _ _ h => by cases h; exact ⟨rfl, rfl⟩) rfl rfl dX8_takeYesOrNo_51 (fun t26 H lc M27 X28 => ?_)
      have I29 := Inv_mu hI M27 (R_any v23)
      have F30 : Fr [(3, 1), (3, 2), (1, 3), (1, 4), (1, 5), (1, 7), (1, 8)] [201] τ t26 := Fr_mu Fr_rfl M27 (by decide)
      refine r_aload_n S dX8_takeYesOrNo_54 rfl (lv_at hl 0 rfl) ?_
      refine r_get (K := 3) (v := .ref (G.2.2.2.1 1)) S X28 (Nat.le_of_ble_eq_true rfl) rfl lk8_9_0 (fun _ => ⟨_, rfl, rfl⟩) dX8_takeYesOrNo_55 ?_
      refine r_kv (q_V (As := []) (rest := []) (K := 1) (ci := 7) S X28 (c_X7_step_q l G t26 I29 bb nb 900 fs.1.2.2 (RT_st (RC_fr hR (fun j => ((M27.2 1 j (Or.inl (by decide))).trans rfl)) (fun j => ((M27.2 2 j (Or.inl (by decide))).trans rfl)) (fun j => ((M27.2 201 j (Or.inl (by decide))).trans rfl)) ((M27.2 3 5 (Or.inr (by decide))).trans rfl) ((M27.2 3 6 (Or.inr (by decide))).trans rfl) (fun j => ((M27.2 4 j (Or.inl (by decide))).trans rfl)) (fun j => ((M27.2 6 j (Or.inl (by decide))).trans rfl)) (fun j => ((M27.2 7 j (Or.inl (by decide))).trans rfl)) (fun j => ((M27.2 8 j (Or.inl (by decide))).trans rfl)) (fun j => ((M27.2 209 j (Or.inl (by decide))).trans rfl)) (fun j => ((M27.2 210 j (Or.inl (by decide))).trans rfl))).1 (Or.inl p12.1)).1 (RT_st (RC_fr hR (fun j => ((M27.2 1 j (Or.inl (by decide))).trans rfl)) (fun j => ((M27.2 2 j (Or.inl (by decide))).trans rfl)) (fun j => ((M27.2 201 j (Or.inl (by decide))).trans rfl)) ((M27.2 3 5 (Or.inr (by decide))).trans rfl) ((M27.2 3 6 (Or.inr (by decide))).trans rfl) (fun j => ((M27.2 4 j (Or.inl (by decide))).trans rfl)) (fun j => ((M27.2 6 j (Or.inl (by decide))).trans rfl)) (fun j => ((M27.2 7 j (Or.inl (by decide))).trans rfl)) (fun j => ((M27.2 8 j (Or.inl (by decide))).trans rfl)) (fun j => ((M27.2 209 j (Or.inl (by decide))).trans rfl)) (fun j => ((M27.2 210 j (Or.inl (by decide))).trans rfl))).1 (Or.inl p12.1)).2.1 (RT_st (RC_fr hR (fun j => ((M27.2 1 j (Or.inl (by decide))).trans rfl)) (fun j => ((M27.2 2 j (Or.inl (by decide))).trans rfl)) (fun j => ((M27.2 201 j (Or.inl (by decide))).trans rfl)) ((M27.2 3 5 (Or.inr (by decide))).trans rfl) ((M27.2 3 6 (Or.inr (by decide))).trans rfl) (fun j => ((M27.2 4 j (Or.inl (by decide))).trans rfl)) (fun j => ((M27.2 6 j (Or.inl (by decide))).trans rfl)) (fun j => ((M27.2 7 j (Or.inl (by decide))).trans rfl)) (fun j => ((M27.2 8 j (Or.inl (by decide))).trans rfl)) (fun j => ((M27.2 209 j (Or.inl (by decide))).trans rfl)) (fun j => ((M27.2 210 j (Or.inl (by decide))).trans rfl))).1 (Or.inl p12.1)).2.2) ck8_33 (Nat.le_of_ble_eq_true rfl) rfl (fun _ => ⟨_, rfl⟩) ⟨_, _, rfl⟩ ⟨Nat.le_of_ble_eq_true rfl, Nat.le_of_ble_eq_true rfl⟩ rfl hl.1 rfl (Nat.le_of_ble_eq_true rfl) dX8_takeYesOrNo_58 ⟨Nat.le_refl 0, Nat.le_refl 0⟩) X28 (fun t33 H lc q31 X32 => ?_)
      unfold po_X7_step_q at q31
      obtain ⟨q34, q35, q36⟩ := q31
      have F37 : Fr [(3, 1), (3, 2), (1, 3), (1, 4), (1, 5), (1, 7), (1, 8)] [201] τ t33 := Fr_call F30 q35 (by decide)
      have hR38 : RC bb nb t33 (stp bb nb fs) := ⟨q36, RP_fr hR.2 ((q35 3 5 (by decide)).trans ((M27.2 3 5 (Or.inr (by decide))).trans rfl)) ((q35 3 6 (by decide)).trans ((M27.2 3 6 (Or.inr (by decide))).trans rfl)) (fun j => ((q35 4 j (by simp [fz])).trans ((M27.2 4 j (Or.inl (by decide))).trans rfl))) (fun j => ((q35 6 j (by simp [fz])).trans ((M27.2 6 j (Or.inl (by decide))).trans rfl))) (fun j => ((q35 7 j (by simp [fz])).trans ((M27.2 7 j (Or.inl (by decide))).trans rfl))) (fun j => ((q35 8 j (by simp [fz])).trans ((M27.2 8 j (Or.inl (by decide))).trans rfl))) (fun j => ((q35 209 j (by simp [fz])).trans ((M27.2 209 j (Or.inl (by decide))).trans rfl))) (fun j => ((q35 210 j (by simp [fz])).trans ((M27.2 210 j (Or.inl (by decide))).trans rfl)))⟩
      refine r_iconst S dX8_takeYesOrNo_61 (by decide) (fun v39 z40 => ?_)
      have r41 := R_eq z40
      exact r_ret S hr hlk X32 ⟨q34, F37, (R_of r41 rfl), (fun h => ⟨(by rw [((q35 3 2 (by decide)).trans M27.1)]; exact R_of r25 rfl), (by rw [((q35 3 1 (by decide)).trans ((M27.2 3 1 (Or.inr (by decide))).trans z2))]; exact R_of hf_0 rfl)⟩), (QX_r (sYN_g (Or.inl p12)) (by omega) ⟨by rw [((q35 3 2 (by decide)).trans M27.1)]; omega, hR38⟩)⟩ (nr_bool (R_of (lo := 0) (hi := 1) r41 rfl)) dX8_takeYesOrNo_62
    ·
      have r42 : R (1) (1) v16 := ⟨by omega, by omega⟩
      have p43 := (q19).mp (by omega)
      refine r_iconst S dX8_takeYesOrNo_46 (by decide) (fun v44 z45 => ?_)
      have r46 := R_eq z45
      refine r_goto (tgt := 51) S dX8_takeYesOrNo_47 (by decide) ?_
      refine r_put (K := 3) (ty := .int) S X14 (Nat.le_of_ble_eq_true rfl) rfl lk8_42_0 (fun _ => ⟨_, rfl, Nat.le_of_ble_eq_true rfl, rfl⟩) (fun _ _ _ h => by cases h; exact ⟨rfl, rfl⟩) rfl rfl dX8_takeYesOrNo_51 (fun t47 H lc M48 X49 => ?_)
      have I50 := Inv_mu hI M48 (R_any v44)
      have F51 : Fr [(3, 1), (3, 2), (1, 3), (1, 4), (1, 5), (1, 7), (1, 8)] [201] τ t47 := Fr_mu Fr_rfl M48 (by decide)
      refine r_aload_n S dX8_takeYesOrNo_54 rfl (lv_at hl 0 rfl) ?_
      refine r_get (K := 3) (v := .ref (G.2.2.2.1 1)) S X49 (Nat.le_of_ble_eq_true rfl) rfl lk8_9_0 (fun _ => ⟨_, rfl, rfl⟩) dX8_takeYesOrNo_55 ?_
      refine r_kv (q_V (As := []) (rest := []) (K := 1) (ci := 7) S X49 (c_X7_step_q l G t47 I50 bb nb 900 fs.1.2.2 (RT_st (RC_fr hR (fun j => ((M48.2 1 j (Or.inl (by decide))).trans rfl)) (fun j => ((M48.2 2 j (Or.inl (by decide))).trans rfl)) (fun j => ((M48.2 201 j (Or.inl (by decide))).trans rfl)) ((M48.2 3 5 (Or.inr (by decide))).trans rfl) ((M48.2 3 6 (Or.inr (by decide))).trans rfl) (fun j => ((M48.2 4 j (Or.inl (by decide))).trans rfl)) (fun j => ((M48.2 6 j (Or.inl (by decide))).trans rfl)) (fun j => ((M48.2 7 j (Or.inl (by decide))).trans rfl)) (fun j => ((M48.2 8 j (Or.inl (by decide))).trans rfl)) (fun j => ((M48.2 209 j (Or.inl (by decide))).trans rfl)) (fun j => ((M48.2 210 j (Or.inl (by decide))).trans rfl))).1 (Or.inl p43.1)).1 (RT_st (RC_fr hR (fun j => ((M48.2 1 j (Or.inl (by decide))).trans rfl)) (fun j => ((M48.2 2 j (Or.inl (by decide))).trans rfl)) (fun j => ((M48.2 201 j (Or.inl (by decide))).trans rfl)) ((M48.2 3 5 (Or.inr (by decide))).trans rfl) ((M48.2 3 6 (Or.inr (by decide))).trans rfl) (fun j => ((M48.2 4 j (Or.inl (by decide))).trans rfl)) (fun j => ((M48.2 6 j (Or.inl (by decide))).trans rfl)) (fun j => ((M48.2 7 j (Or.inl (by decide))).trans rfl)) (fun j => ((M48.2 8 j (Or.inl (by decide))).trans rfl)) (fun j => ((M48.2 209 j (Or.inl (by decide))).trans rfl)) (fun j => ((M48.2 210 j (Or.inl (by decide))).trans rfl))).1 (Or.inl p43.1)).2.1 (RT_st (RC_fr hR (fun j => ((M48.2 1 j (Or.inl (by decide))).trans rfl)) (fun j => ((M48.2 2 j (Or.inl (by decide))).trans rfl)) (fun j => ((M48.2 201 j (Or.inl (by decide))).trans rfl)) ((M48.2 3 5 (Or.inr (by decide))).trans rfl) ((M48.2 3 6 (Or.inr (by decide))).trans rfl) (fun j => ((M48.2 4 j (Or.inl (by decide))).trans rfl)) (fun j => ((M48.2 6 j (Or.inl (by decide))).trans rfl)) (fun j => ((M48.2 7 j (Or.inl (by decide))).trans rfl)) (fun j => ((M48.2 8 j (Or.inl (by decide))).trans rfl)) (fun j => ((M48.2 209 j (Or.inl (by decide))).trans rfl)) (fun j => ((M48.2 210 j (Or.inl (by decide))).trans rfl))).1 (Or.inl p43.1)).2.2) ck8_33 (Nat.le_of_ble_eq_true rfl) rfl (fun _ => ⟨_, rfl⟩) ⟨_, _, rfl⟩ ⟨Nat.le_of_ble_eq_true rfl, Nat.le_of_ble_eq_true rfl⟩ rfl hl.1 rfl (Nat.le_of_ble_eq_true rfl) dX8_takeYesOrNo_58 ⟨Nat.le_refl 0, Nat.le_refl 0⟩) X49 (fun t54 H lc q52 X53 => ?_)
      unfold po_X7_step_q at q52
      obtain ⟨q55, q56, q57⟩ := q52
      have F58 : Fr [(3, 1), (3, 2), (1, 3), (1, 4), (1, 5), (1, 7), (1, 8)] [201] τ t54 := Fr_call F51 q56 (by decide)
      have hR59 : RC bb nb t54 (stp bb nb fs) := ⟨q57, RP_fr hR.2 ((q56 3 5 (by decide)).trans ((M48.2 3 5 (Or.inr (by decide))).trans rfl)) ((q56 3 6 (by decide)).trans ((M48.2 3 6 (Or.inr (by decide))).trans rfl)) (fun j => ((q56 4 j (by simp [fz])).trans ((M48.2 4 j (Or.inl (by decide))).trans rfl))) (fun j => ((q56 6 j (by simp [fz])).trans ((M48.2 6 j (Or.inl (by decide))).trans rfl))) (fun j => ((q56 7 j (by simp [fz])).trans ((M48.2 7 j (Or.inl (by decide))).trans rfl))) (fun j => ((q56 8 j (by simp [fz])).trans ((M48.2 8 j (Or.inl (by decide))).trans rfl))) (fun j => ((q56 209 j (by simp [fz])).trans ((M48.2 209 j (Or.inl (by decide))).trans rfl))) (fun j => ((q56 210 j (by simp [fz])).trans ((M48.2 210 j (Or.inl (by decide))).trans rfl)))⟩
      refine r_iconst S dX8_takeYesOrNo_61 (by decide) (fun v60 z61 => ?_)
      have r62 := R_eq z61
      exact r_ret S hr hlk X53 ⟨q55, F58, (R_of r62 rfl), (fun h => ⟨(by rw [((q56 3 2 (by decide)).trans M48.1)]; exact R_of r46 rfl), (by rw [((q56 3 1 (by decide)).trans ((M48.2 3 1 (Or.inr (by decide))).trans z2))]; exact R_of hf_0 rfl)⟩), (QX_r (sYN_g (Or.inl p43)) (by omega) ⟨by rw [((q56 3 2 (by decide)).trans M48.1)]; omega, hR59⟩)⟩ (nr_bool (R_of (lo := 0) (hi := 1) r62 rfl)) dX8_takeYesOrNo_62
  ·
    have r63 : R (0) (0) v6 := ⟨by omega, by omega⟩
    have p64 := (iff_n q9) (by omega)
    refine r_aload_n S dX8_takeYesOrNo_13 rfl (lv_at hl 0 rfl) ?_
    refine r_get (K := 3) (v := .ref (G.2.2.2.1 1)) S X4 (Nat.le_of_ble_eq_true rfl) rfl lk8_9_0 (fun _ => ⟨_, rfl, rfl⟩) dX8_takeYesOrNo_14 ?_
    refine r_wst (i := 5) S X4 (by decide) kw17 dX8_takeYesOrNo_17 ?_
    refine r_ki (q_V (As := [.ref (G.2.2.1 5)]) (rest := []) (K := 1) (ci := 7) S X4 (c_X7_is_q l G τ hI 5 (by decide) bb nb 900 fs.1 hR.1) ck8_51 (Nat.le_of_ble_eq_true rfl) rfl (fun _ => ⟨_, rfl⟩) ⟨_, _, rfl⟩ ⟨Nat.le_of_ble_eq_true rfl, Nat.le_of_ble_eq_true rfl⟩ rfl hl.1 rfl (Nat.le_of_ble_eq_true rfl) dX8_takeYesOrNo_20 ⟨Nat.le_refl 0, Nat.le_refl 0⟩) X4 (fun v68 t67 H lc q65 X66 => ?_)
    unfold po_X7_is_q at q65
    obtain ⟨q69, q70, q71⟩ := q65
    rw [q69] at X66
    refine r_if_ne (tgt := 32) S dX8_takeYesOrNo_23 (by decide) (fun c72 => ?_) (fun c72 => ?_)
    ·
      have r73 : R (1) (1) v68 := ⟨by omega, by omega⟩
      have p74 := (q71).mp (by omega)
      refine r_aload_n S dX8_takeYesOrNo_32 rfl (lv_at hl 0 rfl) ?_
      refine r_aload_n S dX8_takeYesOrNo_33 rfl (lv_at hl 0 rfl) ?_
      refine r_get (K := 3) (v := .ref (G.2.2.2.1 1)) S X66 (Nat.le_of_ble_eq_true rfl) rfl lk8_9_0 (fun _ => ⟨_, rfl, rfl⟩) dX8_takeYesOrNo_34 ?_
      refine r_wst (i := 4) S X66 (by decide) kw16 dX8_takeYesOrNo_37 ?_
      refine r_ki (q_V (As := [.ref (G.2.2.1 4)]) (rest := [.ref (G.2.2.2.1 3)]) (K := 1) (ci := 7) S X66 (c_X7_is_q l G τ hI 4 (by decide) bb nb 900 fs.1 hR.1) ck8_51 (Nat.le_of_ble_eq_true rfl) rfl (fun _ => ⟨_, rfl⟩) ⟨_, _, rfl⟩ ⟨Nat.le_of_ble_eq_true rfl, Nat.le_of_ble_eq_true rfl⟩ rfl hl.1 rfl (Nat.le_of_ble_eq_true rfl) dX8_takeYesOrNo_40 ⟨Nat.le_refl 0, Nat.le_refl 0⟩) X66 (fun v78 t77 H lc q75 X76 => ?_)
      unfold po_X7_is_q at q75
      obtain ⟨q79, q80, q81⟩ := q75
      rw [q79] at X76
      refine r_if_eq (tgt := 50) S dX8_takeYesOrNo_43 (by decide) (fun c82 => ?_) (fun c82 => ?_)
      ·
        have r83 : R (0) (0) v78 := ⟨by omega, by omega⟩
        have p84 := (iff_n q81) (by omega)
        refine r_iconst S dX8_takeYesOrNo_50 (by decide) (fun v85 z86 => ?_)
        have r87 := R_eq z86
        refine r_put (K := 3) (ty := .int) S X76 (Nat.le_of_ble_eq_true rfl) rfl lk8_42_0 (fun _ => ⟨_, rfl, Nat.le_of_ble_eq_true rfl, rfl⟩) (fun _ _ _ h => by cases h; exact ⟨rfl, rfl⟩) rfl rfl dX8_takeYesOrNo_51 (fun t88 H lc M89 X90 => ?_)
        have I91 := Inv_mu hI M89 (R_any v85)
        have F92 : Fr [(3, 1), (3, 2), (1, 3), (1, 4), (1, 5), (1, 7), (1, 8)] [201] τ t88 := Fr_mu Fr_rfl M89 (by decide)
        refine r_aload_n S dX8_takeYesOrNo_54 rfl (lv_at hl 0 rfl) ?_
        refine r_get (K := 3) (v := .ref (G.2.2.2.1 1)) S X90 (Nat.le_of_ble_eq_true rfl) rfl lk8_9_0 (fun _ => ⟨_, rfl, rfl⟩) dX8_takeYesOrNo_55 ?_
        refine r_kv (q_V (As := []) (rest := []) (K := 1) (ci := 7) S X90 (c_X7_step_q l G t88 I91 bb nb 900 fs.1.2.2 (RT_st (RC_fr hR (fun j => ((M89.2 1 j (Or.inl (by decide))).trans rfl)) (fun j => ((M89.2 2 j (Or.inl (by decide))).trans rfl)) (fun j => ((M89.2 201 j (Or.inl (by decide))).trans rfl)) ((M89.2 3 5 (Or.inr (by decide))).trans rfl) ((M89.2 3 6 (Or.inr (by decide))).trans rfl) (fun j => ((M89.2 4 j (Or.inl (by decide))).trans rfl)) (fun j => ((M89.2 6 j (Or.inl (by decide))).trans rfl)) (fun j => ((M89.2 7 j (Or.inl (by decide))).trans rfl)) (fun j => ((M89.2 8 j (Or.inl (by decide))).trans rfl)) (fun j => ((M89.2 209 j (Or.inl (by decide))).trans rfl)) (fun j => ((M89.2 210 j (Or.inl (by decide))).trans rfl))).1 (Or.inl p74.1)).1 (RT_st (RC_fr hR (fun j => ((M89.2 1 j (Or.inl (by decide))).trans rfl)) (fun j => ((M89.2 2 j (Or.inl (by decide))).trans rfl)) (fun j => ((M89.2 201 j (Or.inl (by decide))).trans rfl)) ((M89.2 3 5 (Or.inr (by decide))).trans rfl) ((M89.2 3 6 (Or.inr (by decide))).trans rfl) (fun j => ((M89.2 4 j (Or.inl (by decide))).trans rfl)) (fun j => ((M89.2 6 j (Or.inl (by decide))).trans rfl)) (fun j => ((M89.2 7 j (Or.inl (by decide))).trans rfl)) (fun j => ((M89.2 8 j (Or.inl (by decide))).trans rfl)) (fun j => ((M89.2 209 j (Or.inl (by decide))).trans rfl)) (fun j => ((M89.2 210 j (Or.inl (by decide))).trans rfl))).1 (Or.inl p74.1)).2.1 (RT_st (RC_fr hR (fun j => ((M89.2 1 j (Or.inl (by decide))).trans rfl)) (fun j => ((M89.2 2 j (Or.inl (by decide))).trans rfl)) (fun j => ((M89.2 201 j (Or.inl (by decide))).trans rfl)) ((M89.2 3 5 (Or.inr (by decide))).trans rfl) ((M89.2 3 6 (Or.inr (by decide))).trans rfl) (fun j => ((M89.2 4 j (Or.inl (by decide))).trans rfl)) (fun j => ((M89.2 6 j (Or.inl (by decide))).trans rfl)) (fun j => ((M89.2 7 j (Or.inl (by decide))).trans rfl)) (fun j => ((M89.2 8 j (Or.inl (by decide))).trans rfl)) (fun j => ((M89.2 209 j (Or.inl (by decide))).trans rfl)) (fun j => ((M89.2 210 j (Or.inl (by decide))).trans rfl))).1 (Or.inl p74.1)).2.2) ck8_33 (Nat.le_of_ble_eq_true rfl) rfl (fun _ => ⟨_, rfl⟩) ⟨_, _, rfl⟩ ⟨Nat.le_of_ble_eq_true rfl, Nat.le_of_ble_eq_true rfl⟩ rfl hl.1 rfl (Nat.le_of_ble_eq_true rfl) dX8_takeYesOrNo_58 ⟨Nat.le_refl 0, Nat.le_refl 0⟩) X90 (fun t95 H lc q93 X94 => ?_)
        unfold po_X7_step_q at q93
        obtain ⟨q96, q97, q98⟩ := q93
        have F99 : Fr [(3, 1), (3, 2), (1, 3), (1, 4), (1, 5), (1, 7), (1, 8)] [201] τ t95 := Fr_call F92 q97 (by decide)
        have hR100 : RC bb nb t95 (stp bb nb fs) := ⟨q98, RP_fr hR.2 ((q97 3 5 (by decide)).trans ((M89.2 3 5 (Or.inr (by decide))).trans rfl)) ((q97 3 6 (by decide)).trans ((M89.2 3 6 (Or.inr (by decide))).trans rfl)) (fun j => ((q97 4 j (by simp [fz])).trans ((M89.2 4 j (Or.inl (by decide))).trans rfl))) (fun j => ((q97 6 j (by simp [fz])).trans ((M89.2 6 j (Or.inl (by decide))).trans rfl))) (fun j => ((q97 7 j (by simp [fz])).trans ((M89.2 7 j (Or.inl (by decide))).trans rfl))) (fun j => ((q97 8 j (by simp [fz])).trans ((M89.2 8 j (Or.inl (by decide))).trans rfl))) (fun j => ((q97 209 j (by simp [fz])).trans ((M89.2 209 j (Or.inl (by decide))).trans rfl))) (fun j => ((q97 210 j (by simp [fz])).trans ((M89.2 210 j (Or.inl (by decide))).trans rfl)))⟩
        refine r_iconst S dX8_takeYesOrNo_61 (by decide) (fun v101 z102 => ?_)
        have r103 := R_eq z102
        exact r_ret S hr hlk X94 ⟨q96, F99, (R_of r103 rfl), (fun h => ⟨(by rw [((q97 3 2 (by decide)).trans M89.1)]; exact R_of r87 rfl), (by rw [((q97 3 1 (by decide)).trans ((M89.2 3 1 (Or.inr (by decide))).trans z2))]; exact R_of hf_0 rfl)⟩), (QX_r (sYN_g (Or.inr p74)) (by omega) ⟨by rw [((q97 3 2 (by decide)).trans M89.1)]; omega, hR100⟩)⟩ (nr_bool (R_of (lo := 0) (hi := 1) r103 rfl)) dX8_takeYesOrNo_62
      ·
        have r104 : R (1) (1) v78 := ⟨by omega, by omega⟩
        have p105 := (q81).mp (by omega)
        refine r_iconst S dX8_takeYesOrNo_46 (by decide) (fun v106 z107 => ?_)
        have r108 := R_eq z107
        refine r_goto (tgt := 51) S dX8_takeYesOrNo_47 (by decide) ?_
        refine r_put (K := 3) (ty := .int) S X76 (Nat.le_of_ble_eq_true rfl) rfl lk8_42_0 (fun _ => ⟨_, rfl, Nat.le_of_ble_eq_true rfl, rfl⟩) (fun _ _ _ h => by cases h; exact ⟨rfl, rfl⟩) rfl rfl dX8_takeYesOrNo_51 (fun t109 H lc M110 X111 => ?_)
        have I112 := Inv_mu hI M110 (R_any v106)
        have F113 : Fr [(3, 1), (3, 2), (1, 3), (1, 4), (1, 5), (1, 7), (1, 8)] [201] τ t109 := Fr_mu Fr_rfl M110 (by decide)
        refine r_aload_n S dX8_takeYesOrNo_54 rfl (lv_at hl 0 rfl) ?_
        refine r_get (K := 3) (v := .ref (G.2.2.2.1 1)) S X111 (Nat.le_of_ble_eq_true rfl) rfl lk8_9_0 (fun _ => ⟨_, rfl, rfl⟩) dX8_takeYesOrNo_55 ?_
        refine r_kv (q_V (As := []) (rest := []) (K := 1) (ci := 7) S X111 (c_X7_step_q l G t109 I112 bb nb 900 fs.1.2.2 (RT_st (RC_fr hR (fun j => ((M110.2 1 j (Or.inl (by decide))).trans rfl)) (fun j => ((M110.2 2 j (Or.inl (by decide))).trans rfl)) (fun j => ((M110.2 201 j (Or.inl (by decide))).trans rfl)) ((M110.2 3 5 (Or.inr (by decide))).trans rfl) ((M110.2 3 6 (Or.inr (by decide))).trans rfl) (fun j => ((M110.2 4 j (Or.inl (by decide))).trans rfl)) (fun j => ((M110.2 6 j (Or.inl (by decide))).trans rfl)) (fun j => ((M110.2 7 j (Or.inl (by decide))).trans rfl)) (fun j => ((M110.2 8 j (Or.inl (by decide))).trans rfl)) (fun j => ((M110.2 209 j (Or.inl (by decide))).trans rfl)) (fun j => ((M110.2 210 j (Or.inl (by decide))).trans rfl))).1 (Or.inl p105.1)).1 (RT_st (RC_fr hR (fun j => ((M110.2 1 j (Or.inl (by decide))).trans rfl)) (fun j => ((M110.2 2 j (Or.inl (by decide))).trans rfl)) (fun j => ((M110.2 201 j (Or.inl (by decide))).trans rfl)) ((M110.2 3 5 (Or.inr (by decide))).trans rfl) ((M110.2 3 6 (Or.inr (by decide))).trans rfl) (fun j => ((M110.2 4 j (Or.inl (by decide))).trans rfl)) (fun j => ((M110.2 6 j (Or.inl (by decide))).trans rfl)) (fun j => ((M110.2 7 j (Or.inl (by decide))).trans rfl)) (fun j => ((M110.2 8 j (Or.inl (by decide))).trans rfl)) (fun j => ((M110.2 209 j (Or.inl (by decide))).trans rfl)) (fun j => ((M110.2 210 j (Or.inl (by decide))).trans rfl))).1 (Or.inl p105.1)).2.1 (RT_st (RC_fr hR (fun j => ((M110.2 1 j (Or.inl (by decide))).trans rfl)) (fun j => ((M110.2 2 j (Or.inl (by decide))).trans rfl)) (fun j => ((M110.2 201 j (Or.inl (by decide))).trans rfl)) ((M110.2 3 5 (Or.inr (by decide))).trans rfl) ((M110.2 3 6 (Or.inr (by decide))).trans rfl) (fun j => ((M110.2 4 j (Or.inl (by decide))).trans rfl)) (fun j => ((M110.2 6 j (Or.inl (by decide))).trans rfl)) (fun j => ((M110.2 7 j (Or.inl (by decide))).trans rfl)) (fun j => ((M110.2 8 j (Or.inl (by decide))).trans rfl)) (fun j => ((M110.2 209 j (Or.inl (by decide))).trans rfl)) (fun j => ((M110.2 210 j (Or.inl (by decide))).trans rfl))).1 (Or.inl p105.1)).2.2) ck8_33 (Nat.le_of_ble_eq_true rfl) rfl (fun _ => ⟨_, rfl⟩) ⟨_, _, rfl⟩ ⟨Nat.le_of_ble_eq_true rfl, Nat.le_of_ble_eq_true rfl⟩ rfl hl.1 rfl (Nat.le_of_ble_eq_true rfl) dX8_takeYesOrNo_58 ⟨Nat.le_refl 0, Nat.le_refl 0⟩) X111 (fun t116 H lc q114 X115 => ?_)
        unfold po_X7_step_q at q114
        obtain ⟨q117, q118, q119⟩ := q114
        have F120 : Fr [(3, 1), (3, 2), (1, 3), (1, 4), (1, 5), (1, 7), (1, 8)] [201] τ t116 := Fr_call F113 q118 (by decide)
        have hR121 : RC bb nb t116 (stp bb nb fs) := ⟨q119, RP_fr hR.2 ((q118 3 5 (by decide)).trans ((M110.2 3 5 (Or.inr (by decide))).trans rfl)) ((q118 3 6 (by decide)).trans ((M110.2 3 6 (Or.inr (by decide))).trans rfl)) (fun j => ((q118 4 j (by simp [fz])).trans ((M110.2 4 j (Or.inl (by decide))).trans rfl))) (fun j => ((q118 6 j (by simp [fz])).trans ((M110.2 6 j (Or.inl (by decide))).trans rfl))) (fun j => ((q118 7 j (by simp [fz])).trans ((M110.2 7 j (Or.inl (by decide))).trans rfl))) (fun j => ((q118 8 j (by simp [fz])).trans ((M110.2 8 j (Or.inl (by decide))).trans rfl))) (fun j => ((q118 209 j (by simp [fz])).trans ((M110.2 209 j (Or.inl (by decide))).trans rfl))) (fun j => ((q118 210 j (by simp [fz])).trans ((M110.2 210 j (Or.inl (by decide))).trans rfl)))⟩
        refine r_iconst S dX8_takeYesOrNo_61 (by decide) (fun v122 z123 => ?_)
        have r124 := R_eq z123
        exact r_ret S hr hlk X115 ⟨q117, F120, (R_of r124 rfl), (fun h => ⟨(by rw [((q118 3 2 (by decide)).trans M110.1)]; exact R_of r108 rfl), (by rw [((q118 3 1 (by decide)).trans ((M110.2 3 1 (Or.inr (by decide))).trans z2))]; exact R_of hf_0 rfl)⟩), (QX_r (sYN_g (Or.inl p105)) (by omega) ⟨by rw [((q118 3 2 (by decide)).trans M110.1)]; omega, hR121⟩)⟩ (nr_bool (R_of (lo := 0) (hi := 1) r124 rfl)) dX8_takeYesOrNo_62
    ·
      have r125 : R (0) (0) v68 := ⟨by omega, by omega⟩
      have p126 := (iff_n q71) (by omega)
      refine r_aload_n S dX8_takeYesOrNo_26 rfl (lv_at hl 0 rfl) ?_
      refine r_iconst S dX8_takeYesOrNo_27 (by decide) (fun v127 z128 => ?_)
      have r129 := R_eq z128
      refine r_ki (q_U (As := [.int v127]) (rest := []) (K := 3) (ci := 0) S X66 (c_X8_fail_q l G τ hI v127 (R_of (lo := -2147483648) (hi := 2147483647) r129 rfl)) ck8_29_0 (Nat.le_of_ble_eq_true rfl) rfl (fun _ => ⟨_, rfl⟩) ⟨_, _, rfl⟩ ⟨Nat.le_of_ble_eq_true rfl, Nat.le_of_ble_eq_true rfl⟩ rfl hl.1 rfl (Nat.le_of_ble_eq_true rfl) dX8_takeYesOrNo_28 ⟨Nat.le_refl 0, Nat.le_refl 0⟩) X66 (fun v133 t132 H lc q130 X131 => ?_)
      unfold po_X8_fail_q at q130
      obtain ⟨q134, q135, q136, q137⟩ := q130
      have F138 : Fr [(3, 1), (3, 2), (1, 3), (1, 4), (1, 5), (1, 7), (1, 8)] [201] τ t132 := Fr_call Fr_rfl q135 (by decide)
      exact r_ret S hr hlk X131 ⟨q134, F138, (R_of q136 rfl), (fun h => by exfalso; omega), (QX_b (sYN_b (fun h => h.elim p64 p126)) (by omega) (by rw [q137]; omega) (RC_at (RC_fr hR (fun j => ((q135 1 j (by simp [fz])).trans rfl)) (fun j => ((q135 2 j (by simp [fz])).trans rfl)) (fun j => ((q135 201 j (by simp [fz])).trans rfl)) ((q135 3 5 (by decide)).trans rfl) ((q135 3 6 (by decide)).trans rfl) (fun j => ((q135 4 j (by simp [fz])).trans rfl)) (fun j => ((q135 6 j (by simp [fz])).trans rfl)) (fun j => ((q135 7 j (by simp [fz])).trans rfl)) (fun j => ((q135 8 j (by simp [fz])).trans rfl)) (fun j => ((q135 209 j (by simp [fz])).trans rfl)) (fun j => ((q135 210 j (by simp [fz])).trans rfl)))))⟩ (nr_bool (R_of (lo := 0) (hi := 1) q136 rfl)) dX8_takeYesOrNo_31
def po_X8_seeMan_q (τ : Tau)    (bb : Nat → Int) (nb : Nat) (fs : FS) (r : Int32) (u : Tau) : Prop := Inv u ∧ Fr [(3, 1), (3, 2)] [] τ u ∧ R (0) (1) r ∧ (r.toInt = 1 → R (0) (9) (u 3 2) ∧ R (0) (0) (u 3 1)) ∧ QX (sLook bb (gmn fs.2) fs.1) r u (fun i => (u 3 2).toInt = i ∧ RC bb nb u fs)
set_option maxHeartbeats 4000000 in
set_option maxRecDepth 100000 in
theorem c_X8_seeMan_q (l : Launch) (G : Gx) (τ : Tau) (hI : Inv τ) (hf_0 : R (0) (0) (τ 3 1)) (bb : Nat → Int) (nb : Nat) (fs : FS) (hR : RC bb nb τ fs) : Ci l G yX8_seeMan cX8_seeMan 2 (some .boolean) 1 23 [.ref (G.2.2.2.1 3), .ref (G.2.2.2.1 4)] τ (po_X8_seeMan_q τ    bb nb fs) := by
  unfold Ci
  refine C_of (own := RX8) (by decide) rfl (Nat.le_of_ble_eq_true rfl) ?_
  intro p e s m below meth c ls S hr hlk X hl
  have hl : lv_has ls 2 [(0, .ref (G.2.2.2.1 3)), (1, .ref (G.2.2.2.1 4))] := hl
  obtain ⟨v1, z2⟩ : ∃ x, τ 3 1 = x := ⟨_, rfl⟩
  rw [z2] at hf_0
  refine r_aload_n S dX8_seeMan_0 rfl (lv_at hl 0 rfl) ?_
  refine r_get (K := 3) (v := .ref (G.2.2.2.1 1)) S X (Nat.le_of_ble_eq_true rfl) rfl lk8_9_0 (fun _ => ⟨_, rfl, rfl⟩) dX8_seeMan_1 ?_
  refine r_getn (K := 1) S X (Nat.le_of_ble_eq_true rfl) rfl lk8_36_7 (fun _ => ⟨_, rfl, rfl⟩) dX8_seeMan_4 (fun v3 z4 => ?_)
  have r5 : R (0) (4) v3 := rd hI rfl z4
  refine r_iconst S dX8_seeMan_7 (by decide) (fun v6 z7 => ?_)
  have r8 := R_eq z7
  refine r_icmp_ne (tgt := 24) S dX8_seeMan_8 (by decide) (fun c9 => ?_) (fun c9 => ?_)
  ·
    refine r_aload_n S dX8_seeMan_24 rfl (lv_at hl 0 rfl) ?_
    refine r_iconst S dX8_seeMan_25 (by decide) (fun v10 z11 => ?_)
    have r12 := R_eq z11
    refine r_ki (q_U (As := [.int v10]) (rest := []) (K := 3) (ci := 0) S X (c_X8_fail_q l G τ hI v10 (R_of (lo := -2147483648) (hi := 2147483647) r12 rfl)) ck8_29_0 (Nat.le_of_ble_eq_true rfl) rfl (fun _ => ⟨_, rfl⟩) ⟨_, _, rfl⟩ ⟨Nat.le_of_ble_eq_true rfl, Nat.le_of_ble_eq_true rfl⟩ rfl hl.1 rfl (Nat.le_of_ble_eq_true rfl) dX8_seeMan_26 ⟨Nat.le_refl 0, Nat.le_refl 0⟩) X (fun v16 t15 H lc q13 X14 => ?_)
    unfold po_X8_fail_q at q13
    obtain ⟨q17, q18, q19, q20⟩ := q13
    have F21 : Fr [(3, 1), (3, 2)] [] τ t15 := Fr_call Fr_rfl q18 (by decide)
    exact r_ret S hr hlk X14 ⟨q17, F21, (R_of q19 rfl), (fun h => by exfalso; omega), (QX_b (sLook_b1 (fun h => absurd ((RT_k hR.1).2.1.mpr h.1) (by rw [z4]; omega))) (by omega) (by rw [q20]; omega) (RC_at (RC_fr hR (fun j => ((q18 1 j (by simp [fz])).trans rfl)) (fun j => ((q18 2 j (by simp [fz])).trans rfl)) (fun j => ((q18 201 j (by simp [fz])).trans rfl)) ((q18 3 5 (by decide)).trans rfl) ((q18 3 6 (by decide)).trans rfl) (fun j => ((q18 4 j (by simp [fz])).trans rfl)) (fun j => ((q18 6 j (by simp [fz])).trans rfl)) (fun j => ((q18 7 j (by simp [fz])).trans rfl)) (fun j => ((q18 8 j (by simp [fz])).trans rfl)) (fun j => ((q18 209 j (by simp [fz])).trans rfl)) (fun j => ((q18 210 j (by simp [fz])).trans rfl)))))⟩ (nr_bool (R_of (lo := 0) (hi := 1) q19 rfl)) dX8_seeMan_29
  ·
    have r22 : R (2) (2) v3 := ⟨by omega, by omega⟩
    refine r_aload_n S dX8_seeMan_11 rfl (lv_at hl 0 rfl) ?_
    refine r_get (K := 3) (v := .ref (G.2.2.2.1 1)) S X (Nat.le_of_ble_eq_true rfl) rfl lk8_9_0 (fun _ => ⟨_, rfl, rfl⟩) dX8_seeMan_12 ?_
    refine r_getJ (K := 1) S X (Nat.le_of_ble_eq_true rfl) rfl lk8_58_7 (fun _ => ⟨_, rfl, rfl⟩) dX8_seeMan_15 (fun j23 z24 => ?_)
    refine r_ki (q_S (As := [.long j23]) (rest := []) S X (c_X9_isKept_q l G τ hI j23 (wrd bb fs.1) (by rw [← z24]; exact (RT_low hR.1 ((RT_k hR.1).2.1.mp (by rw [z4]; omega))).2) (RT_low hR.1 ((RT_k hR.1).2.1.mp (by rw [z4]; omega))).1) ck8_62 ⟨Nat.le_of_ble_eq_true rfl, Nat.le_of_ble_eq_true rfl⟩ rfl hl.1 rfl (Nat.le_of_ble_eq_true rfl) dX8_seeMan_18 ⟨Nat.le_refl 0, Nat.le_refl 0⟩) X (fun v28 t27 H lc q25 X26 => ?_)
    unfold po_X9_isKept_q at q25
    obtain ⟨q29, q30, q31⟩ := q25
    rw [q29] at X26
    refine r_if_eq (tgt := 30) S dX8_seeMan_21 (by decide) (fun c32 => ?_) (fun c32 => ?_)
    ·
      have r33 : R (0) (0) v28 := ⟨by omega, by omega⟩
      have p34 := (iff_n q31) (by omega)
      refine r_aload_n S dX8_seeMan_30 rfl (lv_at hl 0 rfl) ?_
      refine r_aload_n S dX8_seeMan_31 rfl (lv_at hl 1 rfl) ?_
      refine r_aload_n S dX8_seeMan_32 rfl (lv_at hl 0 rfl) ?_
      refine r_get (K := 3) (v := .ref (G.2.2.2.1 1)) S X26 (Nat.le_of_ble_eq_true rfl) rfl lk8_9_0 (fun _ => ⟨_, rfl, rfl⟩) dX8_seeMan_33 ?_
      refine r_getJ (K := 1) S X26 (Nat.le_of_ble_eq_true rfl) rfl lk8_58_7 (fun _ => ⟨_, rfl, rfl⟩) dX8_seeMan_36 (fun j35 z36 => ?_)
      refine r_ki (q_V (As := [.long j35]) (rest := [.ref (G.2.2.2.1 3)]) (K := 4) (ci := 2) S X26 (c_X2_manNamed_q l G τ hI j35 (gmn fs.2) (wrd bb fs.1) (RP_mnm hR.2) (by rw [← z36]; exact (RT_low hR.1 ((RT_k hR.1).2.1.mp (by rw [z4]; omega))).2) (RT_low hR.1 ((RT_k hR.1).2.1.mp (by rw [z4]; omega))).1) ck8_66 (Nat.le_of_ble_eq_true rfl) rfl (fun _ => ⟨_, rfl⟩) ⟨_, _, rfl⟩ ⟨Nat.le_of_ble_eq_true rfl, Nat.le_of_ble_eq_true rfl⟩ rfl hl.1 rfl (Nat.le_of_ble_eq_true rfl) dX8_seeMan_39 ⟨Nat.le_refl 0, Nat.le_refl 0⟩) X26 (fun v40 t39 H lc q37 X38 => ?_)
      unfold po_X2_manNamed_q at q37
      obtain ⟨q41, q42, q43⟩ := q37
      rw [q41] at X38
      refine r_put (K := 3) (ty := .int) S X38 (Nat.le_of_ble_eq_true rfl) rfl lk8_42_0 (fun _ => ⟨_, rfl, Nat.le_of_ble_eq_true rfl, rfl⟩) (fun _ _ _ h => by cases h; exact ⟨rfl, rfl⟩) rfl rfl dX8_seeMan_42 (fun t44 H lc M45 X46 => ?_)
      have I47 := Inv_mu hI M45 (R_any v40)
      have F48 : Fr [(3, 1), (3, 2)] [] τ t44 := Fr_mu Fr_rfl M45 (by decide)
      refine r_aload_n S dX8_seeMan_45 rfl (lv_at hl 0 rfl) ?_
      refine r_geti (K := 3) S X46 (Nat.le_of_ble_eq_true rfl) rfl lk8_42_0 (fun _ => ⟨_, rfl, rfl⟩) M45.1 dX8_seeMan_46 ?_
      refine r_iconst S dX8_seeMan_49 (by decide) (fun v49 z50 => ?_)
      have r51 := R_eq z50
      refine r_icmp_ne (tgt := 61) S dX8_seeMan_50 (by decide) (fun c52 => ?_) (fun c52 => ?_)
      ·
        have r53 : R (0) (9) v40 := ⟨by omega, by omega⟩
        refine r_iconst S dX8_seeMan_61 (by decide) (fun v54 z55 => ?_)
        have r56 := R_eq z55
        refine r_goto (tgt := 66) S dX8_seeMan_62 (by decide) ?_
        exact r_ret S hr hlk X46 ⟨I47, F48, (R_of r56 rfl), (fun h => ⟨(by rw [M45.1]; exact R_of r53 rfl), (by rw [((M45.2 3 1 (Or.inr (by decide))).trans z2)]; exact R_of hf_0 rfl)⟩), (QX_r (sLook_g ⟨((RT_k hR.1).2.1.mp (by rw [z4]; omega)), p34⟩ (by rw [← q43]; omega)) (by omega) ⟨show (t44 3 2).toInt = (((fnd (gmn fs.2) (wrd bb fs.1)).toNat : Nat) : Int) by rw [M45.1, ← q43]; omega, (RC_fr hR (fun j => ((M45.2 1 j (Or.inl (by decide))).trans rfl)) (fun j => ((M45.2 2 j (Or.inl (by decide))).trans rfl)) (fun j => ((M45.2 201 j (Or.inl (by decide))).trans rfl)) ((M45.2 3 5 (Or.inr (by decide))).trans rfl) ((M45.2 3 6 (Or.inr (by decide))).trans rfl) (fun j => ((M45.2 4 j (Or.inl (by decide))).trans rfl)) (fun j => ((M45.2 6 j (Or.inl (by decide))).trans rfl)) (fun j => ((M45.2 7 j (Or.inl (by decide))).trans rfl)) (fun j => ((M45.2 8 j (Or.inl (by decide))).trans rfl)) (fun j => ((M45.2 209 j (Or.inl (by decide))).trans rfl)) (fun j => ((M45.2 210 j (Or.inl (by decide))).trans rfl)))⟩)⟩ (nr_bool (R_of (lo := 0) (hi := 1) r56 rfl)) dX8_seeMan_66
      ·
        have r57 : R (-1) (-1) v40 := ⟨by omega, by omega⟩
        refine r_aload_n S dX8_seeMan_53 rfl (lv_at hl 0 rfl) ?_
        refine r_iconst S dX8_seeMan_54 (by decide) (fun v58 z59 => ?_)
        have r60 := R_eq z59
        refine r_ki (q_U (As := [.int v58]) (rest := []) (K := 3) (ci := 0) S X46 (c_X8_fail_q l G t44 I47 v58 (R_of (lo := -2147483648) (hi := 2147483647) r60 rfl)) ck8_29_0 (Nat.le_of_ble_eq_true rfl) rfl (fun _ => ⟨_, rfl⟩) ⟨_, _, rfl⟩ ⟨Nat.le_of_ble_eq_true rfl, Nat.le_of_ble_eq_true rfl⟩ rfl hl.1 rfl (Nat.le_of_ble_eq_true rfl) dX8_seeMan_55 ⟨Nat.le_refl 0, Nat.le_refl 0⟩) X46 (fun v64 t63 H lc q61 X62 => ?_)
        unfold po_X8_fail_q at q61
        obtain ⟨q65, q66, q67, q68⟩ := q61
        have F69 : Fr [(3, 1), (3, 2)] [] τ t63 := Fr_call F48 q66 (by decide)
        refine r_if_eq (tgt := 65) S dX8_seeMan_58 (by decide) (fun c70 => ?_) (fun c70 => ?_)
        ·
          refine r_iconst S dX8_seeMan_65 (by decide) (fun v71 z72 => ?_)
          have r73 := R_eq z72
          exact r_ret S hr hlk X62 ⟨q65, F69, (R_of r73 rfl), (fun h => by exfalso; omega), (QX_b (sLook_b3 ⟨((RT_k hR.1).2.1.mp (by rw [z4]; omega)), p34⟩ (by rw [← q43]; omega)) (by omega) (by rw [q68]; omega) (RC_at (RC_fr hR (fun j => ((q66 1 j (by simp [fz])).trans ((M45.2 1 j (Or.inl (by decide))).trans rfl))) (fun j => ((q66 2 j (by simp [fz])).trans ((M45.2 2 j (Or.inl (by decide))).trans rfl))) (fun j => ((q66 201 j (by simp [fz])).trans ((M45.2 201 j (Or.inl (by decide))).trans rfl))) ((q66 3 5 (by decide)).trans ((M45.2 3 5 (Or.inr (by decide))).trans rfl)) ((q66 3 6 (by decide)).trans ((M45.2 3 6 (Or.inr (by decide))).trans rfl)) (fun j => ((q66 4 j (by simp [fz])).trans ((M45.2 4 j (Or.inl (by decide))).trans rfl))) (fun j => ((q66 6 j (by simp [fz])).trans ((M45.2 6 j (Or.inl (by decide))).trans rfl))) (fun j => ((q66 7 j (by simp [fz])).trans ((M45.2 7 j (Or.inl (by decide))).trans rfl))) (fun j => ((q66 8 j (by simp [fz])).trans ((M45.2 8 j (Or.inl (by decide))).trans rfl))) (fun j => ((q66 209 j (by simp [fz])).trans ((M45.2 209 j (Or.inl (by decide))).trans rfl))) (fun j => ((q66 210 j (by simp [fz])).trans ((M45.2 210 j (Or.inl (by decide))).trans rfl))))))⟩ (nr_bool (R_of (lo := 0) (hi := 1) r73 rfl)) dX8_seeMan_66
        ·
          exfalso; omega
    ·
      have r74 : R (1) (1) v28 := ⟨by omega, by omega⟩
      have p75 := (q31).mp (by omega)
      refine r_aload_n S dX8_seeMan_24 rfl (lv_at hl 0 rfl) ?_
      refine r_iconst S dX8_seeMan_25 (by decide) (fun v76 z77 => ?_)
      have r78 := R_eq z77
      refine r_ki (q_U (As := [.int v76]) (rest := []) (K := 3) (ci := 0) S X26 (c_X8_fail_q l G τ hI v76 (R_of (lo := -2147483648) (hi := 2147483647) r78 rfl)) ck8_29_0 (Nat.le_of_ble_eq_true rfl) rfl (fun _ => ⟨_, rfl⟩) ⟨_, _, rfl⟩ ⟨Nat.le_of_ble_eq_true rfl, Nat.le_of_ble_eq_true rfl⟩ rfl hl.1 rfl (Nat.le_of_ble_eq_true rfl) dX8_seeMan_26 ⟨Nat.le_refl 0, Nat.le_refl 0⟩) X26 (fun v82 t81 H lc q79 X80 => ?_)
      unfold po_X8_fail_q at q79
      obtain ⟨q83, q84, q85, q86⟩ := q79
      have F87 : Fr [(3, 1), (3, 2)] [] τ t81 := Fr_call Fr_rfl q84 (by decide)
      exact r_ret S hr hlk X80 ⟨q83, F87, (R_of q85 rfl), (fun h => by exfalso; omega), (QX_b (sLook_b1 (fun h => h.2 p75)) (by omega) (by rw [q86]; omega) (RC_at (RC_fr hR (fun j => ((q84 1 j (by simp [fz])).trans rfl)) (fun j => ((q84 2 j (by simp [fz])).trans rfl)) (fun j => ((q84 201 j (by simp [fz])).trans rfl)) ((q84 3 5 (by decide)).trans rfl) ((q84 3 6 (by decide)).trans rfl) (fun j => ((q84 4 j (by simp [fz])).trans rfl)) (fun j => ((q84 6 j (by simp [fz])).trans rfl)) (fun j => ((q84 7 j (by simp [fz])).trans rfl)) (fun j => ((q84 8 j (by simp [fz])).trans rfl)) (fun j => ((q84 209 j (by simp [fz])).trans rfl)) (fun j => ((q84 210 j (by simp [fz])).trans rfl)))))⟩ (nr_bool (R_of (lo := 0) (hi := 1) q85 rfl)) dX8_seeMan_29
def po_X8_seeAsk_q (τ : Tau)    (bb : Nat → Int) (nb : Nat) (fs : FS) (r : Int32) (u : Tau) : Prop := Inv u ∧ Fr [(3, 1), (3, 2)] [] τ u ∧ R (0) (1) r ∧ (r.toInt = 1 → R (0) (8) (u 3 2) ∧ R (0) (0) (u 3 1)) ∧ QX (sLook bb (gan fs.2) fs.1) r u (fun i => (u 3 2).toInt = i ∧ RC bb nb u fs)
set_option maxHeartbeats 4000000 in
set_option maxRecDepth 100000 in
theorem c_X8_seeAsk_q (l : Launch) (G : Gx) (τ : Tau) (hI : Inv τ) (hf_0 : R (0) (0) (τ 3 1)) (bb : Nat → Int) (nb : Nat) (fs : FS) (hR : RC bb nb τ fs) : Ci l G yX8_seeAsk cX8_seeAsk 2 (some .boolean) 1 23 [.ref (G.2.2.2.1 3), .ref (G.2.2.2.1 4)] τ (po_X8_seeAsk_q τ    bb nb fs) := by
  unfold Ci
  refine C_of (own := RX8) (by decide) rfl (Nat.le_of_ble_eq_true rfl) ?_
  intro p e s m below meth c ls S hr hlk X hl
  have hl : lv_has ls 2 [(0, .ref (G.2.2.2.1 3)), (1, .ref (G.2.2.2.1 4))] := hl
  obtain ⟨v1, z2⟩ : ∃ x, τ 3 1 = x := ⟨_, rfl⟩
  rw [z2] at hf_0
  refine r_aload_n S dX8_seeAsk_0 rfl (lv_at hl 0 rfl) ?_
  refine r_get (K := 3) (v := .ref (G.2.2.2.1 1)) S X (Nat.le_of_ble_eq_true rfl) rfl lk8_9_0 (fun _ => ⟨_, rfl, rfl⟩) dX8_seeAsk_1 ?_
  refine r_getn (K := 1) S X (Nat.le_of_ble_eq_true rfl) rfl lk8_36_7 (fun _ => ⟨_, rfl, rfl⟩) dX8_seeAsk_4 (fun v3 z4 => ?_)
  have r5 : R (0) (4) v3 := rd hI rfl z4
  refine r_iconst S dX8_seeAsk_7 (by decide) (fun v6 z7 => ?_)
  have r8 := R_eq z7
  refine r_icmp_ne (tgt := 24) S dX8_seeAsk_8 (by decide) (fun c9 => ?_) (fun c9 => ?_)
  ·
    refine r_aload_n S dX8_seeAsk_24 rfl (lv_at hl 0 rfl) ?_
    refine r_iconst S dX8_seeAsk_25 (by decide) (fun v10 z11 => ?_)
    have r12 := R_eq z11
    refine r_ki (q_U (As := [.int v10]) (rest := []) (K := 3) (ci := 0) S X (c_X8_fail_q l G τ hI v10 (R_of (lo := -2147483648) (hi := 2147483647) r12 rfl)) ck8_29_0 (Nat.le_of_ble_eq_true rfl) rfl (fun _ => ⟨_, rfl⟩) ⟨_, _, rfl⟩ ⟨Nat.le_of_ble_eq_true rfl, Nat.le_of_ble_eq_true rfl⟩ rfl hl.1 rfl (Nat.le_of_ble_eq_true rfl) dX8_seeAsk_26 ⟨Nat.le_refl 0, Nat.le_refl 0⟩) X (fun v16 t15 H lc q13 X14 => ?_)
    unfold po_X8_fail_q at q13
    obtain ⟨q17, q18, q19, q20⟩ := q13
    have F21 : Fr [(3, 1), (3, 2)] [] τ t15 := Fr_call Fr_rfl q18 (by decide)
    exact r_ret S hr hlk X14 ⟨q17, F21, (R_of q19 rfl), (fun h => by exfalso; omega), (QX_b (sLook_b1 (fun h => absurd ((RT_k hR.1).2.1.mpr h.1) (by rw [z4]; omega))) (by omega) (by rw [q20]; omega) (RC_at (RC_fr hR (fun j => ((q18 1 j (by simp [fz])).trans rfl)) (fun j => ((q18 2 j (by simp [fz])).trans rfl)) (fun j => ((q18 201 j (by simp [fz])).trans rfl)) ((q18 3 5 (by decide)).trans rfl) ((q18 3 6 (by decide)).trans rfl) (fun j => ((q18 4 j (by simp [fz])).trans rfl)) (fun j => ((q18 6 j (by simp [fz])).trans rfl)) (fun j => ((q18 7 j (by simp [fz])).trans rfl)) (fun j => ((q18 8 j (by simp [fz])).trans rfl)) (fun j => ((q18 209 j (by simp [fz])).trans rfl)) (fun j => ((q18 210 j (by simp [fz])).trans rfl)))))⟩ (nr_bool (R_of (lo := 0) (hi := 1) q19 rfl)) dX8_seeAsk_29
  ·
    have r22 : R (2) (2) v3 := ⟨by omega, by omega⟩
    refine r_aload_n S dX8_seeAsk_11 rfl (lv_at hl 0 rfl) ?_
    refine r_get (K := 3) (v := .ref (G.2.2.2.1 1)) S X (Nat.le_of_ble_eq_true rfl) rfl lk8_9_0 (fun _ => ⟨_, rfl, rfl⟩) dX8_seeAsk_12 ?_
    refine r_getJ (K := 1) S X (Nat.le_of_ble_eq_true rfl) rfl lk8_58_7 (fun _ => ⟨_, rfl, rfl⟩) dX8_seeAsk_15 (fun j23 z24 => ?_)
    refine r_ki (q_S (As := [.long j23]) (rest := []) S X (c_X9_isKept_q l G τ hI j23 (wrd bb fs.1) (by rw [← z24]; exact (RT_low hR.1 ((RT_k hR.1).2.1.mp (by rw [z4]; omega))).2) (RT_low hR.1 ((RT_k hR.1).2.1.mp (by rw [z4]; omega))).1) ck8_62 ⟨Nat.le_of_ble_eq_true rfl, Nat.le_of_ble_eq_true rfl⟩ rfl hl.1 rfl (Nat.le_of_ble_eq_true rfl) dX8_seeAsk_18 ⟨Nat.le_refl 0, Nat.le_refl 0⟩) X (fun v28 t27 H lc q25 X26 => ?_)
    unfold po_X9_isKept_q at q25
    obtain ⟨q29, q30, q31⟩ := q25
    rw [q29] at X26
    refine r_if_eq (tgt := 30) S dX8_seeAsk_21 (by decide) (fun c32 => ?_) (fun c32 => ?_)
    ·
      have r33 : R (0) (0) v28 := ⟨by omega, by omega⟩
      have p34 := (iff_n q31) (by omega)
      refine r_aload_n S dX8_seeAsk_30 rfl (lv_at hl 0 rfl) ?_
      refine r_aload_n S dX8_seeAsk_31 rfl (lv_at hl 1 rfl) ?_
      refine r_aload_n S dX8_seeAsk_32 rfl (lv_at hl 0 rfl) ?_
      refine r_get (K := 3) (v := .ref (G.2.2.2.1 1)) S X26 (Nat.le_of_ble_eq_true rfl) rfl lk8_9_0 (fun _ => ⟨_, rfl, rfl⟩) dX8_seeAsk_33 ?_
      refine r_getJ (K := 1) S X26 (Nat.le_of_ble_eq_true rfl) rfl lk8_58_7 (fun _ => ⟨_, rfl, rfl⟩) dX8_seeAsk_36 (fun j35 z36 => ?_)
      refine r_ki (q_V (As := [.long j35]) (rest := [.ref (G.2.2.2.1 3)]) (K := 4) (ci := 2) S X26 (c_X2_askNamed_q l G τ hI j35 (gan fs.2) (wrd bb fs.1) (RP_anm hR.2) (by rw [← z36]; exact (RT_low hR.1 ((RT_k hR.1).2.1.mp (by rw [z4]; omega))).2) (RT_low hR.1 ((RT_k hR.1).2.1.mp (by rw [z4]; omega))).1) ck8_72 (Nat.le_of_ble_eq_true rfl) rfl (fun _ => ⟨_, rfl⟩) ⟨_, _, rfl⟩ ⟨Nat.le_of_ble_eq_true rfl, Nat.le_of_ble_eq_true rfl⟩ rfl hl.1 rfl (Nat.le_of_ble_eq_true rfl) dX8_seeAsk_39 ⟨Nat.le_refl 0, Nat.le_refl 0⟩) X26 (fun v40 t39 H lc q37 X38 => ?_)
      unfold po_X2_askNamed_q at q37
      obtain ⟨q41, q42, q43⟩ := q37
      rw [q41] at X38
      refine r_put (K := 3) (ty := .int) S X38 (Nat.le_of_ble_eq_true rfl) rfl lk8_42_0 (fun _ => ⟨_, rfl, Nat.le_of_ble_eq_true rfl, rfl⟩) (fun _ _ _ h => by cases h; exact ⟨rfl, rfl⟩) rfl rfl dX8_seeAsk_42 (fun t44 H lc M45 X46 => ?_)
      have I47 := Inv_mu hI M45 (R_any v40)
      have F48 : Fr [(3, 1), (3, 2)] [] τ t44 := Fr_mu Fr_rfl M45 (by decide)
      refine r_aload_n S dX8_seeAsk_45 rfl (lv_at hl 0 rfl) ?_
      refine r_geti (K := 3) S X46 (Nat.le_of_ble_eq_true rfl) rfl lk8_42_0 (fun _ => ⟨_, rfl, rfl⟩) M45.1 dX8_seeAsk_46 ?_
      refine r_iconst S dX8_seeAsk_49 (by decide) (fun v49 z50 => ?_)
      have r51 := R_eq z50
      refine r_icmp_ne (tgt := 61) S dX8_seeAsk_50 (by decide) (fun c52 => ?_) (fun c52 => ?_)
      ·
        have r53 : R (0) (8) v40 := ⟨by omega, by omega⟩
        refine r_iconst S dX8_seeAsk_61 (by decide) (fun v54 z55 => ?_)
        have r56 := R_eq z55
        refine r_goto (tgt := 66) S dX8_seeAsk_62 (by decide) ?_
        exact r_ret S hr hlk X46 ⟨I47, F48, (R_of r56 rfl), (fun h => ⟨(by rw [M45.1]; exact R_of r53 rfl), (by rw [((M45.2 3 1 (Or.inr (by decide))).trans z2)]; exact R_of hf_0 rfl)⟩), (QX_r (sLook_g ⟨((RT_k hR.1).2.1.mp (by rw [z4]; omega)), p34⟩ (by rw [← q43]; omega)) (by omega) ⟨show (t44 3 2).toInt = (((fnd (gan fs.2) (wrd bb fs.1)).toNat : Nat) : Int) by rw [M45.1, ← q43]; omega, (RC_fr hR (fun j => ((M45.2 1 j (Or.inl (by decide))).trans rfl)) (fun j => ((M45.2 2 j (Or.inl (by decide))).trans rfl)) (fun j => ((M45.2 201 j (Or.inl (by decide))).trans rfl)) ((M45.2 3 5 (Or.inr (by decide))).trans rfl) ((M45.2 3 6 (Or.inr (by decide))).trans rfl) (fun j => ((M45.2 4 j (Or.inl (by decide))).trans rfl)) (fun j => ((M45.2 6 j (Or.inl (by decide))).trans rfl)) (fun j => ((M45.2 7 j (Or.inl (by decide))).trans rfl)) (fun j => ((M45.2 8 j (Or.inl (by decide))).trans rfl)) (fun j => ((M45.2 209 j (Or.inl (by decide))).trans rfl)) (fun j => ((M45.2 210 j (Or.inl (by decide))).trans rfl)))⟩)⟩ (nr_bool (R_of (lo := 0) (hi := 1) r56 rfl)) dX8_seeAsk_66
      ·
        have r57 : R (-1) (-1) v40 := ⟨by omega, by omega⟩
        refine r_aload_n S dX8_seeAsk_53 rfl (lv_at hl 0 rfl) ?_
        refine r_iconst S dX8_seeAsk_54 (by decide) (fun v58 z59 => ?_)
        have r60 := R_eq z59
        refine r_ki (q_U (As := [.int v58]) (rest := []) (K := 3) (ci := 0) S X46 (c_X8_fail_q l G t44 I47 v58 (R_of (lo := -2147483648) (hi := 2147483647) r60 rfl)) ck8_29_0 (Nat.le_of_ble_eq_true rfl) rfl (fun _ => ⟨_, rfl⟩) ⟨_, _, rfl⟩ ⟨Nat.le_of_ble_eq_true rfl, Nat.le_of_ble_eq_true rfl⟩ rfl hl.1 rfl (Nat.le_of_ble_eq_true rfl) dX8_seeAsk_55 ⟨Nat.le_refl 0, Nat.le_refl 0⟩) X46 (fun v64 t63 H lc q61 X62 => ?_)
        unfold po_X8_fail_q at q61
        obtain ⟨q65, q66, q67, q68⟩ := q61
        have F69 : Fr [(3, 1), (3, 2)] [] τ t63 := Fr_call F48 q66 (by decide)
        refine r_if_eq (tgt := 65) S dX8_seeAsk_58 (by decide) (fun c70 => ?_) (fun c70 => ?_)
        ·
          refine r_iconst S dX8_seeAsk_65 (by decide) (fun v71 z72 => ?_)
          have r73 := R_eq z72
          exact r_ret S hr hlk X62 ⟨q65, F69, (R_of r73 rfl), (fun h => by exfalso; omega), (QX_b (sLook_b3 ⟨((RT_k hR.1).2.1.mp (by rw [z4]; omega)), p34⟩ (by rw [← q43]; omega)) (by omega) (by rw [q68]; omega) (RC_at (RC_fr hR (fun j => ((q66 1 j (by simp [fz])).trans ((M45.2 1 j (Or.inl (by decide))).trans rfl))) (fun j => ((q66 2 j (by simp [fz])).trans ((M45.2 2 j (Or.inl (by decide))).trans rfl))) (fun j => ((q66 201 j (by simp [fz])).trans ((M45.2 201 j (Or.inl (by decide))).trans rfl))) ((q66 3 5 (by decide)).trans ((M45.2 3 5 (Or.inr (by decide))).trans rfl)) ((q66 3 6 (by decide)).trans ((M45.2 3 6 (Or.inr (by decide))).trans rfl)) (fun j => ((q66 4 j (by simp [fz])).trans ((M45.2 4 j (Or.inl (by decide))).trans rfl))) (fun j => ((q66 6 j (by simp [fz])).trans ((M45.2 6 j (Or.inl (by decide))).trans rfl))) (fun j => ((q66 7 j (by simp [fz])).trans ((M45.2 7 j (Or.inl (by decide))).trans rfl))) (fun j => ((q66 8 j (by simp [fz])).trans ((M45.2 8 j (Or.inl (by decide))).trans rfl))) (fun j => ((q66 209 j (by simp [fz])).trans ((M45.2 209 j (Or.inl (by decide))).trans rfl))) (fun j => ((q66 210 j (by simp [fz])).trans ((M45.2 210 j (Or.inl (by decide))).trans rfl))))))⟩ (nr_bool (R_of (lo := 0) (hi := 1) r73 rfl)) dX8_seeAsk_66
        ·
          exfalso; omega
    ·
      have r74 : R (1) (1) v28 := ⟨by omega, by omega⟩
      have p75 := (q31).mp (by omega)
      refine r_aload_n S dX8_seeAsk_24 rfl (lv_at hl 0 rfl) ?_
      refine r_iconst S dX8_seeAsk_25 (by decide) (fun v76 z77 => ?_)
      have r78 := R_eq z77
      refine r_ki (q_U (As := [.int v76]) (rest := []) (K := 3) (ci := 0) S X26 (c_X8_fail_q l G τ hI v76 (R_of (lo := -2147483648) (hi := 2147483647) r78 rfl)) ck8_29_0 (Nat.le_of_ble_eq_true rfl) rfl (fun _ => ⟨_, rfl⟩) ⟨_, _, rfl⟩ ⟨Nat.le_of_ble_eq_true rfl, Nat.le_of_ble_eq_true rfl⟩ rfl hl.1 rfl (Nat.le_of_ble_eq_true rfl) dX8_seeAsk_26 ⟨Nat.le_refl 0, Nat.le_refl 0⟩) X26 (fun v82 t81 H lc q79 X80 => ?_)
      unfold po_X8_fail_q at q79
      obtain ⟨q83, q84, q85, q86⟩ := q79
      have F87 : Fr [(3, 1), (3, 2)] [] τ t81 := Fr_call Fr_rfl q84 (by decide)
      exact r_ret S hr hlk X80 ⟨q83, F87, (R_of q85 rfl), (fun h => by exfalso; omega), (QX_b (sLook_b1 (fun h => h.2 p75)) (by omega) (by rw [q86]; omega) (RC_at (RC_fr hR (fun j => ((q84 1 j (by simp [fz])).trans rfl)) (fun j => ((q84 2 j (by simp [fz])).trans rfl)) (fun j => ((q84 201 j (by simp [fz])).trans rfl)) ((q84 3 5 (by decide)).trans rfl) ((q84 3 6 (by decide)).trans rfl) (fun j => ((q84 4 j (by simp [fz])).trans rfl)) (fun j => ((q84 6 j (by simp [fz])).trans rfl)) (fun j => ((q84 7 j (by simp [fz])).trans rfl)) (fun j => ((q84 8 j (by simp [fz])).trans rfl)) (fun j => ((q84 209 j (by simp [fz])).trans rfl)) (fun j => ((q84 210 j (by simp [fz])).trans rfl)))))⟩ (nr_bool (R_of (lo := 0) (hi := 1) q85 rfl)) dX8_seeAsk_29
def po_X0_seeNewName_q (τ : Tau)    (bb : Nat → Int) (nb : Nat) (fs : FS) (r : Int32) (u : Tau) : Prop := Inv u ∧ Fr [(3, 1)] [] τ u ∧ R (0) (1) r ∧ (r.toInt = 1 → R (0) (0) (u 3 1)) ∧ QX (sNew bb fs) r u (fun _ => RC bb nb u fs)
set_option maxHeartbeats 4000000 in
set_option maxRecDepth 100000 in
theorem c_X0_seeNewName_q (l : Launch) (G : Gx) (τ : Tau) (hI : Inv τ) (hf_0 : R (0) (0) (τ 3 1)) (bb : Nat → Int) (nb : Nat) (fs : FS) (hR : RC bb nb τ fs) : Ci l G yX0_seeNewName cX0_seeNewName 2 (some .boolean) 1 23 [.ref (G.2.2.2.1 3)] τ (po_X0_seeNewName_q τ    bb nb fs) := by
  unfold Ci
  refine C_of (own := RX0) (by decide) rfl (Nat.le_of_ble_eq_true rfl) ?_
  intro p e s m below meth c ls S hr hlk X hl
  have hl : lv_has ls 2 [(0, .ref (G.2.2.2.1 3))] := hl
  obtain ⟨v1, z2⟩ : ∃ x, τ 3 1 = x := ⟨_, rfl⟩
  rw [z2] at hf_0
  refine r_aload_n S dX0_seeNewName_0 rfl (lv_at hl 0 rfl) ?_
  refine r_get (K := 3) (v := .ref (G.2.2.2.1 1)) S X (Nat.le_of_ble_eq_true rfl) rfl lk0_38_0 (fun _ => ⟨_, rfl, rfl⟩) dX0_seeNewName_1 ?_
  refine r_getn (K := 1) S X (Nat.le_of_ble_eq_true rfl) rfl lk0_42_7 (fun _ => ⟨_, rfl, rfl⟩) dX0_seeNewName_4 (fun v3 z4 => ?_)
  have r5 : R (0) (4) v3 := rd hI rfl z4
  refine r_iconst S dX0_seeNewName_7 (by decide) (fun v6 z7 => ?_)
  have r8 := R_eq z7
  refine r_icmp_ne (tgt := 24) S dX0_seeNewName_8 (by decide) (fun c9 => ?_) (fun c9 => ?_)
  ·
    refine r_aload_n S dX0_seeNewName_24 rfl (lv_at hl 0 rfl) ?_
    refine r_iconst S dX0_seeNewName_25 (by decide) (fun v10 z11 => ?_)
    have r12 := R_eq z11
    refine r_ki (q_U (As := [.int v10]) (rest := []) (K := 3) (ci := 0) S X (c_X8_fail_q l G τ hI v10 (R_of (lo := -2147483648) (hi := 2147483647) r12 rfl)) ck0_98_0 (Nat.le_of_ble_eq_true rfl) rfl (fun _ => ⟨_, rfl⟩) ⟨_, _, rfl⟩ ⟨Nat.le_of_ble_eq_true rfl, Nat.le_of_ble_eq_true rfl⟩ rfl hl.1 rfl (Nat.le_of_ble_eq_true rfl) dX0_seeNewName_26 ⟨Nat.le_refl 0, Nat.le_refl 0⟩) X (fun v16 t15 H lc q13 X14 => ?_)
    unfold po_X8_fail_q at q13
    obtain ⟨q17, q18, q19, q20⟩ := q13
    have F21 : Fr [(3, 1)] [] τ t15 := Fr_call Fr_rfl q18 (by decide)
    exact r_ret S hr hlk X14 ⟨q17, F21, (R_of q19 rfl), (fun h => by exfalso; omega), (QX_b (sNew_b1 (fun h => absurd ((RT_k hR.1).2.1.mpr h.1) (by rw [z4]; omega))) (by omega) (by rw [q20]; omega) (RC_at (RC_fr hR (fun j => ((q18 1 j (by simp [fz])).trans rfl)) (fun j => ((q18 2 j (by simp [fz])).trans rfl)) (fun j => ((q18 201 j (by simp [fz])).trans rfl)) ((q18 3 5 (by decide)).trans rfl) ((q18 3 6 (by decide)).trans rfl) (fun j => ((q18 4 j (by simp [fz])).trans rfl)) (fun j => ((q18 6 j (by simp [fz])).trans rfl)) (fun j => ((q18 7 j (by simp [fz])).trans rfl)) (fun j => ((q18 8 j (by simp [fz])).trans rfl)) (fun j => ((q18 209 j (by simp [fz])).trans rfl)) (fun j => ((q18 210 j (by simp [fz])).trans rfl)))))⟩ (nr_bool (R_of (lo := 0) (hi := 1) q19 rfl)) dX0_seeNewName_29
  ·
    have r22 : R (2) (2) v3 := ⟨by omega, by omega⟩
    refine r_aload_n S dX0_seeNewName_11 rfl (lv_at hl 0 rfl) ?_
    refine r_get (K := 3) (v := .ref (G.2.2.2.1 1)) S X (Nat.le_of_ble_eq_true rfl) rfl lk0_38_0 (fun _ => ⟨_, rfl, rfl⟩) dX0_seeNewName_12 ?_
    refine r_getJ (K := 1) S X (Nat.le_of_ble_eq_true rfl) rfl lk0_118_7 (fun _ => ⟨_, rfl, rfl⟩) dX0_seeNewName_15 (fun j23 z24 => ?_)
    refine r_ki (q_S (As := [.long j23]) (rest := []) S X (c_X9_isKept_q l G τ hI j23 (wrd bb fs.1) (by rw [← z24]; exact (RT_low hR.1 ((RT_k hR.1).2.1.mp (by rw [z4]; omega))).2) (RT_low hR.1 ((RT_k hR.1).2.1.mp (by rw [z4]; omega))).1) ck0_122 ⟨Nat.le_of_ble_eq_true rfl, Nat.le_of_ble_eq_true rfl⟩ rfl hl.1 rfl (Nat.le_of_ble_eq_true rfl) dX0_seeNewName_18 ⟨Nat.le_refl 0, Nat.le_refl 0⟩) X (fun v28 t27 H lc q25 X26 => ?_)
    unfold po_X9_isKept_q at q25
    obtain ⟨q29, q30, q31⟩ := q25
    rw [q29] at X26
    refine r_if_eq (tgt := 30) S dX0_seeNewName_21 (by decide) (fun c32 => ?_) (fun c32 => ?_)
    ·
      have r33 : R (0) (0) v28 := ⟨by omega, by omega⟩
      have p34 := (iff_n q31) (by omega)
      refine r_aload_n S dX0_seeNewName_30 rfl (lv_at hl 0 rfl) ?_
      refine r_get (K := 3) (v := .ref (G.2.2.2.1 4)) S X26 (Nat.le_of_ble_eq_true rfl) rfl lk0_14_0 (fun _ => ⟨_, rfl, rfl⟩) dX0_seeNewName_31 ?_
      refine r_aload_n S dX0_seeNewName_34 rfl (lv_at hl 0 rfl) ?_
      refine r_get (K := 3) (v := .ref (G.2.2.2.1 1)) S X26 (Nat.le_of_ble_eq_true rfl) rfl lk0_38_0 (fun _ => ⟨_, rfl, rfl⟩) dX0_seeNewName_35 ?_
      refine r_getJ (K := 1) S X26 (Nat.le_of_ble_eq_true rfl) rfl lk0_118_7 (fun _ => ⟨_, rfl, rfl⟩) dX0_seeNewName_38 (fun j35 z36 => ?_)
      refine r_ki (q_V (As := [.long j35]) (rest := []) (K := 4) (ci := 2) S X26 (c_X2_askNamed_q l G τ hI j35 (gan fs.2) (wrd bb fs.1) (RP_anm hR.2) (by rw [← z36]; exact (RT_low hR.1 ((RT_k hR.1).2.1.mp (by rw [z4]; omega))).2) (RT_low hR.1 ((RT_k hR.1).2.1.mp (by rw [z4]; omega))).1) ck0_126 (Nat.le_of_ble_eq_true rfl) rfl (fun _ => ⟨_, rfl⟩) ⟨_, _, rfl⟩ ⟨Nat.le_of_ble_eq_true rfl, Nat.le_of_ble_eq_true rfl⟩ rfl hl.1 rfl (Nat.le_of_ble_eq_true rfl) dX0_seeNewName_41 ⟨Nat.le_refl 0, Nat.le_refl 0⟩) X26 (fun v40 t39 H lc q37 X38 => ?_)
      unfold po_X2_askNamed_q at q37
      obtain ⟨q41, q42, q43⟩ := q37
      rw [q41] at X38
      refine r_iconst S dX0_seeNewName_44 (by decide) (fun v44 z45 => ?_)
      have r46 := R_eq z45
      refine r_icmp_ne (tgt := 66) S dX0_seeNewName_45 (by decide) (fun c47 => ?_) (fun c47 => ?_)
      ·
        have r48 : R (0) (8) v40 := ⟨by omega, by omega⟩
        refine r_iconst S dX0_seeNewName_66 (by decide) (fun v49 z50 => ?_)
        have r51 := R_eq z50
        refine r_goto (tgt := 71) S dX0_seeNewName_67 (by decide) ?_
        refine r_istore_n (lv' := [(1, .int v49), (0, .ref (G.2.2.2.1 3))]) S dX0_seeNewName_71 rfl hl (by decide) rfl (fun ls hl => ?_)
        refine r_iload_n S dX0_seeNewName_72 rfl (lv_at hl 0 rfl) ?_
        refine r_if_eq (tgt := 84) S dX0_seeNewName_73 (by decide) (fun c52 => ?_) (fun c52 => ?_)
        ·
          exfalso; omega
        ·
          refine r_aload_n S dX0_seeNewName_76 rfl (lv_at hl 1 rfl) ?_
          refine r_iconst S dX0_seeNewName_77 (by decide) (fun v53 z54 => ?_)
          have r55 := R_eq z54
          refine r_ki (q_U (As := [.int v53]) (rest := []) (K := 3) (ci := 0) S X38 (c_X8_fail_q l G τ hI v53 (R_of (lo := -2147483648) (hi := 2147483647) r55 rfl)) ck0_98_0 (Nat.le_of_ble_eq_true rfl) rfl (fun _ => ⟨_, rfl⟩) ⟨_, _, rfl⟩ ⟨Nat.le_of_ble_eq_true rfl, Nat.le_of_ble_eq_true rfl⟩ rfl hl.1 rfl (Nat.le_of_ble_eq_true rfl) dX0_seeNewName_78 ⟨Nat.le_refl 0, Nat.le_refl 0⟩) X38 (fun v59 t58 H lc q56 X57 => ?_)
          unfold po_X8_fail_q at q56
          obtain ⟨q60, q61, q62, q63⟩ := q56
          have F64 : Fr [(3, 1)] [] τ t58 := Fr_call Fr_rfl q61 (by decide)
          refine r_if_eq (tgt := 88) S dX0_seeNewName_81 (by decide) (fun c65 => ?_) (fun c65 => ?_)
          ·
            refine r_iconst S dX0_seeNewName_88 (by decide) (fun v66 z67 => ?_)
            have r68 := R_eq z67
            exact r_ret S hr hlk X57 ⟨q60, F64, (R_of r68 rfl), (fun h => by exfalso; omega), (QX_b (sNew_b3 ⟨((RT_k hR.1).2.1.mp (by rw [z4]; omega)), p34⟩ (Or.inl (by rw [← q43]; omega))) (by omega) (by rw [q63]; omega) (RC_at (RC_fr hR (fun j => ((q61 1 j (by simp [fz])).trans rfl)) (fun j => ((q61 2 j (by simp [fz])).trans rfl)) (fun j => ((q61 201 j (by simp [fz])).trans rfl)) ((q61 3 5 (by decide)).trans rfl) ((q61 3 6 (by decide)).trans rfl) (fun j => ((q61 4 j (by simp [fz])).trans rfl)) (fun j => ((q61 6 j (by simp [fz])).trans rfl)) (fun j => ((q61 7 j (by simp [fz])).trans rfl)) (fun j => ((q61 8 j (by simp [fz])).trans rfl)) (fun j => ((q61 209 j (by simp [fz])).trans rfl)) (fun j => ((q61 210 j (by simp [fz])).trans rfl)))))⟩ (nr_bool (R_of (lo := 0) (hi := 1) r68 rfl)) dX0_seeNewName_89
          ·
            exfalso; omega
      ·
        have r69 : R (-1) (-1) v40 := ⟨by omega, by omega⟩
        refine r_aload_n S dX0_seeNewName_48 rfl (lv_at hl 0 rfl) ?_
        refine r_get (K := 3) (v := .ref (G.2.2.2.1 4)) S X38 (Nat.le_of_ble_eq_true rfl) rfl lk0_14_0 (fun _ => ⟨_, rfl, rfl⟩) dX0_seeNewName_49 ?_
        refine r_aload_n S dX0_seeNewName_52 rfl (lv_at hl 0 rfl) ?_
        refine r_get (K := 3) (v := .ref (G.2.2.2.1 1)) S X38 (Nat.le_of_ble_eq_true rfl) rfl lk0_38_0 (fun _ => ⟨_, rfl, rfl⟩) dX0_seeNewName_53 ?_
        refine r_getJ (K := 1) S X38 (Nat.le_of_ble_eq_true rfl) rfl lk0_118_7 (fun _ => ⟨_, rfl, rfl⟩) dX0_seeNewName_56 (fun j70 z71 => ?_)
        refine r_ki (q_V (As := [.long j70]) (rest := []) (K := 4) (ci := 2) S X38 (c_X2_manNamed_q l G τ hI j70 (gmn fs.2) (wrd bb fs.1) (RP_mnm hR.2) (by rw [← z71]; exact (RT_low hR.1 ((RT_k hR.1).2.1.mp (by rw [z4]; omega))).2) (RT_low hR.1 ((RT_k hR.1).2.1.mp (by rw [z4]; omega))).1) ck0_130 (Nat.le_of_ble_eq_true rfl) rfl (fun _ => ⟨_, rfl⟩) ⟨_, _, rfl⟩ ⟨Nat.le_of_ble_eq_true rfl, Nat.le_of_ble_eq_true rfl⟩ rfl hl.1 rfl (Nat.le_of_ble_eq_true rfl) dX0_seeNewName_59 ⟨Nat.le_refl 0, Nat.le_refl 0⟩) X38 (fun v75 t74 H lc q72 X73 => ?_)
        unfold po_X2_manNamed_q at q72
        obtain ⟨q76, q77, q78⟩ := q72
        rw [q76] at X73
        refine r_iconst S dX0_seeNewName_62 (by decide) (fun v79 z80 => ?_)
        have r81 := R_eq z80
        refine r_icmp_eq (tgt := 70) S dX0_seeNewName_63 (by decide) (fun c82 => ?_) (fun c82 => ?_)
        ·
          have r83 : R (-1) (-1) v75 := ⟨by omega, by omega⟩
          refine r_iconst S dX0_seeNewName_70 (by decide) (fun v84 z85 => ?_)
          have r86 := R_eq z85
          refine r_istore_n (lv' := [(1, .int v84), (0, .ref (G.2.2.2.1 3))]) S dX0_seeNewName_71 rfl hl (by decide) rfl (fun ls hl => ?_)
          refine r_iload_n S dX0_seeNewName_72 rfl (lv_at hl 0 rfl) ?_
          refine r_if_eq (tgt := 84) S dX0_seeNewName_73 (by decide) (fun c87 => ?_) (fun c87 => ?_)
          ·
            refine r_iconst S dX0_seeNewName_84 (by decide) (fun v88 z89 => ?_)
            have r90 := R_eq z89
            refine r_goto (tgt := 89) S dX0_seeNewName_85 (by decide) ?_
            exact r_ret S hr hlk X73 ⟨hI, Fr_rfl, (R_of r90 rfl), (fun h => (by rw [z2]; exact R_of hf_0 rfl)), (QX_r (sNew_g ⟨((RT_k hR.1).2.1.mp (by rw [z4]; omega)), p34⟩ (fun h => by rw [← q43, ← q78] at h; omega)) (by omega) hR)⟩ (nr_bool (R_of (lo := 0) (hi := 1) r90 rfl)) dX0_seeNewName_89
          ·
            exfalso; omega
        ·
          have r91 : R (0) (9) v75 := ⟨by omega, by omega⟩
          refine r_iconst S dX0_seeNewName_66 (by decide) (fun v92 z93 => ?_)
          have r94 := R_eq z93
          refine r_goto (tgt := 71) S dX0_seeNewName_67 (by decide) ?_
          refine r_istore_n (lv' := [(1, .int v92), (0, .ref (G.2.2.2.1 3))]) S dX0_seeNewName_71 rfl hl (by decide) rfl (fun ls hl => ?_)
          refine r_iload_n S dX0_seeNewName_72 rfl (lv_at hl 0 rfl) ?_
          refine r_if_eq (tgt := 84) S dX0_seeNewName_73 (by decide) (fun c95 => ?_) (fun c95 => ?_)
          ·
            exfalso; omega
          ·
            refine r_aload_n S dX0_seeNewName_76 rfl (lv_at hl 1 rfl) ?_
            refine r_iconst S dX0_seeNewName_77 (by decide) (fun v96 z97 => ?_)
            have r98 := R_eq z97
            refine r_ki (q_U (As := [.int v96]) (rest := []) (K := 3) (ci := 0) S X73 (c_X8_fail_q l G τ hI v96 (R_of (lo := -2147483648) (hi := 2147483647) r98 rfl)) ck0_98_0 (Nat.le_of_ble_eq_true rfl) rfl (fun _ => ⟨_, rfl⟩) ⟨_, _, rfl⟩ ⟨Nat.le_of_ble_eq_true rfl, Nat.le_of_ble_eq_true rfl⟩ rfl hl.1 rfl (Nat.le_of_ble_eq_true rfl) dX0_seeNewName_78 ⟨Nat.le_refl 0, Nat.le_refl 0⟩) X73 (fun v102 t101 H lc q99 X100 => ?_)
            unfold po_X8_fail_q at q99
            obtain ⟨q103, q104, q105, q106⟩ := q99
            have F107 : Fr [(3, 1)] [] τ t101 := Fr_call Fr_rfl q104 (by decide)
            refine r_if_eq (tgt := 88) S dX0_seeNewName_81 (by decide) (fun c108 => ?_) (fun c108 => ?_)
            ·
              refine r_iconst S dX0_seeNewName_88 (by decide) (fun v109 z110 => ?_)
              have r111 := R_eq z110
              exact r_ret S hr hlk X100 ⟨q103, F107, (R_of r111 rfl), (fun h => by exfalso; omega), (QX_b (sNew_b3 ⟨((RT_k hR.1).2.1.mp (by rw [z4]; omega)), p34⟩ (Or.inr (by rw [← q78]; omega))) (by omega) (by rw [q106]; omega) (RC_at (RC_fr hR (fun j => ((q104 1 j (by simp [fz])).trans rfl)) (fun j => ((q104 2 j (by simp [fz])).trans rfl)) (fun j => ((q104 201 j (by simp [fz])).trans rfl)) ((q104 3 5 (by decide)).trans rfl) ((q104 3 6 (by decide)).trans rfl) (fun j => ((q104 4 j (by simp [fz])).trans rfl)) (fun j => ((q104 6 j (by simp [fz])).trans rfl)) (fun j => ((q104 7 j (by simp [fz])).trans rfl)) (fun j => ((q104 8 j (by simp [fz])).trans rfl)) (fun j => ((q104 209 j (by simp [fz])).trans rfl)) (fun j => ((q104 210 j (by simp [fz])).trans rfl)))))⟩ (nr_bool (R_of (lo := 0) (hi := 1) r111 rfl)) dX0_seeNewName_89
            ·
              exfalso; omega
    ·
      have r112 : R (1) (1) v28 := ⟨by omega, by omega⟩
      have p113 := (q31).mp (by omega)
      refine r_aload_n S dX0_seeNewName_24 rfl (lv_at hl 0 rfl) ?_
      refine r_iconst S dX0_seeNewName_25 (by decide) (fun v114 z115 => ?_)
      have r116 := R_eq z115
      refine r_ki (q_U (As := [.int v114]) (rest := []) (K := 3) (ci := 0) S X26 (c_X8_fail_q l G τ hI v114 (R_of (lo := -2147483648) (hi := 2147483647) r116 rfl)) ck0_98_0 (Nat.le_of_ble_eq_true rfl) rfl (fun _ => ⟨_, rfl⟩) ⟨_, _, rfl⟩ ⟨Nat.le_of_ble_eq_true rfl, Nat.le_of_ble_eq_true rfl⟩ rfl hl.1 rfl (Nat.le_of_ble_eq_true rfl) dX0_seeNewName_26 ⟨Nat.le_refl 0, Nat.le_refl 0⟩) X26 (fun v120 t119 H lc q117 X118 => ?_)
      unfold po_X8_fail_q at q117
      obtain ⟨q121, q122, q123, q124⟩ := q117
      have F125 : Fr [(3, 1)] [] τ t119 := Fr_call Fr_rfl q122 (by decide)
      exact r_ret S hr hlk X118 ⟨q121, F125, (R_of q123 rfl), (fun h => by exfalso; omega), (QX_b (sNew_b1 (fun h => h.2 p113)) (by omega) (by rw [q124]; omega) (RC_at (RC_fr hR (fun j => ((q122 1 j (by simp [fz])).trans rfl)) (fun j => ((q122 2 j (by simp [fz])).trans rfl)) (fun j => ((q122 201 j (by simp [fz])).trans rfl)) ((q122 3 5 (by decide)).trans rfl) ((q122 3 6 (by decide)).trans rfl) (fun j => ((q122 4 j (by simp [fz])).trans rfl)) (fun j => ((q122 6 j (by simp [fz])).trans rfl)) (fun j => ((q122 7 j (by simp [fz])).trans rfl)) (fun j => ((q122 8 j (by simp [fz])).trans rfl)) (fun j => ((q122 209 j (by simp [fz])).trans rfl)) (fun j => ((q122 210 j (by simp [fz])).trans rfl)))))⟩ (nr_bool (R_of (lo := 0) (hi := 1) q123 rfl)) dX0_seeNewName_29
