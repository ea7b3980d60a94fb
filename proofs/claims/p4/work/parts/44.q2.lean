def po_X8_takeSign_q (τ : Tau)  (a0 : Int32)  (bb : Nat → Int) (nb : Nat) (fs : FS) (r : Int32) (u : Tau) : Prop := Inv u ∧ Fr [(3, 1), (1, 3), (1, 4), (1, 5), (1, 7), (1, 8)] [201] τ u ∧ R (0) (1) r ∧ QX (sSgn bb nb 59 fs) r u (fun g => RC bb nb u g)
set_option maxHeartbeats 4000000 in
set_option maxRecDepth 100000 in
theorem c_X8_takeSign_q (l : Launch) (G : Gx) (τ : Tau) (hI : Inv τ) (a0 : Int32) (h_a0 : R (59) (59) a0) (bb : Nat → Int) (nb : Nat) (fs : FS) (hR : RC bb nb τ fs) : Ci l G yX8_takeSign cX8_takeSign 2 (some .boolean) 1 24 [.ref (G.2.2.2.1 3), .int a0] τ (po_X8_takeSign_q τ  a0  bb nb fs) := by
  unfold Ci
  refine C_of (own := RX8) (by decide) rfl (Nat.le_of_ble_eq_true rfl) ?_
  intro p e s m below meth c ls S hr hlk X hl
  have hl : lv_has ls 2 [(0, .ref (G.2.2.2.1 3)), (1, .int a0)] := hl
  refine r_aload_n S dX8_takeSign_0 rfl (lv_at hl 0 rfl) ?_
  refine r_get (K := 3) (v := .ref (G.2.2.2.1 1)) S X (Nat.le_of_ble_eq_true rfl) rfl lk8_9_0 (fun _ => ⟨_, rfl, rfl⟩) dX8_takeSign_1 ?_
  refine r_iload_n S dX8_takeSign_4 rfl (lv_at hl 1 rfl) ?_
  refine r_ki (q_V (As := [.int a0]) (rest := []) (K := 1) (ci := 7) S X (c_X7_isSigned_q l G τ hI a0 (R_of (lo := 0) (hi := 65535) h_a0 rfl) bb nb 900 fs.1 hR.1) ck8_25 (Nat.le_of_ble_eq_true rfl) rfl (fun _ => ⟨_, rfl⟩) ⟨_, _, rfl⟩ ⟨Nat.le_of_ble_eq_true rfl, Nat.le_of_ble_eq_true rfl⟩ rfl hl.1 rfl (Nat.le_of_ble_eq_true rfl) dX8_takeSign_5 ⟨Nat.le_refl 0, Nat.le_refl 0⟩) X (fun v4 t3 H lc q1 X2 => ?_)
  unfold po_X7_isSigned_q at q1
  obtain ⟨q5, q6, q7⟩ := q1
  rw [q5] at X2
  refine r_if_ne (tgt := 17) S dX8_takeSign_8 (by decide) (fun c8 => ?_) (fun c8 => ?_)
  ·
    have r9 : R (1) (1) v4 := ⟨by omega, by omega⟩
    have p10 := (q7).mp (by omega)
    refine r_aload_n S dX8_takeSign_17 rfl (lv_at hl 0 rfl) ?_
    refine r_get (K := 3) (v := .ref (G.2.2.2.1 1)) S X2 (Nat.le_of_ble_eq_true rfl) rfl lk8_9_0 (fun _ => ⟨_, rfl, rfl⟩) dX8_takeSign_18 ?_
    refine r_kv (q_V (As := []) (rest := []) (K := 1) (ci := 7) S X2 (c_X7_step_q l G τ hI bb nb 900 fs.1.2.2 (RT_st hR.1 (Or.inr (Or.inr p10.1))).1 (RT_st hR.1 (Or.inr (Or.inr p10.1))).2.1 (RT_st hR.1 (Or.inr (Or.inr p10.1))).2.2) ck8_33 (Nat.le_of_ble_eq_true rfl) rfl (fun _ => ⟨_, rfl⟩) ⟨_, _, rfl⟩ ⟨Nat.le_of_ble_eq_true rfl, Nat.le_of_ble_eq_true rfl⟩ rfl hl.1 rfl (Nat.le_of_ble_eq_true rfl) dX8_takeSign_21 ⟨Nat.le_refl 0, Nat.le_refl 0⟩) X2 (fun t13 H lc q11 X12 => ?_)
    unfold po_X7_step_q at q11
    obtain ⟨q14, q15, q16⟩ := q11
    have F17 : Fr [(3, 1), (1, 3), (1, 4), (1, 5), (1, 7), (1, 8)] [201] τ t13 := Fr_call Fr_rfl q15 (by decide)
    have hR18 : RC bb nb t13 (stp bb nb fs) := ⟨q16, RP_fr hR.2 ((q15 3 5 (by decide)).trans rfl) ((q15 3 6 (by decide)).trans rfl) (fun j => ((q15 4 j (by simp [fz])).trans rfl)) (fun j => ((q15 6 j (by simp [fz])).trans rfl)) (fun j => ((q15 7 j (by simp [fz])).trans rfl)) (fun j => ((q15 8 j (by simp [fz])).trans rfl)) (fun j => ((q15 209 j (by simp [fz])).trans rfl)) (fun j => ((q15 210 j (by simp [fz])).trans rfl))⟩
    refine r_iconst S dX8_takeSign_24 (by decide) (fun v19 z20 => ?_)
    have r21 := R_eq z20
    exact r_ret S hr hlk X12 ⟨q14, F17, (R_of r21 rfl), (QX_r (sSgn_g ⟨p10.1, by have q := p10.2; omega⟩) (by omega) hR18)⟩ (nr_bool (R_of (lo := 0) (hi := 1) r21 rfl)) dX8_takeSign_25
  ·
    have r22 : R (0) (0) v4 := ⟨by omega, by omega⟩
    have p23 := (iff_n q7) (by omega)
    refine r_aload_n S dX8_takeSign_11 rfl (lv_at hl 0 rfl) ?_
    refine r_iconst S dX8_takeSign_12 (by decide) (fun v24 z25 => ?_)
    have r26 := R_eq z25
    refine r_ki (q_U (As := [.int v24]) (rest := []) (K := 3) (ci := 0) S X2 (c_X8_fail_q l G τ hI v24 (R_of (lo := -2147483648) (hi := 2147483647) r26 rfl)) ck8_29_0 (Nat.le_of_ble_eq_true rfl) rfl (fun _ => ⟨_, rfl⟩) ⟨_, _, rfl⟩ ⟨Nat.le_of_ble_eq_true rfl, Nat.le_of_ble_eq_true rfl⟩ rfl hl.1 rfl (Nat.le_of_ble_eq_true rfl) dX8_takeSign_13 ⟨Nat.le_refl 0, Nat.le_refl 0⟩) X2 (fun v30 t29 H lc q27 X28 => ?_)
    unfold po_X8_fail_q at q27
    obtain ⟨q31, q32, q33, q34⟩ := q27
    have F35 : Fr [(3, 1), (1, 3), (1, 4), (1, 5), (1, 7), (1, 8)] [201] τ t29 := Fr_call Fr_rfl q32 (by decide)
    exact r_ret S hr hlk X28 ⟨q31, F35, (R_of q33 rfl), (QX_b (sSgn_b (fun h => p23 ⟨h.1, by have q := h.2; omega⟩)) (by omega) (by rw [q34]; omega) (RC_at (RC_fr hR (fun j => ((q32 1 j (by simp [fz])).trans rfl)) (fun j => ((q32 2 j (by simp [fz])).trans rfl)) (fun j => ((q32 201 j (by simp [fz])).trans rfl)) ((q32 3 5 (by decide)).trans rfl) ((q32 3 6 (by decide)).trans rfl) (fun j => ((q32 4 j (by simp [fz])).trans rfl)) (fun j => ((q32 6 j (by simp [fz])).trans rfl)) (fun j => ((q32 7 j (by simp [fz])).trans rfl)) (fun j => ((q32 8 j (by simp [fz])).trans rfl)) (fun j => ((q32 209 j (by simp [fz])).trans rfl)) (fun j => ((q32 210 j (by simp [fz])).trans rfl)))))⟩ (nr_bool (R_of (lo := 0) (hi := 1) q33 rfl)) dX8_takeSign_16
def po_X8_takeNumber_q_1_8 (τ : Tau)  (a0 a1 : Int32)  (bb : Nat → Int) (nb : Nat) (fs : FS) (r : Int32) (u : Tau) : Prop := Inv u ∧ Fr [(3, 1), (3, 2), (1, 3), (1, 4), (1, 5), (1, 7), (1, 8)] [201] τ u ∧ R (0) (1) r ∧ (r.toInt = 1 → R (1) (8) (u 3 2)) ∧ QX (sNum bb nb 1 8 fs) r u (fun g => (u 3 2).toInt = g.1 ∧ RC bb nb u g.2)
set_option maxHeartbeats 4000000 in
set_option maxRecDepth 100000 in
theorem c_X8_takeNumber_q_1_8 (l : Launch) (G : Gx) (τ : Tau) (hI : Inv τ) (a0 : Int32) (a1 : Int32) (h_a0 : R (1) (1) a0) (h_a1 : R (8) (8) a1) (bb : Nat → Int) (nb : Nat) (fs : FS) (hR : RC bb nb τ fs) : Ci l G yX8_takeNumber cX8_takeNumber 3 (some .boolean) 1 24 [.ref (G.2.2.2.1 3), .int a0, .int a1] τ (po_X8_takeNumber_q_1_8 τ  a0 a1  bb nb fs) := by
  unfold Ci
  refine C_of (own := RX8) (by decide) rfl (Nat.le_of_ble_eq_true rfl) ?_
  intro p e s m below meth c ls S hr hlk X hl
  have hl : lv_has ls 3 [(0, .ref (G.2.2.2.1 3)), (1, .int a0), (2, .int a1)] := hl
  refine r_aload_n S dX8_takeNumber_0 rfl (lv_at hl 0 rfl) ?_
  refine r_get (K := 3) (v := .ref (G.2.2.2.1 1)) S X (Nat.le_of_ble_eq_true rfl) rfl lk8_9_0 (fun _ => ⟨_, rfl, rfl⟩) dX8_takeNumber_1 ?_
  refine r_getn (K := 1) S X (Nat.le_of_ble_eq_true rfl) rfl lk8_36_7 (fun _ => ⟨_, rfl, rfl⟩) dX8_takeNumber_4 (fun v1 z2 => ?_)
  have r3 : R (0) (4) v1 := rd hI rfl z2
  refine r_iconst S dX8_takeNumber_7 (by decide) (fun v4 z5 => ?_)
  have r6 := R_eq z5
  refine r_icmp_eq (tgt := 17) S dX8_takeNumber_8 (by decide) (fun c7 => ?_) (fun c7 => ?_)
  ·
    have r8 : R (3) (3) v1 := ⟨by omega, by omega⟩
    refine r_aload_n S dX8_takeNumber_17 rfl (lv_at hl 0 rfl) ?_
    refine r_get (K := 3) (v := .ref (G.2.2.2.1 1)) S X (Nat.le_of_ble_eq_true rfl) rfl lk8_9_0 (fun _ => ⟨_, rfl, rfl⟩) dX8_takeNumber_18 ?_
    refine r_getn (K := 1) S X (Nat.le_of_ble_eq_true rfl) rfl lk8_39_7 (fun _ => ⟨_, rfl, rfl⟩) dX8_takeNumber_21 (fun v9 z10 => ?_)
    have r12 := R_any v9
    refine r_iload_n S dX8_takeNumber_24 rfl (lv_at hl 1 rfl) ?_
    refine r_icmp_lt (tgt := 39) S dX8_takeNumber_25 (by decide) (fun c13 => ?_) (fun c13 => ?_)
    ·
      have r14 : R (-2147483648) (0) v9 := ⟨by omega, by omega⟩
      refine r_aload_n S dX8_takeNumber_39 rfl (lv_at hl 0 rfl) ?_
      refine r_iconst S dX8_takeNumber_40 (by decide) (fun v15 z16 => ?_)
      have r17 := R_eq z16
      refine r_ki (q_U (As := [.int v15]) (rest := []) (K := 3) (ci := 0) S X (c_X8_fail_q l G τ hI v15 (R_of (lo := -2147483648) (hi := 2147483647) r17 rfl)) ck8_29_0 (Nat.le_of_ble_eq_true rfl) rfl (fun _ => ⟨_, rfl⟩) ⟨_, _, rfl⟩ ⟨Nat.le_of_ble_eq_true rfl, Nat.le_of_ble_eq_true rfl⟩ rfl hl.1 rfl (Nat.le_of_ble_eq_true rfl) dX8_takeNumber_41 ⟨Nat.le_refl 0, Nat.le_refl 0⟩) X (fun v21 t20 H lc q18 X19 => ?_)
      unfold po_X8_fail_q at q18
      obtain ⟨q22, q23, q24, q25⟩ := q18
      have F26 : Fr [(3, 1), (3, 2), (1, 3), (1, 4), (1, 5), (1, 7), (1, 8)] [201] τ t20 := Fr_call Fr_rfl q23 (by decide)
      exact r_ret S hr hlk X19 ⟨q22, F26, (R_of q24 rfl), (fun h => by exfalso; omega), (QX_b (sNum_b2 ((RT_k hR.1).2.2.1.mp (by rw [z2]; omega)) (by rw [← RT_nm hR.1 ((RT_k hR.1).2.2.1.mp (by rw [z2]; omega)), z10]; omega)) (by omega) (by rw [q25]; omega) (RC_at (RC_fr hR (fun j => ((q23 1 j (by simp [fz])).trans rfl)) (fun j => ((q23 2 j (by simp [fz])).trans rfl)) (fun j => ((q23 201 j (by simp [fz])).trans rfl)) ((q23 3 5 (by decide)).trans rfl) ((q23 3 6 (by decide)).trans rfl) (fun j => ((q23 4 j (by simp [fz])).trans rfl)) (fun j => ((q23 6 j (by simp [fz])).trans rfl)) (fun j => ((q23 7 j (by simp [fz])).trans rfl)) (fun j => ((q23 8 j (by simp [fz])).trans rfl)) (fun j => ((q23 209 j (by simp [fz])).trans rfl)) (fun j => ((q23 210 j (by simp [fz])).trans rfl)))))⟩ (nr_bool (R_of (lo := 0) (hi := 1) q24 rfl)) dX8_takeNumber_44
    ·
      have r27 : R (1) (2147483647) v9 := ⟨by omega, by omega⟩
      refine r_aload_n S dX8_takeNumber_28 rfl (lv_at hl 0 rfl) ?_
      refine r_get (K := 3) (v := .ref (G.2.2.2.1 1)) S X (Nat.le_of_ble_eq_true rfl) rfl lk8_9_0 (fun _ => ⟨_, rfl, rfl⟩) dX8_takeNumber_29 ?_
      refine r_geti (K := 1) S X (Nat.le_of_ble_eq_true rfl) rfl lk8_39_7 (fun _ => ⟨_, rfl, rfl⟩) z10 dX8_takeNumber_32 ?_
      refine r_iload_n S dX8_takeNumber_35 rfl (lv_at hl 2 rfl) ?_
      refine r_icmp_le (tgt := 45) S dX8_takeNumber_36 (by decide) (fun c28 => ?_) (fun c28 => ?_)
      ·
        have r29 : R (1) (8) v9 := ⟨by omega, by omega⟩
        refine r_aload_n S dX8_takeNumber_45 rfl (lv_at hl 0 rfl) ?_
        refine r_aload_n S dX8_takeNumber_46 rfl (lv_at hl 0 rfl) ?_
        refine r_get (K := 3) (v := .ref (G.2.2.2.1 1)) S X (Nat.le_of_ble_eq_true rfl) rfl lk8_9_0 (fun _ => ⟨_, rfl, rfl⟩) dX8_takeNumber_47 ?_
        refine r_geti (K := 1) S X (Nat.le_of_ble_eq_true rfl) rfl lk8_39_7 (fun _ => ⟨_, rfl, rfl⟩) z10 dX8_takeNumber_50 ?_
        refine r_put (K := 3) (ty := .int) S X (Nat.le_of_ble_eq_true rfl) rfl lk8_42_0 (fun _ => ⟨_, rfl, Nat.le_of_ble_eq_true rfl, rfl⟩) (fun _ _ _ h => by cases h; exact ⟨rfl, rfl⟩) rfl rfl dX8_takeNumber_53 (fun t30 H lc M31 X32 => ?_)
        have I33 := Inv_mu hI M31 (R_any v9)
        have F34 : Fr [(3, 1), (3, 2), (1, 3), (1, 4), (1, 5), (1, 7), (1, 8)] [201] τ t30 := Fr_mu Fr_rfl M31 (by decide)
        refine r_aload_n S dX8_takeNumber_56 rfl (lv_at hl 0 rfl) ?_
        refine r_get (K := 3) (v := .ref (G.2.2.2.1 1)) S X32 (Nat.le_of_ble_eq_true rfl) rfl lk8_9_0 (fun _ => ⟨_, rfl, rfl⟩) dX8_takeNumber_57 ?_
        refine r_kv (q_V (As := []) (rest := []) (K := 1) (ci := 7) S X32 (c_X7_step_q l G t30 I33 bb nb 900 fs.1.2.2 (RT_st (RC_fr hR (fun j => ((M31.2 1 j (Or.inl (by decide))).trans rfl)) (fun j => ((M31.2 2 j (Or.inl (by decide))).trans rfl)) (fun j => ((M31.2 201 j (Or.inl (by decide))).trans rfl)) ((M31.2 3 5 (Or.inr (by decide))).trans rfl) ((M31.2 3 6 (Or.inr (by decide))).trans rfl) (fun j => ((M31.2 4 j (Or.inl (by decide))).trans rfl)) (fun j => ((M31.2 6 j (Or.inl (by decide))).trans rfl)) (fun j => ((M31.2 7 j (Or.inl (by decide))).trans rfl)) (fun j => ((M31.2 8 j (Or.inl (by decide))).trans rfl)) (fun j => ((M31.2 209 j (Or.inl (by decide))).trans rfl)) (fun j => ((M31.2 210 j (Or.inl (by decide))).trans rfl))).1 (Or.inr (Or.inl ((RT_k hR.1).2.2.1.mp (by rw [z2]; omega))))).1 (RT_st (RC_fr hR (fun j => ((M31.2 1 j (Or.inl (by decide))).trans rfl)) (fun j => ((M31.2 2 j (Or.inl (by decide))).trans rfl)) (fun j => ((M31.2 201 j (Or.inl (by decide))).trans rfl)) ((M31.2 3 5 (Or.inr (by decide))).trans rfl) ((M31.2 3 6 (Or.inr (by decide))).trans rfl) (fun j => ((M31.2 4 j (Or.inl (by decide))).trans rfl)) (fun j => ((M31.2 6 j (Or.inl (by decide))).trans rfl)) (fun j => ((M31.2 7 j (Or.inl (by decide))).trans rfl)) (fun j => ((M31.2 8 j (Or.inl (by decide))).trans rfl)) (fun j => ((M31.2 209 j (Or.inl (by decide))).trans rfl)) (fun j => ((M31.2 210 j (Or.inl (by decide))).trans rfl))).1 (Or.inr (Or.inl ((RT_k hR.1).2.2.1.mp (by rw [z2]; omega))))).2.1 (RT_st (RC_fr hR (fun j => ((M31.2 1 j (Or.inl (by decide))).trans rfl)) (fun j => ((M31.2 2 j (Or.inl (by decide))).trans rfl)) (fun j => ((M31.2 201 j (Or.inl (by decide))).trans rfl)) ((M31.2 3 5 (Or.inr (by decide))).trans rfl) ((M31.2 3 6 (Or.inr (by decide))).trans rfl) (fun j => ((M31.2 4 j (Or.inl (by decide))).trans rfl)) (fun j => ((M31.2 6 j (Or.inl (by decide))).trans rfl)) (fun j => ((M31.2 7 j (Or.inl (by decide))).trans rfl)) (fun j => ((M31.2 8 j (Or.inl (by decide))).trans rfl)) (fun j => ((M31.2 209 j (Or.inl (by decide))).trans rfl)) (fun j => ((M31.2 210 j (Or.inl (by decide))).trans rfl))).1 (Or.inr (Or.inl ((RT_k hR.1).2.2.1.mp (by rw [z2]; omega))))).2.2) ck8_33 (Nat.le_of_ble_eq_true rfl) rfl (fun _ => ⟨_, rfl⟩) ⟨_, _, rfl⟩ ⟨Nat.le_of_ble_eq_true rfl, Nat.le_of_ble_eq_true rfl⟩ rfl hl.1 rfl (Nat.le_of_ble_eq_true rfl) dX8_takeNumber_60 ⟨Nat.le_refl 0, Nat.le_refl 0⟩) X32 (fun t37 H lc q35 X36 => ?_)
        unfold po_X7_step_q at q35
        obtain ⟨q38, q39, q40⟩ := q35
        have F41 : Fr [(3, 1), (3, 2), (1, 3), (1, 4), (1, 5), (1, 7), (1, 8)] [201] τ t37 := Fr_call F34 q39 (by decide)
        have hR42 : RC bb nb t37 (stp bb nb fs) := ⟨q40, RP_fr hR.2 ((q39 3 5 (by decide)).trans ((M31.2 3 5 (Or.inr (by decide))).trans rfl)) ((q39 3 6 (by decide)).trans ((M31.2 3 6 (Or.inr (by decide))).trans rfl)) (fun j => ((q39 4 j (by simp [fz])).trans ((M31.2 4 j (Or.inl (by decide))).trans rfl))) (fun j => ((q39 6 j (by simp [fz])).trans ((M31.2 6 j (Or.inl (by decide))).trans rfl))) (fun j => ((q39 7 j (by simp [fz])).trans ((M31.2 7 j (Or.inl (by decide))).trans rfl))) (fun j => ((q39 8 j (by simp [fz])).trans ((M31.2 8 j (Or.inl (by decide))).trans rfl))) (fun j => ((q39 209 j (by simp [fz])).trans ((M31.2 209 j (Or.inl (by decide))).trans rfl))) (fun j => ((q39 210 j (by simp [fz])).trans ((M31.2 210 j (Or.inl (by decide))).trans rfl)))⟩
        refine r_iconst S dX8_takeNumber_63 (by decide) (fun v43 z44 => ?_)
        have r45 := R_eq z44
        exact r_ret S hr hlk X36 ⟨q38, F41, (R_of r45 rfl), (fun h => (by rw [((q39 3 2 (by decide)).trans M31.1)]; exact R_of r29 rfl)), (QX_r (sNum_g ((RT_k hR.1).2.2.1.mp (by rw [z2]; omega)) (by rw [← RT_nm hR.1 ((RT_k hR.1).2.2.1.mp (by rw [z2]; omega)), z10]; omega)) (by omega) ⟨show (t37 3 2).toInt = nbr bb fs.1 by rw [((q39 3 2 (by decide)).trans M31.1), ← RT_nm hR.1 ((RT_k hR.1).2.2.1.mp (by rw [z2]; omega)), z10], hR42⟩)⟩ (nr_bool (R_of (lo := 0) (hi := 1) r45 rfl)) dX8_takeNumber_64
      ·
        have r46 : R (9) (2147483647) v9 := ⟨by omega, by omega⟩
        refine r_aload_n S dX8_takeNumber_39 rfl (lv_at hl 0 rfl) ?_
        refine r_iconst S dX8_takeNumber_40 (by decide) (fun v47 z48 => ?_)
        have r49 := R_eq z48
        refine r_ki (q_U (As := [.int v47]) (rest := []) (K := 3) (ci := 0) S X (c_X8_fail_q l G τ hI v47 (R_of (lo := -2147483648) (hi := 2147483647) r49 rfl)) ck8_29_0 (Nat.le_of_ble_eq_true rfl) rfl (fun _ => ⟨_, rfl⟩) ⟨_, _, rfl⟩ ⟨Nat.le_of_ble_eq_true rfl, Nat.le_of_ble_eq_true rfl⟩ rfl hl.1 rfl (Nat.le_of_ble_eq_true rfl) dX8_takeNumber_41 ⟨Nat.le_refl 0, Nat.le_refl 0⟩) X (fun v53 t52 H lc q50 X51 => ?_)
        unfold po_X8_fail_q at q50
        obtain ⟨q54, q55, q56, q57⟩ := q50
        have F58 : Fr [(3, 1), (3, 2), (1, 3), (1, 4), (1, 5), (1, 7), (1, 8)] [201] τ t52 := Fr_call Fr_rfl q55 (by decide)
        exact r_ret S hr hlk X51 ⟨q54, F58, (R_of q56 rfl), (fun h => by exfalso; omega), (QX_b (sNum_b2 ((RT_k hR.1).2.2.1.mp (by rw [z2]; omega)) (by rw [← RT_nm hR.1 ((RT_k hR.1).2.2.1.mp (by rw [z2]; omega)), z10]; omega)) (by omega) (by rw [q57]; omega) (RC_at (RC_fr hR (fun j => ((q55 1 j (by simp [fz])).trans rfl)) (fun j => ((q55 2 j (by simp [fz])).trans rfl)) (fun j => ((q55 201 j (by simp [fz])).trans rfl)) ((q55 3 5 (by decide)).trans rfl) ((q55 3 6 (by decide)).trans rfl) (fun j => ((q55 4 j (by simp [fz])).trans rfl)) (fun j => ((q55 6 j (by simp [fz])).trans rfl)) (fun j => ((q55 7 j (by simp [fz])).trans rfl)) (fun j => ((q55 8 j (by simp [fz])).trans rfl)) (fun j => ((q55 209 j (by simp [fz])).trans rfl)) (fun j => ((q55 210 j (by simp [fz])).trans rfl)))))⟩ (nr_bool (R_of (lo := 0) (hi := 1) q56 rfl)) dX8_takeNumber_44
  ·
    refine r_aload_n S dX8_takeNumber_11 rfl (lv_at hl 0 rfl) ?_
    refine r_iconst S dX8_takeNumber_12 (by decide) (fun v59 z60 => ?_)
    have r61 := R_eq z60
    refine r_ki (q_U (As := [.int v59]) (rest := []) (K := 3) (ci := 0) S X (c_X8_fail_q l G τ hI v59 (R_of (lo := -2147483648) (hi := 2147483647) r61 rfl)) ck8_29_0 (Nat.le_of_ble_eq_true rfl) rfl (fun _ => ⟨_, rfl⟩) ⟨_, _, rfl⟩ ⟨Nat.le_of_ble_eq_true rfl, Nat.le_of_ble_eq_true rfl⟩ rfl hl.1 rfl (Nat.le_of_ble_eq_true rfl) dX8_takeNumber_13 ⟨Nat.le_refl 0, Nat.le_refl 0⟩) X (fun v65 t64 H lc q62 X63 => ?_)
    unfold po_X8_fail_q at q62
    obtain ⟨q66, q67, q68, q69⟩ := q62
    have F70 : Fr [(3, 1), (3, 2), (1, 3), (1, 4), (1, 5), (1, 7), (1, 8)] [201] τ t64 := Fr_call Fr_rfl q67 (by decide)
    exact r_ret S hr hlk X63 ⟨q66, F70, (R_of q68 rfl), (fun h => by exfalso; omega), (QX_b (sNum_b1 (fun h => absurd ((RT_k hR.1).2.2.1.mpr h) (by rw [z2]; omega))) (by omega) (by rw [q69]; omega) (RC_at (RC_fr hR (fun j => ((q67 1 j (by simp [fz])).trans rfl)) (fun j => ((q67 2 j (by simp [fz])).trans rfl)) (fun j => ((q67 201 j (by simp [fz])).trans rfl)) ((q67 3 5 (by decide)).trans rfl) ((q67 3 6 (by decide)).trans rfl) (fun j => ((q67 4 j (by simp [fz])).trans rfl)) (fun j => ((q67 6 j (by simp [fz])).trans rfl)) (fun j => ((q67 7 j (by simp [fz])).trans rfl)) (fun j => ((q67 8 j (by simp [fz])).trans rfl)) (fun j => ((q67 209 j (by simp [fz])).trans rfl)) (fun j => ((q67 210 j (by simp [fz])).trans rfl)))))⟩ (nr_bool (R_of (lo := 0) (hi := 1) q68 rfl)) dX8_takeNumber_16
def po_X8_takeNumber_q_0_9 (τ : Tau)  (a0 a1 : Int32)  (bb : Nat → Int) (nb : Nat) (fs : FS) (r : Int32) (u : Tau) : Prop := Inv u ∧ Fr [(3, 1), (3, 2), (1, 3), (1, 4), (1, 5), (1, 7), (1, 8)] [201] τ u ∧ R (0) (1) r ∧ (r.toInt = 1 → R (0) (9) (u 3 2)) ∧ QX (sNum bb nb 0 9 fs) r u (fun g => (u 3 2).toInt = g.1 ∧ RC bb nb u g.2)
set_option maxHeartbeats 4000000 in
set_option maxRecDepth 100000 in
theorem c_X8_takeNumber_q_0_9 (l : Launch) (G : Gx) (τ : Tau) (hI : Inv τ) (a0 : Int32) (a1 : Int32) (h_a0 : R (0) (0) a0) (h_a1 : R (9) (9) a1) (bb : Nat → Int) (nb : Nat) (fs : FS) (hR : RC bb nb τ fs) : Ci l G yX8_takeNumber cX8_takeNumber 3 (some .boolean) 1 24 [.ref (G.2.2.2.1 3), .int a0, .int a1] τ (po_X8_takeNumber_q_0_9 τ  a0 a1  bb nb fs) := by
  unfold Ci
  refine C_of (own := RX8) (by decide) rfl (Nat.le_of_ble_eq_true rfl) ?_
  intro p e s m below meth c ls S hr hlk X hl
  have hl : lv_has ls 3 [(0, .ref (G.2.2.2.1 3)), (1, .int a0), (2, .int a1)] := hl
  refine r_aload_n S dX8_takeNumber_0 rfl (lv_at hl 0 rfl) ?_
  refine r_get (K := 3) (v := .ref (G.2.2.2.1 1)) S X (Nat.le_of_ble_eq_true rfl) rfl lk8_9_0 (fun _ => ⟨_, rfl, rfl⟩) dX8_takeNumber_1 ?_
  refine r_getn (K := 1) S X (Nat.le_of_ble_eq_true rfl) rfl lk8_36_7 (fun _ => ⟨_, rfl, rfl⟩) dX8_takeNumber_4 (fun v1 z2 => ?_)
  have r3 : R (0) (4) v1 := rd hI rfl z2
  refine r_iconst S dX8_takeNumber_7 (by decide) (fun v4 z5 => ?_)
  have r6 := R_eq z5
  refine r_icmp_eq (tgt := 17) S dX8_takeNumber_8 (by decide) (fun c7 => ?_) (fun c7 => ?_)
  ·
    have r8 : R (3) (3) v1 := ⟨by omega, by omega⟩
    refine r_aload_n S dX8_takeNumber_17 rfl (lv_at hl 0 rfl) ?_
    refine r_get (K := 3) (v := .ref (G.2.2.2.1 1)) S X (Nat.le_of_ble_eq_true rfl) rfl lk8_9_0 (fun _ => ⟨_, rfl, rfl⟩) dX8_takeNumber_18 ?_
    refine r_getn (K := 1) S X (Nat.le_of_ble_eq_true rfl) rfl lk8_39_7 (fun _ => ⟨_, rfl, rfl⟩) dX8_takeNumber_21 (fun v9 z10 => ?_)
    have r12 := R_any v9
    refine r_iload_n S dX8_takeNumber_24 rfl (lv_at hl 1 rfl) ?_
    refine r_icmp_lt (tgt := 39) S dX8_takeNumber_25 (by decide) (fun c13 => ?_) (fun c13 => ?_)
    ·
      have r14 : R (-2147483648) (-1) v9 := ⟨by omega, by omega⟩
      refine r_aload_n S dX8_takeNumber_39 rfl (lv_at hl 0 rfl) ?_
      refine r_iconst S dX8_takeNumber_40 (by decide) (fun v15 z16 => ?_)
      have r17 := R_eq z16
      refine r_ki (q_U (As := [.int v15]) (rest := []) (K := 3) (ci := 0) S X (c_X8_fail_q l G τ hI v15 (R_of (lo := -2147483648) (hi := 2147483647) r17 rfl)) ck8_29_0 (Nat.le_of_ble_eq_true rfl) rfl (fun _ => ⟨_, rfl⟩) ⟨_, _, rfl⟩ ⟨Nat.le_of_ble_eq_true rfl, Nat.le_of_ble_eq_true rfl⟩ rfl hl.1 rfl (Nat.le_of_ble_eq_true rfl) dX8_takeNumber_41 ⟨Nat.le_refl 0, Nat.le_refl 0⟩) X (fun v21 t20 H lc q18 X19 => ?_)
      unfold po_X8_fail_q at q18
      obtain ⟨q22, q23, q24, q25⟩ := q18
      have F26 : Fr [(3, 1), (3, 2), (1, 3), (1, 4), (1, 5), (1, 7), (1, 8)] [201] τ t20 := Fr_call Fr_rfl q23 (by decide)
      exact r_ret S hr hlk X19 ⟨q22, F26, (R_of q24 rfl), (fun h => by exfalso; omega), (QX_b (sNum_b2 ((RT_k hR.1).2.2.1.mp (by rw [z2]; omega)) (by rw [← RT_nm hR.1 ((RT_k hR.1).2.2.1.mp (by rw [z2]; omega)), z10]; omega)) (by omega) (by rw [q25]; omega) (RC_at (RC_fr hR (fun j => ((q23 1 j (by simp [fz])).trans rfl)) (fun j => ((q23 2 j (by simp [fz])).trans rfl)) (fun j => ((q23 201 j (by simp [fz])).trans rfl)) ((q23 3 5 (by decide)).trans rfl) ((q23 3 6 (by decide)).trans rfl) (fun j => ((q23 4 j (by simp [fz])).trans rfl)) (fun j => ((q23 6 j (by simp [fz])).trans rfl)) (fun j => ((q23 7 j (by simp [fz])).trans rfl)) (fun j => ((q23 8 j (by simp [fz])).trans rfl)) (fun j => ((q23 209 j (by simp [fz])).trans rfl)) (fun j => ((q23 210 j (by simp [fz])).trans rfl)))))⟩ (nr_bool (R_of (lo := 0) (hi := 1) q24 rfl)) dX8_takeNumber_44
    ·
      have r27 : R (0) (2147483647) v9 := ⟨by omega, by omega⟩
      refine r_aload_n S dX8_takeNumber_28 rfl (lv_at hl 0 rfl) ?_
      refine r_get (K := 3) (v := .ref (G.2.2.2.1 1)) S X (Nat.le_of_ble_eq_true rfl) rfl lk8_9_0 (fun _ => ⟨_, rfl, rfl⟩) dX8_takeNumber_29 ?_
      refine r_geti (K := 1) S X (Nat.le_of_ble_eq_true rfl) rfl lk8_39_7 (fun _ => ⟨_, rfl, rfl⟩) z10 dX8_takeNumber_32 ?_
      refine r_iload_n S dX8_takeNumber_35 rfl (lv_at hl 2 rfl) ?_
      refine r_icmp_le (tgt := 45) S dX8_takeNumber_36 (by decide) (fun c28 => ?_) (fun c28 => ?_)
      ·
        have r29 : R (0) (9) v9 := ⟨by omega, by omega⟩
        refine r_aload_n S dX8_takeNumber_45 rfl (lv_at hl 0 rfl) ?_
        refine r_aload_n S dX8_takeNumber_46 rfl (lv_at hl 0 rfl) ?_
        refine r_get (K := 3) (v := .ref (G.2.2.2.1 1)) S X (Nat.le_of_ble_eq_true rfl) rfl lk8_9_0 (fun _ => ⟨_, rfl, rfl⟩) dX8_takeNumber_47 ?_
        refine r_geti (K := 1) S X (Nat.le_of_ble_eq_true rfl) rfl lk8_39_7 (fun _ => ⟨_, rfl, rfl⟩) z10 dX8_takeNumber_50 ?_
        refine r_put (K := 3) (ty := .int) S X (Nat.le_of_ble_eq_true rfl) rfl lk8_42_0 (fun _ => ⟨_, rfl, Nat.le_of_ble_eq_true rfl, rfl⟩) (fun _ _ _ h => by cases h; exact ⟨rfl, rfl⟩) rfl rfl dX8_takeNumber_53 (fun t30 H lc M31 X32 => ?_)
        have I33 := Inv_mu hI M31 (R_any v9)
        have F34 : Fr [(3, 1), (3, 2), (1, 3), (1, 4), (1, 5), (1, 7), (1, 8)] [201] τ t30 := Fr_mu Fr_rfl M31 (by decide)
        refine r_aload_n S dX8_takeNumber_56 rfl (lv_at hl 0 rfl) ?_
        refine r_get (K := 3) (v := .ref (G.2.2.2.1 1)) S X32 (Nat.le_of_ble_eq_true rfl) rfl lk8_9_0 (fun _ => ⟨_, rfl, rfl⟩) dX8_takeNumber_57 ?_
        refine r_kv (q_V (As := []) (rest := []) (K := 1) (ci := 7) S X32 (c_X7_step_q l G t30 I33 bb nb 900 fs.1.2.2 (RT_st (RC_fr hR (fun j => ((M31.2 1 j (Or.inl (by decide))).trans rfl)) (fun j => ((M31.2 2 j (Or.inl (by decide))).trans rfl)) (fun j => ((M31.2 201 j (Or.inl (by decide))).trans rfl)) ((M31.2 3 5 (Or.inr (by decide))).trans rfl) ((M31.2 3 6 (Or.inr (by decide))).trans rfl) (fun j => ((M31.2 4 j (Or.inl (by decide))).trans rfl)) (fun j => ((M31.2 6 j (Or.inl (by decide))).trans rfl)) (fun j => ((M31.2 7 j (Or.inl (by decide))).trans rfl)) (fun j => ((M31.2 8 j (Or.inl (by decide))).trans rfl)) (fun j => ((M31.2 209 j (Or.inl (by decide))).trans rfl)) (fun j => ((M31.2 210 j (Or.inl (by decide))).trans rfl))).1 (Or.inr (Or.inl ((RT_k hR.1).2.2.1.mp (by rw [z2]; omega))))).1 (RT_st (RC_fr hR (fun j => ((M31.2 1 j (Or.inl (by decide))).trans rfl)) (fun j => ((M31.2 2 j (Or.inl (by decide))).trans rfl)) (fun j => ((M31.2 201 j (Or.inl (by decide))).trans rfl)) ((M31.2 3 5 (Or.inr (by decide))).trans rfl) ((M31.2 3 6 (Or.inr (by decide))).trans rfl) (fun j => ((M31.2 4 j (Or.inl (by decide))).trans rfl)) (fun j => ((M31.2 6 j (Or.inl (by decide))).trans rfl)) (fun j => ((M31.2 7 j (Or.inl (by decide))).trans rfl)) (fun j => ((M31.2 8 j (Or.inl (by decide))).trans rfl)) (fun j => ((M31.2 209 j (Or.inl (by decide))).trans rfl)) (fun j => ((M31.2 210 j (Or.inl (by decide))).trans rfl))).1 (Or.inr (Or.inl ((RT_k hR.1).2.2.1.mp (by rw [z2]; omega))))).2.1 (RT_st (RC_fr hR (fun j => ((M31.2 1 j (Or.inl (by decide))).trans rfl)) (fun j => ((M31.2 2 j (Or.inl (by decide))).trans rfl)) (fun j => ((M31.2 201 j (Or.inl (by decide))).trans rfl)) ((M31.2 3 5 (Or.inr (by decide))).trans rfl) ((M31.2 3 6 (Or.inr (by decide))).trans rfl) (fun j => ((M31.2 4 j (Or.inl (by decide))).trans rfl)) (fun j => ((M31.2 6 j (Or.inl (by decide))).trans rfl)) (fun j => ((M31.2 7 j (Or.inl (by decide))).trans rfl)) (fun j => ((M31.2 8 j (Or.inl (by decide))).trans rfl)) (fun j => ((M31.2 209 j (Or.inl (by decide))).trans rfl)) (fun j => ((M31.2 210 j (Or.inl (by decide))).trans rfl))).1 (Or.inr (Or.inl ((RT_k hR.1).2.2.1.mp (by rw [z2]; omega))))).2.2) ck8_33 (Nat.le_of_ble_eq_true rfl) rfl (fun _ => ⟨_, rfl⟩) ⟨_, _, rfl⟩ ⟨Nat.le_of_ble_eq_true rfl, Nat.le_of_ble_eq_true rfl⟩ rfl hl.1 rfl (Nat.le_of_ble_eq_true rfl) dX8_takeNumber_60 ⟨Nat.le_refl 0, Nat.le_refl 0⟩) X32 (fun t37 H lc q35 X36 => ?_)
        unfold po_X7_step_q at q35
        obtain ⟨q38, q39, q40⟩ := q35
        have F41 : Fr [(3, 1), (3, 2), (1, 3), (1, 4), (1, 5), (1, 7), (1, 8)] [201] τ t37 := Fr_call F34 q39 (by decide)
        have hR42 : RC bb nb t37 (stp bb nb fs) := ⟨q40, RP_fr hR.2 ((q39 3 5 (by decide)).trans ((M31.2 3 5 (Or.inr (by decide))).trans rfl)) ((q39 3 6 (by decide)).trans ((M31.2 3 6 (Or.inr (by decide))).trans rfl)) (fun j => ((q39 4 j (by simp [fz])).trans ((M31.2 4 j (Or.inl (by decide))).trans rfl))) (fun j => ((q39 6 j (by simp [fz])).trans ((M31.2 6 j (Or.inl (by decide))).trans rfl))) (fun j => ((q39 7 j (by simp [fz])).trans ((M31.2 7 j (Or.inl (by decide))).trans rfl))) (fun j => ((q39 8 j (by simp [fz])).trans ((M31.2 8 j (Or.inl (by decide))).trans rfl))) (fun j => ((q39 209 j (by simp [fz])).trans ((M31.2 209 j (Or.inl (by decide))).trans rfl))) (fun j => ((q39 210 j (by simp [fz])).trans ((M31.2 210 j (Or.inl (by decide))).trans rfl)))⟩
        refine r_iconst S dX8_takeNumber_63 (by decide) (fun v43 z44 => ?_)
        have r45 := R_eq z44
        exact r_ret S hr hlk X36 ⟨q38, F41, (R_of r45 rfl), (fun h => (by rw [((q39 3 2 (by decide)).trans M31.1)]; exact R_of r29 rfl)), (QX_r (sNum_g ((RT_k hR.1).2.2.1.mp (by rw [z2]; omega)) (by rw [← RT_nm hR.1 ((RT_k hR.1).2.2.1.mp (by rw [z2]; omega)), z10]; omega)) (by omega) ⟨show (t37 3 2).toInt = nbr bb fs.1 by rw [((q39 3 2 (by decide)).trans M31.1), ← RT_nm hR.1 ((RT_k hR.1).2.2.1.mp (by rw [z2]; omega)), z10], hR42⟩)⟩ (nr_bool (R_of (lo := 0) (hi := 1) r45 rfl)) dX8_takeNumber_64
      ·
        have r46 : R (10) (2147483647) v9 := ⟨by omega, by omega⟩
        refine r_aload_n S dX8_takeNumber_39 rfl (lv_at hl 0 rfl) ?_
        refine r_iconst S dX8_takeNumber_40 (by decide) (fun v47 z48 => ?_)
        have r49 := R_eq z48
        refine r_ki (q_U (As := [.int v47]) (rest := []) (K := 3) (ci := 0) S X (c_X8_fail_q l G τ hI v47 (R_of (lo := -2147483648) (hi := 2147483647) r49 rfl)) ck8_29_0 (Nat.le_of_ble_eq_true rfl) rfl (fun _ => ⟨_, rfl⟩) ⟨_, _, rfl⟩ ⟨Nat.le_of_ble_eq_true rfl, Nat.le_of_ble_eq_true rfl⟩ rfl hl.1 rfl (Nat.le_of_ble_eq_true rfl) dX8_takeNumber_41 ⟨Nat.le_refl 0, Nat.le_refl 0⟩) X (fun v53 t52 H lc q50 X51 => ?_)
        unfold po_X8_fail_q at q50
        obtain ⟨q54, q55, q56, q57⟩ := q50
        have F58 : Fr [(3, 1), (3, 2), (1, 3), (1, 4), (1, 5), (1, 7), (1, 8)] [201] τ t52 := Fr_call Fr_rfl q55 (by decide)
        exact r_ret S hr hlk X51 ⟨q54, F58, (R_of q56 rfl), (fun h => by exfalso; omega), (QX_b (sNum_b2 ((RT_k hR.1).2.2.1.mp (by rw [z2]; omega)) (by rw [← RT_nm hR.1 ((RT_k hR.1).2.2.1.mp (by rw [z2]; omega)), z10]; omega)) (by omega) (by rw [q57]; omega) (RC_at (RC_fr hR (fun j => ((q55 1 j (by simp [fz])).trans rfl)) (fun j => ((q55 2 j (by simp [fz])).trans rfl)) (fun j => ((q55 201 j (by simp [fz])).trans rfl)) ((q55 3 5 (by decide)).trans rfl) ((q55 3 6 (by decide)).trans rfl) (fun j => ((q55 4 j (by simp [fz])).trans rfl)) (fun j => ((q55 6 j (by simp [fz])).trans rfl)) (fun j => ((q55 7 j (by simp [fz])).trans rfl)) (fun j => ((q55 8 j (by simp [fz])).trans rfl)) (fun j => ((q55 209 j (by simp [fz])).trans rfl)) (fun j => ((q55 210 j (by simp [fz])).trans rfl)))))⟩ (nr_bool (R_of (lo := 0) (hi := 1) q56 rfl)) dX8_takeNumber_44
  ·
    refine r_aload_n S dX8_takeNumber_11 rfl (lv_at hl 0 rfl) ?_
    refine r_iconst S dX8_takeNumber_12 (by decide) (fun v59 z60 => ?_)
    have r61 := R_eq z60
    refine r_ki (q_U (As := [.int v59]) (rest := []) (K := 3) (ci := 0) S X (c_X8_fail_q l G τ hI v59 (R_of (lo := -2147483648) (hi := 2147483647) r61 rfl)) ck8_29_0 (Nat.le_of_ble_eq_true rfl) rfl (fun _ => ⟨_, rfl⟩) ⟨_, _, rfl⟩ ⟨Nat.le_of_ble_eq_true rfl, Nat.le_of_ble_eq_true rfl⟩ rfl hl.1 rfl (Nat.le_of_ble_eq_true rfl) dX8_takeNumber_13 ⟨Nat.le_refl 0, Nat.le_refl 0⟩) X (fun v65 t64 H lc q62 X63 => ?_)
    unfold po_X8_fail_q at q62
    obtain ⟨q66, q67, q68, q69⟩ := q62
    have F70 : Fr [(3, 1), (3, 2), (1, 3), (1, 4), (1, 5), (1, 7), (1, 8)] [201] τ t64 := Fr_call Fr_rfl q67 (by decide)
    exact r_ret S hr hlk X63 ⟨q66, F70, (R_of q68 rfl), (fun h => by exfalso; omega), (QX_b (sNum_b1 (fun h => absurd ((RT_k hR.1).2.2.1.mpr h) (by rw [z2]; omega))) (by omega) (by rw [q69]; omega) (RC_at (RC_fr hR (fun j => ((q67 1 j (by simp [fz])).trans rfl)) (fun j => ((q67 2 j (by simp [fz])).trans rfl)) (fun j => ((q67 201 j (by simp [fz])).trans rfl)) ((q67 3 5 (by decide)).trans rfl) ((q67 3 6 (by decide)).trans rfl) (fun j => ((q67 4 j (by simp [fz])).trans rfl)) (fun j => ((q67 6 j (by simp [fz])).trans rfl)) (fun j => ((q67 7 j (by simp [fz])).trans rfl)) (fun j => ((q67 8 j (by simp [fz])).trans rfl)) (fun j => ((q67 209 j (by simp [fz])).trans rfl)) (fun j => ((q67 210 j (by simp [fz])).trans rfl)))))⟩ (nr_bool (R_of (lo := 0) (hi := 1) q68 rfl)) dX8_takeNumber_16
def po_X8_takeNumber_q_0_20 (τ : Tau)  (a0 a1 : Int32)  (bb : Nat → Int) (nb : Nat) (fs : FS) (r : Int32) (u : Tau) : Prop := Inv u ∧ Fr [(3, 1), (3, 2), (1, 3), (1, 4), (1, 5), (1, 7), (1, 8)] [201] τ u ∧ R (0) (1) r ∧ (r.toInt = 1 → R (0) (20) (u 3 2)) ∧ QX (sNum bb nb 0 20 fs) r u (fun g => (u 3 2).toInt = g.1 ∧ RC bb nb u g.2)
set_option maxHeartbeats 4000000 in
set_option maxRecDepth 100000 in
theorem c_X8_takeNumber_q_0_20 (l : Launch) (G : Gx) (τ : Tau) (hI : Inv τ) (a0 : Int32) (a1 : Int32) (h_a0 : R (0) (0) a0) (h_a1 : R (20) (20) a1) (bb : Nat → Int) (nb : Nat) (fs : FS) (hR : RC bb nb τ fs) : Ci l G yX8_takeNumber cX8_takeNumber 3 (some .boolean) 1 24 [.ref (G.2.2.2.1 3), .int a0, .int a1] τ (po_X8_takeNumber_q_0_20 τ  a0 a1  bb nb fs) := by
  unfold Ci
  refine C_of (own := RX8) (by decide) rfl (Nat.le_of_ble_eq_true rfl) ?_
  intro p e s m below meth c ls S hr hlk X hl
  have hl : lv_has ls 3 [(0, .ref (G.2.2.2.1 3)), (1, .int a0), (2, .int a1)] := hl
  refine r_aload_n S dX8_takeNumber_0 rfl (lv_at hl 0 rfl) ?_
  refine r_get (K := 3) (v := .ref (G.2.2.2.1 1)) S X (Nat.le_of_ble_eq_true rfl) rfl lk8_9_0 (fun _ => ⟨_, rfl, rfl⟩) dX8_takeNumber_1 ?_
  refine r_getn (K := 1) S X (Nat.le_of_ble_eq_true rfl) rfl lk8_36_7 (fun _ => ⟨_, rfl, rfl⟩) dX8_takeNumber_4 (fun v1 z2 => ?_)
  have r3 : R (0) (4) v1 := rd hI rfl z2
  refine r_iconst S dX8_takeNumber_7 (by decide) (fun v4 z5 => ?_)
  have r6 := R_eq z5
  refine r_icmp_eq (tgt := 17) S dX8_takeNumber_8 (by decide) (fun c7 => ?_) (fun c7 => ?_)
  ·
    have r8 : R (3) (3) v1 := ⟨by omega, by omega⟩
    refine r_aload_n S dX8_takeNumber_17 rfl (lv_at hl 0 rfl) ?_
    refine r_get (K := 3) (v := .ref (G.2.2.2.1 1)) S X (Nat.le_of_ble_eq_true rfl) rfl lk8_9_0 (fun _ => ⟨_, rfl, rfl⟩) dX8_takeNumber_18 ?_
    refine r_getn (K := 1) S X (Nat.le_of_ble_eq_true rfl) rfl lk8_39_7 (fun _ => ⟨_, rfl, rfl⟩) dX8_takeNumber_21 (fun v9 z10 => ?_)
    have r12 := R_any v9
    refine r_iload_n S dX8_takeNumber_24 rfl (lv_at hl 1 rfl) ?_
    refine r_icmp_lt (tgt := 39) S dX8_takeNumber_25 (by decide) (fun c13 => ?_) (fun c13 => ?_)
    ·
      have r14 : R (-2147483648) (-1) v9 := ⟨by omega, by omega⟩
      refine r_aload_n S dX8_takeNumber_39 rfl (lv_at hl 0 rfl) ?_
      refine r_iconst S dX8_takeNumber_40 (by decide) (fun v15 z16 => ?_)
      have r17 := R_eq z16
      refine r_ki (q_U (As := [.int v15]) (rest := []) (K := 3) (ci := 0) S X (c_X8_fail_q l G τ hI v15 (R_of (lo := -2147483648) (hi := 2147483647) r17 rfl)) ck8_29_0 (Nat.le_of_ble_eq_true rfl) rfl (fun _ => ⟨_, rfl⟩) ⟨_, _, rfl⟩ ⟨Nat.le_of_ble_eq_true rfl, Nat.le_of_ble_eq_true rfl⟩ rfl hl.1 rfl (Nat.le_of_ble_eq_true rfl) dX8_takeNumber_41 ⟨Nat.le_refl 0, Nat.le_refl 0⟩) X (fun v21 t20 H lc q18 X19 => ?_)
      unfold po_X8_fail_q at q18
      obtain ⟨q22, q23, q24, q25⟩ := q18
      have F26 : Fr [(3, 1), (3, 2), (1, 3), (1, 4), (1, 5), (1, 7), (1, 8)] [201] τ t20 := Fr_call Fr_rfl q23 (by decide)
      exact r_ret S hr hlk X19 ⟨q22, F26, (R_of q24 rfl), (fun h => by exfalso; omega), (QX_b (sNum_b2 ((RT_k hR.1).2.2.1.mp (by rw [z2]; omega)) (by rw [← RT_nm hR.1 ((RT_k hR.1).2.2.1.mp (by rw [z2]; omega)), z10]; omega)) (by omega) (by rw [q25]; omega) (RC_at (RC_fr hR (fun j => ((q23 1 j (by simp [fz])).trans rfl)) (fun j => ((q23 2 j (by simp [fz])).trans rfl)) (fun j => ((q23 201 j (by simp [fz])).trans rfl)) ((q23 3 5 (by decide)).trans rfl) ((q23 3 6 (by decide)).trans rfl) (fun j => ((q23 4 j (by simp [fz])).trans rfl)) (fun j => ((q23 6 j (by simp [fz])).trans rfl)) (fun j => ((q23 7 j (by simp [fz])).trans rfl)) (fun j => ((q23 8 j (by simp [fz])).trans rfl)) (fun j => ((q23 209 j (by simp [fz])).trans rfl)) (fun j => ((q23 210 j (by simp [fz])).trans rfl)))))⟩ (nr_bool (R_of (lo := 0) (hi := 1) q24 rfl)) dX8_takeNumber_44
    ·
      have r27 : R (0) (2147483647) v9 := ⟨by omega, by omega⟩
      refine r_aload_n S dX8_takeNumber_28 rfl (lv_at hl 0 rfl) ?_
      refine r_get (K := 3) (v := .ref (G.2.2.2.1 1)) S X (Nat.le_of_ble_eq_true rfl) rfl lk8_9_0 (fun _ => ⟨_, rfl, rfl⟩) dX8_takeNumber_29 ?_
      refine r_geti (K := 1) S X (Nat.le_of_ble_eq_true rfl) rfl lk8_39_7 (fun _ => ⟨_, rfl, rfl⟩) z10 dX8_takeNumber_32 ?_
      refine r_iload_n S dX8_takeNumber_35 rfl (lv_at hl 2 rfl) ?_
      refine r_icmp_le (tgt := 45) S dX8_takeNumber_36 (by decide) (fun c28 => ?_) (fun c28 => ?_)
      ·
        have r29 : R (0) (20) v9 := ⟨by omega, by omega⟩
        refine r_aload_n S dX8_takeNumber_45 rfl (lv_at hl 0 rfl) ?_
        refine r_aload_n S dX8_takeNumber_46 rfl (lv_at hl 0 rfl) ?_
        refine r_get (K := 3) (v := .ref (G.2.2.2.1 1)) S X (Nat.le_of_ble_eq_true rfl) rfl lk8_9_0 (fun _ => ⟨_, rfl, rfl⟩) dX8_takeNumber_47 ?_
        refine r_geti (K := 1) S X (Nat.le_of_ble_eq_true rfl) rfl lk8_39_7 (fun _ => ⟨_, rfl, rfl⟩) z10 dX8_takeNumber_50 ?_
        refine r_put (K := 3) (ty := .int) S X (Nat.le_of_ble_eq_true rfl) rfl lk8_42_0 (fun _ => ⟨_, rfl, Nat.le_of_ble_eq_true rfl, rfl⟩) (fun _ _ _ h => by cases h; exact ⟨rfl, rfl⟩) rfl rfl dX8_takeNumber_53 (fun t30 H lc M31 X32 => ?_)
        have I33 := Inv_mu hI M31 (R_any v9)
        have F34 : Fr [(3, 1), (3, 2), (1, 3), (1, 4), (1, 5), (1, 7), (1, 8)] [201] τ t30 := Fr_mu Fr_rfl M31 (by decide)
        refine r_aload_n S dX8_takeNumber_56 rfl (lv_at hl 0 rfl) ?_
        refine r_get (K := 3) (v := .ref (G.2.2.2.1 1)) S X32 (Nat.le_of_ble_eq_true rfl) rfl lk8_9_0 (fun _ => ⟨_, rfl, rfl⟩) dX8_takeNumber_57 ?_
        refine r_kv (q_V (As := []) (rest := []) (K := 1) (ci := 7) S X32 (c_X7_step_q l G t30 I33 bb nb 900 fs.1.2.2 (RT_st (RC_fr hR (fun j => ((M31.2 1 j (Or.inl (by decide))).trans rfl)) (fun j => ((M31.2 2 j (Or.inl (by decide))).trans rfl)) (fun j => ((M31.2 201 j (Or.inl (by decide))).trans rfl)) ((M31.2 3 5 (Or.inr (by decide))).trans rfl) ((M31.2 3 6 (Or.inr (by decide))).trans rfl) (fun j => ((M31.2 4 j (Or.inl (by decide))).trans rfl)) (fun j => ((M31.2 6 j (Or.inl (by decide))).trans rfl)) (fun j => ((M31.2 7 j (Or.inl (by decide))).trans rfl)) (fun j => ((M31.2 8 j (Or.inl (by decide))).trans rfl)) (fun j => ((M31.2 209 j (Or.inl (by decide))).trans rfl)) (fun j => ((M31.2 210 j (Or.inl (by decide))).trans rfl))).1 (Or.inr (Or.inl ((RT_k hR.1).2.2.1.mp (by rw [z2]; omega))))).1 (RT_st (RC_fr hR (fun j => ((M31.2 1 j (Or.inl (by decide))).trans rfl)) (fun j => ((M31.2 2 j (Or.inl (by decide))).trans rfl)) (fun j => ((M31.2 201 j (Or.inl (by decide))).trans rfl)) ((M31.2 3 5 (Or.inr (by decide))).trans rfl) ((M31.2 3 6 (Or.inr (by decide))).trans rfl) (fun j => ((M31.2 4 j (Or.inl (by decide))).trans rfl)) (fun j => ((M31.2 6 j (Or.inl (by decide))).trans rfl)) (fun j => ((M31.2 7 j (Or.inl (by decide))).trans rfl)) (fun j => ((M31.2 8 j (Or.inl (by decide))).trans rfl)) (fun j => ((M31.2 209 j (Or.inl (by decide))).trans rfl)) (fun j => ((M31.2 210 j (Or.inl (by decide))).trans rfl))).1 (Or.inr (Or.inl ((RT_k hR.1).2.2.1.mp (by rw [z2]; omega))))).2.1 (RT_st (RC_fr hR (fun j => ((M31.2 1 j (Or.inl (by decide))).trans rfl)) (fun j => ((M31.2 2 j (Or.inl (by decide))).trans rfl)) (fun j => ((M31.2 201 j (Or.inl (by decide))).trans rfl)) ((M31.2 3 5 (Or.inr (by decide))).trans rfl) ((M31.2 3 6 (Or.inr (by decide))).trans rfl) (fun j => ((M31.2 4 j (Or.inl (by decide))).trans rfl)) (fun j => ((M31.2 6 j (Or.inl (by decide))).trans rfl)) (fun j => ((M31.2 7 j (Or.inl (by decide))).trans rfl)) (fun j => ((M31.2 8 j (Or.inl (by decide))).trans rfl)) (fun j => ((M31.2 209 j (Or.inl (by decide))).trans rfl)) (fun j => ((M31.2 210 j (Or.inl (by decide))).trans rfl))).1 (Or.inr (Or.inl ((RT_k hR.1).2.2.1.mp (by rw [z2]; omega))))).2.2) ck8_33 (Nat.le_of_ble_eq_true rfl) rfl (fun _ => ⟨_, rfl⟩) ⟨_, _, rfl⟩ ⟨Nat.le_of_ble_eq_true rfl, Nat.le_of_ble_eq_true rfl⟩ rfl hl.1 rfl (Nat.le_of_ble_eq_true rfl) dX8_takeNumber_60 ⟨Nat.le_refl 0, Nat.le_refl 0⟩) X32 (fun t37 H lc q35 X36 => ?_)
        unfold po_X7_step_q at q35
        obtain ⟨q38, q39, q40⟩ := q35
        have F41 : Fr [(3, 1), (3, 2), (1, 3), (1, 4), (1, 5), (1, 7), (1, 8)] [201] τ t37 := Fr_call F34 q39 (by decide)
        have hR42 : RC bb nb t37 (stp bb nb fs) := ⟨q40, RP_fr hR.2 ((q39 3 5 (by decide)).trans ((M31.2 3 5 (Or.inr (by decide))).trans rfl)) ((q39 3 6 (by decide)).trans ((M31.2 3 6 (Or.inr (by decide))).trans rfl)) (fun j => ((q39 4 j (by simp [fz])).trans ((M31.2 4 j (Or.inl (by decide))).trans rfl))) (fun j => ((q39 6 j (by simp [fz])).trans ((M31.2 6 j (Or.inl (by decide))).trans rfl))) (fun j => ((q39 7 j (by simp [fz])).trans ((M31.2 7 j (Or.inl (by decide))).trans rfl))) (fun j => ((q39 8 j (by simp [fz])).trans ((M31.2 8 j (Or.inl (by decide))).trans rfl))) (fun j => ((q39 209 j (by simp [fz])).trans ((M31.2 209 j (Or.inl (by decide))).trans rfl))) (fun j => ((q39 210 j (by simp [fz])).trans ((M31.2 210 j (Or.inl (by decide))).trans rfl)))⟩
        refine r_iconst S dX8_takeNumber_63 (by decide) (fun v43 z44 => ?_)
        have r45 := R_eq z44
        exact r_ret S hr hlk X36 ⟨q38, F41, (R_of r45 rfl), (fun h => (by rw [((q39 3 2 (by decide)).trans M31.1)]; exact R_of r29 rfl)), (QX_r (sNum_g ((RT_k hR.1).2.2.1.mp (by rw [z2]; omega)) (by rw [← RT_nm hR.1 ((RT_k hR.1).2.2.1.mp (by rw [z2]; omega)), z10]; omega)) (by omega) ⟨show (t37 3 2).toInt = nbr bb fs.1 by rw [((q39 3 2 (by decide)).trans M31.1), ← RT_nm hR.1 ((RT_k hR.1).2.2.1.mp (by rw [z2]; omega)), z10], hR42⟩)⟩ (nr_bool (R_of (lo := 0) (hi := 1) r45 rfl)) dX8_takeNumber_64
      ·
        have r46 : R (21) (2147483647) v9 := ⟨by omega, by omega⟩
        refine r_aload_n S dX8_takeNumber_39 rfl (lv_at hl 0 rfl) ?_
        refine r_iconst S dX8_takeNumber_40 (by decide) (fun v47 z48 => ?_)
        have r49 := R_eq z48
        refine r_ki (q_U (As := [.int v47]) (rest := []) (K := 3) (ci := 0) S X (c_X8_fail_q l G τ hI v47 (R_of (lo := -2147483648) (hi := 2147483647) r49 rfl)) ck8_29_0 (Nat.le_of_ble_eq_true rfl) rfl (fun _ => ⟨_, rfl⟩) ⟨_, _, rfl⟩ ⟨Nat.le_of_ble_eq_true rfl, Nat.le_of_ble_eq_true rfl⟩ rfl hl.1 rfl (Nat.le_of_ble_eq_true rfl) dX8_takeNumber_41 ⟨Nat.le_refl 0, Nat.le_refl 0⟩) X (fun v53 t52 H lc q50 X51 => ?_)
        unfold po_X8_fail_q at q50
        obtain ⟨q54, q55, q56, q57⟩ := q50
        have F58 : Fr [(3, 1), (3, 2), (1, 3), (1, 4), (1, 5), (1, 7), (1, 8)] [201] τ t52 := Fr_call Fr_rfl q55 (by decide)
        exact r_ret S hr hlk X51 ⟨q54, F58, (R_of q56 rfl), (fun h => by exfalso; omega), (QX_b (sNum_b2 ((RT_k hR.1).2.2.1.mp (by rw [z2]; omega)) (by rw [← RT_nm hR.1 ((RT_k hR.1).2.2.1.mp (by rw [z2]; omega)), z10]; omega)) (by omega) (by rw [q57]; omega) (RC_at (RC_fr hR (fun j => ((q55 1 j (by simp [fz])).trans rfl)) (fun j => ((q55 2 j (by simp [fz])).trans rfl)) (fun j => ((q55 201 j (by simp [fz])).trans rfl)) ((q55 3 5 (by decide)).trans rfl) ((q55 3 6 (by decide)).trans rfl) (fun j => ((q55 4 j (by simp [fz])).trans rfl)) (fun j => ((q55 6 j (by simp [fz])).trans rfl)) (fun j => ((q55 7 j (by simp [fz])).trans rfl)) (fun j => ((q55 8 j (by simp [fz])).trans rfl)) (fun j => ((q55 209 j (by simp [fz])).trans rfl)) (fun j => ((q55 210 j (by simp [fz])).trans rfl)))))⟩ (nr_bool (R_of (lo := 0) (hi := 1) q56 rfl)) dX8_takeNumber_44
  ·
    refine r_aload_n S dX8_takeNumber_11 rfl (lv_at hl 0 rfl) ?_
    refine r_iconst S dX8_takeNumber_12 (by decide) (fun v59 z60 => ?_)
    have r61 := R_eq z60
    refine r_ki (q_U (As := [.int v59]) (rest := []) (K := 3) (ci := 0) S X (c_X8_fail_q l G τ hI v59 (R_of (lo := -2147483648) (hi := 2147483647) r61 rfl)) ck8_29_0 (Nat.le_of_ble_eq_true rfl) rfl (fun _ => ⟨_, rfl⟩) ⟨_, _, rfl⟩ ⟨Nat.le_of_ble_eq_true rfl, Nat.le_of_ble_eq_true rfl⟩ rfl hl.1 rfl (Nat.le_of_ble_eq_true rfl) dX8_takeNumber_13 ⟨Nat.le_refl 0, Nat.le_refl 0⟩) X (fun v65 t64 H lc q62 X63 => ?_)
    unfold po_X8_fail_q at q62
    obtain ⟨q66, q67, q68, q69⟩ := q62
    have F70 : Fr [(3, 1), (3, 2), (1, 3), (1, 4), (1, 5), (1, 7), (1, 8)] [201] τ t64 := Fr_call Fr_rfl q67 (by decide)
    exact r_ret S hr hlk X63 ⟨q66, F70, (R_of q68 rfl), (fun h => by exfalso; omega), (QX_b (sNum_b1 (fun h => absurd ((RT_k hR.1).2.2.1.mpr h) (by rw [z2]; omega))) (by omega) (by rw [q69]; omega) (RC_at (RC_fr hR (fun j => ((q67 1 j (by simp [fz])).trans rfl)) (fun j => ((q67 2 j (by simp [fz])).trans rfl)) (fun j => ((q67 201 j (by simp [fz])).trans rfl)) ((q67 3 5 (by decide)).trans rfl) ((q67 3 6 (by decide)).trans rfl) (fun j => ((q67 4 j (by simp [fz])).trans rfl)) (fun j => ((q67 6 j (by simp [fz])).trans rfl)) (fun j => ((q67 7 j (by simp [fz])).trans rfl)) (fun j => ((q67 8 j (by simp [fz])).trans rfl)) (fun j => ((q67 209 j (by simp [fz])).trans rfl)) (fun j => ((q67 210 j (by simp [fz])).trans rfl)))))⟩ (nr_bool (R_of (lo := 0) (hi := 1) q68 rfl)) dX8_takeNumber_16
def po_X8_takeNumber_q_1_9 (τ : Tau)  (a0 a1 : Int32)  (bb : Nat → Int) (nb : Nat) (fs : FS) (r : Int32) (u : Tau) : Prop := Inv u ∧ Fr [(3, 1), (3, 2), (1, 3), (1, 4), (1, 5), (1, 7), (1, 8)] [201] τ u ∧ R (0) (1) r ∧ (r.toInt = 1 → R (1) (9) (u 3 2)) ∧ QX (sNum bb nb 1 9 fs) r u (fun g => (u 3 2).toInt = g.1 ∧ RC bb nb u g.2)
set_option maxHeartbeats 4000000 in
set_option maxRecDepth 100000 in
theorem c_X8_takeNumber_q_1_9 (l : Launch) (G : Gx) (τ : Tau) (hI : Inv τ) (a0 : Int32) (a1 : Int32) (h_a0 : R (1) (1) a0) (h_a1 : R (9) (9) a1) (bb : Nat → Int) (nb : Nat) (fs : FS) (hR : RC bb nb τ fs) : Ci l G yX8_takeNumber cX8_takeNumber 3 (some .boolean) 1 24 [.ref (G.2.2.2.1 3), .int a0, .int a1] τ (po_X8_takeNumber_q_1_9 τ  a0 a1  bb nb fs) := by
  unfold Ci
  refine C_of (own := RX8) (by decide) rfl (Nat.le_of_ble_eq_true rfl) ?_
  intro p e s m below meth c ls S hr hlk X hl
  have hl : lv_has ls 3 [(0, .ref (G.2.2.2.1 3)), (1, .int a0), (2, .int a1)] := hl
  refine r_aload_n S dX8_takeNumber_0 rfl (lv_at hl 0 rfl) ?_
  refine r_get (K := 3) (v := .ref (G.2.2.2.1 1)) S X (Nat.le_of_ble_eq_true rfl) rfl lk8_9_0 (fun _ => ⟨_, rfl, rfl⟩) dX8_takeNumber_1 ?_
  refine r_getn (K := 1) S X (Nat.le_of_ble_eq_true rfl) rfl lk8_36_7 (fun _ => ⟨_, rfl, rfl⟩) dX8_takeNumber_4 (fun v1 z2 => ?_)
  have r3 : R (0) (4) v1 := rd hI rfl z2
  refine r_iconst S dX8_takeNumber_7 (by decide) (fun v4 z5 => ?_)
  have r6 := R_eq z5
  refine r_icmp_eq (tgt := 17) S dX8_takeNumber_8 (by decide) (fun c7 => ?_) (fun c7 => ?_)
  ·
    have r8 : R (3) (3) v1 := ⟨by omega, by omega⟩
    refine r_aload_n S dX8_takeNumber_17 rfl (lv_at hl 0 rfl) ?_
    refine r_get (K := 3) (v := .ref (G.2.2.2.1 1)) S X (Nat.le_of_ble_eq_true rfl) rfl lk8_9_0 (fun _ => ⟨_, rfl, rfl⟩) dX8_takeNumber_18 ?_
    refine r_getn (K := 1) S X (Nat.le_of_ble_eq_true rfl) rfl lk8_39_7 (fun _ => ⟨_, rfl, rfl⟩) dX8_takeNumber_21 (fun v9 z10 => ?_)
    have r12 := R_any v9
    refine r_iload_n S dX8_takeNumber_24 rfl (lv_at hl 1 rfl) ?_
    refine r_icmp_lt (tgt := 39) S dX8_takeNumber_25 (by decide) (fun c13 => ?_) (fun c13 => ?_)
    ·
      have r14 : R (-2147483648) (0) v9 := ⟨by omega, by omega⟩
      refine r_aload_n S dX8_takeNumber_39 rfl (lv_at hl 0 rfl) ?_
      refine r_iconst S dX8_takeNumber_40 (by decide) (fun v15 z16 => ?_)
      have r17 := R_eq z16
      refine r_ki (q_U (As := [.int v15]) (rest := []) (K := 3) (ci := 0) S X (c_X8_fail_q l G τ hI v15 (R_of (lo := -2147483648) (hi := 2147483647) r17 rfl)) ck8_29_0 (Nat.le_of_ble_eq_true rfl) rfl (fun _ => ⟨_, rfl⟩) ⟨_, _, rfl⟩ ⟨Nat.le_of_ble_eq_true rfl, Nat.le_of_ble_eq_true rfl⟩ rfl hl.1 rfl (Nat.le_of_ble_eq_true rfl) dX8_takeNumber_41 ⟨Nat.le_refl 0, Nat.le_refl 0⟩) X (fun v21 t20 H lc q18 X19 => ?_)
      unfold po_X8_fail_q at q18
      obtain ⟨q22, q23, q24, q25⟩ := q18
      have F26 : Fr [(3, 1), (3, 2), (1, 3), (1, 4), (1, 5), (1, 7), (1, 8)] [201] τ t20 := Fr_call Fr_rfl q23 (by decide)
      exact r_ret S hr hlk X19 ⟨q22, F26, (R_of q24 rfl), (fun h => by exfalso; omega), (QX_b (sNum_b2 ((RT_k hR.1).2.2.1.mp (by rw [z2]; omega)) (by rw [← RT_nm hR.1 ((RT_k hR.1).2.2.1.mp (by rw [z2]; omega)), z10]; omega)) (by omega) (by rw [q25]; omega) (RC_at (RC_fr hR (fun j => ((q23 1 j (by simp [fz])).trans rfl)) (fun j => ((q23 2 j (by simp [fz])).trans rfl)) (fun j => ((q23 201 j (by simp [fz])).trans rfl)) ((q23 3 5 (by decide)).trans rfl) ((q23 3 6 (by decide)).trans rfl) (fun j => ((q23 4 j (by simp [fz])).trans rfl)) (fun j => ((q23 6 j (by simp [fz])).trans rfl)) (fun j => ((q23 7 j (by simp [fz])).trans rfl)) (fun j => ((q23 8 j (by simp [fz])).trans rfl)) (fun j => ((q23 209 j (by simp [fz])).trans rfl)) (fun j => ((q23 210 j (by simp [fz])).trans rfl)))))⟩ (nr_bool (R_of (lo := 0) (hi := 1) q24 rfl)) dX8_takeNumber_44
    ·
      have r27 : R (1) (2147483647) v9 := ⟨by omega, by omega⟩
      refine r_aload_n S dX8_takeNumber_28 rfl (lv_at hl 0 rfl) ?_
      refine r_get (K := 3) (v := .ref (G.2.2.2.1 1)) S X (Nat.le_of_ble_eq_true rfl) rfl lk8_9_0 (fun _ => ⟨_, rfl, rfl⟩) dX8_takeNumber_29 ?_
      refine r_geti (K := 1) S X (Nat.le_of_ble_eq_true rfl) rfl lk8_39_7 (fun _ => ⟨_, rfl, rfl⟩) z10 dX8_takeNumber_32 ?_
      refine r_iload_n S dX8_takeNumber_35 rfl (lv_at hl 2 rfl) ?_
      refine r_icmp_le (tgt := 45) S dX8_takeNumber_36 (by decide) (fun c28 => ?_) (fun c28 => ?_)
      ·
        have r29 : R (1) (9) v9 := ⟨by omega, by omega⟩
        refine r_aload_n S dX8_takeNumber_45 rfl (lv_at hl 0 rfl) ?_
        refine r_aload_n S dX8_takeNumber_46 rfl (lv_at hl 0 rfl) ?_
        refine r_get (K := 3) (v := .ref (G.2.2.2.1 1)) S X (Nat.le_of_ble_eq_true rfl) rfl lk8_9_0 (fun _ => ⟨_, rfl, rfl⟩) dX8_takeNumber_47 ?_
        refine r_geti (K := 1) S X (Nat.le_of_ble_eq_true rfl) rfl lk8_39_7 (fun _ => ⟨_, rfl, rfl⟩) z10 dX8_takeNumber_50 ?_
        refine r_put (K := 3) (ty := .int) S X (Nat.le_of_ble_eq_true rfl) rfl lk8_42_0 (fun _ => ⟨_, rfl, Nat.le_of_ble_eq_true rfl, rfl⟩) (fun _ _ _ h => by cases h; exact ⟨rfl, rfl⟩) rfl rfl dX8_takeNumber_53 (fun t30 H lc M31 X32 => ?_)
        have I33 := Inv_mu hI M31 (R_any v9)
        have F34 : Fr [(3, 1), (3, 2), (1, 3), (1, 4), (1, 5), (1, 7), (1, 8)] [201] τ t30 := Fr_mu Fr_rfl M31 (by decide)
        refine r_aload_n S dX8_takeNumber_56 rfl (lv_at hl 0 rfl) ?_
        refine r_get (K := 3) (v := .ref (G.2.2.2.1 1)) S X32 (Nat.le_of_ble_eq_true rfl) rfl lk8_9_0 (fun _ => ⟨_, rfl, rfl⟩) dX8_takeNumber_57 ?_
        refine r_kv (q_V (As := []) (rest := []) (K := 1) (ci := 7) S X32 (c_X7_step_q l G t30 I33 bb nb 900 fs.1.2.2 (RT_st (RC_fr hR (fun j => ((M31.2 1 j (Or.inl (by decide))).trans rfl)) (fun j => ((M31.2 2 j (Or.inl (by decide))).trans rfl)) (fun j => ((M31.2 201 j (Or.inl (by decide))).trans rfl)) ((M31.2 3 5 (Or.inr (by decide))).trans rfl) ((M31.2 3 6 (Or.inr (by decide))).trans rfl) (fun j => ((M31.2 4 j (Or.inl (by decide))).trans rfl)) (fun j => ((M31.2 6 j (Or.inl (by decide))).trans rfl)) (fun j => ((M31.2 7 j (Or.inl (by decide))).trans rfl)) (fun j => ((M31.2 8 j (Or.inl (by decide))).trans rfl)) (fun j => ((M31.2 209 j (Or.inl (by decide))).trans rfl)) (fun j => ((M31.2 210 j (Or.inl (by decide))).trans rfl))).1 (Or.inr (Or.inl ((RT_k hR.1).2.2.1.mp (by rw [z2]; omega))))).1 (RT_st (RC_fr hR (fun j => ((M31.2 1 j (Or.inl (by decide))).trans rfl)) (fun j => ((M31.2 2 j (Or.inl (by decide))).trans rfl)) (fun j => ((M31.2 201 j (Or.inl (by decide))).trans rfl)) ((M31.2 3 5 (Or.inr (by decide))).trans rfl) ((M31.2 3 6 (Or.inr (by decide))).trans rfl) (fun j => ((M31.2 4 j (Or.inl (by decide))).trans rfl)) (fun j => ((M31.2 6 j (Or.inl (by decide))).trans rfl)) (fun j => ((M31.2 7 j (Or.inl (by decide))).trans rfl)) (fun j => ((M31.2 8 j (Or.inl (by decide))).trans rfl)) (fun j => ((M31.2 209 j (Or.inl (by decide))).trans rfl)) (fun j => ((M31.2 210 j (Or.inl (by decide))).trans rfl))).1 (Or.inr (Or.inl ((RT_k hR.1).2.2.1.mp (by rw [z2]; omega))))).2.1 (RT_st (RC_fr hR (fun j => ((M31.2 1 j (Or.inl (by decide))).trans rfl)) (fun j => ((M31.2 2 j (Or.inl (by decide))).trans rfl)) (fun j => ((M31.2 201 j (Or.inl (by decide))).trans rfl)) ((M31.2 3 5 (Or.inr (by decide))).trans rfl) ((M31.2 3 6 (Or.inr (by decide))).trans rfl) (fun j => ((M31.2 4 j (Or.inl (by decide))).trans rfl)) (fun j => ((M31.2 6 j (Or.inl (by decide))).trans rfl)) (fun j => ((M31.2 7 j (Or.inl (by decide))).trans rfl)) (fun j => ((M31.2 8 j (Or.inl (by decide))).trans rfl)) (fun j => ((M31.2 209 j (Or.inl (by decide))).trans rfl)) (fun j => ((M31.2 210 j (Or.inl (by decide))).trans rfl))).1 (Or.inr (Or.inl ((RT_k hR.1).2.2.1.mp (by rw [z2]; omega))))).2.2) ck8_33 (Nat.le_of_ble_eq_true rfl) rfl (fun _ => ⟨_, rfl⟩) ⟨_, _, rfl⟩ ⟨Nat.le_of_ble_eq_true rfl, Nat.le_of_ble_eq_true rfl⟩ rfl hl.1 rfl (Nat.le_of_ble_eq_true rfl) dX8_takeNumber_60 ⟨Nat.le_refl 0, Nat.le_refl 0⟩) X32 (fun t37 H lc q35 X36 => ?_)
        unfold po_X7_step_q at q35
        obtain ⟨q38, q39, q40⟩ := q35
        have F41 : Fr [(3, 1), (3, 2), (1, 3), (1, 4), (1, 5), (1, 7), (1, 8)] [201] τ t37 := Fr_call F34 q39 (by decide)
        have hR42 : RC bb nb t37 (stp bb nb fs) := ⟨q40, RP_fr hR.2 ((q39 3 5 (by decide)).trans ((M31.2 3 5 (Or.inr (by decide))).trans rfl)) ((q39 3 6 (by decide)).trans ((M31.2 3 6 (Or.inr (by decide))).trans rfl)) (fun j => ((q39 4 j (by simp [fz])).trans ((M31.2 4 j (Or.inl (by decide))).trans rfl))) (fun j => ((q39 6 j (by simp [fz])).trans ((M31.2 6 j (Or.inl (by decide))).trans rfl))) (fun j => ((q39 7 j (by simp [fz])).trans ((M31.2 7 j (Or.inl (by decide))).trans rfl))) (fun j => ((q39 8 j (by simp [fz])).trans ((M31.2 8 j (Or.inl (by decide))).trans rfl))) (fun j => ((q39 209 j (by simp [fz])).trans ((M31.2 209 j (Or.inl (by decide))).trans rfl))) (fun j => ((q39 210 j (by simp [fz])).trans ((M31.2 210 j (Or.inl (by decide))).trans rfl)))⟩
        refine r_iconst S dX8_takeNumber_63 (by decide) (fun v43 z44 => ?_)
        have r45 := R_eq z44
        exact r_ret S hr hlk X36 ⟨q38, F41, (R_of r45 rfl), (fun h => (by rw [((q39 3 2 (by decide)).trans M31.1)]; exact R_of r29 rfl)), (QX_r (sNum_g ((RT_k hR.1).2.2.1.mp (by rw [z2]; omega)) (by rw [← RT_nm hR.1 ((RT_k hR.1).2.2.1.mp (by rw [z2]; omega)), z10]; omega)) (by omega) ⟨show (t37 3 2).toInt = nbr bb fs.1 by rw [((q39 3 2 (by decide)).trans M31.1), ← RT_nm hR.1 ((RT_k hR.1).2.2.1.mp (by rw [z2]; omega)), z10], hR42⟩)⟩ (nr_bool (R_of (lo := 0) (hi := 1) r45 rfl)) dX8_takeNumber_64
      ·
        have r46 : R (10) (2147483647) v9 := ⟨by omega, by omega⟩
        refine r_aload_n S dX8_takeNumber_39 rfl (lv_at hl 0 rfl) ?_
        refine r_iconst S dX8_takeNumber_40 (by decide) (fun v47 z48 => ?_)
        have r49 := R_eq z48
        refine r_ki (q_U (As := [.int v47]) (rest := []) (K := 3) (ci := 0) S X (c_X8_fail_q l G τ hI v47 (R_of (lo := -2147483648) (hi := 2147483647) r49 rfl)) ck8_29_0 (Nat.le_of_ble_eq_true rfl) rfl (fun _ => ⟨_, rfl⟩) ⟨_, _, rfl⟩ ⟨Nat.le_of_ble_eq_true rfl, Nat.le_of_ble_eq_true rfl⟩ rfl hl.1 rfl (Nat.le_of_ble_eq_true rfl) dX8_takeNumber_41 ⟨Nat.le_refl 0, Nat.le_refl 0⟩) X (fun v53 t52 H lc q50 X51 => ?_)
        unfold po_X8_fail_q at q50
        obtain ⟨q54, q55, q56, q57⟩ := q50
        have F58 : Fr [(3, 1), (3, 2), (1, 3), (1, 4), (1, 5), (1, 7), (1, 8)] [201] τ t52 := Fr_call Fr_rfl q55 (by decide)
        exact r_ret S hr hlk X51 ⟨q54, F58, (R_of q56 rfl), (fun h => by exfalso; omega), (QX_b (sNum_b2 ((RT_k hR.1).2.2.1.mp (by rw [z2]; omega)) (by rw [← RT_nm hR.1 ((RT_k hR.1).2.2.1.mp (by rw [z2]; omega)), z10]; omega)) (by omega) (by rw [q57]; omega) (RC_at (RC_fr hR (fun j => ((q55 1 j (by simp [fz])).trans rfl)) (fun j => ((q55 2 j (by simp [fz])).trans rfl)) (fun j => ((q55 201 j (by simp [fz])).trans rfl)) ((q55 3 5 (by decide)).trans rfl) ((q55 3 6 (by decide)).trans rfl) (fun j => ((q55 4 j (by simp [fz])).trans rfl)) (fun j => ((q55 6 j (by simp [fz])).trans rfl)) (fun j => ((q55 7 j (by simp [fz])).trans rfl)) (fun j => ((q55 8 j (by simp [fz])).trans rfl)) (fun j => ((q55 209 j (by simp [fz])).trans rfl)) (fun j => ((q55 210 j (by simp [fz])).trans rfl)))))⟩ (nr_bool (R_of (lo := 0) (hi := 1) q56 rfl)) dX8_takeNumber_44
  ·
    refine r_aload_n S dX8_takeNumber_11 rfl (lv_at hl 0 rfl) ?_
    refine r_iconst S dX8_takeNumber_12 (by decide) (fun v59 z60 => ?_)
    have r61 := R_eq z60
    refine r_ki (q_U (As := [.int v59]) (rest := []) (K := 3) (ci := 0) S X (c_X8_fail_q l G τ hI v59 (R_of (lo := -2147483648) (hi := 2147483647) r61 rfl)) ck8_29_0 (Nat.le_of_ble_eq_true rfl) rfl (fun _ => ⟨_, rfl⟩) ⟨_, _, rfl⟩ ⟨Nat.le_of_ble_eq_true rfl, Nat.le_of_ble_eq_true rfl⟩ rfl hl.1 rfl (Nat.le_of_ble_eq_true rfl) dX8_takeNumber_13 ⟨Nat.le_refl 0, Nat.le_refl 0⟩) X (fun v65 t64 H lc q62 X63 => ?_)
    unfold po_X8_fail_q at q62
    obtain ⟨q66, q67, q68, q69⟩ := q62
    have F70 : Fr [(3, 1), (3, 2), (1, 3), (1, 4), (1, 5), (1, 7), (1, 8)] [201] τ t64 := Fr_call Fr_rfl q67 (by decide)
    exact r_ret S hr hlk X63 ⟨q66, F70, (R_of q68 rfl), (fun h => by exfalso; omega), (QX_b (sNum_b1 (fun h => absurd ((RT_k hR.1).2.2.1.mpr h) (by rw [z2]; omega))) (by omega) (by rw [q69]; omega) (RC_at (RC_fr hR (fun j => ((q67 1 j (by simp [fz])).trans rfl)) (fun j => ((q67 2 j (by simp [fz])).trans rfl)) (fun j => ((q67 201 j (by simp [fz])).trans rfl)) ((q67 3 5 (by decide)).trans rfl) ((q67 3 6 (by decide)).trans rfl) (fun j => ((q67 4 j (by simp [fz])).trans rfl)) (fun j => ((q67 6 j (by simp [fz])).trans rfl)) (fun j => ((q67 7 j (by simp [fz])).trans rfl)) (fun j => ((q67 8 j (by simp [fz])).trans rfl)) (fun j => ((q67 209 j (by simp [fz])).trans rfl)) (fun j => ((q67 210 j (by simp [fz])).trans rfl)))))⟩ (nr_bool (R_of (lo := 0) (hi := 1) q68 rfl)) dX8_takeNumber_16
def po_X8_takeYesOrNo_q (τ : Tau)    (bb : Nat → Int) (nb : Nat) (fs : FS) (r : Int32) (u : Tau) : Prop := Inv u ∧ Fr [(3, 1), (3, 2), (1, 3), (1, 4), (1, 5), (1, 7), (1, 8)] [201] τ u ∧ R (0) (1) r ∧ (r.toInt = 1 → R (-1) (1) (u 3 2)) ∧ QX (sYN bb nb fs) r u (fun g => ((u 3 2).toInt = 1 ∨ (u 3 2).toInt = -1) ∧ RC bb nb u g)
set_option maxHeartbeats 4000000 in
set_option maxRecDepth 100000 in
theorem c_X8_takeYesOrNo_q (l : Launch) (G : Gx) (τ : Tau) (hI : Inv τ) (bb : Nat → Int) (nb : Nat) (fs : FS) (hR : RC bb nb τ fs) : Ci l G yX8_takeYesOrNo cX8_takeYesOrNo 1 (some .boolean) 1 24 [.ref (G.2.2.2.1 3)] τ (po_X8_takeYesOrNo_q τ    bb nb fs) := by
  unfold Ci
  refine C_of (own := RX8) (by decide) rfl (Nat.le_of_ble_eq_true rfl) ?_
  intro p e s m below meth c ls S hr hlk X hl
  have hl : lv_has ls 1 [(0, .ref (G.2.2.2.1 3))] := hl
  refine r_aload_n S dX8_takeYesOrNo_0 rfl (lv_at hl 0 rfl) ?_
  refine r_get (K := 3) (v := .ref (G.2.2.2.1 1)) S X (Nat.le_of_ble_eq_true rfl) rfl lk8_9_0 (fun _ => ⟨_, rfl, rfl⟩) dX8_takeYesOrNo_1 ?_
  refine r_wst (i := 4) S X (by decide) kw16 dX8_takeYesOrNo_4 ?_
  refine r_ki (q_V (As := [.ref (G.2.2.1 4)]) (rest := []) (K := 1) (ci := 7) S X (c_X7_is_q l G τ hI 4 (by decide) bb nb 900 fs.1 hR.1) ck8_51 (Nat.le_of_ble_eq_true rfl) rfl (fun _ => ⟨_, rfl⟩) ⟨_, _, rfl⟩ ⟨Nat.le_of_ble_eq_true rfl, Nat.le_of_ble_eq_true rfl⟩ rfl hl.1 rfl (Nat.le_of_ble_eq_true rfl) dX8_takeYesOrNo_7 ⟨Nat.le_refl 0, Nat.le_refl 0⟩) X (fun v4 t3 H lc q1 X2 => ?_)
  unfold po_X7_is_q at q1
  obtain ⟨q5, q6, q7⟩ := q1
  rw [q5] at X2
  refine r_if_ne (tgt := 32) S dX8_takeYesOrNo_10 (by decide) (fun c8 => ?_) (fun c8 => ?_)
  ·
    have r9 : R (1) (1) v4 := ⟨by omega, by omega⟩
    have p10 := (q7).mp (by omega)
    refine r_aload_n S dX8_takeYesOrNo_32 rfl (lv_at hl 0 rfl) ?_
    refine r_aload_n S dX8_takeYesOrNo_33 rfl (lv_at hl 0 rfl) ?_
    refine r_get (K := 3) (v := .ref (G.2.2.2.1 1)) S X2 (Nat.le_of_ble_eq_true rfl) rfl lk8_9_0 (fun _ => ⟨_, rfl, rfl⟩) dX8_takeYesOrNo_34 ?_
    refine r_wst (i := 4) S X2 (by decide) kw16 dX8_takeYesOrNo_37 ?_
    refine r_ki (q_V (As := [.ref (G.2.2.1 4)]) (rest := [.ref (G.2.2.2.1 3)]) (K := 1) (ci := 7) S X2 (c_X7_is_q l G τ hI 4 (by decide) bb nb 900 fs.1 hR.1) ck8_51 (Nat.le_of_ble_eq_true rfl) rfl (fun _ => ⟨_, rfl⟩) ⟨_, _, rfl⟩ ⟨Nat.le_of_ble_eq_true rfl, Nat.le_of_ble_eq_true rfl⟩ rfl hl.1 rfl (Nat.le_of_ble_eq_true rfl) dX8_takeYesOrNo_40 ⟨Nat.le_refl 0, Nat.le_refl 0⟩) X2 (fun v14 t13 H lc q11 X12 => ?_)
    unfold po_X7_is_q at q11
    obtain ⟨q15, q16, q17⟩ := q11
    rw [q15] at X12
    refine r_if_eq (tgt := 50) S dX8_takeYesOrNo_43 (by decide) (fun c18 => ?_) (fun c18 => ?_)
    ·
      have r19 : R (0) (0) v14 := ⟨by omega, by omega⟩
      have p20 := (iff_n q17) (by omega)
      refine r_iconst S dX8_takeYesOrNo_50 (by decide) (fun v21 z22 => ?_)
      have r23 := R_eq z22
      refine r_put (K := 3) (ty := .int) S X12 (Nat.le_of_ble_eq_true rfl) rfl lk8_42_0 (fun _ => ⟨_, rfl, Nat.le_of_ble_eq_true rfl, rfl⟩) (fun _ _ _ h => by cases h; exact ⟨rfl, rfl⟩) rfl rfl dX8_takeYesOrNo_51 (fun t24 H lc M25 X26 => ?_)
      have I27 := Inv_mu hI M25 (R_any v21)
      have F28 : Fr [(3, 1), (3, 2), (1, 3), (1, 4), (1, 5), (1, 7), (1, 8)] [201] τ t24 := Fr_mu Fr_rfl M25 (by decide)
      refine r_aload_n S dX8_takeYesOrNo_54 rfl (lv_at hl 0 rfl) ?_
      refine r_get (K := 3) (v := .ref (G.2.2.2.1 1)) S X26 (Nat.le_of_ble_eq_true rfl) rfl lk8_9_0 (fun _ => ⟨_, rfl, rfl⟩) dX8_takeYesOrNo_55 ?_
      refine r_kv (q_V (As := []) (rest := []) (K := 1) (ci := 7) S X26 (c_X7_step_q l G t24 I27 bb nb 900 fs.1.2.2 (RT_st (RC_fr hR (fun j => ((M25.2 1 j (Or.inl (by decide))).trans rfl)) (fun j => ((M25.2 2 j (Or.inl (by decide))).trans rfl)) (fun j => ((M25.2 201 j (Or.inl (by decide))).trans rfl)) ((M25.2 3 5 (Or.inr (by decide))).trans rfl) ((M25.2 3 6 (Or.inr (by decide))).trans rfl) (fun j => ((M25.2 4 j (Or.inl (by decide))).trans rfl)) (fun j => ((M25.2 6 j (Or.inl (by decide))).trans rfl)) (fun j => ((M25.2 7 j (Or.inl (by decide))).trans rfl)) (fun j => ((M25.2 8 j (Or.inl (by decide))).trans rfl)) (fun j => ((M25.2 209 j (Or.inl (by decide))).trans rfl)) (fun j => ((M25.2 210 j (Or.inl (by decide))).trans rfl))).1 (Or.inl p10.1)).1 (RT_st (RC_fr hR (fun j => ((M25.2 1 j (Or.inl (by decide))).trans rfl)) (fun j => ((M25.2 2 j (Or.inl (by decide))).trans rfl)) (fun j => ((M25.2 201 j (Or.inl (by decide))).trans rfl)) ((M25.2 3 5 (Or.inr (by decide))).trans rfl) ((M25.2 3 6 (Or.inr (by decide))).trans rfl) (fun j => ((M25.2 4 j (Or.inl (by decide))).trans rfl)) (fun j => ((M25.2 6 j (Or.inl (by decide))).trans rfl)) (fun j => ((M25.2 7 j (Or.inl (by decide))).trans rfl)) (fun j => ((M25.2 8 j (Or.inl (by decide))).trans rfl)) (fun j => ((M25.2 209 j (Or.inl (by decide))).trans rfl)) (fun j => ((M25.2 210 j (Or.inl (by decide))).trans rfl))).1 (Or.inl p10.1)).2.1 (RT_st (RC_fr hR (fun j => ((M25.2 1 j (Or.inl (by decide))).trans rfl)) (fun j => ((M25.2 2 j (Or.inl (by decide))).trans rfl)) (fun j => ((M25.2 201 j (Or.inl (by decide))).trans rfl)) ((M25.2 3 5 (Or.inr (by decide))).trans rfl) ((M25.2 3 6 (Or.inr (by decide))).trans rfl) (fun j => ((M25.2 4 j (Or.inl (by decide))).trans rfl)) (fun j => ((M25.2 6 j (Or.inl (by decide))).trans rfl)) (fun j => ((M25.2 7 j (Or.inl (by decide))).trans rfl)) (fun j => ((M25.2 8 j (Or.inl (by decide))).trans rfl)) (fun j => ((M25.2 209 j (Or.inl (by decide))).trans rfl)) (fun j => ((M25.2 210 j (Or.inl (by decide))).trans rfl))).1 (Or.inl p10.1)).2.2) ck8_33 (Nat.le_of_ble_eq_true rfl) rfl (fun _ => ⟨_, rfl⟩) ⟨_, _, rfl⟩ ⟨Nat.le_of_ble_eq_true rfl, Nat.le_of_ble_eq_true rfl⟩ rfl hl.1 rfl (Nat.le_of_ble_eq_true rfl) dX8_takeYesOrNo_58 ⟨Nat.le_refl 0, Nat.le_refl 0⟩) X26 (fun t31 H lc q29 X30 => ?_)
      unfold po_X7_step_q at q29
      obtain ⟨q32, q33, q34⟩ := q29
      have F35 : Fr [(3, 1), (3, 2), (1, 3), (1, 4), (1, 5), (1, 7), (1, 8)] [201] τ t31 := Fr_call F28 q33 (by decide)
      have hR36 : RC bb nb t31 (stp bb nb fs) := ⟨q34, RP_fr hR.2 ((q33 3 5 (by decide)).trans ((M25.2 3 5 (Or.inr (by decide))).trans rfl)) ((q33 3 6 (by decide)).trans ((M25.2 3 6 (Or.inr (by decide))).trans rfl)) (fun j => ((q33 4 j (by simp [fz])).trans ((M25.2 4 j (Or.inl (by decide))).trans rfl))) (fun j => ((q33 6 j (by simp [fz])).trans ((M25.2 6 j (Or.inl (by decide))).trans rfl))) (fun j => ((q33 7 j (by simp [fz])).trans ((M25.2 7 j (Or.inl (by decide))).trans rfl))) (fun j => ((q33 8 j (by simp [fz])).trans ((M25.2 8 j (Or.inl (by decide))).trans rfl))) (fun j => ((q33 209 j (by simp [fz])).trans ((M25.2 209 j (Or.inl (by decide))).trans rfl))) (fun j => ((q33 210 j (by simp [fz])).trans ((M25.2 210 j (Or.inl (by decide))).trans rfl)))⟩
      refine r_iconst S dX8_takeYesOrNo_61 (by decide) (fun v37 z38 => ?_)
      have r39 := R_eq z38
      exact r_ret S hr hlk X30 ⟨q32, F35, (R_of r39 rfl), (fun h => (by rw [((q33 3 2 (by decide)).trans M25.1)]; exact R_of r23 rfl)), (QX_r (sYN_g (Or.inl p10)) (by omega) ⟨by rw [((q33 3 2 (by decide)).trans M25.1)]; omega, hR36⟩)⟩ (nr_bool (R_of (lo := 0) (hi := 1) r39 rfl)) dX8_takeYesOrNo_62
    ·
      have r40 : R (1) (1) v14 := ⟨by omega, by omega⟩
      have p41 := (q17).mp (by omega)
      refine r_iconst S dX8_takeYesOrNo_46 (by decide) (fun v42 z43 => ?_)
      have r44 := R_eq z43
      refine r_goto (tgt := 51) S dX8_takeYesOrNo_47 (by decide) ?_
      refine r_put (K := 3) (ty := .int) S X12 (Nat.le_of_ble_eq_true rfl) rfl lk8_42_0 (fun _ => ⟨_, rfl, Nat.le_of_ble_eq_true rfl, rfl⟩) (fun _ _ _ h => by cases h; exact ⟨rfl, rfl⟩) rfl rfl dX8_takeYesOrNo_51 (fun t45 H lc M46 X47 => ?_)
      have I48 := Inv_mu hI M46 (R_any v42)
      have F49 : Fr [(3, 1), (3, 2), (1, 3), (1, 4), (1, 5), (1, 7), (1, 8)] [201] τ t45 := Fr_mu Fr_rfl M46 (by decide)
      refine r_aload_n S dX8_takeYesOrNo_54 rfl (lv_at hl 0 rfl) ?_
      refine r_get (K := 3) (v := .ref (G.2.2.2.1 1)) S X47 (Nat.le_of_ble_eq_true rfl) rfl lk8_9_0 (fun _ => ⟨_, rfl, rfl⟩) dX8_takeYesOrNo_55 ?_
      refine r_kv (q_V (As := []) (rest := []) (K := 1) (ci := 7) S X47 (c_X7_step_q l G t45 I48 bb nb 900 fs.1.2.2 (RT_st (RC_fr hR (fun j => ((M46.2 1 j (Or.inl (by decide))).trans rfl)) (fun j => ((M46.2 2 j (Or.inl (by decide))).trans rfl)) (fun j => ((M46.2 201 j (Or.inl (by decide))).trans rfl)) ((M46.2 3 5 (Or.inr (by decide))).trans rfl) ((M46.2 3 6 (Or.inr (by decide))).trans rfl) (fun j => ((M46.2 4 j (Or.inl (by decide))).trans rfl)) (fun j => ((M46.2 6 j (Or.inl (by decide))).trans rfl)) (fun j => ((M46.2 7 j (Or.inl (by decide))).trans rfl)) (fun j => ((M46.2 8 j (Or.inl (by decide))).trans rfl)) (fun j => ((M46.2 209 j (Or.inl (by decide))).trans rfl)) (fun j => ((M46.2 210 j (Or.inl (by decide))).trans rfl))).1 (Or.inl p41.1)).1 (RT_st (RC_fr hR (fun j => ((M46.2 1 j (Or.inl (by decide))).trans rfl)) (fun j => ((M46.2 2 j (Or.inl (by decide))).trans rfl)) (fun j => ((M46.2 201 j (Or.inl (by decide))).trans rfl)) ((M46.2 3 5 (Or.inr (by decide))).trans rfl) ((M46.2 3 6 (Or.inr (by decide))).trans rfl) (fun j => ((M46.2 4 j (Or.inl (by decide))).trans rfl)) (fun j => ((M46.2 6 j (Or.inl (by decide))).trans rfl)) (fun j => ((M46.2 7 j (Or.inl (by decide))).trans rfl)) (fun j => ((M46.2 8 j (Or.inl (by decide))).trans rfl)) (fun j => ((M46.2 209 j (Or.inl (by decide))).trans rfl)) (fun j => ((M46.2 210 j (Or.inl (by decide))).trans rfl))).1 (Or.inl p41.1)).2.1 (RT_st (RC_fr hR (fun j => ((M46.2 1 j (Or.inl (by decide))).trans rfl)) (fun j => ((M46.2 2 j (Or.inl (by decide))).trans rfl)) (fun j => ((M46.2 201 j (Or.inl (by decide))).trans rfl)) ((M46.2 3 5 (Or.inr (by decide))).trans rfl) ((M46.2 3 6 (Or.inr (by decide))).trans rfl) (fun j => ((M46.2 4 j (Or.inl (by decide))).trans rfl)) (fun j => ((M46.2 6 j (Or.inl (by decide))).trans rfl)) (fun j => ((M46.2 7 j (Or.inl (by decide))).trans rfl)) (fun j => ((M46.2 8 j (Or.inl (by decide))).trans rfl)) (fun j => ((M46.2 209 j (Or.inl (by decide))).trans rfl)) (fun j => ((M46.2 210 j (Or.inl (by decide))).trans rfl))).1 (Or.inl p41.1)).2.2) ck8_33 (Nat.le_of_ble_eq_true rfl) rfl (fun _ => ⟨_, rfl⟩) ⟨_, _, rfl⟩ ⟨Nat.le_of_ble_eq_true rfl, Nat.le_of_ble_eq_true rfl⟩ rfl hl.1 rfl (Nat.le_of_ble_eq_true rfl) dX8_takeYesOrNo_58 ⟨Nat.le_refl 0, Nat.le_refl 0⟩) X47 (fun t52 H lc q50 X51 => ?_)
      unfold po_X7_step_q at q50
      obtain ⟨q53, q54, q55⟩ := q50
      have F56 : Fr [(3, 1), (3, 2), (1, 3), (1, 4), (1, 5), (1, 7), (1, 8)] [201] τ t52 := Fr_call F49 q54 (by decide)
      have hR57 : RC bb nb t52 (stp bb nb fs) := ⟨q55, RP_fr hR.2 ((q54 3 5 (by decide)).trans ((M46.2 3 5 (Or.inr (by decide))).trans rfl)) ((q54 3 6 (by decide)).trans ((M46.2 3 6 (Or.inr (by decide))).trans rfl)) (fun j => ((q54 4 j (by simp [fz])).trans ((M46.2 4 j (Or.inl (by decide))).trans rfl))) (fun j => ((q54 6 j (by simp [fz])).trans ((M46.2 6 j (Or.inl (by decide))).trans rfl))) (fun j => ((q54 7 j (by simp [fz])).trans ((M46.2 7 j (Or.inl (by decide))).trans rfl))) (fun j => ((q54 8 j (by simp [fz])).trans ((M46.2 8 j (Or.inl (by decide))).trans rfl))) (fun j => ((q54 209 j (by simp [fz])).trans ((M46.2 209 j (Or.inl (by decide))).trans rfl))) (fun j => ((q54 210 j (by simp [fz])).trans ((M46.2 210 j (Or.inl (by decide))).trans rfl)))⟩
      refine r_iconst S dX8_takeYesOrNo_61 (by decide) (fun v58 z59 => ?_)
      have r60 := R_eq z59
      exact r_ret S hr hlk X51 ⟨q53, F56, (R_of r60 rfl), (fun h => (by rw [((q54 3 2 (by decide)).trans M46.1)]; exact R_of r44 rfl)), (QX_r (sYN_g (Or.inl p41)) (by omega) ⟨by rw [((q54 3 2 (by decide)).trans M46.1)]; omega, hR57⟩)⟩ (nr_bool (R_of (lo := 0) (hi := 1) r60 rfl)) dX8_takeYesOrNo_62
  ·
    have r61 : R (0) (0) v4 := ⟨by omega, by omega⟩
    have p62 := (iff_n q7) (by omega)
    refine r_aload_n S dX8_takeYesOrNo_13 rfl (lv_at hl 0 rfl) ?_
    refine r_get (K := 3) (v := .ref (G.2.2.2.1 1)) S X2 (Nat.le_of_ble_eq_true rfl) rfl lk8_9_0 (fun _ => ⟨_, rfl, rfl⟩) dX8_takeYesOrNo_14 ?_
    refine r_wst (i := 5) S X2 (by decide) kw17 dX8_takeYesOrNo_17 ?_
    refine r_ki (q_V (As := [.ref (G.2.2.1 5)]) (rest := []) (K := 1) (ci := 7) S X2 (c_X7_is_q l G τ hI 5 (by decide) bb nb 900 fs.1 hR.1) ck8_51 (Nat.le_of_ble_eq_true rfl) rfl (fun _ => ⟨_, rfl⟩) ⟨_, _, rfl⟩ ⟨Nat.le_of_ble_eq_true rfl, Nat.le_of_ble_eq_true rfl⟩ rfl hl.1 rfl (Nat.le_of_ble_eq_true rfl) dX8_takeYesOrNo_20 ⟨Nat.le_refl 0, Nat.le_refl 0⟩) X2 (fun v66 t65 H lc q63 X64 => ?_)
    unfold po_X7_is_q at q63
    obtain ⟨q67, q68, q69⟩ := q63
    rw [q67] at X64
    refine r_if_ne (tgt := 32) S dX8_takeYesOrNo_23 (by decide) (fun c70 => ?_) (fun c70 => ?_)
    ·
      have r71 : R (1) (1) v66 := ⟨by omega, by omega⟩
      have p72 := (q69).mp (by omega)
      refine r_aload_n S dX8_takeYesOrNo_32 rfl (lv_at hl 0 rfl) ?_
      refine r_aload_n S dX8_takeYesOrNo_33 rfl (lv_at hl 0 rfl) ?_
      refine r_get (K := 3) (v := .ref (G.2.2.2.1 1)) S X64 (Nat.le_of_ble_eq_true rfl) rfl lk8_9_0 (fun _ => ⟨_, rfl, rfl⟩) dX8_takeYesOrNo_34 ?_
      refine r_wst (i := 4) S X64 (by decide) kw16 dX8_takeYesOrNo_37 ?_
      refine r_ki (q_V (As := [.ref (G.2.2.1 4)]) (rest := [.ref (G.2.2.2.1 3)]) (K := 1) (ci := 7) S X64 (c_X7_is_q l G τ hI 4 (by decide) bb nb 900 fs.1 hR.1) ck8_51 (Nat.le_of_ble_eq_true rfl) rfl (fun _ => ⟨_, rfl⟩) ⟨_, _, rfl⟩ ⟨Nat.le_of_ble_eq_true rfl, Nat.le_of_ble_eq_true rfl⟩ rfl hl.1 rfl (Nat.le_of_ble_eq_true rfl) dX8_takeYesOrNo_40 ⟨Nat.le_refl 0, Nat.le_refl 0⟩) X64 (fun v76 t75 H lc q73 X74 => ?_)
      unfold po_X7_is_q at q73
      obtain ⟨q77, q78, q79⟩ := q73
      rw [q77] at X74
      refine r_if_eq (tgt := 50) S dX8_takeYesOrNo_43 (by decide) (fun c80 => ?_) (fun c80 => ?_)
      ·
        have r81 : R (0) (0) v76 := ⟨by omega, by omega⟩
        have p82 := (iff_n q79) (by omega)
        refine r_iconst S dX8_takeYesOrNo_50 (by decide) (fun v83 z84 => ?_)
        have r85 := R_eq z84
        refine r_put (K := 3) (ty := .int) S X74 (Nat.le_of_ble_eq_true rfl) rfl lk8_42_0 (fun _ => ⟨_, rfl, Nat.le_of_ble_eq_true rfl, rfl⟩) (fun _ _ _ h => by cases h; exact ⟨rfl, rfl⟩) rfl rfl dX8_takeYesOrNo_51 (fun t86 H lc M87 X88 => ?_)
        have I89 := Inv_mu hI M87 (R_any v83)
        have F90 : Fr [(3, 1), (3, 2), (1, 3), (1, 4), (1, 5), (1, 7), (1, 8)] [201] τ t86 := Fr_mu Fr_rfl M87 (by decide)
        refine r_aload_n S dX8_takeYesOrNo_54 rfl (lv_at hl 0 rfl) ?_
        refine r_get (K := 3) (v := .ref (G.2.2.2.1 1)) S X88 (Nat.le_of_ble_eq_true rfl) rfl lk8_9_0 (fun _ => ⟨_, rfl, rfl⟩) dX8_takeYesOrNo_55 ?_
        refine r_kv (q_V (As := []) (rest := []) (K := 1) (ci := 7) S X88 (c_X7_step_q l G t86 I89 bb nb 900 fs.1.2.2 (RT_st (RC_fr hR (fun j => ((M87.2 1 j (Or.inl (by decide))).trans rfl)) (fun j => ((M87.2 2 j (Or.inl (by decide))).trans rfl)) (fun j => ((M87.2 201 j (Or.inl (by decide))).trans rfl)) ((M87.2 3 5 (Or.inr (by decide))).trans rfl) ((M87.2 3 6 (Or.inr (by decide))).trans rfl) (fun j => ((M87.2 4 j (Or.inl (by decide))).trans rfl)) (fun j => ((M87.2 6 j (Or.inl (by decide))).trans rfl)) (fun j => ((M87.2 7 j (Or.inl (by decide))).trans rfl)) (fun j => ((M87.2 8 j (Or.inl (by decide))).trans rfl)) (fun j => ((M87.2 209 j (Or.inl (by decide))).trans rfl)) (fun j => ((M87.2 210 j (Or.inl (by decide))).trans rfl))).1 (Or.inl p72.1)).1 (RT_st (RC_fr hR (fun j => ((M87.2 1 j (Or.inl (by decide))).trans rfl)) (fun j => ((M87.2 2 j (Or.inl (by decide))).trans rfl)) (fun j => ((M87.2 201 j (Or.inl (by decide))).trans rfl)) ((M87.2 3 5 (Or.inr (by decide))).trans rfl) ((M87.2 3 6 (Or.inr (by decide))).trans rfl) (fun j => ((M87.2 4 j (Or.inl (by decide))).trans rfl)) (fun j => ((M87.2 6 j (Or.inl (by decide))).trans rfl)) (fun j => ((M87.2 7 j (Or.inl (by decide))).trans rfl)) (fun j => ((M87.2 8 j (Or.inl (by decide))).trans rfl)) (fun j => ((M87.2 209 j (Or.inl (by decide))).trans rfl)) (fun j => ((M87.2 210 j (Or.inl (by decide))).trans rfl))).1 (Or.inl p72.1)).2.1 (RT_st (RC_fr hR (fun j => ((M87.2 1 j (Or.inl (by decide))).trans rfl)) (fun j => ((M87.2 2 j (Or.inl (by decide))).trans rfl)) (fun j => ((M87.2 201 j (Or.inl (by decide))).trans rfl)) ((M87.2 3 5 (Or.inr (by decide))).trans rfl) ((M87.2 3 6 (Or.inr (by decide))).trans rfl) (fun j => ((M87.2 4 j (Or.inl (by decide))).trans rfl)) (fun j => ((M87.2 6 j (Or.inl (by decide))).trans rfl)) (fun j => ((M87.2 7 j (Or.inl (by decide))).trans rfl)) (fun j => ((M87.2 8 j (Or.inl (by decide))).trans rfl)) (fun j => ((M87.2 209 j (Or.inl (by decide))).trans rfl)) (fun j => ((M87.2 210 j (Or.inl (by decide))).trans rfl))).1 (Or.inl p72.1)).2.2) ck8_33 (Nat.le_of_ble_eq_true rfl) rfl (fun _ => ⟨_, rfl⟩) ⟨_, _, rfl⟩ ⟨Nat.le_of_ble_eq_true rfl, Nat.le_of_ble_eq_true rfl⟩ rfl hl.1 rfl (Nat.le_of_ble_eq_true rfl) dX8_takeYesOrNo_58 ⟨Nat.le_refl 0, Nat.le_refl 0⟩) X88 (fun t93 H lc q91 X92 => ?_)
        unfold po_X7_step_q at q91
        obtain ⟨q94, q95, q96⟩ := q91
        have F97 : Fr [(3, 1), (3, 2), (1, 3), (1, 4), (1, 5), (1, 7), (1, 8)] [201] τ t93 := Fr_call F90 q95 (by decide)
        have hR98 : RC bb nb t93 (stp bb nb fs) := ⟨q96, RP_fr hR.2 ((q95 3 5 (by decide)).trans ((M87.2 3 5 (Or.inr (by decide))).trans rfl)) ((q95 3 6 (by decide)).trans ((M87.2 3 6 (Or.inr (by decide))).trans rfl)) (fun j => ((q95 4 j (by simp [fz])).trans ((M87.2 4 j (Or.inl (by decide))).trans rfl))) (fun j => ((q95 6 j (by simp [fz])).trans ((M87.2 6 j (Or.inl (by decide))).trans rfl))) (fun j => ((q95 7 j (by simp [fz])).trans ((M87.2 7 j (Or.inl (by decide))).trans rfl))) (fun j => ((q95 8 j (by simp [fz])).trans ((M87.2 8 j (Or.inl (by decide))).trans rfl))) (fun j => ((q95 209 j (by simp [fz])).trans ((M87.2 209 j (Or.inl (by decide))).trans rfl))) (fun j => ((q95 210 j (by simp [fz])).trans ((M87.2 210 j (Or.inl (by decide))).trans rfl)))⟩
        refine r_iconst S dX8_takeYesOrNo_61 (by decide) (fun v99 z100 => ?_)
        have r101 := R_eq z100
        exact r_ret S hr hlk X92 ⟨q94, F97, (R_of r101 rfl), (fun h => (by rw [((q95 3 2 (by decide)).trans M87.1)]; exact R_of r85 rfl)), (QX_r (sYN_g (Or.inr p72)) (by omega) ⟨by rw [((q95 3 2 (by decide)).trans M87.1)]; omega, hR98⟩)⟩ (nr_bool (R_of (lo := 0) (hi := 1) r101 rfl)) dX8_takeYesOrNo_62
      ·
        have r102 : R (1) (1) v76 := ⟨by omega, by omega⟩
        have p103 := (q79).mp (by omega)
        refine r_iconst S dX8_takeYesOrNo_46 (by decide) (fun v104 z105 => ?_)
        have r106 := R_eq z105
        refine r_goto (tgt := 51) S dX8_takeYesOrNo_47 (by decide) ?_
        refine r_put (K := 3) (ty := .int) S X74 (Nat.le_of_ble_eq_true rfl) rfl lk8_42_0 (fun _ => ⟨_, rfl, Nat.le_of_ble_eq_true rfl, rfl⟩) (fun _ _ _ h => by cases h; exact ⟨rfl, rfl⟩) rfl rfl dX8_takeYesOrNo_51 (fun t107 H lc M108 X109 => ?_)
        have I110 := Inv_mu hI M108 (R_any v104)
        have F111 : Fr [(3, 1), (3, 2), (1, 3), (1, 4), (1, 5), (1, 7), (1, 8)] [201] τ t107 := Fr_mu Fr_rfl M108 (by decide)
        refine r_aload_n S dX8_takeYesOrNo_54 rfl (lv_at hl 0 rfl) ?_
        refine r_get (K := 3) (v := .ref (G.2.2.2.1 1)) S X109 (Nat.le_of_ble_eq_true rfl) rfl lk8_9_0 (fun _ => ⟨_, rfl, rfl⟩) dX8_takeYesOrNo_55 ?_
        refine r_kv (q_V (As := []) (rest := []) (K := 1) (ci := 7) S X109 (c_X7_step_q l G t107 I110 bb nb 900 fs.1.2.2 (RT_st (RC_fr hR (fun j => ((M108.2 1 j (Or.inl (by decide))).trans rfl)) (fun j => ((M108.2 2 j (Or.inl (by decide))).trans rfl)) (fun j => ((M108.2 201 j (Or.inl (by decide))).trans rfl)) ((M108.2 3 5 (Or.inr (by decide))).trans rfl) ((M108.2 3 6 (Or.inr (by decide))).trans rfl) (fun j => ((M108.2 4 j (Or.inl (by decide))).trans rfl)) (fun j => ((M108.2 6 j (Or.inl (by decide))).trans rfl)) (fun j => ((M108.2 7 j (Or.inl (by decide))).trans rfl)) (fun j => ((M108.2 8 j (Or.inl (by decide))).trans rfl)) (fun j => ((M108.2 209 j (Or.inl (by decide))).trans rfl)) (fun j => ((M108.2 210 j (Or.inl (by decide))).trans rfl))).1 (Or.inl p103.1)).1 (RT_st (RC_fr hR (fun j => ((M108.2 1 j (Or.inl (by decide))).trans rfl)) (fun j => ((M108.2 2 j (Or.inl (by decide))).trans rfl)) (fun j => ((M108.2 201 j (Or.inl (by decide))).trans rfl)) ((M108.2 3 5 (Or.inr (by decide))).trans rfl) ((M108.2 3 6 (Or.inr (by decide))).trans rfl) (fun j => ((M108.2 4 j (Or.inl (by decide))).trans rfl)) (fun j => ((M108.2 6 j (Or.inl (by decide))).trans rfl)) (fun j => ((M108.2 7 j (Or.inl (by decide))).trans rfl)) (fun j => ((M108.2 8 j (Or.inl (by decide))).trans rfl)) (fun j => ((M108.2 209 j (Or.inl (by decide))).trans rfl)) (fun j => ((M108.2 210 j (Or.inl (by decide))).trans rfl))).1 (Or.inl p103.1)).2.1 (RT_st (RC_fr hR (fun j => ((M108.2 1 j (Or.inl (by decide))).trans rfl)) (fun j => ((M108.2 2 j (Or.inl (by decide))).trans rfl)) (fun j => ((M108.2 201 j (Or.inl (by decide))).trans rfl)) ((M108.2 3 5 (Or.inr (by decide))).trans rfl) ((M108.2 3 6 (Or.inr (by decide))).trans rfl) (fun j => ((M108.2 4 j (Or.inl (by decide))).trans rfl)) (fun j => ((M108.2 6 j (Or.inl (by decide))).trans rfl)) (fun j => ((M108.2 7 j (Or.inl (by decide))).trans rfl)) (fun j => ((M108.2 8 j (Or.inl (by decide))).trans rfl)) (fun j => ((M108.2 209 j (Or.inl (by decide))).trans rfl)) (fun j => ((M108.2 210 j (Or.inl (by decide))).trans rfl))).1 (Or.inl p103.1)).2.2) ck8_33 (Nat.le_of_ble_eq_true rfl) rfl (fun _ => ⟨_, rfl⟩) ⟨_, _, rfl⟩ ⟨Nat.le_of_ble_eq_true rfl, Nat.le_of_ble_eq_true rfl⟩ rfl hl.1 rfl (Nat.le_of_ble_eq_true rfl) dX8_takeYesOrNo_58 ⟨Nat.le_refl 0, Nat.le_refl 0⟩) X109 (fun t114 H lc q112 X113 => ?_)
        unfold po_X7_step_q at q112
        obtain ⟨q115, q116, q117⟩ := q112
        have F118 : Fr [(3, 1), (3, 2), (1, 3), (1, 4), (1, 5), (1, 7), (1, 8)] [201] τ t114 := Fr_call F111 q116 (by decide)
        have hR119 : RC bb nb t114 (stp bb nb fs) := ⟨q117, RP_fr hR.2 ((q116 3 5 (by decide)).trans ((M108.2 3 5 (Or.inr (by decide))).trans rfl)) ((q116 3 6 (by decide)).trans ((M108.2 3 6 (Or.inr (by decide))).trans rfl)) (fun j => ((q116 4 j (by simp [fz])).trans ((M108.2 4 j (Or.inl (by decide))).trans rfl))) (fun j => ((q116 6 j (by simp [fz])).trans ((M108.2 6 j (Or.inl (by decide))).trans rfl))) (fun j => ((q116 7 j (by simp [fz])).trans ((M108.2 7 j (Or.inl (by decide))).trans rfl))) (fun j => ((q116 8 j (by simp [fz])).trans ((M108.2 8 j (Or.inl (by decide))).trans rfl))) (fun j => ((q116 209 j (by simp [fz])).trans ((M108.2 209 j (Or.inl (by decide))).trans rfl))) (fun j => ((q116 210 j (by simp [fz])).trans ((M108.2 210 j (Or.inl (by decide))).trans rfl)))⟩
        refine r_iconst S dX8_takeYesOrNo_61 (by decide) (fun v120 z121 => ?_)
        have r122 := R_eq z121
        exact r_ret S hr hlk X113 ⟨q115, F118, (R_of r122 rfl), (fun h => (by rw [((q116 3 2 (by decide)).trans M108.1)]; exact R_of r106 rfl)), (QX_r (sYN_g (Or.inl p103)) (by omega) ⟨by rw [((q116 3 2 (by decide)).trans M108.1)]; omega, hR119⟩)⟩ (nr_bool (R_of (lo := 0) (hi := 1) r122 rfl)) dX8_takeYesOrNo_62
    ·
      have r123 : R (0) (0) v66 := ⟨by omega, by omega⟩
      have p124 := (iff_n q69) (by omega)
      refine r_aload_n S dX8_takeYesOrNo_26 rfl (lv_at hl 0 rfl) ?_
      refine r_iconst S dX8_takeYesOrNo_27 (by decide) (fun v125 z126 => ?_)
      have r127 := R_eq z126
      refine r_ki (q_U (As := [.int v125]) (rest := []) (K := 3) (ci := 0) S X64 (c_X8_fail_q l G τ hI v125 (R_of (lo := -2147483648) (hi := 2147483647) r127 rfl)) ck8_29_0 (Nat.le_of_ble_eq_true rfl) rfl (fun _ => ⟨_, rfl⟩) ⟨_, _, rfl⟩ ⟨Nat.le_of_ble_eq_true rfl, Nat.le_of_ble_eq_true rfl⟩ rfl hl.1 rfl (Nat.le_of_ble_eq_true rfl) dX8_takeYesOrNo_28 ⟨Nat.le_refl 0, Nat.le_refl 0⟩) X64 (fun v131 t130 H lc q128 X129 => ?_)
      unfold po_X8_fail_q at q128
      obtain ⟨q132, q133, q134, q135⟩ := q128
      have F136 : Fr [(3, 1), (3, 2), (1, 3), (1, 4), (1, 5), (1, 7), (1, 8)] [201] τ t130 := Fr_call Fr_rfl q133 (by decide)
      exact r_ret S hr hlk X129 ⟨q132, F136, (R_of q134 rfl), (fun h => by exfalso; omega), (QX_b (sYN_b (fun h => h.elim p62 p124)) (by omega) (by rw [q135]; omega) (RC_at (RC_fr hR (fun j => ((q133 1 j (by simp [fz])).trans rfl)) (fun j => ((q133 2 j (by simp [fz])).trans rfl)) (fun j => ((q133 201 j (by simp [fz])).trans rfl)) ((q133 3 5 (by decide)).trans rfl) ((q133 3 6 (by decide)).trans rfl) (fun j => ((q133 4 j (by simp [fz])).trans rfl)) (fun j => ((q133 6 j (by simp [fz])).trans rfl)) (fun j => ((q133 7 j (by simp [fz])).trans rfl)) (fun j => ((q133 8 j (by simp [fz])).trans rfl)) (fun j => ((q133 209 j (by simp [fz])).trans rfl)) (fun j => ((q133 210 j (by simp [fz])).trans rfl)))))⟩ (nr_bool (R_of (lo := 0) (hi := 1) q134 rfl)) dX8_takeYesOrNo_31
def po_X8_seeMan_q (τ : Tau)    (bb : Nat → Int) (nb : Nat) (fs : FS) (r : Int32) (u : Tau) : Prop := Inv u ∧ Fr [(3, 1), (3, 2)] [] τ u ∧ R (0) (1) r ∧ (r.toInt = 1 → R (0) (9) (u 3 2)) ∧ QX (sLook bb (gmn fs.2) fs.1) r u (fun i => (u 3 2).toInt = i ∧ RC bb nb u fs)
set_option maxHeartbeats 4000000 in
set_option maxRecDepth 100000 in
theorem c_X8_seeMan_q (l : Launch) (G : Gx) (τ : Tau) (hI : Inv τ) (bb : Nat → Int) (nb : Nat) (fs : FS) (hR : RC bb nb τ fs) : Ci l G yX8_seeMan cX8_seeMan 2 (some .boolean) 1 23 [.ref (G.2.2.2.1 3), .ref (G.2.2.2.1 4)] τ (po_X8_seeMan_q τ    bb nb fs) := by
  unfold Ci
  refine C_of (own := RX8) (by decide) rfl (Nat.le_of_ble_eq_true rfl) ?_
  intro p e s m below meth c ls S hr hlk X hl
  have hl : lv_has ls 2 [(0, .ref (G.2.2.2.1 3)), (1, .ref (G.2.2.2.1 4))] := hl
  refine r_aload_n S dX8_seeMan_0 rfl (lv_at hl 0 rfl) ?_
  refine r_get (K := 3) (v := .ref (G.2.2.2.1 1)) S X (Nat.le_of_ble_eq_true rfl) rfl lk8_9_0 (fun _ => ⟨_, rfl, rfl⟩) dX8_seeMan_1 ?_
  refine r_getn (K := 1) S X (Nat.le_of_ble_eq_true rfl) rfl lk8_36_7 (fun _ => ⟨_, rfl, rfl⟩) dX8_seeMan_4 (fun v1 z2 => ?_)
  have r3 : R (0) (4) v1 := rd hI rfl z2
  refine r_iconst S dX8_seeMan_7 (by decide) (fun v4 z5 => ?_)
  have r6 := R_eq z5
  refine r_icmp_ne (tgt := 24) S dX8_seeMan_8 (by decide) (fun c7 => ?_) (fun c7 => ?_)
  ·
    refine r_aload_n S dX8_seeMan_24 rfl (lv_at hl 0 rfl) ?_
    refine r_iconst S dX8_seeMan_25 (by decide) (fun v8 z9 => ?_)
    have r10 := R_eq z9
    refine r_ki (q_U (As := [.int v8]) (rest := []) (K := 3) (ci := 0) S X (c_X8_fail_q l G τ hI v8 (R_of (lo := -2147483648) (hi := 2147483647) r10 rfl)) ck8_29_0 (Nat.le_of_ble_eq_true rfl) rfl (fun _ => ⟨_, rfl⟩) ⟨_, _, rfl⟩ ⟨Nat.le_of_ble_eq_true rfl, Nat.le_of_ble_eq_true rfl⟩ rfl hl.1 rfl (Nat.le_of_ble_eq_true rfl) dX8_seeMan_26 ⟨Nat.le_refl 0, Nat.le_refl 0⟩) X (fun v14 t13 H lc q11 X12 => ?_)
    unfold po_X8_fail_q at q11
    obtain ⟨q15, q16, q17, q18⟩ := q11
    have F19 : Fr [(3, 1), (3, 2)] [] τ t13 := Fr_call Fr_rfl q16 (by decide)
    exact r_ret S hr hlk X12 ⟨q15, F19, (R_of q17 rfl), (fun h => by exfalso; omega), (QX_b (sLook_b1 (fun h => absurd ((RT_k hR.1).2.1.mpr h.1) (by rw [z2]; omega))) (by omega) (by rw [q18]; omega) (RC_at (RC_fr hR (fun j => ((q16 1 j (by simp [fz])).trans rfl)) (fun j => ((q16 2 j (by simp [fz])).trans rfl)) (fun j => ((q16 201 j (by simp [fz])).trans rfl)) ((q16 3 5 (by decide)).trans rfl) ((q16 3 6 (by decide)).trans rfl) (fun j => ((q16 4 j (by simp [fz])).trans rfl)) (fun j => ((q16 6 j (by simp [fz])).trans rfl)) (fun j => ((q16 7 j (by simp [fz])).trans rfl)) (fun j => ((q16 8 j (by simp [fz])).trans rfl)) (fun j => ((q16 209 j (by simp [fz])).trans rfl)) (fun j => ((q16 210 j (by simp [fz])).trans rfl)))))⟩ (nr_bool (R_of (lo := 0) (hi := 1) q17 rfl)) dX8_seeMan_29
  ·
    have r20 : R (2) (2) v1 := ⟨by omega, by omega⟩
    refine r_aload_n S dX8_seeMan_11 rfl (lv_at hl 0 rfl) ?_
    refine r_get (K := 3) (v := .ref (G.2.2.2.1 1)) S X (Nat.le_of_ble_eq_true rfl) rfl lk8_9_0 (fun _ => ⟨_, rfl, rfl⟩) dX8_seeMan_12 ?_
    refine r_getJ (K := 1) S X (Nat.le_of_ble_eq_true rfl) rfl lk8_58_7 (fun _ => ⟨_, rfl, rfl⟩) dX8_seeMan_15 (fun j21 z22 => ?_)
    refine r_ki (q_S (As := [.long j21]) (rest := []) S X (c_X9_isKept_q l G τ hI j21 (wrd bb fs.1) (by rw [← z22]; exact (RT_low hR.1 ((RT_k hR.1).2.1.mp (by rw [z2]; omega))).2) (RT_low hR.1 ((RT_k hR.1).2.1.mp (by rw [z2]; omega))).1) ck8_62 ⟨Nat.le_of_ble_eq_true rfl, Nat.le_of_ble_eq_true rfl⟩ rfl hl.1 rfl (Nat.le_of_ble_eq_true rfl) dX8_seeMan_18 ⟨Nat.le_refl 0, Nat.le_refl 0⟩) X (fun v26 t25 H lc q23 X24 => ?_)
    unfold po_X9_isKept_q at q23
    obtain ⟨q27, q28, q29⟩ := q23
    rw [q27] at X24
    refine r_if_eq (tgt := 30) S dX8_seeMan_21 (by decide) (fun c30 => ?_) (fun c30 => ?_)
    ·
      have r31 : R (0) (0) v26 := ⟨by omega, by omega⟩
      have p32 := (iff_n q29) (by omega)
      refine r_aload_n S dX8_seeMan_30 rfl (lv_at hl 0 rfl) ?_
      refine r_aload_n S dX8_seeMan_31 rfl (lv_at hl 1 rfl) ?_
      refine r_aload_n S dX8_seeMan_32 rfl (lv_at hl 0 rfl) ?_
      refine r_get (K := 3) (v := .ref (G.2.2.2.1 1)) S X24 (Nat.le_of_ble_eq_true rfl) rfl lk8_9_0 (fun _ => ⟨_, rfl, rfl⟩) dX8_seeMan_33 ?_
      refine r_getJ (K := 1) S X24 (Nat.le_of_ble_eq_true rfl) rfl lk8_58_7 (fun _ => ⟨_, rfl, rfl⟩) dX8_seeMan_36 (fun j33 z34 => ?_)
      refine r_ki (q_V (As := [.long j33]) (rest := [.ref (G.2.2.2.1 3)]) (K := 4) (ci := 2) S X24 (c_X2_manNamed_q l G τ hI j33 (gmn fs.2) (wrd bb fs.1) (RP_mnm hR.2) (by rw [← z34]; exact (RT_low hR.1 ((RT_k hR.1).2.1.mp (by rw [z2]; omega))).2) (RT_low hR.1 ((RT_k hR.1).2.1.mp (by rw [z2]; omega))).1) ck8_66 (Nat.le_of_ble_eq_true rfl) rfl (fun _ => ⟨_, rfl⟩) ⟨_, _, rfl⟩ ⟨Nat.le_of_ble_eq_true rfl, Nat.le_of_ble_eq_true rfl⟩ rfl hl.1 rfl (Nat.le_of_ble_eq_true rfl) dX8_seeMan_39 ⟨Nat.le_refl 0, Nat.le_refl 0⟩) X24 (fun v38 t37 H lc q35 X36 => ?_)
      unfold po_X2_manNamed_q at q35
      obtain ⟨q39, q40, q41⟩ := q35
      rw [q39] at X36
      refine r_put (K := 3) (ty := .int) S X36 (Nat.le_of_ble_eq_true rfl) rfl lk8_42_0 (fun _ => ⟨_, rfl, Nat.le_of_ble_eq_true rfl, rfl⟩) (fun _ _ _ h => by cases h; exact ⟨rfl, rfl⟩) rfl rfl dX8_seeMan_42 (fun t42 H lc M43 X44 => ?_)
      have I45 := Inv_mu hI M43 (R_any v38)
      have F46 : Fr [(3, 1), (3, 2)] [] τ t42 := Fr_mu Fr_rfl M43 (by decide)
      refine r_aload_n S dX8_seeMan_45 rfl (lv_at hl 0 rfl) ?_
      refine r_geti (K := 3) S X44 (Nat.le_of_ble_eq_true rfl) rfl lk8_42_0 (fun _ => ⟨_, rfl, rfl⟩) M43.1 dX8_seeMan_46 ?_
      refine r_iconst S dX8_seeMan_49 (by decide) (fun v47 z48 => ?_)
      have r49 := R_eq z48
      refine r_icmp_ne (tgt := 61) S dX8_seeMan_50 (by decide) (fun c50 => ?_) (fun c50 => ?_)
      ·
        have r51 : R (0) (9) v38 := ⟨by omega, by omega⟩
        refine r_iconst S dX8_seeMan_61 (by decide) (fun v52 z53 => ?_)
        have r54 := R_eq z53
        refine r_goto (tgt := 66) S dX8_seeMan_62 (by decide) ?_
        exact r_ret S hr hlk X44 ⟨I45, F46, (R_of r54 rfl), (fun h => (by rw [M43.1]; exact R_of r51 rfl)), (QX_r (sLook_g ⟨((RT_k hR.1).2.1.mp (by rw [z2]; omega)), p32⟩ (by rw [← q41]; omega)) (by omega) ⟨show (t42 3 2).toInt = (((fnd (gmn fs.2) (wrd bb fs.1)).toNat : Nat) : Int) by rw [M43.1, ← q41]; omega, (RC_fr hR (fun j => ((M43.2 1 j (Or.inl (by decide))).trans rfl)) (fun j => ((M43.2 2 j (Or.inl (by decide))).trans rfl)) (fun j => ((M43.2 201 j (Or.inl (by decide))).trans rfl)) ((M43.2 3 5 (Or.inr (by decide))).trans rfl) ((M43.2 3 6 (Or.inr (by decide))).trans rfl) (fun j => ((M43.2 4 j (Or.inl (by decide))).trans rfl)) (fun j => ((M43.2 6 j (Or.inl (by decide))).trans rfl)) (fun j => ((M43.2 7 j (Or.inl (by decide))).trans rfl)) (fun j => ((M43.2 8 j (Or.inl (by decide))).trans rfl)) (fun j => ((M43.2 209 j (Or.inl (by decide))).trans rfl)) (fun j => ((M43.2 210 j (Or.inl (by decide))).trans rfl)))⟩)⟩ (nr_bool (R_of (lo := 0) (hi := 1) r54 rfl)) dX8_seeMan_66
      ·
        have r55 : R (-1) (-1) v38 := ⟨by omega, by omega⟩
        refine r_aload_n S dX8_seeMan_53 rfl (lv_at hl 0 rfl) ?_
        refine r_iconst S dX8_seeMan_54 (by decide) (fun v56 z57 => ?_)
        have r58 := R_eq z57
        refine r_ki (q_U (As := [.int v56]) (rest := []) (K := 3) (ci := 0) S X44 (c_X8_fail_q l G t42 I45 v56 (R_of (lo := -2147483648) (hi := 2147483647) r58 rfl)) ck8_29_0 (Nat.le_of_ble_eq_true rfl) rfl (fun _ => ⟨_, rfl⟩) ⟨_, _, rfl⟩ ⟨Nat.le_of_ble_eq_true rfl, Nat.le_of_ble_eq_true rfl⟩ rfl hl.1 rfl (Nat.le_of_ble_eq_true rfl) dX8_seeMan_55 ⟨Nat.le_refl 0, Nat.le_refl 0⟩) X44 (fun v62 t61 H lc q59 X60 => ?_)
        unfold po_X8_fail_q at q59
        obtain ⟨q63, q64, q65, q66⟩ := q59
        have F67 : Fr [(3, 1), (3, 2)] [] τ t61 := Fr_call F46 q64 (by decide)
        refine r_if_eq (tgt := 65) S dX8_seeMan_58 (by decide) (fun c68 => ?_) (fun c68 => ?_)
        ·
          refine r_iconst S dX8_seeMan_65 (by decide) (fun v69 z70 => ?_)
          have r71 := R_eq z70
          exact r_ret S hr hlk X60 ⟨q63, F67, (R_of r71 rfl), (fun h => by exfalso; omega), (QX_b (sLook_b3 ⟨((RT_k hR.1).2.1.mp (by rw [z2]; omega)), p32⟩ (by rw [← q41]; omega)) (by omega) (by rw [q66]; omega) (RC_at (RC_fr hR (fun j => ((q64 1 j (by simp [fz])).trans ((M43.2 1 j (Or.inl (by decide))).trans rfl))) (fun j => ((q64 2 j (by simp [fz])).trans ((M43.2 2 j (Or.inl (by decide))).trans rfl))) (fun j => ((q64 201 j (by simp [fz])).trans ((M43.2 201 j (Or.inl (by decide))).trans rfl))) ((q64 3 5 (by decide)).trans ((M43.2 3 5 (Or.inr (by decide))).trans rfl)) ((q64 3 6 (by decide)).trans ((M43.2 3 6 (Or.inr (by decide))).trans rfl)) (fun j => ((q64 4 j (by simp [fz])).trans ((M43.2 4 j (Or.inl (by decide))).trans rfl))) (fun j => ((q64 6 j (by simp [fz])).trans ((M43.2 6 j (Or.inl (by decide))).trans rfl))) (fun j => ((q64 7 j (by simp [fz])).trans ((M43.2 7 j (Or.inl (by decide))).trans rfl))) (fun j => ((q64 8 j (by simp [fz])).trans ((M43.2 8 j (Or.inl (by decide))).trans rfl))) (fun j => ((q64 209 j (by simp [fz])).trans ((M43.2 209 j (Or.inl (by decide))).trans rfl))) (fun j => ((q64 210 j (by simp [fz])).trans ((M43.2 210 j (Or.inl (by decide))).trans rfl))))))⟩ (nr_bool (R_of (lo := 0) (hi := 1) r71 rfl)) dX8_seeMan_66
        ·
          exfalso; omega
    ·
      have r72 : R (1) (1) v26 := ⟨by omega, by omega⟩
      have p73 := (q29).mp (by omega)
      refine r_aload_n S dX8_seeMan_24 rfl (lv_at hl 0 rfl) ?_
      refine r_iconst S dX8_seeMan_25 (by decide) (fun v74 z75 => ?_)
      have r76 := R_eq z75
      refine r_ki (q_U (As := [.int v74]) (rest := []) (K := 3) (ci := 0) S X24 (c_X8_fail_q l G τ hI v74 (R_of (lo := -2147483648) (hi := 2147483647) r76 rfl)) ck8_29_0 (Nat.le_of_ble_eq_true rfl) rfl (fun _ => ⟨_, rfl⟩) ⟨_, _, rfl⟩ ⟨Nat.le_of_ble_eq_true rfl, Nat.le_of_ble_eq_true rfl⟩ rfl hl.1 rfl (Nat.le_of_ble_eq_true rfl) dX8_seeMan_26 ⟨Nat.le_refl 0, Nat.le_refl 0⟩) X24 (fun v80 t79 H lc q77 X78 => ?_)
      unfold po_X8_fail_q at q77
      obtain ⟨q81, q82, q83, q84⟩ := q77
      have F85 : Fr [(3, 1), (3, 2)] [] τ t79 := Fr_call Fr_rfl q82 (by decide)
      exact r_ret S hr hlk X78 ⟨q81, F85, (R_of q83 rfl), (fun h => by exfalso; omega), (QX_b (sLook_b1 (fun h => h.2 p73)) (by omega) (by rw [q84]; omega) (RC_at (RC_fr hR (fun j => ((q82 1 j (by simp [fz])).trans rfl)) (fun j => ((q82 2 j (by simp [fz])).trans rfl)) (fun j => ((q82 201 j (by simp [fz])).trans rfl)) ((q82 3 5 (by decide)).trans rfl) ((q82 3 6 (by decide)).trans rfl) (fun j => ((q82 4 j (by simp [fz])).trans rfl)) (fun j => ((q82 6 j (by simp [fz])).trans rfl)) (fun j => ((q82 7 j (by simp [fz])).trans rfl)) (fun j => ((q82 8 j (by simp [fz])).trans rfl)) (fun j => ((q82 209 j (by simp [fz])).trans rfl)) (fun j => ((q82 210 j (by simp [fz])).trans rfl)))))⟩ (nr_bool (R_of (lo := 0) (hi := 1) q83 rfl)) dX8_seeMan_29
def po_X8_seeAsk_q (τ : Tau)    (bb : Nat → Int) (nb : Nat) (fs : FS) (r : Int32) (u : Tau) : Prop := Inv u ∧ Fr [(3, 1), (3, 2)] [] τ u ∧ R (0) (1) r ∧ (r.toInt = 1 → R (0) (8) (u 3 2)) ∧ QX (sLook bb (gan fs.2) fs.1) r u (fun i => (u 3 2).toInt = i ∧ RC bb nb u fs)
set_option maxHeartbeats 4000000 in
set_option maxRecDepth 100000 in
theorem c_X8_seeAsk_q (l : Launch) (G : Gx) (τ : Tau) (hI : Inv τ) (bb : Nat → Int) (nb : Nat) (fs : FS) (hR : RC bb nb τ fs) : Ci l G yX8_seeAsk cX8_seeAsk 2 (some .boolean) 1 23 [.ref (G.2.2.2.1 3), .ref (G.2.2.2.1 4)] τ (po_X8_seeAsk_q τ    bb nb fs) := by
  unfold Ci
  refine C_of (own := RX8) (by decide) rfl (Nat.le_of_ble_eq_true rfl) ?_
  intro p e s m below meth c ls S hr hlk X hl
  have hl : lv_has ls 2 [(0, .ref (G.2.2.2.1 3)), (1, .ref (G.2.2.2.1 4))] := hl
  refine r_aload_n S dX8_seeAsk_0 rfl (lv_at hl 0 rfl) ?_
  refine r_get (K := 3) (v := .ref (G.2.2.2.1 1)) S X (Nat.le_of_ble_eq_true rfl) rfl lk8_9_0 (fun _ => ⟨_, rfl, rfl⟩) dX8_seeAsk_1 ?_
  refine r_getn (K := 1) S X (Nat.le_of_ble_eq_true rfl) rfl lk8_36_7 (fun _ => ⟨_, rfl, rfl⟩) dX8_seeAsk_4 (fun v1 z2 => ?_)
  have r3 : R (0) (4) v1 := rd hI rfl z2
  refine r_iconst S dX8_seeAsk_7 (by decide) (fun v4 z5 => ?_)
  have r6 := R_eq z5
  refine r_icmp_ne (tgt := 24) S dX8_seeAsk_8 (by decide) (fun c7 => ?_) (fun c7 => ?_)
  ·
    refine r_aload_n S dX8_seeAsk_24 rfl (lv_at hl 0 rfl) ?_
    refine r_iconst S dX8_seeAsk_25 (by decide) (fun v8 z9 => ?_)
    have r10 := R_eq z9
    refine r_ki (q_U (As := [.int v8]) (rest := []) (K := 3) (ci := 0) S X (c_X8_fail_q l G τ hI v8 (R_of (lo := -2147483648) (hi := 2147483647) r10 rfl)) ck8_29_0 (Nat.le_of_ble_eq_true rfl) rfl (fun _ => ⟨_, rfl⟩) ⟨_, _, rfl⟩ ⟨Nat.le_of_ble_eq_true rfl, Nat.le_of_ble_eq_true rfl⟩ rfl hl.1 rfl (Nat.le_of_ble_eq_true rfl) dX8_seeAsk_26 ⟨Nat.le_refl 0, Nat.le_refl 0⟩) X (fun v14 t13 H lc q11 X12 => ?_)
    unfold po_X8_fail_q at q11
    obtain ⟨q15, q16, q17, q18⟩ := q11
    have F19 : Fr [(3, 1), (3, 2)] [] τ t13 := Fr_call Fr_rfl q16 (by decide)
    exact r_ret S hr hlk X12 ⟨q15, F19, (R_of q17 rfl), (fun h => by exfalso; omega), (QX_b (sLook_b1 (fun h => absurd ((RT_k hR.1).2.1.mpr h.1) (by rw [z2]; omega))) (by omega) (by rw [q18]; omega) (RC_at (RC_fr hR (fun j => ((q16 1 j (by simp [fz])).trans rfl)) (fun j => ((q16 2 j (by simp [fz])).trans rfl)) (fun j => ((q16 201 j (by simp [fz])).trans rfl)) ((q16 3 5 (by decide)).trans rfl) ((q16 3 6 (by decide)).trans rfl) (fun j => ((q16 4 j (by simp [fz])).trans rfl)) (fun j => ((q16 6 j (by simp [fz])).trans rfl)) (fun j => ((q16 7 j (by simp [fz])).trans rfl)) (fun j => ((q16 8 j (by simp [fz])).trans rfl)) (fun j => ((q16 209 j (by simp [fz])).trans rfl)) (fun j => ((q16 210 j (by simp [fz])).trans rfl)))))⟩ (nr_bool (R_of (lo := 0) (hi := 1) q17 rfl)) dX8_seeAsk_29
  ·
    have r20 : R (2) (2) v1 := ⟨by omega, by omega⟩
    refine r_aload_n S dX8_seeAsk_11 rfl (lv_at hl 0 rfl) ?_
    refine r_get (K := 3) (v := .ref (G.2.2.2.1 1)) S X (Nat.le_of_ble_eq_true rfl) rfl lk8_9_0 (fun _ => ⟨_, rfl, rfl⟩) dX8_seeAsk_12 ?_
    refine r_getJ (K := 1) S X (Nat.le_of_ble_eq_true rfl) rfl lk8_58_7 (fun _ => ⟨_, rfl, rfl⟩) dX8_seeAsk_15 (fun j21 z22 => ?_)
    refine r_ki (q_S (As := [.long j21]) (rest := []) S X (c_X9_isKept_q l G τ hI j21 (wrd bb fs.1) (by rw [← z22]; exact (RT_low hR.1 ((RT_k hR.1).2.1.mp (by rw [z2]; omega))).2) (RT_low hR.1 ((RT_k hR.1).2.1.mp (by rw [z2]; omega))).1) ck8_62 ⟨Nat.le_of_ble_eq_true rfl, Nat.le_of_ble_eq_true rfl⟩ rfl hl.1 rfl (Nat.le_of_ble_eq_true rfl) dX8_seeAsk_18 ⟨Nat.le_refl 0, Nat.le_refl 0⟩) X (fun v26 t25 H lc q23 X24 => ?_)
    unfold po_X9_isKept_q at q23
    obtain ⟨q27, q28, q29⟩ := q23
    rw [q27] at X24
    refine r_if_eq (tgt := 30) S dX8_seeAsk_21 (by decide) (fun c30 => ?_) (fun c30 => ?_)
    ·
      have r31 : R (0) (0) v26 := ⟨by omega, by omega⟩
      have p32 := (iff_n q29) (by omega)
      refine r_aload_n S dX8_seeAsk_30 rfl (lv_at hl 0 rfl) ?_
      refine r_aload_n S dX8_seeAsk_31 rfl (lv_at hl 1 rfl) ?_
      refine r_aload_n S dX8_seeAsk_32 rfl (lv_at hl 0 rfl) ?_
      refine r_get (K := 3) (v := .ref (G.2.2.2.1 1)) S X24 (Nat.le_of_ble_eq_true rfl) rfl lk8_9_0 (fun _ => ⟨_, rfl, rfl⟩) dX8_seeAsk_33 ?_
      refine r_getJ (K := 1) S X24 (Nat.le_of_ble_eq_true rfl) rfl lk8_58_7 (fun _ => ⟨_, rfl, rfl⟩) dX8_seeAsk_36 (fun j33 z34 => ?_)
      refine r_ki (q_V (As := [.long j33]) (rest := [.ref (G.2.2.2.1 3)]) (K := 4) (ci := 2) S X24 (c_X2_askNamed_q l G τ hI j33 (gan fs.2) (wrd bb fs.1) (RP_anm hR.2) (by rw [← z34]; exact (RT_low hR.1 ((RT_k hR.1).2.1.mp (by rw [z2]; omega))).2) (RT_low hR.1 ((RT_k hR.1).2.1.mp (by rw [z2]; omega))).1) ck8_72 (Nat.le_of_ble_eq_true rfl) rfl (fun _ => ⟨_, rfl⟩) ⟨_, _, rfl⟩ ⟨Nat.le_of_ble_eq_true rfl, Nat.le_of_ble_eq_true rfl⟩ rfl hl.1 rfl (Nat.le_of_ble_eq_true rfl) dX8_seeAsk_39 ⟨Nat.le_refl 0, Nat.le_refl 0⟩) X24 (fun v38 t37 H lc q35 X36 => ?_)
      unfold po_X2_askNamed_q at q35
      obtain ⟨q39, q40, q41⟩ := q35
      rw [q39] at X36
      refine r_put (K := 3) (ty := .int) S X36 (Nat.le_of_ble_eq_true rfl) rfl lk8_42_0 (fun _ => ⟨_, rfl, Nat.le_of_ble_eq_true rfl, rfl⟩) (fun _ _ _ h => by cases h; exact ⟨rfl, rfl⟩) rfl rfl dX8_seeAsk_42 (fun t42 H lc M43 X44 => ?_)
      have I45 := Inv_mu hI M43 (R_any v38)
      have F46 : Fr [(3, 1), (3, 2)] [] τ t42 := Fr_mu Fr_rfl M43 (by decide)
      refine r_aload_n S dX8_seeAsk_45 rfl (lv_at hl 0 rfl) ?_
      refine r_geti (K := 3) S X44 (Nat.le_of_ble_eq_true rfl) rfl lk8_42_0 (fun _ => ⟨_, rfl, rfl⟩) M43.1 dX8_seeAsk_46 ?_
      refine r_iconst S dX8_seeAsk_49 (by decide) (fun v47 z48 => ?_)
      have r49 := R_eq z48
      refine r_icmp_ne (tgt := 61) S dX8_seeAsk_50 (by decide) (fun c50 => ?_) (fun c50 => ?_)
      ·
        have r51 : R (0) (8) v38 := ⟨by omega, by omega⟩
        refine r_iconst S dX8_seeAsk_61 (by decide) (fun v52 z53 => ?_)
        have r54 := R_eq z53
        refine r_goto (tgt := 66) S dX8_seeAsk_62 (by decide) ?_
        exact r_ret S hr hlk X44 ⟨I45, F46, (R_of r54 rfl), (fun h => (by rw [M43.1]; exact R_of r51 rfl)), (QX_r (sLook_g ⟨((RT_k hR.1).2.1.mp (by rw [z2]; omega)), p32⟩ (by rw [← q41]; omega)) (by omega) ⟨show (t42 3 2).toInt = (((fnd (gan fs.2) (wrd bb fs.1)).toNat : Nat) : Int) by rw [M43.1, ← q41]; omega, (RC_fr hR (fun j => ((M43.2 1 j (Or.inl (by decide))).trans rfl)) (fun j => ((M43.2 2 j (Or.inl (by decide))).trans rfl)) (fun j => ((M43.2 201 j (Or.inl (by decide))).trans rfl)) ((M43.2 3 5 (Or.inr (by decide))).trans rfl) ((M43.2 3 6 (Or.inr (by decide))).trans rfl) (fun j => ((M43.2 4 j (Or.inl (by decide))).trans rfl)) (fun j => ((M43.2 6 j (Or.inl (by decide))).trans rfl)) (fun j => ((M43.2 7 j (Or.inl (by decide))).trans rfl)) (fun j => ((M43.2 8 j (Or.inl (by decide))).trans rfl)) (fun j => ((M43.2 209 j (Or.inl (by decide))).trans rfl)) (fun j => ((M43.2 210 j (Or.inl (by decide))).trans rfl)))⟩)⟩ (nr_bool (R_of (lo := 0) (hi := 1) r54 rfl)) dX8_seeAsk_66
      ·
        have r55 : R (-1) (-1) v38 := ⟨by omega, by omega⟩
        refine r_aload_n S dX8_seeAsk_53 rfl (lv_at hl 0 rfl) ?_
        refine r_iconst S dX8_seeAsk_54 (by decide) (fun v56 z57 => ?_)
        have r58 := R_eq z57
        refine r_ki (q_U (As := [.int v56]) (rest := []) (K := 3) (ci := 0) S X44 (c_X8_fail_q l G t42 I45 v56 (R_of (lo := -2147483648) (hi := 2147483647) r58 rfl)) ck8_29_0 (Nat.le_of_ble_eq_true rfl) rfl (fun _ => ⟨_, rfl⟩) ⟨_, _, rfl⟩ ⟨Nat.le_of_ble_eq_true rfl, Nat.le_of_ble_eq_true rfl⟩ rfl hl.1 rfl (Nat.le_of_ble_eq_true rfl) dX8_seeAsk_55 ⟨Nat.le_refl 0, Nat.le_refl 0⟩) X44 (fun v62 t61 H lc q59 X60 => ?_)
        unfold po_X8_fail_q at q59
        obtain ⟨q63, q64, q65, q66⟩ := q59
        have F67 : Fr [(3, 1), (3, 2)] [] τ t61 := Fr_call F46 q64 (by decide)
        refine r_if_eq (tgt := 65) S dX8_seeAsk_58 (by decide) (fun c68 => ?_) (fun c68 => ?_)
        ·
          refine r_iconst S dX8_seeAsk_65 (by decide) (fun v69 z70 => ?_)
          have r71 := R_eq z70
          exact r_ret S hr hlk X60 ⟨q63, F67, (R_of r71 rfl), (fun h => by exfalso; omega), (QX_b (sLook_b3 ⟨((RT_k hR.1).2.1.mp (by rw [z2]; omega)), p32⟩ (by rw [← q41]; omega)) (by omega) (by rw [q66]; omega) (RC_at (RC_fr hR (fun j => ((q64 1 j (by simp [fz])).trans ((M43.2 1 j (Or.inl (by decide))).trans rfl))) (fun j => ((q64 2 j (by simp [fz])).trans ((M43.2 2 j (Or.inl (by decide))).trans rfl))) (fun j => ((q64 201 j (by simp [fz])).trans ((M43.2 201 j (Or.inl (by decide))).trans rfl))) ((q64 3 5 (by decide)).trans ((M43.2 3 5 (Or.inr (by decide))).trans rfl)) ((q64 3 6 (by decide)).trans ((M43.2 3 6 (Or.inr (by decide))).trans rfl)) (fun j => ((q64 4 j (by simp [fz])).trans ((M43.2 4 j (Or.inl (by decide))).trans rfl))) (fun j => ((q64 6 j (by simp [fz])).trans ((M43.2 6 j (Or.inl (by decide))).trans rfl))) (fun j => ((q64 7 j (by simp [fz])).trans ((M43.2 7 j (Or.inl (by decide))).trans rfl))) (fun j => ((q64 8 j (by simp [fz])).trans ((M43.2 8 j (Or.inl (by decide))).trans rfl))) (fun j => ((q64 209 j (by simp [fz])).trans ((M43.2 209 j (Or.inl (by decide))).trans rfl))) (fun j => ((q64 210 j (by simp [fz])).trans ((M43.2 210 j (Or.inl (by decide))).trans rfl))))))⟩ (nr_bool (R_of (lo := 0) (hi := 1) r71 rfl)) dX8_seeAsk_66
        ·
          exfalso; omega
    ·
      have r72 : R (1) (1) v26 := ⟨by omega, by omega⟩
      have p73 := (q29).mp (by omega)
      refine r_aload_n S dX8_seeAsk_24 rfl (lv_at hl 0 rfl) ?_
      refine r_iconst S dX8_seeAsk_25 (by decide) (fun v74 z75 => ?_)
      have r76 := R_eq z75
      refine r_ki (q_U (As := [.int v74]) (rest := []) (K := 3) (ci := 0) S X24 (c_X8_fail_q l G τ hI v74 (R_of (lo := -2147483648) (hi := 2147483647) r76 rfl)) ck8_29_0 (Nat.le_of_ble_eq_true rfl) rfl (fun _ => ⟨_, rfl⟩) ⟨_, _, rfl⟩ ⟨Nat.le_of_ble_eq_true rfl, Nat.le_of_ble_eq_true rfl⟩ rfl hl.1 rfl (Nat.le_of_ble_eq_true rfl) dX8_seeAsk_26 ⟨Nat.le_refl 0, Nat.le_refl 0⟩) X24 (fun v80 t79 H lc q77 X78 => ?_)
      unfold po_X8_fail_q at q77
      obtain ⟨q81, q82, q83, q84⟩ := q77
      have F85 : Fr [(3, 1), (3, 2)] [] τ t79 := Fr_call Fr_rfl q82 (by decide)
      exact r_ret S hr hlk X78 ⟨q81, F85, (R_of q83 rfl), (fun h => by exfalso; omega), (QX_b (sLook_b1 (fun h => h.2 p73)) (by omega) (by rw [q84]; omega) (RC_at (RC_fr hR (fun j => ((q82 1 j (by simp [fz])).trans rfl)) (fun j => ((q82 2 j (by simp [fz])).trans rfl)) (fun j => ((q82 201 j (by simp [fz])).trans rfl)) ((q82 3 5 (by decide)).trans rfl) ((q82 3 6 (by decide)).trans rfl) (fun j => ((q82 4 j (by simp [fz])).trans rfl)) (fun j => ((q82 6 j (by simp [fz])).trans rfl)) (fun j => ((q82 7 j (by simp [fz])).trans rfl)) (fun j => ((q82 8 j (by simp [fz])).trans rfl)) (fun j => ((q82 209 j (by simp [fz])).trans rfl)) (fun j => ((q82 210 j (by simp [fz])).trans rfl)))))⟩ (nr_bool (R_of (lo := 0) (hi := 1) q83 rfl)) dX8_seeAsk_29
def po_X0_seeNewName_q (τ : Tau)    (bb : Nat → Int) (nb : Nat) (fs : FS) (r : Int32) (u : Tau) : Prop := Inv u ∧ Fr [(3, 1)] [] τ u ∧ R (0) (1) r ∧ QX (sNew bb fs) r u (fun _ => RC bb nb u fs)
set_option maxHeartbeats 4000000 in
set_option maxRecDepth 100000 in
theorem c_X0_seeNewName_q (l : Launch) (G : Gx) (τ : Tau) (hI : Inv τ) (bb : Nat → Int) (nb : Nat) (fs : FS) (hR : RC bb nb τ fs) : Ci l G yX0_seeNewName cX0_seeNewName 2 (some .boolean) 1 23 [.ref (G.2.2.2.1 3)] τ (po_X0_seeNewName_q τ    bb nb fs) := by
  unfold Ci
  refine C_of (own := RX0) (by decide) rfl (Nat.le_of_ble_eq_true rfl) ?_
  intro p e s m below meth c ls S hr hlk X hl
  have hl : lv_has ls 2 [(0, .ref (G.2.2.2.1 3))] := hl
  refine r_aload_n S dX0_seeNewName_0 rfl (lv_at hl 0 rfl) ?_
  refine r_get (K := 3) (v := .ref (G.2.2.2.1 1)) S X (Nat.le_of_ble_eq_true rfl) rfl lk0_38_0 (fun _ => ⟨_, rfl, rfl⟩) dX0_seeNewName_1 ?_
  refine r_getn (K := 1) S X (Nat.le_of_ble_eq_true rfl) rfl lk0_42_7 (fun _ => ⟨_, rfl, rfl⟩) dX0_seeNewName_4 (fun v1 z2 => ?_)
  have r3 : R (0) (4) v1 := rd hI rfl z2
  refine r_iconst S dX0_seeNewName_7 (by decide) (fun v4 z5 => ?_)
  have r6 := R_eq z5
  refine r_icmp_ne (tgt := 24) S dX0_seeNewName_8 (by decide) (fun c7 => ?_) (fun c7 => ?_)
  ·
    refine r_aload_n S dX0_seeNewName_24 rfl (lv_at hl 0 rfl) ?_
    refine r_iconst S dX0_seeNewName_25 (by decide) (fun v8 z9 => ?_)
    have r10 := R_eq z9
    refine r_ki (q_U (As := [.int v8]) (rest := []) (K := 3) (ci := 0) S X (c_X8_fail_q l G τ hI v8 (R_of (lo := -2147483648) (hi := 2147483647) r10 rfl)) ck0_98_0 (Nat.le_of_ble_eq_true rfl) rfl (fun _ => ⟨_, rfl⟩) ⟨_, _, rfl⟩ ⟨Nat.le_of_ble_eq_true rfl, Nat.le_of_ble_eq_true rfl⟩ rfl hl.1 rfl (Nat.le_of_ble_eq_true rfl) dX0_seeNewName_26 ⟨Nat.le_refl 0, Nat.le_refl 0⟩) X (fun v14 t13 H lc q11 X12 => ?_)
    unfold po_X8_fail_q at q11
    obtain ⟨q15, q16, q17, q18⟩ := q11
    have F19 : Fr [(3, 1)] [] τ t13 := Fr_call Fr_rfl q16 (by decide)
    exact r_ret S hr hlk X12 ⟨q15, F19, (R_of q17 rfl), (QX_b (sNew_b1 (fun h => absurd ((RT_k hR.1).2.1.mpr h.1) (by rw [z2]; omega))) (by omega) (by rw [q18]; omega) (RC_at (RC_fr hR (fun j => ((q16 1 j (by simp [fz])).trans rfl)) (fun j => ((q16 2 j (by simp [fz])).trans rfl)) (fun j => ((q16 201 j (by simp [fz])).trans rfl)) ((q16 3 5 (by decide)).trans rfl) ((q16 3 6 (by decide)).trans rfl) (fun j => ((q16 4 j (by simp [fz])).trans rfl)) (fun j => ((q16 6 j (by simp [fz])).trans rfl)) (fun j => ((q16 7 j (by simp [fz])).trans rfl)) (fun j => ((q16 8 j (by simp [fz])).trans rfl)) (fun j => ((q16 209 j (by simp [fz])).trans rfl)) (fun j => ((q16 210 j (by simp [fz])).trans rfl)))))⟩ (nr_bool (R_of (lo := 0) (hi := 1) q17 rfl)) dX0_seeNewName_29
  ·
    have r20 : R (2) (2) v1 := ⟨by omega, by omega⟩
    refine r_aload_n S dX0_seeNewName_11 rfl (lv_at hl 0 rfl) ?_
    refine r_get (K := 3) (v := .ref (G.2.2.2.1 1)) S X (Nat.le_of_ble_eq_true rfl) rfl lk0_38_0 (fun _ => ⟨_, rfl, rfl⟩) dX0_seeNewName_12 ?_
    refine r_getJ (K := 1) S X (Nat.le_of_ble_eq_true rfl) rfl lk0_118_7 (fun _ => ⟨_, rfl, rfl⟩) dX0_seeNewName_15 (fun j21 z22 => ?_)
    refine r_ki (q_S (As := [.long j21]) (rest := []) S X (c_X9_isKept_q l G τ hI j21 (wrd bb fs.1) (by rw [← z22]; exact (RT_low hR.1 ((RT_k hR.1).2.1.mp (by rw [z2]; omega))).2) (RT_low hR.1 ((RT_k hR.1).2.1.mp (by rw [z2]; omega))).1) ck0_122 ⟨Nat.le_of_ble_eq_true rfl, Nat.le_of_ble_eq_true rfl⟩ rfl hl.1 rfl (Nat.le_of_ble_eq_true rfl) dX0_seeNewName_18 ⟨Nat.le_refl 0, Nat.le_refl 0⟩) X (fun v26 t25 H lc q23 X24 => ?_)
    unfold po_X9_isKept_q at q23
    obtain ⟨q27, q28, q29⟩ := q23
    rw [q27] at X24
    refine r_if_eq (tgt := 30) S dX0_seeNewName_21 (by decide) (fun c30 => ?_) (fun c30 => ?_)
    ·
      have r31 : R (0) (0) v26 := ⟨by omega, by omega⟩
      have p32 := (iff_n q29) (by omega)
      refine r_aload_n S dX0_seeNewName_30 rfl (lv_at hl 0 rfl) ?_
      refine r_get (K := 3) (v := .ref (G.2.2.2.1 4)) S X24 (Nat.le_of_ble_eq_true rfl) rfl lk0_14_0 (fun _ => ⟨_, rfl, rfl⟩) dX0_seeNewName_31 ?_
      refine r_aload_n S dX0_seeNewName_34 rfl (lv_at hl 0 rfl) ?_
      refine r_get (K := 3) (v := .ref (G.2.2.2.1 1)) S X24 (Nat.le_of_ble_eq_true rfl) rfl lk0_38_0 (fun _ => ⟨_, rfl, rfl⟩) dX0_seeNewName_35 ?_
      refine r_getJ (K := 1) S X24 (Nat.le_of_ble_eq_true rfl) rfl lk0_118_7 (fun _ => ⟨_, rfl, rfl⟩) dX0_seeNewName_38 (fun j33 z34 => ?_)
      refine r_ki (q_V (As := [.long j33]) (rest := []) (K := 4) (ci := 2) S X24 (c_X2_askNamed_q l G τ hI j33 (gan fs.2) (wrd bb fs.1) (RP_anm hR.2) (by rw [← z34]; exact (RT_low hR.1 ((RT_k hR.1).2.1.mp (by rw [z2]; omega))).2) (RT_low hR.1 ((RT_k hR.1).2.1.mp (by rw [z2]; omega))).1) ck0_126 (Nat.le_of_ble_eq_true rfl) rfl (fun _ => ⟨_, rfl⟩) ⟨_, _, rfl⟩ ⟨Nat.le_of_ble_eq_true rfl, Nat.le_of_ble_eq_true rfl⟩ rfl hl.1 rfl (Nat.le_of_ble_eq_true rfl) dX0_seeNewName_41 ⟨Nat.le_refl 0, Nat.le_refl 0⟩) X24 (fun v38 t37 H lc q35 X36 => ?_)
      unfold po_X2_askNamed_q at q35
      obtain ⟨q39, q40, q41⟩ := q35
      rw [q39] at X36
      refine r_iconst S dX0_seeNewName_44 (by decide) (fun v42 z43 => ?_)
      have r44 := R_eq z43
      refine r_icmp_ne (tgt := 66) S dX0_seeNewName_45 (by decide) (fun c45 => ?_) (fun c45 => ?_)
      ·
        have r46 : R (0) (8) v38 := ⟨by omega, by omega⟩
        refine r_iconst S dX0_seeNewName_66 (by decide) (fun v47 z48 => ?_)
        have r49 := R_eq z48
        refine r_goto (tgt := 71) S dX0_seeNewName_67 (by decide) ?_
        refine r_istore_n (lv' := [(1, .int v47), (0, .ref (G.2.2.2.1 3))]) S dX0_seeNewName_71 rfl hl (by decide) rfl (fun ls hl => ?_)
        refine r_iload_n S dX0_seeNewName_72 rfl (lv_at hl 0 rfl) ?_
        refine r_if_eq (tgt := 84) S dX0_seeNewName_73 (by decide) (fun c50 => ?_) (fun c50 => ?_)
        ·
          exfalso; omega
        ·
          refine r_aload_n S dX0_seeNewName_76 rfl (lv_at hl 1 rfl) ?_
          refine r_iconst S dX0_seeNewName_77 (by decide) (fun v51 z52 => ?_)
          have r53 := R_eq z52
          refine r_ki (q_U (As := [.int v51]) (rest := []) (K := 3) (ci := 0) S X36 (c_X8_fail_q l G τ hI v51 (R_of (lo := -2147483648) (hi := 2147483647) r53 rfl)) ck0_98_0 (Nat.le_of_ble_eq_true rfl) rfl (fun _ => ⟨_, rfl⟩) ⟨_, _, rfl⟩ ⟨Nat.le_of_ble_eq_true rfl, Nat.le_of_ble_eq_true rfl⟩ rfl hl.1 rfl (Nat.le_of_ble_eq_true rfl) dX0_seeNewName_78 ⟨Nat.le_refl 0, Nat.le_refl 0⟩) X36 (fun v57 t56 H lc q54 X55 => ?_)
          unfold po_X8_fail_q at q54
          obtain ⟨q58, q59, q60, q61⟩ := q54
          have F62 : Fr [(3, 1)] [] τ t56 := Fr_call Fr_rfl q59 (by decide)
          refine r_if_eq (tgt := 88) S dX0_seeNewName_81 (by decide) (fun c63 => ?_) (fun c63 => ?_)
          ·
            refine r_iconst S dX0_seeNewName_88 (by decide) (fun v64 z65 => ?_)
            have r66 := R_eq z65
            exact r_ret S hr hlk X55 ⟨q58, F62, (R_of r66 rfl), (QX_b (sNew_b3 ⟨((RT_k hR.1).2.1.mp (by rw [z2]; omega)), p32⟩ (Or.inl (by rw [← q41]; omega))) (by omega) (by rw [q61]; omega) (RC_at (RC_fr hR (fun j => ((q59 1 j (by simp [fz])).trans rfl)) (fun j => ((q59 2 j (by simp [fz])).trans rfl)) (fun j => ((q59 201 j (by simp [fz])).trans rfl)) ((q59 3 5 (by decide)).trans rfl) ((q59 3 6 (by decide)).trans rfl) (fun j => ((q59 4 j (by simp [fz])).trans rfl)) (fun j => ((q59 6 j (by simp [fz])).trans rfl)) (fun j => ((q59 7 j (by simp [fz])).trans rfl)) (fun j => ((q59 8 j (by simp [fz])).trans rfl)) (fun j => ((q59 209 j (by simp [fz])).trans rfl)) (fun j => ((q59 210 j (by simp [fz])).trans rfl)))))⟩ (nr_bool (R_of (lo := 0) (hi := 1) r66 rfl)) dX0_seeNewName_89
          ·
            exfalso; omega
      ·
        have r67 : R (-1) (-1) v38 := ⟨by omega, by omega⟩
        refine r_aload_n S dX0_seeNewName_48 rfl (lv_at hl 0 rfl) ?_
        refine r_get (K := 3) (v := .ref (G.2.2.2.1 4)) S X36 (Nat.le_of_ble_eq_true rfl) rfl lk0_14_0 (fun _ => ⟨_, rfl, rfl⟩) dX0_seeNewName_49 ?_
        refine r_aload_n S dX0_seeNewName_52 rfl (lv_at hl 0 rfl) ?_
        refine r_get (K := 3) (v := .ref (G.2.2.2.1 1)) S X36 (Nat.le_of_ble_eq_true rfl) rfl lk0_38_0 (fun _ => ⟨_, rfl, rfl⟩) dX0_seeNewName_53 ?_
        refine r_getJ (K := 1) S X36 (Nat.le_of_ble_eq_true rfl) rfl lk0_118_7 (fun _ => ⟨_, rfl, rfl⟩) dX0_seeNewName_56 (fun j68 z69 => ?_)
        refine r_ki (q_V (As := [.long j68]) (rest := []) (K := 4) (ci := 2) S X36 (c_X2_manNamed_q l G τ hI j68 (gmn fs.2) (wrd bb fs.1) (RP_mnm hR.2) (by rw [← z69]; exact (RT_low hR.1 ((RT_k hR.1).2.1.mp (by rw [z2]; omega))).2) (RT_low hR.1 ((RT_k hR.1).2.1.mp (by rw [z2]; omega))).1) ck0_130 (Nat.le_of_ble_eq_true rfl) rfl (fun _ => ⟨_, rfl⟩) ⟨_, _, rfl⟩ ⟨Nat.le_of_ble_eq_true rfl, Nat.le_of_ble_eq_true rfl⟩ rfl hl.1 rfl (Nat.le_of_ble_eq_true rfl) dX0_seeNewName_59 ⟨Nat.le_refl 0, Nat.le_refl 0⟩) X36 (fun v73 t72 H lc q70 X71 => ?_)
        unfold po_X2_manNamed_q at q70
        obtain ⟨q74, q75, q76⟩ := q70
        rw [q74] at X71
        refine r_iconst S dX0_seeNewName_62 (by decide) (fun v77 z78 => ?_)
        have r79 := R_eq z78
        refine r_icmp_eq (tgt := 70) S dX0_seeNewName_63 (by decide) (fun c80 => ?_) (fun c80 => ?_)
        ·
          have r81 : R (-1) (-1) v73 := ⟨by omega, by omega⟩
          refine r_iconst S dX0_seeNewName_70 (by decide) (fun v82 z83 => ?_)
          have r84 := R_eq z83
          refine r_istore_n (lv' := [(1, .int v82), (0, .ref (G.2.2.2.1 3))]) S dX0_seeNewName_71 rfl hl (by decide) rfl (fun ls hl => ?_)
          refine r_iload_n S dX0_seeNewName_72 rfl (lv_at hl 0 rfl) ?_
          refine r_if_eq (tgt := 84) S dX0_seeNewName_73 (by decide) (fun c85 => ?_) (fun c85 => ?_)
          ·
            refine r_iconst S dX0_seeNewName_84 (by decide) (fun v86 z87 => ?_)
            have r88 := R_eq z87
            refine r_goto (tgt := 89) S dX0_seeNewName_85 (by decide) ?_
            exact r_ret S hr hlk X71 ⟨hI, Fr_rfl, (R_of r88 rfl), (QX_r (sNew_g ⟨((RT_k hR.1).2.1.mp (by rw [z2]; omega)), p32⟩ (fun h => by rw [← q41, ← q76] at h; omega)) (by omega) hR)⟩ (nr_bool (R_of (lo := 0) (hi := 1) r88 rfl)) dX0_seeNewName_89
          ·
            exfalso; omega
        ·
          have r89 : R (0) (9) v73 := ⟨by omega, by omega⟩
          refine r_iconst S dX0_seeNewName_66 (by decide) (fun v90 z91 => ?_)
          have r92 := R_eq z91
          refine r_goto (tgt := 71) S dX0_seeNewName_67 (by decide) ?_
          refine r_istore_n (lv' := [(1, .int v90), (0, .ref (G.2.2.2.1 3))]) S dX0_seeNewName_71 rfl hl (by decide) rfl (fun ls hl => ?_)
          refine r_iload_n S dX0_seeNewName_72 rfl (lv_at hl 0 rfl) ?_
          refine r_if_eq (tgt := 84) S dX0_seeNewName_73 (by decide) (fun c93 => ?_) (fun c93 => ?_)
          ·
            exfalso; omega
          ·
            refine r_aload_n S dX0_seeNewName_76 rfl (lv_at hl 1 rfl) ?_
            refine r_iconst S dX0_seeNewName_77 (by decide) (fun v94 z95 => ?_)
            have r96 := R_eq z95
            refine r_ki (q_U (As := [.int v94]) (rest := []) (K := 3) (ci := 0) S X71 (c_X8_fail_q l G τ hI v94 (R_of (lo := -2147483648) (hi := 2147483647) r96 rfl)) ck0_98_0 (Nat.le_of_ble_eq_true rfl) rfl (fun _ => ⟨_, rfl⟩) ⟨_, _, rfl⟩ ⟨Nat.le_of_ble_eq_true rfl, Nat.le_of_ble_eq_true rfl⟩ rfl hl.1 rfl (Nat.le_of_ble_eq_true rfl) dX0_seeNewName_78 ⟨Nat.le_refl 0, Nat.le_refl 0⟩) X71 (fun v100 t99 H lc q97 X98 => ?_)
            unfold po_X8_fail_q at q97
            obtain ⟨q101, q102, q103, q104⟩ := q97
            have F105 : Fr [(3, 1)] [] τ t99 := Fr_call Fr_rfl q102 (by decide)
            refine r_if_eq (tgt := 88) S dX0_seeNewName_81 (by decide) (fun c106 => ?_) (fun c106 => ?_)
            ·
              refine r_iconst S dX0_seeNewName_88 (by decide) (fun v107 z108 => ?_)
              have r109 := R_eq z108
              exact r_ret S hr hlk X98 ⟨q101, F105, (R_of r109 rfl), (QX_b (sNew_b3 ⟨((RT_k hR.1).2.1.mp (by rw [z2]; omega)), p32⟩ (Or.inr (by rw [← q76]; omega))) (by omega) (by rw [q104]; omega) (RC_at (RC_fr hR (fun j => ((q102 1 j (by simp [fz])).trans rfl)) (fun j => ((q102 2 j (by simp [fz])).trans rfl)) (fun j => ((q102 201 j (by simp [fz])).trans rfl)) ((q102 3 5 (by decide)).trans rfl) ((q102 3 6 (by decide)).trans rfl) (fun j => ((q102 4 j (by simp [fz])).trans rfl)) (fun j => ((q102 6 j (by simp [fz])).trans rfl)) (fun j => ((q102 7 j (by simp [fz])).trans rfl)) (fun j => ((q102 8 j (by simp [fz])).trans rfl)) (fun j => ((q102 209 j (by simp [fz])).trans rfl)) (fun j => ((q102 210 j (by simp [fz])).trans rfl)))))⟩ (nr_bool (R_of (lo := 0) (hi := 1) r109 rfl)) dX0_seeNewName_89
            ·
              exfalso; omega
    ·
      have r110 : R (1) (1) v26 := ⟨by omega, by omega⟩
      have p111 := (q29).mp (by omega)
      refine r_aload_n S dX0_seeNewName_24 rfl (lv_at hl 0 rfl) ?_
      refine r_iconst S dX0_seeNewName_25 (by decide) (fun v112 z113 => ?_)
      have r114 := R_eq z113
      refine r_ki (q_U (As := [.int v112]) (rest := []) (K := 3) (ci := 0) S X24 (c_X8_fail_q l G τ hI v112 (R_of (lo := -2147483648) (hi := 2147483647) r114 rfl)) ck0_98_0 (Nat.le_of_ble_eq_true rfl) rfl (fun _ => ⟨_, rfl⟩) ⟨_, _, rfl⟩ ⟨Nat.le_of_ble_eq_true rfl, Nat.le_of_ble_eq_true rfl⟩ rfl hl.1 rfl (Nat.le_of_ble_eq_true rfl) dX0_seeNewName_26 ⟨Nat.le_refl 0, Nat.le_refl 0⟩) X24 (fun v118 t117 H lc q115 X116 => ?_)
      unfold po_X8_fail_q at q115
      obtain ⟨q119, q120, q121, q122⟩ := q115
      have F123 : Fr [(3, 1)] [] τ t117 := Fr_call Fr_rfl q120 (by decide)
      exact r_ret S hr hlk X116 ⟨q119, F123, (R_of q121 rfl), (QX_b (sNew_b1 (fun h => h.2 p111)) (by omega) (by rw [q122]; omega) (RC_at (RC_fr hR (fun j => ((q120 1 j (by simp [fz])).trans rfl)) (fun j => ((q120 2 j (by simp [fz])).trans rfl)) (fun j => ((q120 201 j (by simp [fz])).trans rfl)) ((q120 3 5 (by decide)).trans rfl) ((q120 3 6 (by decide)).trans rfl) (fun j => ((q120 4 j (by simp [fz])).trans rfl)) (fun j => ((q120 6 j (by simp [fz])).trans rfl)) (fun j => ((q120 7 j (by simp [fz])).trans rfl)) (fun j => ((q120 8 j (by simp [fz])).trans rfl)) (fun j => ((q120 209 j (by simp [fz])).trans rfl)) (fun j => ((q120 210 j (by simp [fz])).trans rfl)))))⟩ (nr_bool (R_of (lo := 0) (hi := 1) q121 rfl)) dX0_seeNewName_29
