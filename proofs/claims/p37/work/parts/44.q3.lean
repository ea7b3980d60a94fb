def po_X0_readSeats_q (τ : Tau)    (bb : Nat → Int) (nb : Nat) (fs : FS) (r : Int32) (u : Tau) : Prop := Inv u ∧ Fr [(3, 1), (3, 2), (3, 5), (4, 0), (1, 3), (1, 4), (1, 5), (1, 7), (1, 8)] [201] τ u ∧ R (0) (1) r ∧ (r.toInt = 1 → R (0) (0) (u 3 1)) ∧ QX (sSeats bb nb fs) r u (fun g => RC bb nb u g)
set_option maxHeartbeats 4000000 in
set_option maxRecDepth 100000 in
theorem c_X0_readSeats_q (l : Launch) (G : Gx) (τ : Tau) (hI : Inv τ) (hf_0 : R (0) (0) (τ 3 1)) (bb : Nat → Int) (nb : Nat) (fs : FS) (hR : RC bb nb τ fs) (hW : isW bb 0 fs.1) : Ci l G yX0_readSeats cX0_readSeats 1 (some .boolean) 2 46 [.ref (G.2.2.2.1 3)] τ (po_X0_readSeats_q τ    bb nb fs) := by
  unfold Ci
  refine C_of (own := RX0) (by decide) rfl (Nat.le_of_ble_eq_true rfl) ?_
  intro p e s m below meth c ls S hr hlk X hl
  have hl : lv_has ls 1 [(0, .ref (G.2.2.2.1 3))] := hl
  obtain ⟨v1, z2⟩ : ∃ x, τ 3 1 = x := ⟨_, rfl⟩
  rw [z2] at hf_0
  refine r_aload_n S dX0_readSeats_0 rfl (lv_at hl 0 rfl) ?_
  refine r_getn (K := 3) S X (Nat.le_of_ble_eq_true rfl) rfl lk0_27_0 (fun _ => ⟨_, rfl, rfl⟩) dX0_readSeats_1 (fun v3 z4 => ?_)
  have r5 : R (0) (1) v3 := rd hI rfl z4
  refine r_if_eq (tgt := 13) S dX0_readSeats_4 (by decide) (fun c6 => ?_) (fun c6 => ?_)
  ·
    have r7 : R (0) (0) v3 := ⟨by omega, by omega⟩
    refine r_aload_n S dX0_readSeats_13 rfl (lv_at hl 0 rfl) ?_
    refine r_iconst S dX0_readSeats_14 (by decide) (fun v8 z9 => ?_)
    have r10 := R_eq z9
    refine r_put (K := 3) (ty := .boolean) S X (Nat.le_of_ble_eq_true rfl) rfl lk0_27_0 (fun _ => ⟨_, rfl, Nat.le_of_ble_eq_true rfl, rfl⟩) (fun _ _ _ h => by cases h; exact ⟨rfl, rfl⟩) (nr_bool (R_of (lo := 0) (hi := 1) r10 rfl)) (ft_bool (R_of (lo := 0) (hi := 1) r10 rfl)) dX0_readSeats_15 (fun t11 H lc M12 X13 => ?_)
    have I14 := Inv_mu hI M12 (show Rg (kd 3) 5 v8 from (R_of (lo := 0) (hi := 1) r10 rfl))
    have F15 : Fr [(3, 1), (3, 2), (3, 5), (4, 0), (1, 3), (1, 4), (1, 5), (1, 7), (1, 8)] [201] τ t11 := Fr_mu Fr_rfl M12 (by decide)
    have hR16 : RC bb nb t11 (fs.1, usT fs.2 true) := ⟨RT_fr hR.1 (fun j => ((M12.2 1 j (Or.inl (by decide))).trans rfl)) (fun j => ((M12.2 2 j (Or.inl (by decide))).trans rfl)) (fun j => ((M12.2 201 j (Or.inl (by decide))).trans rfl)), RP_sT hR.2 M12 (by omega)⟩
    refine r_aload_n S dX0_readSeats_18 rfl (lv_at hl 0 rfl) ?_
    refine r_get (K := 3) (v := .ref (G.2.2.2.1 1)) S X13 (Nat.le_of_ble_eq_true rfl) rfl lk0_38_0 (fun _ => ⟨_, rfl, rfl⟩) dX0_readSeats_19 ?_
    refine r_kv (q_V (As := []) (rest := []) (K := 1) (ci := 7) S X13 (c_X7_step_q l G t11 I14 bb nb 900 (fs.1, usT fs.2 true).1.2.2 (RT_st hR16.1 (Or.inl hW.1)).1 (RT_st hR16.1 (Or.inl hW.1)).2.1 (RT_st hR16.1 (Or.inl hW.1)).2.2) ck0_102 (Nat.le_of_ble_eq_true rfl) rfl (fun _ => ⟨_, rfl⟩) ⟨_, _, rfl⟩ ⟨Nat.le_of_ble_eq_true rfl, Nat.le_of_ble_eq_true rfl⟩ rfl hl.1 rfl (Nat.le_of_ble_eq_true rfl) dX0_readSeats_22 ⟨Nat.le_refl 0, Nat.le_refl 0⟩) X13 (fun t19 H lc q17 X18 => ?_)
    unfold po_X7_step_q at q17
    obtain ⟨q20, q21, q22⟩ := q17
    have F23 : Fr [(3, 1), (3, 2), (3, 5), (4, 0), (1, 3), (1, 4), (1, 5), (1, 7), (1, 8)] [201] τ t19 := Fr_call F15 q21 (by decide)
    have hR24 : RC bb nb t19 (stp bb nb (fs.1, usT fs.2 true)) := ⟨q22, RP_fr hR16.2 ((q21 3 5 (by decide)).trans rfl) ((q21 3 6 (by decide)).trans rfl) (fun j => ((q21 4 j (by simp [fz])).trans rfl)) (fun j => ((q21 6 j (by simp [fz])).trans rfl)) (fun j => ((q21 7 j (by simp [fz])).trans rfl)) (fun j => ((q21 8 j (by simp [fz])).trans rfl)) (fun j => ((q21 209 j (by simp [fz])).trans rfl)) (fun j => ((q21 210 j (by simp [fz])).trans rfl))⟩
    refine r_aload_n S dX0_readSeats_25 rfl (lv_at hl 0 rfl) ?_
    refine r_iconst S dX0_readSeats_26 (by decide) (fun v25 z26 => ?_)
    have r27 := R_eq z26
    refine r_bipush S dX0_readSeats_27 (by decide) (fun v28 z29 => ?_)
    have r30 := R_eq z29
    refine r_ki (q_U (As := [.int v25, .int v28]) (rest := []) (K := 3) (ci := 0) S X18 (c_X8_takeNumber_q_1_8 l G t19 q20 v25 v28 r27 r30 (by rw [((q21 3 1 (by decide)).trans ((M12.2 3 1 (Or.inr (by decide))).trans z2))]; exact R_of hf_0 rfl) bb nb (stp bb nb (fs.1, usT fs.2 true)) hR24 ) ck0_105_0 (Nat.le_of_ble_eq_true rfl) rfl (fun _ => ⟨_, rfl⟩) ⟨_, _, rfl⟩ ⟨Nat.le_of_ble_eq_true rfl, Nat.le_of_ble_eq_true rfl⟩ rfl hl.1 rfl (Nat.le_of_ble_eq_true rfl) dX0_readSeats_29 ⟨Nat.le_refl 0, Nat.le_refl 0⟩) X18 (fun v34 t33 H lc q31 X32 => ?_)
    unfold po_X8_takeNumber_q_1_8 at q31
    obtain ⟨q35, q36, q37, q38, q39⟩ := q31
    have F40 : Fr [(3, 1), (3, 2), (3, 5), (4, 0), (1, 3), (1, 4), (1, 5), (1, 7), (1, 8)] [201] τ t33 := Fr_call F23 q36 (by decide)
    refine r_if_ne (tgt := 37) S dX0_readSeats_32 (by decide) (fun c41 => ?_) (fun c41 => ?_)
    ·
      have r42 : R (1) (1) v34 := ⟨by omega, by omega⟩
      obtain ⟨p43, p44⟩ := q38 (by omega)
      obtain ⟨v45, z46⟩ : ∃ x, t33 3 2 = x := ⟨_, rfl⟩
      rw [z46] at p43
      obtain ⟨v47, z48⟩ : ∃ x, t33 3 1 = x := ⟨_, rfl⟩
      rw [z48] at p44
      have p49 := (QX_1 q39) (by omega)
      obtain ⟨g50, e51, hP52⟩ := p49
      refine r_aload_n S dX0_readSeats_37 rfl (lv_at hl 0 rfl) ?_
      refine r_get (K := 3) (v := .ref (G.2.2.2.1 4)) S X32 (Nat.le_of_ble_eq_true rfl) rfl lk0_14_0 (fun _ => ⟨_, rfl, rfl⟩) dX0_readSeats_38 ?_
      refine r_aload_n S dX0_readSeats_41 rfl (lv_at hl 0 rfl) ?_
      refine r_geti (K := 3) S X32 (Nat.le_of_ble_eq_true rfl) rfl lk0_109_0 (fun _ => ⟨_, rfl, rfl⟩) z46 dX0_readSeats_42 ?_
      refine r_put (K := 4) (ty := .int) S X32 (Nat.le_of_ble_eq_true rfl) rfl lk0_112_2 (fun _ => ⟨_, rfl, Nat.le_of_ble_eq_true rfl, rfl⟩) (fun _ _ _ h => by cases h; exact ⟨rfl, rfl⟩) rfl rfl dX0_readSeats_45 (fun t53 H lc M54 X55 => ?_)
      have I56 := Inv_mu q35 M54 (show Rg (kd 4) 0 v45 from (R_of (lo := 0) (hi := 8) p43 rfl))
      have F57 : Fr [(3, 1), (3, 2), (3, 5), (4, 0), (1, 3), (1, 4), (1, 5), (1, 7), (1, 8)] [201] τ t53 := Fr_mu F40 M54 (by decide)
      have hR58 : RC bb nb t53 (g50.2.1, use g50.2.2 g50.1) := ⟨RT_fr hP52.2.1 (fun j => ((M54.2 1 j (Or.inl (by decide))).trans rfl)) (fun j => ((M54.2 2 j (Or.inl (by decide))).trans rfl)) (fun j => ((M54.2 201 j (Or.inl (by decide))).trans rfl)), RP_se hP52.2.2 M54 (by rw [← z46]; exact hP52.1)⟩
      refine r_iconst S dX0_readSeats_48 (by decide) (fun v59 z60 => ?_)
      have r61 := R_eq z60
      exact r_ret S hr hlk X55 ⟨I56, F57, (R_of r61 rfl), (fun h => (by rw [((M54.2 3 1 (Or.inl (by decide))).trans z48)]; exact R_of p44 rfl)), (QX_r (sSeats_r (bI_f hR.2.1 (by rw [z4]; omega)) e51) (by omega) hR58)⟩ (nr_bool (R_of (lo := 0) (hi := 1) r61 rfl)) dX0_readSeats_49
    ·
      have r62 : R (0) (0) v34 := ⟨by omega, by omega⟩
      have p63 := (QX_0 q39) (by omega)
      obtain ⟨q64, e65, h66, h67⟩ := p63
      refine r_iconst S dX0_readSeats_35 (by decide) (fun v68 z69 => ?_)
      have r70 := R_eq z69
      exact r_ret S hr hlk X32 ⟨q35, F40, (R_of r70 rfl), (fun h => by exfalso; omega), (QX_l (sSeats_l (bI_f hR.2.1 (by rw [z4]; omega)) e65) (by omega) h66 h67)⟩ (nr_bool (R_of (lo := 0) (hi := 1) r70 rfl)) dX0_readSeats_36
  ·
    have r71 : R (1) (1) v3 := ⟨by omega, by omega⟩
    refine r_aload_n S dX0_readSeats_7 rfl (lv_at hl 0 rfl) ?_
    refine r_iconst S dX0_readSeats_8 (by decide) (fun v72 z73 => ?_)
    have r74 := R_eq z73
    refine r_ki (q_U (As := [.int v72]) (rest := []) (K := 3) (ci := 0) S X (c_X8_fail_q l G τ hI v72 (R_of (lo := -2147483648) (hi := 2147483647) r74 rfl)) ck0_98_0 (Nat.le_of_ble_eq_true rfl) rfl (fun _ => ⟨_, rfl⟩) ⟨_, _, rfl⟩ ⟨Nat.le_of_ble_eq_true rfl, Nat.le_of_ble_eq_true rfl⟩ rfl hl.1 rfl (Nat.le_of_ble_eq_true rfl) dX0_readSeats_9 ⟨Nat.le_refl 0, Nat.le_refl 0⟩) X (fun v78 t77 H lc q75 X76 => ?_)
    unfold po_X8_fail_q at q75
    obtain ⟨q79, q80, q81, q82⟩ := q75
    have F83 : Fr [(3, 1), (3, 2), (3, 5), (4, 0), (1, 3), (1, 4), (1, 5), (1, 7), (1, 8)] [201] τ t77 := Fr_call Fr_rfl q80 (by decide)
    exact r_ret S hr hlk X76 ⟨q79, F83, (R_of q81 rfl), (fun h => by exfalso; omega), (QX_b (sSeats_b (bI_t hR.2.1 (by rw [z4]; omega))) (by omega) (by rw [q82]; omega) (RC_at (RC_fr hR (fun j => ((q80 1 j (by simp [fz])).trans rfl)) (fun j => ((q80 2 j (by simp [fz])).trans rfl)) (fun j => ((q80 201 j (by simp [fz])).trans rfl)) ((q80 3 5 (by decide)).trans rfl) ((q80 3 6 (by decide)).trans rfl) (fun j => ((q80 4 j (by simp [fz])).trans rfl)) (fun j => ((q80 6 j (by simp [fz])).trans rfl)) (fun j => ((q80 7 j (by simp [fz])).trans rfl)) (fun j => ((q80 8 j (by simp [fz])).trans rfl)) (fun j => ((q80 209 j (by simp [fz])).trans rfl)) (fun j => ((q80 210 j (by simp [fz])).trans rfl)))))⟩ (nr_bool (R_of (lo := 0) (hi := 1) q81 rfl)) dX0_readSeats_12
def po_X0_readSlack_q (τ : Tau)    (bb : Nat → Int) (nb : Nat) (fs : FS) (r : Int32) (u : Tau) : Prop := Inv u ∧ Fr [(3, 1), (3, 2), (3, 6), (4, 1), (1, 3), (1, 4), (1, 5), (1, 7), (1, 8)] [201] τ u ∧ R (0) (1) r ∧ (r.toInt = 1 → R (0) (0) (u 3 1)) ∧ QX (sSlack bb nb fs) r u (fun g => RC bb nb u g)
set_option maxHeartbeats 4000000 in
set_option maxRecDepth 100000 in
theorem c_X0_readSlack_q (l : Launch) (G : Gx) (τ : Tau) (hI : Inv τ) (hf_0 : R (0) (0) (τ 3 1)) (bb : Nat → Int) (nb : Nat) (fs : FS) (hR : RC bb nb τ fs) (hW : isW bb 1 fs.1) : Ci l G yX0_readSlack cX0_readSlack 1 (some .boolean) 2 46 [.ref (G.2.2.2.1 3)] τ (po_X0_readSlack_q τ    bb nb fs) := by
  unfold Ci
  refine C_of (own := RX0) (by decide) rfl (Nat.le_of_ble_eq_true rfl) ?_
  intro p e s m below meth c ls S hr hlk X hl
  have hl : lv_has ls 1 [(0, .ref (G.2.2.2.1 3))] := hl
  obtain ⟨v1, z2⟩ : ∃ x, τ 3 1 = x := ⟨_, rfl⟩
  rw [z2] at hf_0
  refine r_aload_n S dX0_readSlack_0 rfl (lv_at hl 0 rfl) ?_
  refine r_getn (K := 3) S X (Nat.le_of_ble_eq_true rfl) rfl lk0_31_0 (fun _ => ⟨_, rfl, rfl⟩) dX0_readSlack_1 (fun v3 z4 => ?_)
  have r5 : R (0) (1) v3 := rd hI rfl z4
  refine r_if_eq (tgt := 13) S dX0_readSlack_4 (by decide) (fun c6 => ?_) (fun c6 => ?_)
  ·
    have r7 : R (0) (0) v3 := ⟨by omega, by omega⟩
    refine r_aload_n S dX0_readSlack_13 rfl (lv_at hl 0 rfl) ?_
    refine r_iconst S dX0_readSlack_14 (by decide) (fun v8 z9 => ?_)
    have r10 := R_eq z9
    refine r_put (K := 3) (ty := .boolean) S X (Nat.le_of_ble_eq_true rfl) rfl lk0_31_0 (fun _ => ⟨_, rfl, Nat.le_of_ble_eq_true rfl, rfl⟩) (fun _ _ _ h => by cases h; exact ⟨rfl, rfl⟩) (nr_bool (R_of (lo := 0) (hi := 1) r10 rfl)) (ft_bool (R_of (lo := 0) (hi := 1) r10 rfl)) dX0_readSlack_15 (fun t11 H lc M12 X13 => ?_)
    have I14 := Inv_mu hI M12 (show Rg (kd 3) 6 v8 from (R_of (lo := 0) (hi := 1) r10 rfl))
    have F15 : Fr [(3, 1), (3, 2), (3, 6), (4, 1), (1, 3), (1, 4), (1, 5), (1, 7), (1, 8)] [201] τ t11 := Fr_mu Fr_rfl M12 (by decide)
    have hR16 : RC bb nb t11 (fs.1, ukT fs.2 true) := ⟨RT_fr hR.1 (fun j => ((M12.2 1 j (Or.inl (by decide))).trans rfl)) (fun j => ((M12.2 2 j (Or.inl (by decide))).trans rfl)) (fun j => ((M12.2 201 j (Or.inl (by decide))).trans rfl)), RP_kT hR.2 M12 (by omega)⟩
    refine r_aload_n S dX0_readSlack_18 rfl (lv_at hl 0 rfl) ?_
    refine r_get (K := 3) (v := .ref (G.2.2.2.1 1)) S X13 (Nat.le_of_ble_eq_true rfl) rfl lk0_38_0 (fun _ => ⟨_, rfl, rfl⟩) dX0_readSlack_19 ?_
    refine r_kv (q_V (As := []) (rest := []) (K := 1) (ci := 7) S X13 (c_X7_step_q l G t11 I14 bb nb 900 (fs.1, ukT fs.2 true).1.2.2 (RT_st hR16.1 (Or.inl hW.1)).1 (RT_st hR16.1 (Or.inl hW.1)).2.1 (RT_st hR16.1 (Or.inl hW.1)).2.2) ck0_102 (Nat.le_of_ble_eq_true rfl) rfl (fun _ => ⟨_, rfl⟩) ⟨_, _, rfl⟩ ⟨Nat.le_of_ble_eq_true rfl, Nat.le_of_ble_eq_true rfl⟩ rfl hl.1 rfl (Nat.le_of_ble_eq_true rfl) dX0_readSlack_22 ⟨Nat.le_refl 0, Nat.le_refl 0⟩) X13 (fun t19 H lc q17 X18 => ?_)
    unfold po_X7_step_q at q17
    obtain ⟨q20, q21, q22⟩ := q17
    have F23 : Fr [(3, 1), (3, 2), (3, 6), (4, 1), (1, 3), (1, 4), (1, 5), (1, 7), (1, 8)] [201] τ t19 := Fr_call F15 q21 (by decide)
    have hR24 : RC bb nb t19 (stp bb nb (fs.1, ukT fs.2 true)) := ⟨q22, RP_fr hR16.2 ((q21 3 5 (by decide)).trans rfl) ((q21 3 6 (by decide)).trans rfl) (fun j => ((q21 4 j (by simp [fz])).trans rfl)) (fun j => ((q21 6 j (by simp [fz])).trans rfl)) (fun j => ((q21 7 j (by simp [fz])).trans rfl)) (fun j => ((q21 8 j (by simp [fz])).trans rfl)) (fun j => ((q21 209 j (by simp [fz])).trans rfl)) (fun j => ((q21 210 j (by simp [fz])).trans rfl))⟩
    refine r_aload_n S dX0_readSlack_25 rfl (lv_at hl 0 rfl) ?_
    refine r_iconst S dX0_readSlack_26 (by decide) (fun v25 z26 => ?_)
    have r27 := R_eq z26
    refine r_bipush S dX0_readSlack_27 (by decide) (fun v28 z29 => ?_)
    have r30 := R_eq z29
    refine r_ki (q_U (As := [.int v25, .int v28]) (rest := []) (K := 3) (ci := 0) S X18 (c_X8_takeNumber_q_0_9 l G t19 q20 v25 v28 r27 r30 (by rw [((q21 3 1 (by decide)).trans ((M12.2 3 1 (Or.inr (by decide))).trans z2))]; exact R_of hf_0 rfl) bb nb (stp bb nb (fs.1, ukT fs.2 true)) hR24 ) ck0_105_0 (Nat.le_of_ble_eq_true rfl) rfl (fun _ => ⟨_, rfl⟩) ⟨_, _, rfl⟩ ⟨Nat.le_of_ble_eq_true rfl, Nat.le_of_ble_eq_true rfl⟩ rfl hl.1 rfl (Nat.le_of_ble_eq_true rfl) dX0_readSlack_29 ⟨Nat.le_refl 0, Nat.le_refl 0⟩) X18 (fun v34 t33 H lc q31 X32 => ?_)
    unfold po_X8_takeNumber_q_0_9 at q31
    obtain ⟨q35, q36, q37, q38, q39⟩ := q31
    have F40 : Fr [(3, 1), (3, 2), (3, 6), (4, 1), (1, 3), (1, 4), (1, 5), (1, 7), (1, 8)] [201] τ t33 := Fr_call F23 q36 (by decide)
    refine r_if_ne (tgt := 37) S dX0_readSlack_32 (by decide) (fun c41 => ?_) (fun c41 => ?_)
    ·
      have r42 : R (1) (1) v34 := ⟨by omega, by omega⟩
      obtain ⟨p43, p44⟩ := q38 (by omega)
      obtain ⟨v45, z46⟩ : ∃ x, t33 3 2 = x := ⟨_, rfl⟩
      rw [z46] at p43
      obtain ⟨v47, z48⟩ : ∃ x, t33 3 1 = x := ⟨_, rfl⟩
      rw [z48] at p44
      have p49 := (QX_1 q39) (by omega)
      obtain ⟨g50, e51, hP52⟩ := p49
      refine r_aload_n S dX0_readSlack_37 rfl (lv_at hl 0 rfl) ?_
      refine r_get (K := 3) (v := .ref (G.2.2.2.1 4)) S X32 (Nat.le_of_ble_eq_true rfl) rfl lk0_14_0 (fun _ => ⟨_, rfl, rfl⟩) dX0_readSlack_38 ?_
      refine r_aload_n S dX0_readSlack_41 rfl (lv_at hl 0 rfl) ?_
      refine r_geti (K := 3) S X32 (Nat.le_of_ble_eq_true rfl) rfl lk0_109_0 (fun _ => ⟨_, rfl, rfl⟩) z46 dX0_readSlack_42 ?_
      refine r_put (K := 4) (ty := .int) S X32 (Nat.le_of_ble_eq_true rfl) rfl lk0_115_2 (fun _ => ⟨_, rfl, Nat.le_of_ble_eq_true rfl, rfl⟩) (fun _ _ _ h => by cases h; exact ⟨rfl, rfl⟩) rfl rfl dX0_readSlack_45 (fun t53 H lc M54 X55 => ?_)
      have I56 := Inv_mu q35 M54 (show Rg (kd 4) 1 v45 from (R_of (lo := 0) (hi := 9) p43 rfl))
      have F57 : Fr [(3, 1), (3, 2), (3, 6), (4, 1), (1, 3), (1, 4), (1, 5), (1, 7), (1, 8)] [201] τ t53 := Fr_mu F40 M54 (by decide)
      have hR58 : RC bb nb t53 (g50.2.1, usl g50.2.2 g50.1) := ⟨RT_fr hP52.2.1 (fun j => ((M54.2 1 j (Or.inl (by decide))).trans rfl)) (fun j => ((M54.2 2 j (Or.inl (by decide))).trans rfl)) (fun j => ((M54.2 201 j (Or.inl (by decide))).trans rfl)), RP_sl hP52.2.2 M54 (by rw [← z46]; exact hP52.1)⟩
      refine r_iconst S dX0_readSlack_48 (by decide) (fun v59 z60 => ?_)
      have r61 := R_eq z60
      exact r_ret S hr hlk X55 ⟨I56, F57, (R_of r61 rfl), (fun h => (by rw [((M54.2 3 1 (Or.inl (by decide))).trans z48)]; exact R_of p44 rfl)), (QX_r (sSlack_r (bI_f hR.2.2.1 (by rw [z4]; omega)) e51) (by omega) hR58)⟩ (nr_bool (R_of (lo := 0) (hi := 1) r61 rfl)) dX0_readSlack_49
    ·
      have r62 : R (0) (0) v34 := ⟨by omega, by omega⟩
      have p63 := (QX_0 q39) (by omega)
      obtain ⟨q64, e65, h66, h67⟩ := p63
      refine r_iconst S dX0_readSlack_35 (by decide) (fun v68 z69 => ?_)
      have r70 := R_eq z69
      exact r_ret S hr hlk X32 ⟨q35, F40, (R_of r70 rfl), (fun h => by exfalso; omega), (QX_l (sSlack_l (bI_f hR.2.2.1 (by rw [z4]; omega)) e65) (by omega) h66 h67)⟩ (nr_bool (R_of (lo := 0) (hi := 1) r70 rfl)) dX0_readSlack_36
  ·
    have r71 : R (1) (1) v3 := ⟨by omega, by omega⟩
    refine r_aload_n S dX0_readSlack_7 rfl (lv_at hl 0 rfl) ?_
    refine r_iconst S dX0_readSlack_8 (by decide) (fun v72 z73 => ?_)
    have r74 := R_eq z73
    refine r_ki (q_U (As := [.int v72]) (rest := []) (K := 3) (ci := 0) S X (c_X8_fail_q l G τ hI v72 (R_of (lo := -2147483648) (hi := 2147483647) r74 rfl)) ck0_98_0 (Nat.le_of_ble_eq_true rfl) rfl (fun _ => ⟨_, rfl⟩) ⟨_, _, rfl⟩ ⟨Nat.le_of_ble_eq_true rfl, Nat.le_of_ble_eq_true rfl⟩ rfl hl.1 rfl (Nat.le_of_ble_eq_true rfl) dX0_readSlack_9 ⟨Nat.le_refl 0, Nat.le_refl 0⟩) X (fun v78 t77 H lc q75 X76 => ?_)
    unfold po_X8_fail_q at q75
    obtain ⟨q79, q80, q81, q82⟩ := q75
    have F83 : Fr [(3, 1), (3, 2), (3, 6), (4, 1), (1, 3), (1, 4), (1, 5), (1, 7), (1, 8)] [201] τ t77 := Fr_call Fr_rfl q80 (by decide)
    exact r_ret S hr hlk X76 ⟨q79, F83, (R_of q81 rfl), (fun h => by exfalso; omega), (QX_b (sSlack_b (bI_t hR.2.2.1 (by rw [z4]; omega))) (by omega) (by rw [q82]; omega) (RC_at (RC_fr hR (fun j => ((q80 1 j (by simp [fz])).trans rfl)) (fun j => ((q80 2 j (by simp [fz])).trans rfl)) (fun j => ((q80 201 j (by simp [fz])).trans rfl)) ((q80 3 5 (by decide)).trans rfl) ((q80 3 6 (by decide)).trans rfl) (fun j => ((q80 4 j (by simp [fz])).trans rfl)) (fun j => ((q80 6 j (by simp [fz])).trans rfl)) (fun j => ((q80 7 j (by simp [fz])).trans rfl)) (fun j => ((q80 8 j (by simp [fz])).trans rfl)) (fun j => ((q80 209 j (by simp [fz])).trans rfl)) (fun j => ((q80 210 j (by simp [fz])).trans rfl)))))⟩ (nr_bool (R_of (lo := 0) (hi := 1) q81 rfl)) dX0_readSlack_12
def po_X0_readAsk_q (τ : Tau)    (bb : Nat → Int) (nb : Nat) (fs : FS) (r : Int32) (u : Tau) : Prop := Inv u ∧ Fr [(3, 1), (4, 2), (1, 3), (1, 4), (1, 5), (1, 7), (1, 8)] [201, 209] τ u ∧ R (0) (1) r ∧ (r.toInt = 1 → R (0) (0) (u 3 1)) ∧ QX (sAsk bb nb fs) r u (fun g => RC bb nb u g)
set_option maxHeartbeats 4000000 in
set_option maxRecDepth 100000 in
theorem c_X0_readAsk_q (l : Launch) (G : Gx) (τ : Tau) (hI : Inv τ) (hf_0 : R (0) (0) (τ 3 1)) (bb : Nat → Int) (nb : Nat) (fs : FS) (hR : RC bb nb τ fs) (hW : fs.1.1 = 1) : Ci l G yX0_readAsk cX0_readAsk 1 (some .boolean) 2 44 [.ref (G.2.2.2.1 3)] τ (po_X0_readAsk_q τ    bb nb fs) := by
  unfold Ci
  refine C_of (own := RX0) (by decide) rfl (Nat.le_of_ble_eq_true rfl) ?_
  intro p e s m below meth c ls S hr hlk X hl
  have hl : lv_has ls 1 [(0, .ref (G.2.2.2.1 3))] := hl
  obtain ⟨v1, z2⟩ : ∃ x, τ 3 1 = x := ⟨_, rfl⟩
  rw [z2] at hf_0
  refine r_aload_n S dX0_readAsk_0 rfl (lv_at hl 0 rfl) ?_
  refine r_get (K := 3) (v := .ref (G.2.2.2.1 4)) S X (Nat.le_of_ble_eq_true rfl) rfl lk0_14_0 (fun _ => ⟨_, rfl, rfl⟩) dX0_readAsk_1 ?_
  refine r_getn (K := 4) S X (Nat.le_of_ble_eq_true rfl) rfl lk0_133_2 (fun _ => ⟨_, rfl, rfl⟩) dX0_readAsk_4 (fun v3 z4 => ?_)
  have r5 : R (0) (9) v3 := rd hI rfl z4
  refine r_bipush S dX0_readAsk_7 (by decide) (fun v6 z7 => ?_)
  have r8 := R_eq z7
  refine r_icmp_lt (tgt := 18) S dX0_readAsk_9 (by decide) (fun c9 => ?_) (fun c9 => ?_)
  ·
    have r10 : R (0) (8) v3 := ⟨by omega, by omega⟩
    refine r_aload_n S dX0_readAsk_18 rfl (lv_at hl 0 rfl) ?_
    refine r_get (K := 3) (v := .ref (G.2.2.2.1 1)) S X (Nat.le_of_ble_eq_true rfl) rfl lk0_38_0 (fun _ => ⟨_, rfl, rfl⟩) dX0_readAsk_19 ?_
    refine r_kv (q_V (As := []) (rest := []) (K := 1) (ci := 7) S X (c_X7_step_q l G τ hI bb nb 900 fs.1.2.2 (RT_st hR.1 (Or.inl hW)).1 (RT_st hR.1 (Or.inl hW)).2.1 (RT_st hR.1 (Or.inl hW)).2.2) ck0_102 (Nat.le_of_ble_eq_true rfl) rfl (fun _ => ⟨_, rfl⟩) ⟨_, _, rfl⟩ ⟨Nat.le_of_ble_eq_true rfl, Nat.le_of_ble_eq_true rfl⟩ rfl hl.1 rfl (Nat.le_of_ble_eq_true rfl) dX0_readAsk_22 ⟨Nat.le_refl 0, Nat.le_refl 0⟩) X (fun t13 H lc q11 X12 => ?_)
    unfold po_X7_step_q at q11
    obtain ⟨q14, q15, q16⟩ := q11
    have F17 : Fr [(3, 1), (4, 2), (1, 3), (1, 4), (1, 5), (1, 7), (1, 8)] [201, 209] τ t13 := Fr_call Fr_rfl q15 (by decide)
    have hR18 : RC bb nb t13 (stp bb nb fs) := ⟨q16, RP_fr hR.2 ((q15 3 5 (by decide)).trans rfl) ((q15 3 6 (by decide)).trans rfl) (fun j => ((q15 4 j (by simp [fz])).trans rfl)) (fun j => ((q15 6 j (by simp [fz])).trans rfl)) (fun j => ((q15 7 j (by simp [fz])).trans rfl)) (fun j => ((q15 8 j (by simp [fz])).trans rfl)) (fun j => ((q15 209 j (by simp [fz])).trans rfl)) (fun j => ((q15 210 j (by simp [fz])).trans rfl))⟩
    refine r_aload_n S dX0_readAsk_25 rfl (lv_at hl 0 rfl) ?_
    refine r_ki (q_V (As := []) (rest := []) (K := 3) (ci := 0) S X12 (c_X0_seeNewName_q l G t13 q14 (by rw [((q15 3 1 (by decide)).trans z2)]; exact R_of hf_0 rfl) bb nb (stp bb nb fs) hR18 ) ck0_136 (Nat.le_of_ble_eq_true rfl) rfl (fun _ => ⟨_, rfl⟩) ⟨_, _, rfl⟩ ⟨Nat.le_of_ble_eq_true rfl, Nat.le_of_ble_eq_true rfl⟩ rfl hl.1 rfl (Nat.le_of_ble_eq_true rfl) dX0_readAsk_26 ⟨Nat.le_refl 0, Nat.le_refl 0⟩) X12 (fun v22 t21 H lc q19 X20 => ?_)
    unfold po_X0_seeNewName_q at q19
    obtain ⟨q23, q24, q25, q26, q27⟩ := q19
    have F28 : Fr [(3, 1), (4, 2), (1, 3), (1, 4), (1, 5), (1, 7), (1, 8)] [201, 209] τ t21 := Fr_call F17 q24 (by decide)
    refine r_if_ne (tgt := 34) S dX0_readAsk_29 (by decide) (fun c29 => ?_) (fun c29 => ?_)
    ·
      have r30 : R (1) (1) v22 := ⟨by omega, by omega⟩
      have p31 := q26 (by omega)
      obtain ⟨v32, z33⟩ : ∃ x, t21 3 1 = x := ⟨_, rfl⟩
      rw [z33] at p31
      have p34 := (QX_1 q27) (by omega)
      obtain ⟨g35, e36, hP37⟩ := p34
      refine r_aload_n S dX0_readAsk_34 rfl (lv_at hl 0 rfl) ?_
      refine r_get (K := 3) (v := .ref (G.2.2.2.1 4)) S X20 (Nat.le_of_ble_eq_true rfl) rfl lk0_14_0 (fun _ => ⟨_, rfl, rfl⟩) dX0_readAsk_35 ?_
      refine r_get (K := 4) (v := .ref (G.2.2.2.1 9)) S X20 (Nat.le_of_ble_eq_true rfl) rfl lk0_139_2 (fun _ => ⟨_, rfl, rfl⟩) dX0_readAsk_38 ?_
      refine r_aload_n S dX0_readAsk_41 rfl (lv_at hl 0 rfl) ?_
      refine r_get (K := 3) (v := .ref (G.2.2.2.1 4)) S X20 (Nat.le_of_ble_eq_true rfl) rfl lk0_14_0 (fun _ => ⟨_, rfl, rfl⟩) dX0_readAsk_42 ?_
      refine r_geti (K := 4) S X20 (Nat.le_of_ble_eq_true rfl) rfl lk0_133_2 (fun _ => ⟨_, rfl, rfl⟩) ((q24 4 2 (by decide)).trans ((q15 4 2 (by decide)).trans z4)) dX0_readAsk_45 ?_
      refine r_aload_n S dX0_readAsk_48 rfl (lv_at hl 0 rfl) ?_
      refine r_get (K := 3) (v := .ref (G.2.2.2.1 1)) S X20 (Nat.le_of_ble_eq_true rfl) rfl lk0_38_0 (fun _ => ⟨_, rfl, rfl⟩) dX0_readAsk_49 ?_
      refine r_getJ (K := 1) S X20 (Nat.le_of_ble_eq_true rfl) rfl lk0_118_7 (fun _ => ⟨_, rfl, rfl⟩) dX0_readAsk_52 (fun j38 z39 => ?_)
      refine r_last (n := 9) (K := 9) S X20 (Nat.le_of_ble_eq_true rfl) rfl (fun _ => rfl) (ix_of r10 rfl) dX0_readAsk_55 (fun t41 H lc M42 X40 => ?_)
      have I43 := Inv_ml q23 M42
      have F44 : Fr [(3, 1), (4, 2), (1, 3), (1, 4), (1, 5), (1, 7), (1, 8)] [201, 209] τ t41 := Fr_ml F28 M42 (by decide)
      refine r_aload_n S dX0_readAsk_56 rfl (lv_at hl 0 rfl) ?_
      refine r_get (K := 3) (v := .ref (G.2.2.2.1 4)) S X40 (Nat.le_of_ble_eq_true rfl) rfl lk0_14_0 (fun _ => ⟨_, rfl, rfl⟩) dX0_readAsk_57 ?_
      refine r_dup S dX0_readAsk_60 rfl ?_
      refine r_geti (K := 4) S X40 (Nat.le_of_ble_eq_true rfl) rfl lk0_133_2 (fun _ => ⟨_, rfl, rfl⟩) ((M42.1 4 (by decide) 2).trans ((q24 4 2 (by decide)).trans ((q15 4 2 (by decide)).trans z4))) dX0_readAsk_61 ?_
      refine r_iconst S dX0_readAsk_64 (by decide) (fun v45 z46 => ?_)
      have r47 := R_eq z46
      refine r_iadd S dX0_readAsk_65 (fun v48 z49 => ?_)
      obtain ⟨e50, r51⟩ := i_add (lo := 1) (hi := 9) z49 r10 r47 rfl
      refine r_put (K := 4) (ty := .int) S X40 (Nat.le_of_ble_eq_true rfl) rfl lk0_133_2 (fun _ => ⟨_, rfl, Nat.le_of_ble_eq_true rfl, rfl⟩) (fun _ _ _ h => by cases h; exact ⟨rfl, rfl⟩) rfl rfl dX0_readAsk_66 (fun t52 H lc M53 X54 => ?_)
      have I55 := Inv_mu I43 M53 (show Rg (kd 4) 2 v48 from (R_of (lo := 0) (hi := 9) r51 rfl))
      have F56 : Fr [(3, 1), (4, 2), (1, 3), (1, 4), (1, 5), (1, 7), (1, 8)] [201, 209] τ t52 := Fr_mu F44 M53 (by decide)
      have hR57 : RC bb nb t52 ((stp bb nb fs).1, uan fs.2 (wrd bb (stp bb nb fs).1)) := ⟨RT_fr hP37.1 (fun j => ((M53.2 1 j (Or.inl (by decide))).trans ((M42.1 1 (by decide) j).trans rfl))) (fun j => ((M53.2 2 j (Or.inl (by decide))).trans ((M42.1 2 (by decide) j).trans rfl))) (fun j => ((M53.2 201 j (Or.inl (by decide))).trans ((M42.1 201 (by decide) j).trans rfl))), RP_an hP37.2 M42 M53 (by have q : (t21 4 2).toInt = (((gan fs.2).length : Nat) : Int) := (RP_anm hP37.2).1; rw [((q24 4 2 (by decide)).trans ((q15 4 2 (by decide)).trans z4))] at q; have c : v3.toNatClampNeg = v3.toInt.toNat := rfl; omega) (by rw [← z39]; exact (RT_low hP37.1 (sNew_n e36).1).2) (RT_low hP37.1 (sNew_n e36).1).1 (by have q : (t21 4 2).toInt = (((gan fs.2).length : Nat) : Int) := (RP_anm hP37.2).1; rw [((q24 4 2 (by decide)).trans ((q15 4 2 (by decide)).trans z4))] at q; omega)⟩
      refine r_aload_n S dX0_readAsk_69 rfl (lv_at hl 0 rfl) ?_
      refine r_get (K := 3) (v := .ref (G.2.2.2.1 1)) S X54 (Nat.le_of_ble_eq_true rfl) rfl lk0_38_0 (fun _ => ⟨_, rfl, rfl⟩) dX0_readAsk_70 ?_
      refine r_kv (q_V (As := []) (rest := []) (K := 1) (ci := 7) S X54 (c_X7_step_q l G t52 I55 bb nb 900 ((stp bb nb fs).1, uan fs.2 (wrd bb (stp bb nb fs).1)).1.2.2 (RT_st hR57.1 (Or.inl (sNew_n e36).1)).1 (RT_st hR57.1 (Or.inl (sNew_n e36).1)).2.1 (RT_st hR57.1 (Or.inl (sNew_n e36).1)).2.2) ck0_102 (Nat.le_of_ble_eq_true rfl) rfl (fun _ => ⟨_, rfl⟩) ⟨_, _, rfl⟩ ⟨Nat.le_of_ble_eq_true rfl, Nat.le_of_ble_eq_true rfl⟩ rfl hl.1 rfl (Nat.le_of_ble_eq_true rfl) dX0_readAsk_73 ⟨Nat.le_refl 0, Nat.le_refl 0⟩) X54 (fun t60 H lc q58 X59 => ?_)
      unfold po_X7_step_q at q58
      obtain ⟨q61, q62, q63⟩ := q58
      have F64 : Fr [(3, 1), (4, 2), (1, 3), (1, 4), (1, 5), (1, 7), (1, 8)] [201, 209] τ t60 := Fr_call F56 q62 (by decide)
      have hR65 : RC bb nb t60 (stp bb nb ((stp bb nb fs).1, uan fs.2 (wrd bb (stp bb nb fs).1))) := ⟨q63, RP_fr hR57.2 ((q62 3 5 (by decide)).trans rfl) ((q62 3 6 (by decide)).trans rfl) (fun j => ((q62 4 j (by simp [fz])).trans rfl)) (fun j => ((q62 6 j (by simp [fz])).trans rfl)) (fun j => ((q62 7 j (by simp [fz])).trans rfl)) (fun j => ((q62 8 j (by simp [fz])).trans rfl)) (fun j => ((q62 209 j (by simp [fz])).trans rfl)) (fun j => ((q62 210 j (by simp [fz])).trans rfl))⟩
      refine r_iconst S dX0_readAsk_76 (by decide) (fun v66 z67 => ?_)
      have r68 := R_eq z67
      exact r_ret S hr hlk X59 ⟨q61, F64, (R_of r68 rfl), (fun h => (by rw [((q62 3 1 (by decide)).trans ((M53.2 3 1 (Or.inl (by decide))).trans ((M42.1 3 (by decide) 1).trans z33)))]; exact R_of p31 rfl)), (QX_r (sAsk_r (by have q := (RP_anm hR.2).1; rw [z4] at q; omega) e36) (by omega) hR65)⟩ (nr_bool (R_of (lo := 0) (hi := 1) r68 rfl)) dX0_readAsk_77
    ·
      have r69 : R (0) (0) v22 := ⟨by omega, by omega⟩
      have p70 := (QX_0 q27) (by omega)
      obtain ⟨q71, e72, h73, h74⟩ := p70
      refine r_iconst S dX0_readAsk_32 (by decide) (fun v75 z76 => ?_)
      have r77 := R_eq z76
      exact r_ret S hr hlk X20 ⟨q23, F28, (R_of r77 rfl), (fun h => by exfalso; omega), (QX_l (sAsk_l (by have q := (RP_anm hR.2).1; rw [z4] at q; omega) e72) (by omega) h73 h74)⟩ (nr_bool (R_of (lo := 0) (hi := 1) r77 rfl)) dX0_readAsk_33
  ·
    have r78 : R (9) (9) v3 := ⟨by omega, by omega⟩
    refine r_aload_n S dX0_readAsk_12 rfl (lv_at hl 0 rfl) ?_
    refine r_iconst S dX0_readAsk_13 (by decide) (fun v79 z80 => ?_)
    have r81 := R_eq z80
    refine r_ki (q_U (As := [.int v79]) (rest := []) (K := 3) (ci := 0) S X (c_X8_fail_q l G τ hI v79 (R_of (lo := -2147483648) (hi := 2147483647) r81 rfl)) ck0_98_0 (Nat.le_of_ble_eq_true rfl) rfl (fun _ => ⟨_, rfl⟩) ⟨_, _, rfl⟩ ⟨Nat.le_of_ble_eq_true rfl, Nat.le_of_ble_eq_true rfl⟩ rfl hl.1 rfl (Nat.le_of_ble_eq_true rfl) dX0_readAsk_14 ⟨Nat.le_refl 0, Nat.le_refl 0⟩) X (fun v85 t84 H lc q82 X83 => ?_)
    unfold po_X8_fail_q at q82
    obtain ⟨q86, q87, q88, q89⟩ := q82
    have F90 : Fr [(3, 1), (4, 2), (1, 3), (1, 4), (1, 5), (1, 7), (1, 8)] [201, 209] τ t84 := Fr_call Fr_rfl q87 (by decide)
    exact r_ret S hr hlk X83 ⟨q86, F90, (R_of q88 rfl), (fun h => by exfalso; omega), (QX_b (sAsk_b (by have q := (RP_anm hR.2).1; rw [z4] at q; omega)) (by omega) (by rw [q89]; omega) (RC_at (RC_fr hR (fun j => ((q87 1 j (by simp [fz])).trans rfl)) (fun j => ((q87 2 j (by simp [fz])).trans rfl)) (fun j => ((q87 201 j (by simp [fz])).trans rfl)) ((q87 3 5 (by decide)).trans rfl) ((q87 3 6 (by decide)).trans rfl) (fun j => ((q87 4 j (by simp [fz])).trans rfl)) (fun j => ((q87 6 j (by simp [fz])).trans rfl)) (fun j => ((q87 7 j (by simp [fz])).trans rfl)) (fun j => ((q87 8 j (by simp [fz])).trans rfl)) (fun j => ((q87 209 j (by simp [fz])).trans rfl)) (fun j => ((q87 210 j (by simp [fz])).trans rfl)))))⟩ (nr_bool (R_of (lo := 0) (hi := 1) q88 rfl)) dX0_readAsk_17
def po_X0_readOpinion_q (τ : Tau)  (a0 : Int32)  (bb : Nat → Int) (nb : Nat) (fs : FS) (op : Nat → Bool) (r : Int32) (u : Tau) : Prop := Inv u ∧ Fr [(3, 1), (3, 2), (1, 3), (1, 4), (1, 5), (1, 7), (1, 8)] [8, 201] τ u ∧ R (0) (1) r ∧ (r.toInt = 1 → R (0) (0) (u 3 1)) ∧ QX (sOp bb nb op fs) r u (fun g => RC bb nb u g.2 ∧ RO u a0.toInt.toNat (fun j => op j || j == g.1))
set_option maxHeartbeats 4000000 in
set_option maxRecDepth 100000 in
theorem c_X0_readOpinion_q (l : Launch) (G : Gx) (τ : Tau) (hI : Inv τ) (a0 : Int32) (h_a0 : R (0) (9) a0) (hf_0 : R (0) (0) (τ 3 1)) (bb : Nat → Int) (nb : Nat) (fs : FS) (op : Nat → Bool) (hR : RC bb nb τ fs) (hO : RO τ a0.toInt.toNat op) (hm : a0.toInt.toNat < (gmn fs.2).length) : Ci l G yX0_readOpinion cX0_readOpinion 4 (some .boolean) 2 46 [.ref (G.2.2.2.1 3), .int a0] τ (po_X0_readOpinion_q τ  a0  bb nb fs op) := by
  unfold Ci
  refine C_of (own := RX0) (by decide) rfl (Nat.le_of_ble_eq_true rfl) ?_
  intro p e s m below meth c ls S hr hlk X hl
  have hl : lv_has ls 4 [(0, .ref (G.2.2.2.1 3)), (1, .int a0)] := hl
  obtain ⟨v1, z2⟩ : ∃ x, τ 3 1 = x := ⟨_, rfl⟩
  rw [z2] at hf_0
  refine r_aload_n S dX0_readOpinion_0 rfl (lv_at hl 0 rfl) ?_
  refine r_aload_n S dX0_readOpinion_1 rfl (lv_at hl 0 rfl) ?_
  refine r_get (K := 3) (v := .ref (G.2.2.2.1 4)) S X (Nat.le_of_ble_eq_true rfl) rfl lk0_14_0 (fun _ => ⟨_, rfl, rfl⟩) dX0_readOpinion_2 ?_
  refine r_ki (q_U (As := [.ref (G.2.2.2.1 4)]) (rest := []) (K := 3) (ci := 0) S X (c_X8_seeAsk_q l G τ hI (by rw [z2]; exact R_of hf_0 rfl) bb nb fs hR ) ck0_159_0 (Nat.le_of_ble_eq_true rfl) rfl (fun _ => ⟨_, rfl⟩) ⟨_, _, rfl⟩ ⟨Nat.le_of_ble_eq_true rfl, Nat.le_of_ble_eq_true rfl⟩ rfl hl.1 rfl (Nat.le_of_ble_eq_true rfl) dX0_readOpinion_5 ⟨Nat.le_refl 0, Nat.le_refl 0⟩) X (fun v6 t5 H lc q3 X4 => ?_)
  unfold po_X8_seeAsk_q at q3
  obtain ⟨q7, q8, q9, q10, q11⟩ := q3
  have F12 : Fr [(3, 1), (3, 2), (1, 3), (1, 4), (1, 5), (1, 7), (1, 8)] [8, 201] τ t5 := Fr_call Fr_rfl q8 (by decide)
  refine r_if_ne (tgt := 13) S dX0_readOpinion_8 (by decide) (fun c13 => ?_) (fun c13 => ?_)
  ·
    have r14 : R (1) (1) v6 := ⟨by omega, by omega⟩
    obtain ⟨p15, p16⟩ := q10 (by omega)
    obtain ⟨v17, z18⟩ : ∃ x, t5 3 2 = x := ⟨_, rfl⟩
    rw [z18] at p15
    obtain ⟨v19, z20⟩ : ∃ x, t5 3 1 = x := ⟨_, rfl⟩
    rw [z20] at p16
    have p21 := (QX_1 q11) (by omega)
    obtain ⟨g22, e23, hP24⟩ := p21
    refine r_iload_n S dX0_readOpinion_13 rfl (lv_at hl 1 rfl) ?_
    refine r_bipush S dX0_readOpinion_14 (by decide) (fun v25 z26 => ?_)
    have r27 := R_eq z26
    refine r_imul S dX0_readOpinion_16 (fun v28 z29 => ?_)
    obtain ⟨e30, r31⟩ := i_mul (lo := 0) (hi := 81) z29 h_a0 r27 rfl rfl
    have e32 : v28.toInt = a0.toInt * 9 := by rw [e30, show v25.toInt = 9 by omega]
    refine r_aload_n S dX0_readOpinion_17 rfl (lv_at hl 0 rfl) ?_
    refine r_geti (K := 3) S X4 (Nat.le_of_ble_eq_true rfl) rfl lk0_109_0 (fun _ => ⟨_, rfl, rfl⟩) z18 dX0_readOpinion_18 ?_
    refine r_iadd S dX0_readOpinion_21 (fun v33 z34 => ?_)
    obtain ⟨e35, r36⟩ := i_add (lo := 0) (hi := 89) z34 r31 p15 rfl
    refine r_istore_n (lv' := [(2, .int v33), (0, .ref (G.2.2.2.1 3)), (1, .int a0)]) S dX0_readOpinion_22 rfl hl (by decide) rfl (fun ls hl => ?_)
    refine r_aload_n S dX0_readOpinion_23 rfl (lv_at hl 1 rfl) ?_
    refine r_get (K := 3) (v := .ref (G.2.2.2.1 4)) S X4 (Nat.le_of_ble_eq_true rfl) rfl lk0_14_0 (fun _ => ⟨_, rfl, rfl⟩) dX0_readOpinion_24 ?_
    refine r_get (K := 4) (v := .ref (G.2.2.2.1 8)) S X4 (Nat.le_of_ble_eq_true rfl) rfl lk0_163_2 (fun _ => ⟨_, rfl, rfl⟩) dX0_readOpinion_27 ?_
    refine r_iload_n S dX0_readOpinion_30 rfl (lv_at hl 0 rfl) ?_
    refine r_aldn (n := 90) (K := 8) S X4 (Nat.le_of_ble_eq_true rfl) rfl (fun _ => rfl) (ix_of r36 rfl) dX0_readOpinion_31 (fun v37 z38 => ?_)
    have r39 : R (-9) (9) v37 := rd q7 rfl z38
    have e41 : v17.toInt = g22 := by rw [← z18]; exact hP24.1
    have ho40 : (v37.toInt ≠ 0 ↔ op g22 = true) := by have q := hO g22 (by omega); rw [show 9 * a0.toInt.toNat + g22 = v33.toNatClampNeg by (have c : v33.toNatClampNeg = v33.toInt.toNat := rfl; omega), ← ((q8 8 v33.toNatClampNeg (by simp [fz])).trans rfl), z38] at q; exact q
    refine r_if_eq (tgt := 41) S dX0_readOpinion_32 (by decide) (fun c42 => ?_) (fun c42 => ?_)
    ·
      have r43 : R (0) (0) v37 := ⟨by omega, by omega⟩
      refine r_aload_n S dX0_readOpinion_41 rfl (lv_at hl 1 rfl) ?_
      refine r_get (K := 3) (v := .ref (G.2.2.2.1 1)) S X4 (Nat.le_of_ble_eq_true rfl) rfl lk0_38_0 (fun _ => ⟨_, rfl, rfl⟩) dX0_readOpinion_42 ?_
      refine r_kv (q_V (As := []) (rest := []) (K := 1) (ci := 7) S X4 (c_X7_step_q l G t5 q7 bb nb 900 fs.1.2.2 (RT_st hP24.2.1 (Or.inl (sLook_n e23).1)).1 (RT_st hP24.2.1 (Or.inl (sLook_n e23).1)).2.1 (RT_st hP24.2.1 (Or.inl (sLook_n e23).1)).2.2) ck0_102 (Nat.le_of_ble_eq_true rfl) rfl (fun _ => ⟨_, rfl⟩) ⟨_, _, rfl⟩ ⟨Nat.le_of_ble_eq_true rfl, Nat.le_of_ble_eq_true rfl⟩ rfl hl.1 rfl (Nat.le_of_ble_eq_true rfl) dX0_readOpinion_45 ⟨Nat.le_refl 0, Nat.le_refl 0⟩) X4 (fun t46 H lc q44 X45 => ?_)
      unfold po_X7_step_q at q44
      obtain ⟨q47, q48, q49⟩ := q44
      have F50 : Fr [(3, 1), (3, 2), (1, 3), (1, 4), (1, 5), (1, 7), (1, 8)] [8, 201] τ t46 := Fr_call F12 q48 (by decide)
      have hR51 : RC bb nb t46 (stp bb nb fs) := ⟨q49, RP_fr hP24.2.2 ((q48 3 5 (by decide)).trans rfl) ((q48 3 6 (by decide)).trans rfl) (fun j => ((q48 4 j (by simp [fz])).trans rfl)) (fun j => ((q48 6 j (by simp [fz])).trans rfl)) (fun j => ((q48 7 j (by simp [fz])).trans rfl)) (fun j => ((q48 8 j (by simp [fz])).trans rfl)) (fun j => ((q48 209 j (by simp [fz])).trans rfl)) (fun j => ((q48 210 j (by simp [fz])).trans rfl))⟩
      refine r_aload_n S dX0_readOpinion_48 rfl (lv_at hl 1 rfl) ?_
      refine r_ki (q_U (As := []) (rest := []) (K := 3) (ci := 0) S X45 (c_X8_takeYesOrNo_q l G t46 q47 (by rw [((q48 3 1 (by decide)).trans z20)]; exact R_of p16 rfl) bb nb (stp bb nb fs) hR51 ) ck0_166_0 (Nat.le_of_ble_eq_true rfl) rfl (fun _ => ⟨_, rfl⟩) ⟨_, _, rfl⟩ ⟨Nat.le_of_ble_eq_true rfl, Nat.le_of_ble_eq_true rfl⟩ rfl hl.1 rfl (Nat.le_of_ble_eq_true rfl) dX0_readOpinion_49 ⟨Nat.le_refl 0, Nat.le_refl 0⟩) X45 (fun v55 t54 H lc q52 X53 => ?_)
      unfold po_X8_takeYesOrNo_q at q52
      obtain ⟨q56, q57, q58, q59, q60⟩ := q52
      have F61 : Fr [(3, 1), (3, 2), (1, 3), (1, 4), (1, 5), (1, 7), (1, 8)] [8, 201] τ t54 := Fr_call F50 q57 (by decide)
      refine r_if_ne (tgt := 57) S dX0_readOpinion_52 (by decide) (fun c62 => ?_) (fun c62 => ?_)
      ·
        have r63 : R (1) (1) v55 := ⟨by omega, by omega⟩
        obtain ⟨p64, p65⟩ := q59 (by omega)
        obtain ⟨v66, z67⟩ : ∃ x, t54 3 2 = x := ⟨_, rfl⟩
        rw [z67] at p64
        obtain ⟨v68, z69⟩ : ∃ x, t54 3 1 = x := ⟨_, rfl⟩
        rw [z69] at p65
        have p70 := (QX_1 q60) (by omega)
        obtain ⟨g71, e72, hP73⟩ := p70
        refine r_aload_n S dX0_readOpinion_57 rfl (lv_at hl 1 rfl) ?_
        refine r_geti (K := 3) S X53 (Nat.le_of_ble_eq_true rfl) rfl lk0_109_0 (fun _ => ⟨_, rfl, rfl⟩) z67 dX0_readOpinion_58 ?_
        refine r_istore_n (lv' := [(3, .int v66), (2, .int v33), (0, .ref (G.2.2.2.1 3)), (1, .int a0)]) S dX0_readOpinion_61 rfl hl (by decide) rfl (fun ls hl => ?_)
        have e74 : v66.toInt = 1 ∨ v66.toInt = -1 := by rw [← z67]; exact hP73.1
        refine r_aload_n S dX0_readOpinion_62 rfl (lv_at hl 2 rfl) ?_
        refine r_iconst S dX0_readOpinion_63 (by decide) (fun v75 z76 => ?_)
        have r77 := R_eq z76
        refine r_bipush S dX0_readOpinion_64 (by decide) (fun v78 z79 => ?_)
        have r80 := R_eq z79
        refine r_ki (q_U (As := [.int v75, .int v78]) (rest := []) (K := 3) (ci := 0) S X53 (c_X8_takeNumber_q_1_9 l G t54 q56 v75 v78 r77 r80 (by rw [z69]; exact R_of p65 rfl) bb nb g71 hP73.2 ) ck0_105_0 (Nat.le_of_ble_eq_true rfl) rfl (fun _ => ⟨_, rfl⟩) ⟨_, _, rfl⟩ ⟨Nat.le_of_ble_eq_true rfl, Nat.le_of_ble_eq_true rfl⟩ rfl hl.1 rfl (Nat.le_of_ble_eq_true rfl) dX0_readOpinion_66 ⟨Nat.le_refl 0, Nat.le_refl 0⟩) X53 (fun v84 t83 H lc q81 X82 => ?_)
        unfold po_X8_takeNumber_q_1_9 at q81
        obtain ⟨q85, q86, q87, q88, q89⟩ := q81
        have F90 : Fr [(3, 1), (3, 2), (1, 3), (1, 4), (1, 5), (1, 7), (1, 8)] [8, 201] τ t83 := Fr_call F61 q86 (by decide)
        refine r_if_ne (tgt := 74) S dX0_readOpinion_69 (by decide) (fun c91 => ?_) (fun c91 => ?_)
        ·
          have r92 : R (1) (1) v84 := ⟨by omega, by omega⟩
          obtain ⟨p93, p94⟩ := q88 (by omega)
          obtain ⟨v95, z96⟩ : ∃ x, t83 3 2 = x := ⟨_, rfl⟩
          rw [z96] at p93
          obtain ⟨v97, z98⟩ : ∃ x, t83 3 1 = x := ⟨_, rfl⟩
          rw [z98] at p94
          have p99 := (QX_1 q89) (by omega)
          obtain ⟨g100, e101, hP102⟩ := p99
          refine r_aload_n S dX0_readOpinion_74 rfl (lv_at hl 2 rfl) ?_
          refine r_get (K := 3) (v := .ref (G.2.2.2.1 4)) S X82 (Nat.le_of_ble_eq_true rfl) rfl lk0_14_0 (fun _ => ⟨_, rfl, rfl⟩) dX0_readOpinion_75 ?_
          refine r_get (K := 4) (v := .ref (G.2.2.2.1 8)) S X82 (Nat.le_of_ble_eq_true rfl) rfl lk0_163_2 (fun _ => ⟨_, rfl, rfl⟩) dX0_readOpinion_78 ?_
          refine r_iload_n S dX0_readOpinion_81 rfl (lv_at hl 1 rfl) ?_
          refine r_iload_n S dX0_readOpinion_82 rfl (lv_at hl 0 rfl) ?_
          refine r_aload_n S dX0_readOpinion_83 rfl (lv_at hl 2 rfl) ?_
          refine r_geti (K := 3) S X82 (Nat.le_of_ble_eq_true rfl) rfl lk0_109_0 (fun _ => ⟨_, rfl, rfl⟩) z96 dX0_readOpinion_84 ?_
          refine r_imul S dX0_readOpinion_87 (fun v103 z104 => ?_)
          obtain ⟨e105, r106⟩ := i_mul (lo := -9) (hi := 9) z104 p64 p93 rfl rfl
          have hz107 : v103.toInt = v66.toInt * v95.toInt := by rw [z104, Int32.toInt_mul, Int.bmod_eq_of_le (by rcases (show v66.toInt = 1 ∨ v66.toInt = -1 by omega) with h | h <;> rw [h] <;> omega) (by rcases (show v66.toInt = 1 ∨ v66.toInt = -1 by omega) with h | h <;> rw [h] <;> omega)]
          refine r_ast (n := 90) (K := 8) S X82 (Nat.le_of_ble_eq_true rfl) rfl (fun _ _ => rfl) (ix_of r36 rfl) dX0_readOpinion_88 (fun t108 H lc M109 X110 => ?_)
          have I111 := Inv_mu q85 M109 (show Rg (kd 8) _ v103 from (R_of (lo := -9) (hi := 9) r106 rfl))
          have F112 : Fr [(3, 1), (3, 2), (1, 3), (1, 4), (1, 5), (1, 7), (1, 8)] [8, 201] τ t108 := Fr_cell F90 M109 (by decide)
          have hx115 : v103.toInt ≠ 0 := by rcases (show v66.toInt = 1 ∨ v66.toInt = -1 by omega) with h | h <;> rw [h] at hz107 <;> omega
          have e116 : v33.toNatClampNeg = 9 * a0.toInt.toNat + g22 := by have c : v33.toNatClampNeg = v33.toInt.toNat := rfl; omega
          have hR113 : RC bb nb t108 g100.2 := ⟨RT_fr hP102.2.1 (fun j => ((M109.2 1 j (Or.inl (by decide))).trans rfl)) (fun j => ((M109.2 2 j (Or.inl (by decide))).trans rfl)) (fun j => ((M109.2 201 j (Or.inl (by decide))).trans rfl)), RP_op hP102.2.2 M109 (by have q := hm; have q2 : (gmn g100.2.2) = (gmn fs.2) := (by rw [sNum_s e101, sYN_s e72]; rfl); rw [q2]; omega)⟩
          have ro114 : RO t108 a0.toInt.toNat (fun j => op j || j == g22) := RO_put (RO_eq hO (fun j => ((q86 8 j (by simp [fz])).trans ((q57 8 j (by simp [fz])).trans ((q48 8 j (by simp [fz])).trans ((q8 8 j (by simp [fz])).trans rfl)))))) M109 (by omega) (by omega) hx115
          refine r_iconst S dX0_readOpinion_89 (by decide) (fun v117 z118 => ?_)
          have r119 := R_eq z118
          exact r_ret S hr hlk X110 ⟨I111, F112, (R_of r119 rfl), (fun h => (by rw [((M109.2 3 1 (Or.inl (by decide))).trans z98)]; exact R_of p94 rfl)), (QX_r (sOp_r e23 (fun h => absurd (ho40.mpr h) (by omega)) e72 e101) (by omega) ⟨hR113, ro114⟩)⟩ (nr_bool (R_of (lo := 0) (hi := 1) r119 rfl)) dX0_readOpinion_90
        ·
          have r120 : R (0) (0) v84 := ⟨by omega, by omega⟩
          have p121 := (QX_0 q89) (by omega)
          obtain ⟨q122, e123, h124, h125⟩ := p121
          refine r_iconst S dX0_readOpinion_72 (by decide) (fun v126 z127 => ?_)
          have r128 := R_eq z127
          exact r_ret S hr hlk X82 ⟨q85, F90, (R_of r128 rfl), (fun h => by exfalso; omega), (QX_l (sOp_l3 e23 (fun h => absurd (ho40.mpr h) (by omega)) e72 e123) (by omega) h124 h125)⟩ (nr_bool (R_of (lo := 0) (hi := 1) r128 rfl)) dX0_readOpinion_73
      ·
        have r129 : R (0) (0) v55 := ⟨by omega, by omega⟩
        have p130 := (QX_0 q60) (by omega)
        obtain ⟨q131, e132, h133, h134⟩ := p130
        refine r_iconst S dX0_readOpinion_55 (by decide) (fun v135 z136 => ?_)
        have r137 := R_eq z136
        exact r_ret S hr hlk X53 ⟨q56, F61, (R_of r137 rfl), (fun h => by exfalso; omega), (QX_l (sOp_l2 e23 (fun h => absurd (ho40.mpr h) (by omega)) e132) (by omega) h133 h134)⟩ (nr_bool (R_of (lo := 0) (hi := 1) r137 rfl)) dX0_readOpinion_56
    ·
      refine r_aload_n S dX0_readOpinion_35 rfl (lv_at hl 1 rfl) ?_
      refine r_iconst S dX0_readOpinion_36 (by decide) (fun v138 z139 => ?_)
      have r140 := R_eq z139
      refine r_ki (q_U (As := [.int v138]) (rest := []) (K := 3) (ci := 0) S X4 (c_X8_fail_q l G t5 q7 v138 (R_of (lo := -2147483648) (hi := 2147483647) r140 rfl)) ck0_98_0 (Nat.le_of_ble_eq_true rfl) rfl (fun _ => ⟨_, rfl⟩) ⟨_, _, rfl⟩ ⟨Nat.le_of_ble_eq_true rfl, Nat.le_of_ble_eq_true rfl⟩ rfl hl.1 rfl (Nat.le_of_ble_eq_true rfl) dX0_readOpinion_37 ⟨Nat.le_refl 0, Nat.le_refl 0⟩) X4 (fun v144 t143 H lc q141 X142 => ?_)
      unfold po_X8_fail_q at q141
      obtain ⟨q145, q146, q147, q148⟩ := q141
      have F149 : Fr [(3, 1), (3, 2), (1, 3), (1, 4), (1, 5), (1, 7), (1, 8)] [8, 201] τ t143 := Fr_call F12 q146 (by decide)
      exact r_ret S hr hlk X142 ⟨q145, F149, (R_of q147 rfl), (fun h => by exfalso; omega), (QX_b (sOp_b e23 (ho40.mp (by omega))) (by omega) (by rw [q148]; omega) (RC_at (RC_fr hP24.2 (fun j => ((q146 1 j (by simp [fz])).trans rfl)) (fun j => ((q146 2 j (by simp [fz])).trans rfl)) (fun j => ((q146 201 j (by simp [fz])).trans rfl)) ((q146 3 5 (by decide)).trans rfl) ((q146 3 6 (by decide)).trans rfl) (fun j => ((q146 4 j (by simp [fz])).trans rfl)) (fun j => ((q146 6 j (by simp [fz])).trans rfl)) (fun j => ((q146 7 j (by simp [fz])).trans rfl)) (fun j => ((q146 8 j (by simp [fz])).trans rfl)) (fun j => ((q146 209 j (by simp [fz])).trans rfl)) (fun j => ((q146 210 j (by simp [fz])).trans rfl)))))⟩ (nr_bool (R_of (lo := 0) (hi := 1) q147 rfl)) dX0_readOpinion_40
  ·
    have r150 : R (0) (0) v6 := ⟨by omega, by omega⟩
    have p151 := (QX_0 q11) (by omega)
    obtain ⟨q152, e153, h154, h155⟩ := p151
    refine r_iconst S dX0_readOpinion_11 (by decide) (fun v156 z157 => ?_)
    have r158 := R_eq z157
    exact r_ret S hr hlk X4 ⟨q7, F12, (R_of r158 rfl), (fun h => by exfalso; omega), (QX_l (sOp_l1 e153) (by omega) h154 h155)⟩ (nr_bool (R_of (lo := 0) (hi := 1) r158 rfl)) dX0_readOpinion_12
