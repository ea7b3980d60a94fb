def po_X0_readSeats_q (τ : Tau)    (bb : Nat → Int) (nb : Nat) (fs : FS) (r : Int32) (u : Tau) : Prop := Inv u ∧ Fr [(3, 1), (3, 2), (3, 5), (4, 0), (1, 3), (1, 4), (1, 5), (1, 7), (1, 8)] [201] τ u ∧ R (0) (1) r ∧ QX (sSeats bb nb fs) r u (fun g => RC bb nb u g)
set_option maxHeartbeats 4000000 in
set_option maxRecDepth 100000 in
theorem c_X0_readSeats_q (l : Launch) (G : Gx) (τ : Tau) (hI : Inv τ) (bb : Nat → Int) (nb : Nat) (fs : FS) (hR : RC bb nb τ fs) (hW : isW bb 0 fs.1) : Ci l G yX0_readSeats cX0_readSeats 1 (some .boolean) 2 46 [.ref (G.2.2.2.1 3)] τ (po_X0_readSeats_q τ    bb nb fs) := by
  unfold Ci
  refine C_of (own := RX0) (by decide) rfl (Nat.le_of_ble_eq_true rfl) ?_
  intro p e s m below meth c ls S hr hlk X hl
  have hl : lv_has ls 1 [(0, .ref (G.2.2.2.1 3))] := hl
  refine r_aload_n S dX0_readSeats_0 rfl (lv_at hl 0 rfl) ?_
  refine r_getn (K := 3) S X (Nat.le_of_ble_eq_true rfl) rfl lk0_27_0 (fun _ => ⟨_, rfl, rfl⟩) dX0_readSeats_1 (fun v1 z2 => ?_)
  have r3 : R (0) (1) v1 := rd hI rfl z2
  refine r_if_eq (tgt := 13) S dX0_readSeats_4 (by decide) (fun c4 => ?_) (fun c4 => ?_)
  ·
    have r5 : R (0) (0) v1 := ⟨by omega, by omega⟩
    refine r_aload_n S dX0_readSeats_13 rfl (lv_at hl 0 rfl) ?_
    refine r_iconst S dX0_readSeats_14 (by decide) (fun v6 z7 => ?_)
    have r8 := R_eq z7
    refine r_put (K := 3) (ty := .boolean) S X (Nat.le_of_ble_eq_true rfl) rfl lk0_27_0 (fun _ => ⟨_, rfl, Nat.le_of_ble_eq_true rfl, rfl⟩) (fun _ _ _ h => by cases h; exact ⟨rfl, rfl⟩) (nr_bool (R_of (lo := 0) (hi := 1) r8 rfl)) (ft_bool (R_of (lo := 0) (hi := 1) r8 rfl)) dX0_readSeats_15 (fun t9 H lc M10 X11 => ?_)
    have I12 := Inv_mu hI M10 (show Rg (kd 3) 5 v6 from (R_of (lo := 0) (hi := 1) r8 rfl))
    have F13 : Fr [(3, 1), (3, 2), (3, 5), (4, 0), (1, 3), (1, 4), (1, 5), (1, 7), (1, 8)] [201] τ t9 := Fr_mu Fr_rfl M10 (by decide)
    have hR14 : RC bb nb t9 (fs.1, usT fs.2 true) := ⟨RT_fr hR.1 (fun j => ((M10.2 1 j (Or.inl (by decide))).trans rfl)) (fun j => ((M10.2 2 j (Or.inl (by decide))).trans rfl)) (fun j => ((M10.2 201 j (Or.inl (by decide))).trans rfl)), RP_sT hR.2 M10 (by omega)⟩
    refine r_aload_n S dX0_readSeats_18 rfl (lv_at hl 0 rfl) ?_
    refine r_get (K := 3) (v := .ref (G.2.2.2.1 1)) S X11 (Nat.le_of_ble_eq_true rfl) rfl lk0_38_0 (fun _ => ⟨_, rfl, rfl⟩) dX0_readSeats_19 ?_
    refine r_kv (q_V (As := []) (rest := []) (K := 1) (ci := 7) S X11 (c_X7_step_q l G t9 I12 bb nb 900 (fs.1, usT fs.2 true).1.2.2 (RT_st hR14.1 (Or.inl hW.1)).1 (RT_st hR14.1 (Or.inl hW.1)).2.1 (RT_st hR14.1 (Or.inl hW.1)).2.2) ck0_102 (Nat.le_of_ble_eq_true rfl) rfl (fun _ => ⟨_, rfl⟩) ⟨_, _, rfl⟩ ⟨Nat.le_of_ble_eq_true rfl, Nat.le_of_ble_eq_true rfl⟩ rfl hl.1 rfl (Nat.le_of_ble_eq_true rfl) dX0_readSeats_22 ⟨Nat.le_refl 0, Nat.le_refl 0⟩) X11 (fun t17 H lc q15 X16 => ?_)
    unfold po_X7_step_q at q15
    obtain ⟨q18, q19, q20⟩ := q15
    have F21 : Fr [(3, 1), (3, 2), (3, 5), (4, 0), (1, 3), (1, 4), (1, 5), (1, 7), (1, 8)] [201] τ t17 := Fr_call F13 q19 (by decide)
    have hR22 : RC bb nb t17 (stp bb nb (fs.1, usT fs.2 true)) := ⟨q20, RP_fr hR14.2 ((q19 3 5 (by decide)).trans rfl) ((q19 3 6 (by decide)).trans rfl) (fun j => ((q19 4 j (by simp [fz])).trans rfl)) (fun j => ((q19 6 j (by simp [fz])).trans rfl)) (fun j => ((q19 7 j (by simp [fz])).trans rfl)) (fun j => ((q19 8 j (by simp [fz])).trans rfl)) (fun j => ((q19 209 j (by simp [fz])).trans rfl)) (fun j => ((q19 210 j (by simp [fz])).trans rfl))⟩
    refine r_aload_n S dX0_readSeats_25 rfl (lv_at hl 0 rfl) ?_
    refine r_iconst S dX0_readSeats_26 (by decide) (fun v23 z24 => ?_)
    have r25 := R_eq z24
    refine r_bipush S dX0_readSeats_27 (by decide) (fun v26 z27 => ?_)
    have r28 := R_eq z27
    refine r_ki (q_U (As := [.int v23, .int v26]) (rest := []) (K := 3) (ci := 0) S X16 (c_X8_takeNumber_q_1_8 l G t17 q18 v23 v26 r25 r28 bb nb (stp bb nb (fs.1, usT fs.2 true)) hR22 ) ck0_105_0 (Nat.le_of_ble_eq_true rfl) rfl (fun _ => ⟨_, rfl⟩) ⟨_, _, rfl⟩ ⟨Nat.le_of_ble_eq_true rfl, Nat.le_of_ble_eq_true rfl⟩ rfl hl.1 rfl (Nat.le_of_ble_eq_true rfl) dX0_readSeats_29 ⟨Nat.le_refl 0, Nat.le_refl 0⟩) X16 (fun v32 t31 H lc q29 X30 => ?_)
    unfold po_X8_takeNumber_q_1_8 at q29
    obtain ⟨q33, q34, q35, q36, q37⟩ := q29
    have F38 : Fr [(3, 1), (3, 2), (3, 5), (4, 0), (1, 3), (1, 4), (1, 5), (1, 7), (1, 8)] [201] τ t31 := Fr_call F21 q34 (by decide)
    refine r_if_ne (tgt := 37) S dX0_readSeats_32 (by decide) (fun c39 => ?_) (fun c39 => ?_)
    ·
      have r40 : R (1) (1) v32 := ⟨by omega, by omega⟩
      have p41 := q36 (by omega)
      obtain ⟨v42, z43⟩ : ∃ x, t31 3 2 = x := ⟨_, rfl⟩
      rw [z43] at p41
      have p44 := (QX_1 q37) (by omega)
      obtain ⟨g45, e46, hP47⟩ := p44
      refine r_aload_n S dX0_readSeats_37 rfl (lv_at hl 0 rfl) ?_
      refine r_get (K := 3) (v := .ref (G.2.2.2.1 4)) S X30 (Nat.le_of_ble_eq_true rfl) rfl lk0_14_0 (fun _ => ⟨_, rfl, rfl⟩) dX0_readSeats_38 ?_
      refine r_aload_n S dX0_readSeats_41 rfl (lv_at hl 0 rfl) ?_
      refine r_geti (K := 3) S X30 (Nat.le_of_ble_eq_true rfl) rfl lk0_109_0 (fun _ => ⟨_, rfl, rfl⟩) z43 dX0_readSeats_42 ?_
      refine r_put (K := 4) (ty := .int) S X30 (Nat.le_of_ble_eq_true rfl) rfl lk0_112_2 (fun _ => ⟨_, rfl, Nat.le_of_ble_eq_true rfl, rfl⟩) (fun _ _ _ h => by cases h; exact ⟨rfl, rfl⟩) rfl rfl dX0_readSeats_45 (fun t48 H lc M49 X50 => ?_)
      have I51 := Inv_mu q33 M49 (show Rg (kd 4) 0 v42 from (R_of (lo := 0) (hi := 8) p41 rfl))
      have F52 : Fr [(3, 1), (3, 2), (3, 5), (4, 0), (1, 3), (1, 4), (1, 5), (1, 7), (1, 8)] [201] τ t48 := Fr_mu F38 M49 (by decide)
      have hR53 : RC bb nb t48 (g45.2.1, use g45.2.2 g45.1) := ⟨RT_fr hP47.2.1 (fun j => ((M49.2 1 j (Or.inl (by decide))).trans rfl)) (fun j => ((M49.2 2 j (Or.inl (by decide))).trans rfl)) (fun j => ((M49.2 201 j (Or.inl (by decide))).trans rfl)), RP_se hP47.2.2 M49 (by rw [← z43]; exact hP47.1)⟩
      refine r_iconst S dX0_readSeats_48 (by decide) (fun v54 z55 => ?_)
      have r56 := R_eq z55
      exact r_ret S hr hlk X50 ⟨I51, F52, (R_of r56 rfl), (QX_r (sSeats_r (bI_f hR.2.1 (by rw [z2]; omega)) e46) (by omega) hR53)⟩ (nr_bool (R_of (lo := 0) (hi := 1) r56 rfl)) dX0_readSeats_49
    ·
      have r57 : R (0) (0) v32 := ⟨by omega, by omega⟩
      have p58 := (QX_0 q37) (by omega)
      obtain ⟨q59, e60, h61, h62⟩ := p58
      refine r_iconst S dX0_readSeats_35 (by decide) (fun v63 z64 => ?_)
      have r65 := R_eq z64
      exact r_ret S hr hlk X30 ⟨q33, F38, (R_of r65 rfl), (QX_l (sSeats_l (bI_f hR.2.1 (by rw [z2]; omega)) e60) (by omega) h61 h62)⟩ (nr_bool (R_of (lo := 0) (hi := 1) r65 rfl)) dX0_readSeats_36
  ·
    have r66 : R (1) (1) v1 := ⟨by omega, by omega⟩
    refine r_aload_n S dX0_readSeats_7 rfl (lv_at hl 0 rfl) ?_
    refine r_iconst S dX0_readSeats_8 (by decide) (fun v67 z68 => ?_)
    have r69 := R_eq z68
    refine r_ki (q_U (As := [.int v67]) (rest := []) (K := 3) (ci := 0) S X (c_X8_fail_q l G τ hI v67 (R_of (lo := -2147483648) (hi := 2147483647) r69 rfl)) ck0_98_0 (Nat.le_of_ble_eq_true rfl) rfl (fun _ => ⟨_, rfl⟩) ⟨_, _, rfl⟩ ⟨Nat.le_of_ble_eq_true rfl, Nat.le_of_ble_eq_true rfl⟩ rfl hl.1 rfl (Nat.le_of_ble_eq_true rfl) dX0_readSeats_9 ⟨Nat.le_refl 0, Nat.le_refl 0⟩) X (fun v73 t72 H lc q70 X71 => ?_)
    unfold po_X8_fail_q at q70
    obtain ⟨q74, q75, q76, q77⟩ := q70
    have F78 : Fr [(3, 1), (3, 2), (3, 5), (4, 0), (1, 3), (1, 4), (1, 5), (1, 7), (1, 8)] [201] τ t72 := Fr_call Fr_rfl q75 (by decide)
    exact r_ret S hr hlk X71 ⟨q74, F78, (R_of q76 rfl), (QX_b (sSeats_b (bI_t hR.2.1 (by rw [z2]; omega))) (by omega) (by rw [q77]; omega) (RC_at (RC_fr hR (fun j => ((q75 1 j (by simp [fz])).trans rfl)) (fun j => ((q75 2 j (by simp [fz])).trans rfl)) (fun j => ((q75 201 j (by simp [fz])).trans rfl)) ((q75 3 5 (by decide)).trans rfl) ((q75 3 6 (by decide)).trans rfl) (fun j => ((q75 4 j (by simp [fz])).trans rfl)) (fun j => ((q75 6 j (by simp [fz])).trans rfl)) (fun j => ((q75 7 j (by simp [fz])).trans rfl)) (fun j => ((q75 8 j (by simp [fz])).trans rfl)) (fun j => ((q75 209 j (by simp [fz])).trans rfl)) (fun j => ((q75 210 j (by simp [fz])).trans rfl)))))⟩ (nr_bool (R_of (lo := 0) (hi := 1) q76 rfl)) dX0_readSeats_12
def po_X0_readSlack_q (τ : Tau)    (bb : Nat → Int) (nb : Nat) (fs : FS) (r : Int32) (u : Tau) : Prop := Inv u ∧ Fr [(3, 1), (3, 2), (3, 6), (4, 1), (1, 3), (1, 4), (1, 5), (1, 7), (1, 8)] [201] τ u ∧ R (0) (1) r ∧ QX (sSlack bb nb fs) r u (fun g => RC bb nb u g)
set_option maxHeartbeats 4000000 in
set_option maxRecDepth 100000 in
theorem c_X0_readSlack_q (l : Launch) (G : Gx) (τ : Tau) (hI : Inv τ) (bb : Nat → Int) (nb : Nat) (fs : FS) (hR : RC bb nb τ fs) (hW : isW bb 1 fs.1) : Ci l G yX0_readSlack cX0_readSlack 1 (some .boolean) 2 46 [.ref (G.2.2.2.1 3)] τ (po_X0_readSlack_q τ    bb nb fs) := by
  unfold Ci
  refine C_of (own := RX0) (by decide) rfl (Nat.le_of_ble_eq_true rfl) ?_
  intro p e s m below meth c ls S hr hlk X hl
  have hl : lv_has ls 1 [(0, .ref (G.2.2.2.1 3))] := hl
  refine r_aload_n S dX0_readSlack_0 rfl (lv_at hl 0 rfl) ?_
  refine r_getn (K := 3) S X (Nat.le_of_ble_eq_true rfl) rfl lk0_31_0 (fun _ => ⟨_, rfl, rfl⟩) dX0_readSlack_1 (fun v1 z2 => ?_)
  have r3 : R (0) (1) v1 := rd hI rfl z2
  refine r_if_eq (tgt := 13) S dX0_readSlack_4 (by decide) (fun c4 => ?_) (fun c4 => ?_)
  ·
    have r5 : R (0) (0) v1 := ⟨by omega, by omega⟩
    refine r_aload_n S dX0_readSlack_13 rfl (lv_at hl 0 rfl) ?_
    refine r_iconst S dX0_readSlack_14 (by decide) (fun v6 z7 => ?_)
    have r8 := R_eq z7
    refine r_put (K := 3) (ty := .boolean) S X (Nat.le_of_ble_eq_true rfl) rfl lk0_31_0 (fun _ => ⟨_, rfl, Nat.le_of_ble_eq_true rfl, rfl⟩) (fun _ _ _ h => by cases h; exact ⟨rfl, rfl⟩) (nr_bool (R_of (lo := 0) (hi := 1) r8 rfl)) (ft_bool (R_of (lo := 0) (hi := 1) r8 rfl)) dX0_readSlack_15 (fun t9 H lc M10 X11 => ?_)
    have I12 := Inv_mu hI M10 (show Rg (kd 3) 6 v6 from (R_of (lo := 0) (hi := 1) r8 rfl))
    have F13 : Fr [(3, 1), (3, 2), (3, 6), (4, 1), (1, 3), (1, 4), (1, 5), (1, 7), (1, 8)] [201] τ t9 := Fr_mu Fr_rfl M10 (by decide)
    have hR14 : RC bb nb t9 (fs.1, ukT fs.2 true) := ⟨RT_fr hR.1 (fun j => ((M10.2 1 j (Or.inl (by decide))).trans rfl)) (fun j => ((M10.2 2 j (Or.inl (by decide))).trans rfl)) (fun j => ((M10.2 201 j (Or.inl (by decide))).trans rfl)), RP_kT hR.2 M10 (by omega)⟩
    refine r_aload_n S dX0_readSlack_18 rfl (lv_at hl 0 rfl) ?_
    refine r_get (K := 3) (v := .ref (G.2.2.2.1 1)) S X11 (Nat.le_of_ble_eq_true rfl) rfl lk0_38_0 (fun _ => ⟨_, rfl, rfl⟩) dX0_readSlack_19 ?_
    refine r_kv (q_V (As := []) (rest := []) (K := 1) (ci := 7) S X11 (c_X7_step_q l G t9 I12 bb nb 900 (fs.1, ukT fs.2 true).1.2.2 (RT_st hR14.1 (Or.inl hW.1)).1 (RT_st hR14.1 (Or.inl hW.1)).2.1 (RT_st hR14.1 (Or.inl hW.1)).2.2) ck0_102 (Nat.le_of_ble_eq_true rfl) rfl (fun _ => ⟨_, rfl⟩) ⟨_, _, rfl⟩ ⟨Nat.le_of_ble_eq_true rfl, Nat.le_of_ble_eq_true rfl⟩ rfl hl.1 rfl (Nat.le_of_ble_eq_true rfl) dX0_readSlack_22 ⟨Nat.le_refl 0, Nat.le_refl 0⟩) X11 (fun t17 H lc q15 X16 => ?_)
    unfold po_X7_step_q at q15
    obtain ⟨q18, q19, q20⟩ := q15
    have F21 : Fr [(3, 1), (3, 2), (3, 6), (4, 1), (1, 3), (1, 4), (1, 5), (1, 7), (1, 8)] [201] τ t17 := Fr_call F13 q19 (by decide)
    have hR22 : RC bb nb t17 (stp bb nb (fs.1, ukT fs.2 true)) := ⟨q20, RP_fr hR14.2 ((q19 3 5 (by decide)).trans rfl) ((q19 3 6 (by decide)).trans rfl) (fun j => ((q19 4 j (by simp [fz])).trans rfl)) (fun j => ((q19 6 j (by simp [fz])).trans rfl)) (fun j => ((q19 7 j (by simp [fz])).trans rfl)) (fun j => ((q19 8 j (by simp [fz])).trans rfl)) (fun j => ((q19 209 j (by simp [fz])).trans rfl)) (fun j => ((q19 210 j (by simp [fz])).trans rfl))⟩
    refine r_aload_n S dX0_readSlack_25 rfl (lv_at hl 0 rfl) ?_
    refine r_iconst S dX0_readSlack_26 (by decide) (fun v23 z24 => ?_)
    have r25 := R_eq z24
    refine r_bipush S dX0_readSlack_27 (by decide) (fun v26 z27 => ?_)
    have r28 := R_eq z27
    refine r_ki (q_U (As := [.int v23, .int v26]) (rest := []) (K := 3) (ci := 0) S X16 (c_X8_takeNumber_q_0_9 l G t17 q18 v23 v26 r25 r28 bb nb (stp bb nb (fs.1, ukT fs.2 true)) hR22 ) ck0_105_0 (Nat.le_of_ble_eq_true rfl) rfl (fun _ => ⟨_, rfl⟩) ⟨_, _, rfl⟩ ⟨Nat.le_of_ble_eq_true rfl, Nat.le_of_ble_eq_true rfl⟩ rfl hl.1 rfl (Nat.le_of_ble_eq_true rfl) dX0_readSlack_29 ⟨Nat.le_refl 0, Nat.le_refl 0⟩) X16 (fun v32 t31 H lc q29 X30 => ?_)
    unfold po_X8_takeNumber_q_0_9 at q29
    obtain ⟨q33, q34, q35, q36, q37⟩ := q29
    have F38 : Fr [(3, 1), (3, 2), (3, 6), (4, 1), (1, 3), (1, 4), (1, 5), (1, 7), (1, 8)] [201] τ t31 := Fr_call F21 q34 (by decide)
    refine r_if_ne (tgt := 37) S dX0_readSlack_32 (by decide) (fun c39 => ?_) (fun c39 => ?_)
    ·
      have r40 : R (1) (1) v32 := ⟨by omega, by omega⟩
      have p41 := q36 (by omega)
      obtain ⟨v42, z43⟩ : ∃ x, t31 3 2 = x := ⟨_, rfl⟩
      rw [z43] at p41
      have p44 := (QX_1 q37) (by omega)
      obtain ⟨g45, e46, hP47⟩ := p44
      refine r_aload_n S dX0_readSlack_37 rfl (lv_at hl 0 rfl) ?_
      refine r_get (K := 3) (v := .ref (G.2.2.2.1 4)) S X30 (Nat.le_of_ble_eq_true rfl) rfl lk0_14_0 (fun _ => ⟨_, rfl, rfl⟩) dX0_readSlack_38 ?_
      refine r_aload_n S dX0_readSlack_41 rfl (lv_at hl 0 rfl) ?_
      refine r_geti (K := 3) S X30 (Nat.le_of_ble_eq_true rfl) rfl lk0_109_0 (fun _ => ⟨_, rfl, rfl⟩) z43 dX0_readSlack_42 ?_
      refine r_put (K := 4) (ty := .int) S X30 (Nat.le_of_ble_eq_true rfl) rfl lk0_115_2 (fun _ => ⟨_, rfl, Nat.le_of_ble_eq_true rfl, rfl⟩) (fun _ _ _ h => by cases h; exact ⟨rfl, rfl⟩) rfl rfl dX0_readSlack_45 (fun t48 H lc M49 X50 => ?_)
      have I51 := Inv_mu q33 M49 (show Rg (kd 4) 1 v42 from (R_of (lo := 0) (hi := 9) p41 rfl))
      have F52 : Fr [(3, 1), (3, 2), (3, 6), (4, 1), (1, 3), (1, 4), (1, 5), (1, 7), (1, 8)] [201] τ t48 := Fr_mu F38 M49 (by decide)
      have hR53 : RC bb nb t48 (g45.2.1, usl g45.2.2 g45.1) := ⟨RT_fr hP47.2.1 (fun j => ((M49.2 1 j (Or.inl (by decide))).trans rfl)) (fun j => ((M49.2 2 j (Or.inl (by decide))).trans rfl)) (fun j => ((M49.2 201 j (Or.inl (by decide))).trans rfl)), RP_sl hP47.2.2 M49 (by rw [← z43]; exact hP47.1)⟩
      refine r_iconst S dX0_readSlack_48 (by decide) (fun v54 z55 => ?_)
      have r56 := R_eq z55
      exact r_ret S hr hlk X50 ⟨I51, F52, (R_of r56 rfl), (QX_r (sSlack_r (bI_f hR.2.2.1 (by rw [z2]; omega)) e46) (by omega) hR53)⟩ (nr_bool (R_of (lo := 0) (hi := 1) r56 rfl)) dX0_readSlack_49
    ·
      have r57 : R (0) (0) v32 := ⟨by omega, by omega⟩
      have p58 := (QX_0 q37) (by omega)
      obtain ⟨q59, e60, h61, h62⟩ := p58
      refine r_iconst S dX0_readSlack_35 (by decide) (fun v63 z64 => ?_)
      have r65 := R_eq z64
      exact r_ret S hr hlk X30 ⟨q33, F38, (R_of r65 rfl), (QX_l (sSlack_l (bI_f hR.2.2.1 (by rw [z2]; omega)) e60) (by omega) h61 h62)⟩ (nr_bool (R_of (lo := 0) (hi := 1) r65 rfl)) dX0_readSlack_36
  ·
    have r66 : R (1) (1) v1 := ⟨by omega, by omega⟩
    refine r_aload_n S dX0_readSlack_7 rfl (lv_at hl 0 rfl) ?_
    refine r_iconst S dX0_readSlack_8 (by decide) (fun v67 z68 => ?_)
    have r69 := R_eq z68
    refine r_ki (q_U (As := [.int v67]) (rest := []) (K := 3) (ci := 0) S X (c_X8_fail_q l G τ hI v67 (R_of (lo := -2147483648) (hi := 2147483647) r69 rfl)) ck0_98_0 (Nat.le_of_ble_eq_true rfl) rfl (fun _ => ⟨_, rfl⟩) ⟨_, _, rfl⟩ ⟨Nat.le_of_ble_eq_true rfl, Nat.le_of_ble_eq_true rfl⟩ rfl hl.1 rfl (Nat.le_of_ble_eq_true rfl) dX0_readSlack_9 ⟨Nat.le_refl 0, Nat.le_refl 0⟩) X (fun v73 t72 H lc q70 X71 => ?_)
    unfold po_X8_fail_q at q70
    obtain ⟨q74, q75, q76, q77⟩ := q70
    have F78 : Fr [(3, 1), (3, 2), (3, 6), (4, 1), (1, 3), (1, 4), (1, 5), (1, 7), (1, 8)] [201] τ t72 := Fr_call Fr_rfl q75 (by decide)
    exact r_ret S hr hlk X71 ⟨q74, F78, (R_of q76 rfl), (QX_b (sSlack_b (bI_t hR.2.2.1 (by rw [z2]; omega))) (by omega) (by rw [q77]; omega) (RC_at (RC_fr hR (fun j => ((q75 1 j (by simp [fz])).trans rfl)) (fun j => ((q75 2 j (by simp [fz])).trans rfl)) (fun j => ((q75 201 j (by simp [fz])).trans rfl)) ((q75 3 5 (by decide)).trans rfl) ((q75 3 6 (by decide)).trans rfl) (fun j => ((q75 4 j (by simp [fz])).trans rfl)) (fun j => ((q75 6 j (by simp [fz])).trans rfl)) (fun j => ((q75 7 j (by simp [fz])).trans rfl)) (fun j => ((q75 8 j (by simp [fz])).trans rfl)) (fun j => ((q75 209 j (by simp [fz])).trans rfl)) (fun j => ((q75 210 j (by simp [fz])).trans rfl)))))⟩ (nr_bool (R_of (lo := 0) (hi := 1) q76 rfl)) dX0_readSlack_12
def po_X0_readAsk_q (τ : Tau)    (bb : Nat → Int) (nb : Nat) (fs : FS) (r : Int32) (u : Tau) : Prop := Inv u ∧ Fr [(3, 1), (4, 2), (1, 3), (1, 4), (1, 5), (1, 7), (1, 8)] [201, 209] τ u ∧ R (0) (1) r ∧ QX (sAsk bb nb fs) r u (fun g => RC bb nb u g)
set_option maxHeartbeats 4000000 in
set_option maxRecDepth 100000 in
theorem c_X0_readAsk_q (l : Launch) (G : Gx) (τ : Tau) (hI : Inv τ) (bb : Nat → Int) (nb : Nat) (fs : FS) (hR : RC bb nb τ fs) (hW : fs.1.1 = 1) : Ci l G yX0_readAsk cX0_readAsk 1 (some .boolean) 2 44 [.ref (G.2.2.2.1 3)] τ (po_X0_readAsk_q τ    bb nb fs) := by
  unfold Ci
  refine C_of (own := RX0) (by decide) rfl (Nat.le_of_ble_eq_true rfl) ?_
  intro p e s m below meth c ls S hr hlk X hl
  have hl : lv_has ls 1 [(0, .ref (G.2.2.2.1 3))] := hl
  refine r_aload_n S dX0_readAsk_0 rfl (lv_at hl 0 rfl) ?_
  refine r_get (K := 3) (v := .ref (G.2.2.2.1 4)) S X (Nat.le_of_ble_eq_true rfl) rfl lk0_14_0 (fun _ => ⟨_, rfl, rfl⟩) dX0_readAsk_1 ?_
  refine r_getn (K := 4) S X (Nat.le_of_ble_eq_true rfl) rfl lk0_133_2 (fun _ => ⟨_, rfl, rfl⟩) dX0_readAsk_4 (fun v1 z2 => ?_)
  have r3 : R (0) (9) v1 := rd hI rfl z2
  refine r_bipush S dX0_readAsk_7 (by decide) (fun v4 z5 => ?_)
  have r6 := R_eq z5
  refine r_icmp_lt (tgt := 18) S dX0_readAsk_9 (by decide) (fun c7 => ?_) (fun c7 => ?_)
  ·
    have r8 : R (0) (8) v1 := ⟨by omega, by omega⟩
    refine r_aload_n S dX0_readAsk_18 rfl (lv_at hl 0 rfl) ?_
    refine r_get (K := 3) (v := .ref (G.2.2.2.1 1)) S X (Nat.le_of_ble_eq_true rfl) rfl lk0_38_0 (fun _ => ⟨_, rfl, rfl⟩) dX0_readAsk_19 ?_
    refine r_kv (q_V (As := []) (rest := []) (K := 1) (ci := 7) S X (c_X7_step_q l G τ hI bb nb 900 fs.1.2.2 (RT_st hR.1 (Or.inl hW)).1 (RT_st hR.1 (Or.inl hW)).2.1 (RT_st hR.1 (Or.inl hW)).2.2) ck0_102 (Nat.le_of_ble_eq_true rfl) rfl (fun _ => ⟨_, rfl⟩) ⟨_, _, rfl⟩ ⟨Nat.le_of_ble_eq_true rfl, Nat.le_of_ble_eq_true rfl⟩ rfl hl.1 rfl (Nat.le_of_ble_eq_true rfl) dX0_readAsk_22 ⟨Nat.le_refl 0, Nat.le_refl 0⟩) X (fun t11 H lc q9 X10 => ?_)
    unfold po_X7_step_q at q9
    obtain ⟨q12, q13, q14⟩ := q9
    have F15 : Fr [(3, 1), (4, 2), (1, 3), (1, 4), (1, 5), (1, 7), (1, 8)] [201, 209] τ t11 := Fr_call Fr_rfl q13 (by decide)
    have hR16 : RC bb nb t11 (stp bb nb fs) := ⟨q14, RP_fr hR.2 ((q13 3 5 (by decide)).trans rfl) ((q13 3 6 (by decide)).trans rfl) (fun j => ((q13 4 j (by simp [fz])).trans rfl)) (fun j => ((q13 6 j (by simp [fz])).trans rfl)) (fun j => ((q13 7 j (by simp [fz])).trans rfl)) (fun j => ((q13 8 j (by simp [fz])).trans rfl)) (fun j => ((q13 209 j (by simp [fz])).trans rfl)) (fun j => ((q13 210 j (by simp [fz])).trans rfl))⟩
    refine r_aload_n S dX0_readAsk_25 rfl (lv_at hl 0 rfl) ?_
    refine r_ki (q_V (As := []) (rest := []) (K := 3) (ci := 0) S X10 (c_X0_seeNewName_q l G t11 q12 bb nb (stp bb nb fs) hR16 ) ck0_136 (Nat.le_of_ble_eq_true rfl) rfl (fun _ => ⟨_, rfl⟩) ⟨_, _, rfl⟩ ⟨Nat.le_of_ble_eq_true rfl, Nat.le_of_ble_eq_true rfl⟩ rfl hl.1 rfl (Nat.le_of_ble_eq_true rfl) dX0_readAsk_26 ⟨Nat.le_refl 0, Nat.le_refl 0⟩) X10 (fun v20 t19 H lc q17 X18 => ?_)
    unfold po_X0_seeNewName_q at q17
    obtain ⟨q21, q22, q23, q24⟩ := q17
    have F25 : Fr [(3, 1), (4, 2), (1, 3), (1, 4), (1, 5), (1, 7), (1, 8)] [201, 209] τ t19 := Fr_call F15 q22 (by decide)
    refine r_if_ne (tgt := 34) S dX0_readAsk_29 (by decide) (fun c26 => ?_) (fun c26 => ?_)
    ·
      have r27 : R (1) (1) v20 := ⟨by omega, by omega⟩
      have p28 := (QX_1 q24) (by omega)
      obtain ⟨g29, e30, hP31⟩ := p28
      refine r_aload_n S dX0_readAsk_34 rfl (lv_at hl 0 rfl) ?_
      refine r_get (K := 3) (v := .ref (G.2.2.2.1 4)) S X18 (Nat.le_of_ble_eq_true rfl) rfl lk0_14_0 (fun _ => ⟨_, rfl, rfl⟩) dX0_readAsk_35 ?_
      refine r_get (K := 4) (v := .ref (G.2.2.2.1 9)) S X18 (Nat.le_of_ble_eq_true rfl) rfl lk0_139_2 (fun _ => ⟨_, rfl, rfl⟩) dX0_readAsk_38 ?_
      refine r_aload_n S dX0_readAsk_41 rfl (lv_at hl 0 rfl) ?_
      refine r_get (K := 3) (v := .ref (G.2.2.2.1 4)) S X18 (Nat.le_of_ble_eq_true rfl) rfl lk0_14_0 (fun _ => ⟨_, rfl, rfl⟩) dX0_readAsk_42 ?_
      refine r_geti (K := 4) S X18 (Nat.le_of_ble_eq_true rfl) rfl lk0_133_2 (fun _ => ⟨_, rfl, rfl⟩) ((q22 4 2 (by decide)).trans ((q13 4 2 (by decide)).trans z2)) dX0_readAsk_45 ?_
      refine r_aload_n S dX0_readAsk_48 rfl (lv_at hl 0 rfl) ?_
      refine r_get (K := 3) (v := .ref (G.2.2.2.1 1)) S X18 (Nat.le_of_ble_eq_true rfl) rfl lk0_38_0 (fun _ => ⟨_, rfl, rfl⟩) dX0_readAsk_49 ?_
      refine r_getJ (K := 1) S X18 (Nat.le_of_ble_eq_true rfl) rfl lk0_118_7 (fun _ => ⟨_, rfl, rfl⟩) dX0_readAsk_52 (fun j32 z33 => ?_)
      refine r_last (n := 9) (K := 9) S X18 (Nat.le_of_ble_eq_true rfl) rfl (fun _ => rfl) (ix_of r8 rfl) dX0_readAsk_55 (fun t35 H lc M36 X34 => ?_)
      have I37 := Inv_ml q21 M36
      have F38 : Fr [(3, 1), (4, 2), (1, 3), (1, 4), (1, 5), (1, 7), (1, 8)] [201, 209] τ t35 := Fr_ml F25 M36 (by decide)
      refine r_aload_n S dX0_readAsk_56 rfl (lv_at hl 0 rfl) ?_
      refine r_get (K := 3) (v := .ref (G.2.2.2.1 4)) S X34 (Nat.le_of_ble_eq_true rfl) rfl lk0_14_0 (fun _ => ⟨_, rfl, rfl⟩) dX0_readAsk_57 ?_
      refine r_dup S dX0_readAsk_60 rfl ?_
      refine r_geti (K := 4) S X34 (Nat.le_of_ble_eq_true rfl) rfl lk0_133_2 (fun _ => ⟨_, rfl, rfl⟩) ((M36.1 4 (by decide) 2).trans ((q22 4 2 (by decide)).trans ((q13 4 2 (by decide)).trans z2))) dX0_readAsk_61 ?_
      refine r_iconst S dX0_readAsk_64 (by decide) (fun v39 z40 => ?_)
      have r41 := R_eq z40
      refine r_iadd S dX0_readAsk_65 (fun v42 z43 => ?_)
      obtain ⟨e44, r45⟩ := i_add (lo := 1) (hi := 9) z43 r8 r41 rfl
      refine r_put (K := 4) (ty := .int) S X34 (Nat.le_of_ble_eq_true rfl) rfl lk0_133_2 (fun _ => ⟨_, rfl, Nat.le_of_ble_eq_true rfl, rfl⟩) (fun _ _ _ h => by cases h; exact ⟨rfl, rfl⟩) rfl rfl dX0_readAsk_66 (fun t46 H lc M47 X48 => ?_)
      have I49 := Inv_mu I37 M47 (show Rg (kd 4) 2 v42 from (R_of (lo := 0) (hi := 9) r45 rfl))
      have F50 : Fr [(3, 1), (4, 2), (1, 3), (1, 4), (1, 5), (1, 7), (1, 8)] [201, 209] τ t46 := Fr_mu F38 M47 (by decide)
      have hR51 : RC bb nb t46 ((stp bb nb fs).1, uan fs.2 (wrd bb (stp bb nb fs).1)) := ⟨RT_fr hP31.1 (fun j => ((M47.2 1 j (Or.inl (by decide))).trans ((M36.1 1 (by decide) j).trans rfl))) (fun j => ((M47.2 2 j (Or.inl (by decide))).trans ((M36.1 2 (by decide) j).trans rfl))) (fun j => ((M47.2 201 j (Or.inl (by decide))).trans ((M36.1 201 (by decide) j).trans rfl))), RP_an hP31.2 M36 M47 (by have q : (t19 4 2).toInt = (((gan fs.2).length : Nat) : Int) := (RP_anm hP31.2).1; rw [((q22 4 2 (by decide)).trans ((q13 4 2 (by decide)).trans z2))] at q; have c : v1.toNatClampNeg = v1.toInt.toNat := rfl; omega) (by rw [← z33]; exact (RT_low hP31.1 (sNew_n e30).1).2) (RT_low hP31.1 (sNew_n e30).1).1 (by have q : (t19 4 2).toInt = (((gan fs.2).length : Nat) : Int) := (RP_anm hP31.2).1; rw [((q22 4 2 (by decide)).trans ((q13 4 2 (by decide)).trans z2))] at q; omega)⟩
      refine r_aload_n S dX0_readAsk_69 rfl (lv_at hl 0 rfl) ?_
      refine r_get (K := 3) (v := .ref (G.2.2.2.1 1)) S X48 (Nat.le_of_ble_eq_true rfl) rfl lk0_38_0 (fun _ => ⟨_, rfl, rfl⟩) dX0_readAsk_70 ?_
      refine r_kv (q_V (As := []) (rest := []) (K := 1) (ci := 7) S X48 (c_X7_step_q l G t46 I49 bb nb 900 ((stp bb nb fs).1, uan fs.2 (wrd bb (stp bb nb fs).1)).1.2.2 (RT_st hR51.1 (Or.inl (sNew_n e30).1)).1 (RT_st hR51.1 (Or.inl (sNew_n e30).1)).2.1 (RT_st hR51.1 (Or.inl (sNew_n e30).1)).2.2) ck0_102 (Nat.le_of_ble_eq_true rfl) rfl (fun _ => ⟨_, rfl⟩) ⟨_, _, rfl⟩ ⟨Nat.le_of_ble_eq_true rfl, Nat.le_of_ble_eq_true rfl⟩ rfl hl.1 rfl (Nat.le_of_ble_eq_true rfl) dX0_readAsk_73 ⟨Nat.le_refl 0, Nat.le_refl 0⟩) X48 (fun t54 H lc q52 X53 => ?_)
      unfold po_X7_step_q at q52
      obtain ⟨q55, q56, q57⟩ := q52
      have F58 : Fr [(3, 1), (4, 2), (1, 3), (1, 4), (1, 5), (1, 7), (1, 8)] [201, 209] τ t54 := Fr_call F50 q56 (by decide)
      have hR59 : RC bb nb t54 (stp bb nb ((stp bb nb fs).1, uan fs.2 (wrd bb (stp bb nb fs).1))) := ⟨q57, RP_fr hR51.2 ((q56 3 5 (by decide)).trans rfl) ((q56 3 6 (by decide)).trans rfl) (fun j => ((q56 4 j (by simp [fz])).trans rfl)) (fun j => ((q56 6 j (by simp [fz])).trans rfl)) (fun j => ((q56 7 j (by simp [fz])).trans rfl)) (fun j => ((q56 8 j (by simp [fz])).trans rfl)) (fun j => ((q56 209 j (by simp [fz])).trans rfl)) (fun j => ((q56 210 j (by simp [fz])).trans rfl))⟩
      refine r_iconst S dX0_readAsk_76 (by decide) (fun v60 z61 => ?_)
      have r62 := R_eq z61
      exact r_ret S hr hlk X53 ⟨q55, F58, (R_of r62 rfl), (QX_r (sAsk_r (by have q := (RP_anm hR.2).1; rw [z2] at q; omega) e30) (by omega) hR59)⟩ (nr_bool (R_of (lo := 0) (hi := 1) r62 rfl)) dX0_readAsk_77
    ·
      have r63 : R (0) (0) v20 := ⟨by omega, by omega⟩
      have p64 := (QX_0 q24) (by omega)
      obtain ⟨q65, e66, h67, h68⟩ := p64
      refine r_iconst S dX0_readAsk_32 (by decide) (fun v69 z70 => ?_)
      have r71 := R_eq z70
      exact r_ret S hr hlk X18 ⟨q21, F25, (R_of r71 rfl), (QX_l (sAsk_l (by have q := (RP_anm hR.2).1; rw [z2] at q; omega) e66) (by omega) h67 h68)⟩ (nr_bool (R_of (lo := 0) (hi := 1) r71 rfl)) dX0_readAsk_33
  ·
    have r72 : R (9) (9) v1 := ⟨by omega, by omega⟩
    refine r_aload_n S dX0_readAsk_12 rfl (lv_at hl 0 rfl) ?_
    refine r_iconst S dX0_readAsk_13 (by decide) (fun v73 z74 => ?_)
    have r75 := R_eq z74
    refine r_ki (q_U (As := [.int v73]) (rest := []) (K := 3) (ci := 0) S X (c_X8_fail_q l G τ hI v73 (R_of (lo := -2147483648) (hi := 2147483647) r75 rfl)) ck0_98_0 (Nat.le_of_ble_eq_true rfl) rfl (fun _ => ⟨_, rfl⟩) ⟨_, _, rfl⟩ ⟨Nat.le_of_ble_eq_true rfl, Nat.le_of_ble_eq_true rfl⟩ rfl hl.1 rfl (Nat.le_of_ble_eq_true rfl) dX0_readAsk_14 ⟨Nat.le_refl 0, Nat.le_refl 0⟩) X (fun v79 t78 H lc q76 X77 => ?_)
    unfold po_X8_fail_q at q76
    obtain ⟨q80, q81, q82, q83⟩ := q76
    have F84 : Fr [(3, 1), (4, 2), (1, 3), (1, 4), (1, 5), (1, 7), (1, 8)] [201, 209] τ t78 := Fr_call Fr_rfl q81 (by decide)
    exact r_ret S hr hlk X77 ⟨q80, F84, (R_of q82 rfl), (QX_b (sAsk_b (by have q := (RP_anm hR.2).1; rw [z2] at q; omega)) (by omega) (by rw [q83]; omega) (RC_at (RC_fr hR (fun j => ((q81 1 j (by simp [fz])).trans rfl)) (fun j => ((q81 2 j (by simp [fz])).trans rfl)) (fun j => ((q81 201 j (by simp [fz])).trans rfl)) ((q81 3 5 (by decide)).trans rfl) ((q81 3 6 (by decide)).trans rfl) (fun j => ((q81 4 j (by simp [fz])).trans rfl)) (fun j => ((q81 6 j (by simp [fz])).trans rfl)) (fun j => ((q81 7 j (by simp [fz])).trans rfl)) (fun j => ((q81 8 j (by simp [fz])).trans rfl)) (fun j => ((q81 209 j (by simp [fz])).trans rfl)) (fun j => ((q81 210 j (by simp [fz])).trans rfl)))))⟩ (nr_bool (R_of (lo := 0) (hi := 1) q82 rfl)) dX0_readAsk_17
def po_X0_readOpinion_q (τ : Tau)  (a0 : Int32)  (bb : Nat → Int) (nb : Nat) (fs : FS) (op : Nat → Bool) (r : Int32) (u : Tau) : Prop := Inv u ∧ Fr [(3, 1), (3, 2), (1, 3), (1, 4), (1, 5), (1, 7), (1, 8)] [8, 201] τ u ∧ R (0) (1) r ∧ QX (sOp bb nb op fs) r u (fun g => RC bb nb u g.2 ∧ RO u a0.toInt.toNat (fun j => op j || j == g.1))
set_option maxHeartbeats 4000000 in
set_option maxRecDepth 100000 in
theorem c_X0_readOpinion_q (l : Launch) (G : Gx) (τ : Tau) (hI : Inv τ) (a0 : Int32) (h_a0 : R (0) (9) a0) (bb : Nat → Int) (nb : Nat) (fs : FS) (op : Nat → Bool) (hR : RC bb nb τ fs) (hO : RO τ a0.toInt.toNat op) (hm : a0.toInt.toNat < (gmn fs.2).length) : Ci l G yX0_readOpinion cX0_readOpinion 4 (some .boolean) 2 46 [.ref (G.2.2.2.1 3), .int a0] τ (po_X0_readOpinion_q τ  a0  bb nb fs op) := by
  unfold Ci
  refine C_of (own := RX0) (by decide) rfl (Nat.le_of_ble_eq_true rfl) ?_
  intro p e s m below meth c ls S hr hlk X hl
  have hl : lv_has ls 4 [(0, .ref (G.2.2.2.1 3)), (1, .int a0)] := hl
  refine r_aload_n S dX0_readOpinion_0 rfl (lv_at hl 0 rfl) ?_
  refine r_aload_n S dX0_readOpinion_1 rfl (lv_at hl 0 rfl) ?_
  refine r_get (K := 3) (v := .ref (G.2.2.2.1 4)) S X (Nat.le_of_ble_eq_true rfl) rfl lk0_14_0 (fun _ => ⟨_, rfl, rfl⟩) dX0_readOpinion_2 ?_
  refine r_ki (q_U (As := [.ref (G.2.2.2.1 4)]) (rest := []) (K := 3) (ci := 0) S X (c_X8_seeAsk_q l G τ hI bb nb fs hR ) ck0_159_0 (Nat.le_of_ble_eq_true rfl) rfl (fun _ => ⟨_, rfl⟩) ⟨_, _, rfl⟩ ⟨Nat.le_of_ble_eq_true rfl, Nat.le_of_ble_eq_true rfl⟩ rfl hl.1 rfl (Nat.le_of_ble_eq_true rfl) dX0_readOpinion_5 ⟨Nat.le_refl 0, Nat.le_refl 0⟩) X (fun v4 t3 H lc q1 X2 => ?_)
  unfold po_X8_seeAsk_q at q1
  obtain ⟨q5, q6, q7, q8, q9⟩ := q1
  have F10 : Fr [(3, 1), (3, 2), (1, 3), (1, 4), (1, 5), (1, 7), (1, 8)] [8, 201] τ t3 := Fr_call Fr_rfl q6 (by decide)
  refine r_if_ne (tgt := 13) S dX0_readOpinion_8 (by decide) (fun c11 => ?_) (fun c11 => ?_)
  ·
    have r12 : R (1) (1) v4 := ⟨by omega, by omega⟩
    have p13 := q8 (by omega)
    obtain ⟨v14, z15⟩ : ∃ x, t3 3 2 = x := ⟨_, rfl⟩
    rw [z15] at p13
    have p16 := (QX_1 q9) (by omega)
    obtain ⟨g17, e18, hP19⟩ := p16
    refine r_iload_n S dX0_readOpinion_13 rfl (lv_at hl 1 rfl) ?_
    refine r_bipush S dX0_readOpinion_14 (by decide) (fun v20 z21 => ?_)
    have r22 := R_eq z21
    refine r_imul S dX0_readOpinion_16 (fun v23 z24 => ?_)
    obtain ⟨e25, r26⟩ := i_mul (lo := 0) (hi := 81) z24 h_a0 r22 rfl rfl
    have e27 : v23.toInt = a0.toInt * 9 := by rw [e25, show v20.toInt = 9 by omega]
    refine r_aload_n S dX0_readOpinion_17 rfl (lv_at hl 0 rfl) ?_
    refine r_geti (K := 3) S X2 (Nat.le_of_ble_eq_true rfl) rfl lk0_109_0 (fun _ => ⟨_, rfl, rfl⟩) z15 dX0_readOpinion_18 ?_
    refine r_iadd S dX0_readOpinion_21 (fun v28 z29 => ?_)
    obtain ⟨e30, r31⟩ := i_add (lo := 0) (hi := 89) z29 r26 p13 rfl
    refine r_istore_n (lv' := [(2, .int v28), (0, .ref (G.2.2.2.1 3)), (1, .int a0)]) S dX0_readOpinion_22 rfl hl (by decide) rfl (fun ls hl => ?_)
    refine r_aload_n S dX0_readOpinion_23 rfl (lv_at hl 1 rfl) ?_
    refine r_get (K := 3) (v := .ref (G.2.2.2.1 4)) S X2 (Nat.le_of_ble_eq_true rfl) rfl lk0_14_0 (fun _ => ⟨_, rfl, rfl⟩) dX0_readOpinion_24 ?_
    refine r_get (K := 4) (v := .ref (G.2.2.2.1 8)) S X2 (Nat.le_of_ble_eq_true rfl) rfl lk0_163_2 (fun _ => ⟨_, rfl, rfl⟩) dX0_readOpinion_27 ?_
    refine r_iload_n S dX0_readOpinion_30 rfl (lv_at hl 0 rfl) ?_
    refine r_aldn (n := 90) (K := 8) S X2 (Nat.le_of_ble_eq_true rfl) rfl (fun _ => rfl) (ix_of r31 rfl) dX0_readOpinion_31 (fun v32 z33 => ?_)
    have r34 : R (-9) (9) v32 := rd q5 rfl z33
    have e36 : v14.toInt = g17 := by rw [← z15]; exact hP19.1
    have ho35 : (v32.toInt ≠ 0 ↔ op g17 = true) := by have q := hO g17 (by omega); rw [show 9 * a0.toInt.toNat + g17 = v28.toNatClampNeg by (have c : v28.toNatClampNeg = v28.toInt.toNat := rfl; omega), ← ((q6 8 v28.toNatClampNeg (by simp [fz])).trans rfl), z33] at q; exact q
    refine r_if_eq (tgt := 41) S dX0_readOpinion_32 (by decide) (fun c37 => ?_) (fun c37 => ?_)
    ·
      have r38 : R (0) (0) v32 := ⟨by omega, by omega⟩
      refine r_aload_n S dX0_readOpinion_41 rfl (lv_at hl 1 rfl) ?_
      refine r_get (K := 3) (v := .ref (G.2.2.2.1 1)) S X2 (Nat.le_of_ble_eq_true rfl) rfl lk0_38_0 (fun _ => ⟨_, rfl, rfl⟩) dX0_readOpinion_42 ?_
      refine r_kv (q_V (As := []) (rest := []) (K := 1) (ci := 7) S X2 (c_X7_step_q l G t3 q5 bb nb 900 fs.1.2.2 (RT_st hP19.2.1 (Or.inl (sLook_n e18).1)).1 (RT_st hP19.2.1 (Or.inl (sLook_n e18).1)).2.1 (RT_st hP19.2.1 (Or.inl (sLook_n e18).1)).2.2) ck0_102 (Nat.le_of_ble_eq_true rfl) rfl (fun _ => ⟨_, rfl⟩) ⟨_, _, rfl⟩ ⟨Nat.le_of_ble_eq_true rfl, Nat.le_of_ble_eq_true rfl⟩ rfl hl.1 rfl (Nat.le_of_ble_eq_true rfl) dX0_readOpinion_45 ⟨Nat.le_refl 0, Nat.le_refl 0⟩) X2 (fun t41 H lc q39 X40 => ?_)
      unfold po_X7_step_q at q39
      obtain ⟨q42, q43, q44⟩ := q39
      have F45 : Fr [(3, 1), (3, 2), (1, 3), (1, 4), (1, 5), (1, 7), (1, 8)] [8, 201] τ t41 := Fr_call F10 q43 (by decide)
      have hR46 : RC bb nb t41 (stp bb nb fs) := ⟨q44, RP_fr hP19.2.2 ((q43 3 5 (by decide)).trans rfl) ((q43 3 6 (by decide)).trans rfl) (fun j => ((q43 4 j (by simp [fz])).trans rfl)) (fun j => ((q43 6 j (by simp [fz])).trans rfl)) (fun j => ((q43 7 j (by simp [fz])).trans rfl)) (fun j => ((q43 8 j (by simp [fz])).trans rfl)) (fun j => ((q43 209 j (by simp [fz])).trans rfl)) (fun j => ((q43 210 j (by simp [fz])).trans rfl))⟩
      refine r_aload_n S dX0_readOpinion_48 rfl (lv_at hl 1 rfl) ?_
      refine r_ki (q_U (As := []) (rest := []) (K := 3) (ci := 0) S X40 (c_X8_takeYesOrNo_q l G t41 q42 bb nb (stp bb nb fs) hR46 ) ck0_166_0 (Nat.le_of_ble_eq_true rfl) rfl (fun _ => ⟨_, rfl⟩) ⟨_, _, rfl⟩ ⟨Nat.le_of_ble_eq_true rfl, Nat.le_of_ble_eq_true rfl⟩ rfl hl.1 rfl (Nat.le_of_ble_eq_true rfl) dX0_readOpinion_49 ⟨Nat.le_refl 0, Nat.le_refl 0⟩) X40 (fun v50 t49 H lc q47 X48 => ?_)
      unfold po_X8_takeYesOrNo_q at q47
      obtain ⟨q51, q52, q53, q54, q55⟩ := q47
      have F56 : Fr [(3, 1), (3, 2), (1, 3), (1, 4), (1, 5), (1, 7), (1, 8)] [8, 201] τ t49 := Fr_call F45 q52 (by decide)
      refine r_if_ne (tgt := 57) S dX0_readOpinion_52 (by decide) (fun c57 => ?_) (fun c57 => ?_)
      ·
        have r58 : R (1) (1) v50 := ⟨by omega, by omega⟩
        have p59 := q54 (by omega)
        obtain ⟨v60, z61⟩ : ∃ x, t49 3 2 = x := ⟨_, rfl⟩
        rw [z61] at p59
        have p62 := (QX_1 q55) (by omega)
        obtain ⟨g63, e64, hP65⟩ := p62
        refine r_aload_n S dX0_readOpinion_57 rfl (lv_at hl 1 rfl) ?_
        refine r_geti (K := 3) S X48 (Nat.le_of_ble_eq_true rfl) rfl lk0_109_0 (fun _ => ⟨_, rfl, rfl⟩) z61 dX0_readOpinion_58 ?_
        refine r_istore_n (lv' := [(3, .int v60), (2, .int v28), (0, .ref (G.2.2.2.1 3)), (1, .int a0)]) S dX0_readOpinion_61 rfl hl (by decide) rfl (fun ls hl => ?_)
        have e66 : v60.toInt = 1 ∨ v60.toInt = -1 := by rw [← z61]; exact hP65.1
        refine r_aload_n S dX0_readOpinion_62 rfl (lv_at hl 2 rfl) ?_
        refine r_iconst S dX0_readOpinion_63 (by decide) (fun v67 z68 => ?_)
        have r69 := R_eq z68
        refine r_bipush S dX0_readOpinion_64 (by decide) (fun v70 z71 => ?_)
        have r72 := R_eq z71
        refine r_ki (q_U (As := [.int v67, .int v70]) (rest := []) (K := 3) (ci := 0) S X48 (c_X8_takeNumber_q_1_9 l G t49 q51 v67 v70 r69 r72 bb nb g63 hP65.2 ) ck0_105_0 (Nat.le_of_ble_eq_true rfl) rfl (fun _ => ⟨_, rfl⟩) ⟨_, _, rfl⟩ ⟨Nat.le_of_ble_eq_true rfl, Nat.le_of_ble_eq_true rfl⟩ rfl hl.1 rfl (Nat.le_of_ble_eq_true rfl) dX0_readOpinion_66 ⟨Nat.le_refl 0, Nat.le_refl 0⟩) X48 (fun v76 t75 H lc q73 X74 => ?_)
        unfold po_X8_takeNumber_q_1_9 at q73
        obtain ⟨q77, q78, q79, q80, q81⟩ := q73
        have F82 : Fr [(3, 1), (3, 2), (1, 3), (1, 4), (1, 5), (1, 7), (1, 8)] [8, 201] τ t75 := Fr_call F56 q78 (by decide)
        refine r_if_ne (tgt := 74) S dX0_readOpinion_69 (by decide) (fun c83 => ?_) (fun c83 => ?_)
        ·
          have r84 : R (1) (1) v76 := ⟨by omega, by omega⟩
          have p85 := q80 (by omega)
          obtain ⟨v86, z87⟩ : ∃ x, t75 3 2 = x := ⟨_, rfl⟩
          rw [z87] at p85
          have p88 := (QX_1 q81) (by omega)
          obtain ⟨g89, e90, hP91⟩ := p88
          refine r_aload_n S dX0_readOpinion_74 rfl (lv_at hl 2 rfl) ?_
          refine r_get (K := 3) (v := .ref (G.2.2.2.1 4)) S X74 (Nat.le_of_ble_eq_true rfl) rfl lk0_14_0 (fun _ => ⟨_, rfl, rfl⟩) dX0_readOpinion_75 ?_
          refine r_get (K := 4) (v := .ref (G.2.2.2.1 8)) S X74 (Nat.le_of_ble_eq_true rfl) rfl lk0_163_2 (fun _ => ⟨_, rfl, rfl⟩) dX0_readOpinion_78 ?_
          refine r_iload_n S dX0_readOpinion_81 rfl (lv_at hl 1 rfl) ?_
          refine r_iload_n S dX0_readOpinion_82 rfl (lv_at hl 0 rfl) ?_
          refine r_aload_n S dX0_readOpinion_83 rfl (lv_at hl 2 rfl) ?_
          refine r_geti (K := 3) S X74 (Nat.le_of_ble_eq_true rfl) rfl lk0_109_0 (fun _ => ⟨_, rfl, rfl⟩) z87 dX0_readOpinion_84 ?_
          refine r_imul S dX0_readOpinion_87 (fun v92 z93 => ?_)
          obtain ⟨e94, r95⟩ := i_mul (lo := -9) (hi := 9) z93 p59 p85 rfl rfl
          have hz96 : v92.toInt = v60.toInt * v86.toInt := by rw [z93, Int32.toInt_mul, Int.bmod_eq_of_le (by rcases (show v60.toInt = 1 ∨ v60.toInt = -1 by omega) with h | h <;> rw [h] <;> omega) (by rcases (show v60.toInt = 1 ∨ v60.toInt = -1 by omega) with h | h <;> rw [h] <;> omega)]
          refine r_ast (n := 90) (K := 8) S X74 (Nat.le_of_ble_eq_true rfl) rfl (fun _ _ => rfl) (ix_of r31 rfl) dX0_readOpinion_88 (fun t97 H lc M98 X99 => ?_)
          have I100 := Inv_mu q77 M98 (show Rg (kd 8) _ v92 from (R_of (lo := -9) (hi := 9) r95 rfl))
          have F101 : Fr [(3, 1), (3, 2), (1, 3), (1, 4), (1, 5), (1, 7), (1, 8)] [8, 201] τ t97 := Fr_cell F82 M98 (by decide)
          have hx104 : v92.toInt ≠ 0 := by rcases (show v60.toInt = 1 ∨ v60.toInt = -1 by omega) with h | h <;> rw [h] at hz96 <;> omega
          have e105 : v28.toNatClampNeg = 9 * a0.toInt.toNat + g17 := by have c : v28.toNatClampNeg = v28.toInt.toNat := rfl; omega
          have hR102 : RC bb nb t97 g89.2 := ⟨RT_fr hP91.2.1 (fun j => ((M98.2 1 j (Or.inl (by decide))).trans rfl)) (fun j => ((M98.2 2 j (Or.inl (by decide))).trans rfl)) (fun j => ((M98.2 201 j (Or.inl (by decide))).trans rfl)), RP_op hP91.2.2 M98 (by have q := hm; have q2 : (gmn g89.2.2) = (gmn fs.2) := (by rw [sNum_s e90, sYN_s e64]; rfl); rw [q2]; omega)⟩
          have ro103 : RO t97 a0.toInt.toNat (fun j => op j || j == g17) := RO_put (RO_eq hO (fun j => ((q78 8 j (by simp [fz])).trans ((q52 8 j (by simp [fz])).trans ((q43 8 j (by simp [fz])).trans ((q6 8 j (by simp [fz])).trans rfl)))))) M98 (by omega) (by omega) hx104
          refine r_iconst S dX0_readOpinion_89 (by decide) (fun v106 z107 => ?_)
          have r108 := R_eq z107
          exact r_ret S hr hlk X99 ⟨I100, F101, (R_of r108 rfl), (QX_r (sOp_r e18 (fun h => absurd (ho35.mpr h) (by omega)) e64 e90) (by omega) ⟨hR102, ro103⟩)⟩ (nr_bool (R_of (lo := 0) (hi := 1) r108 rfl)) dX0_readOpinion_90
        ·
          have r109 : R (0) (0) v76 := ⟨by omega, by omega⟩
          have p110 := (QX_0 q81) (by omega)
          obtain ⟨q111, e112, h113, h114⟩ := p110
          refine r_iconst S dX0_readOpinion_72 (by decide) (fun v115 z116 => ?_)
          have r117 := R_eq z116
          exact r_ret S hr hlk X74 ⟨q77, F82, (R_of r117 rfl), (QX_l (sOp_l3 e18 (fun h => absurd (ho35.mpr h) (by omega)) e64 e112) (by omega) h113 h114)⟩ (nr_bool (R_of (lo := 0) (hi := 1) r117 rfl)) dX0_readOpinion_73
      ·
        have r118 : R (0) (0) v50 := ⟨by omega, by omega⟩
        have p119 := (QX_0 q55) (by omega)
        obtain ⟨q120, e121, h122, h123⟩ := p119
        refine r_iconst S dX0_readOpinion_55 (by decide) (fun v124 z125 => ?_)
        have r126 := R_eq z125
        exact r_ret S hr hlk X48 ⟨q51, F56, (R_of r126 rfl), (QX_l (sOp_l2 e18 (fun h => absurd (ho35.mpr h) (by omega)) e121) (by omega) h122 h123)⟩ (nr_bool (R_of (lo := 0) (hi := 1) r126 rfl)) dX0_readOpinion_56
    ·
      refine r_aload_n S dX0_readOpinion_35 rfl (lv_at hl 1 rfl) ?_
      refine r_iconst S dX0_readOpinion_36 (by decide) (fun v127 z128 => ?_)
      have r129 := R_eq z128
      refine r_ki (q_U (As := [.int v127]) (rest := []) (K := 3) (ci := 0) S X2 (c_X8_fail_q l G t3 q5 v127 (R_of (lo := -2147483648) (hi := 2147483647) r129 rfl)) ck0_98_0 (Nat.le_of_ble_eq_true rfl) rfl (fun _ => ⟨_, rfl⟩) ⟨_, _, rfl⟩ ⟨Nat.le_of_ble_eq_true rfl, Nat.le_of_ble_eq_true rfl⟩ rfl hl.1 rfl (Nat.le_of_ble_eq_true rfl) dX0_readOpinion_37 ⟨Nat.le_refl 0, Nat.le_refl 0⟩) X2 (fun v133 t132 H lc q130 X131 => ?_)
      unfold po_X8_fail_q at q130
      obtain ⟨q134, q135, q136, q137⟩ := q130
      have F138 : Fr [(3, 1), (3, 2), (1, 3), (1, 4), (1, 5), (1, 7), (1, 8)] [8, 201] τ t132 := Fr_call F10 q135 (by decide)
      exact r_ret S hr hlk X131 ⟨q134, F138, (R_of q136 rfl), (QX_b (sOp_b e18 (ho35.mp (by omega))) (by omega) (by rw [q137]; omega) (RC_at (RC_fr hP19.2 (fun j => ((q135 1 j (by simp [fz])).trans rfl)) (fun j => ((q135 2 j (by simp [fz])).trans rfl)) (fun j => ((q135 201 j (by simp [fz])).trans rfl)) ((q135 3 5 (by decide)).trans rfl) ((q135 3 6 (by decide)).trans rfl) (fun j => ((q135 4 j (by simp [fz])).trans rfl)) (fun j => ((q135 6 j (by simp [fz])).trans rfl)) (fun j => ((q135 7 j (by simp [fz])).trans rfl)) (fun j => ((q135 8 j (by simp [fz])).trans rfl)) (fun j => ((q135 209 j (by simp [fz])).trans rfl)) (fun j => ((q135 210 j (by simp [fz])).trans rfl)))))⟩ (nr_bool (R_of (lo := 0) (hi := 1) q136 rfl)) dX0_readOpinion_40
  ·
    have r139 : R (0) (0) v4 := ⟨by omega, by omega⟩
    have p140 := (QX_0 q9) (by omega)
    obtain ⟨q141, e142, h143, h144⟩ := p140
    refine r_iconst S dX0_readOpinion_11 (by decide) (fun v145 z146 => ?_)
    have r147 := R_eq z146
    exact r_ret S hr hlk X2 ⟨q5, F10, (R_of r147 rfl), (QX_l (sOp_l1 e142) (by omega) h143 h144)⟩ (nr_bool (R_of (lo := 0) (hi := 1) r147 rfl)) dX0_readOpinion_12
