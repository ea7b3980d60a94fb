def po_X0_readSeats (τ : Tau)     (r : Int32) (u : Tau) : Prop := Inv u ∧ Fr [(3, 1), (3, 2), (3, 5), (4, 0), (1, 3), (1, 4), (1, 5), (1, 7), (1, 8)] [201] τ u ∧ R (0) (1) r
set_option maxHeartbeats 4000000 in
set_option maxRecDepth 100000 in
theorem c_X0_readSeats (l : Launch) (G : Gx) (τ : Tau) (hI : Inv τ) : Ci l G yX0_readSeats cX0_readSeats 1 (some .boolean) 2 46 [.ref (G.2.2.2.1 3)] τ (po_X0_readSeats τ    ) := by
  unfold Ci
  refine C_of (own := RX0) (by decide) rfl (Nat.le_of_ble_eq_true rfl) ?_
  intro p e s m below meth c ls S hr hlk X hl
  have hl : lv_has ls 1 [(0, .ref (G.2.2.2.1 3))] := hl
  refine r_aload_n S dX0_readSeats_0 rfl (lv_at hl 0 rfl) ?_
  refine r_getn (K := 3) S X (Nat.le_of_ble_eq_true rfl) rfl lk0_27_0 (fun _ => ⟨_, rfl, rfl⟩) dX0_readSeats_1 (fun v1 z2 => ?_)
  have r3 : R (0) (1) v1 := rd hI rfl z2
  refine r_if_eq (tgt := 13) S dX0_readSeats_4 (by decide) (fun c4 => ?_) (fun c4 => ?_)
  ·
    have r5 : R (0) (0) v1 := ⟨by omega, by omega⟩
    refine r_aload_n S dX0_readSeats_13 rfl (lv_at hl 0 rfl) ?_
    refine r_iconst S dX0_readSeats_14 (by decide) (fun v6 z7 => ?_)
    have r8 := R_eq z7
    refine r_put (K := 3) (ty := .boolean) S X (Nat.le_of_ble_eq_true rfl) rfl lk0_27_0 (fun _ => ⟨_, rfl, Nat.le_of_ble_eq_true rfl, rfl⟩) (fun _ _ _ h => by cases h; exact ⟨rfl, rfl⟩) (nr_bool (R_of (lo := 0) (hi := 1) r8 rfl)) (ft_bool (R_of (lo := 0) (hi := 1) r8 rfl)) dX0_readSeats_15 (fun t9 H lc M10 X11 => ?_)
    have I12 := Inv_mu hI M10 (show Rg (kd 3) 5 v6 from (R_of (lo := 0) (hi := 1) r8 rfl))
    have F13 : Fr [(3, 1), (3, 2), (3, 5), (4, 0), (1, 3), (1, 4), (1, 5), (1, 7), (1, 8)] [201] τ t9 := Fr_mu Fr_rfl M10 (by decide)
    refine r_aload_n S dX0_readSeats_18 rfl (lv_at hl 0 rfl) ?_
    refine r_get (K := 3) (v := .ref (G.2.2.2.1 1)) S X11 (Nat.le_of_ble_eq_true rfl) rfl lk0_38_0 (fun _ => ⟨_, rfl, rfl⟩) dX0_readSeats_19 ?_
    refine r_kv (q_V (As := []) (rest := []) (K := 1) (ci := 7) S X11 (c_X7_step l G t9 I12 ) ck0_102 (Nat.le_of_ble_eq_true rfl) rfl (fun _ => ⟨_, rfl⟩) ⟨_, _, rfl⟩ ⟨Nat.le_of_ble_eq_true rfl, Nat.le_of_ble_eq_true rfl⟩ rfl hl.1 rfl (Nat.le_of_ble_eq_true rfl) dX0_readSeats_22 ⟨Nat.le_refl 0, Nat.le_refl 0⟩) X11 (fun t16 H lc q14 X15 => ?_)
    unfold po_X7_step at q14
    obtain ⟨q17, q18⟩ := q14
    have F19 : Fr [(3, 1), (3, 2), (3, 5), (4, 0), (1, 3), (1, 4), (1, 5), (1, 7), (1, 8)] [201] τ t16 := Fr_call F13 q18 (by decide)
    refine r_aload_n S dX0_readSeats_25 rfl (lv_at hl 0 rfl) ?_
    refine r_iconst S dX0_readSeats_26 (by decide) (fun v20 z21 => ?_)
    have r22 := R_eq z21
    refine r_bipush S dX0_readSeats_27 (by decide) (fun v23 z24 => ?_)
    have r25 := R_eq z24
    refine r_ki (q_U (As := [.int v20, .int v23]) (rest := []) (K := 3) (ci := 0) S X15 (c_X8_takeNumber_3_1_8 l G t16 q17 v20 v23 r22 r25) ck0_105_0 (Nat.le_of_ble_eq_true rfl) rfl (fun _ => ⟨_, rfl⟩) ⟨_, _, rfl⟩ ⟨Nat.le_of_ble_eq_true rfl, Nat.le_of_ble_eq_true rfl⟩ rfl hl.1 rfl (Nat.le_of_ble_eq_true rfl) dX0_readSeats_29 ⟨Nat.le_refl 0, Nat.le_refl 0⟩) X15 (fun v29 t28 H lc q26 X27 => ?_)
    unfold po_X8_takeNumber_3_1_8 at q26
    obtain ⟨q30, q31, q32, q33⟩ := q26
    have F34 : Fr [(3, 1), (3, 2), (3, 5), (4, 0), (1, 3), (1, 4), (1, 5), (1, 7), (1, 8)] [201] τ t28 := Fr_call F19 q31 (by decide)
    refine r_if_ne (tgt := 37) S dX0_readSeats_32 (by decide) (fun c35 => ?_) (fun c35 => ?_)
    ·
      have r36 : R (1) (1) v29 := ⟨by omega, by omega⟩
      have p37 := q33 (by omega)
      obtain ⟨v38, z39⟩ : ∃ x, t28 3 2 = x := ⟨_, rfl⟩
      rw [z39] at p37
      refine r_aload_n S dX0_readSeats_37 rfl (lv_at hl 0 rfl) ?_
      refine r_get (K := 3) (v := .ref (G.2.2.2.1 4)) S X27 (Nat.le_of_ble_eq_true rfl) rfl lk0_14_0 (fun _ => ⟨_, rfl, rfl⟩) dX0_readSeats_38 ?_
      refine r_aload_n S dX0_readSeats_41 rfl (lv_at hl 0 rfl) ?_
      refine r_geti (K := 3) S X27 (Nat.le_of_ble_eq_true rfl) rfl lk0_109_0 (fun _ => ⟨_, rfl, rfl⟩) z39 dX0_readSeats_42 ?_
      refine r_put (K := 4) (ty := .int) S X27 (Nat.le_of_ble_eq_true rfl) rfl lk0_112_2 (fun _ => ⟨_, rfl, Nat.le_of_ble_eq_true rfl, rfl⟩) (fun _ _ _ h => by cases h; exact ⟨rfl, rfl⟩) rfl rfl dX0_readSeats_45 (fun t40 H lc M41 X42 => ?_)
      have I43 := Inv_mu q30 M41 (show Rg (kd 4) 0 v38 from (R_of (lo := 0) (hi := 8) p37 rfl))
      have F44 : Fr [(3, 1), (3, 2), (3, 5), (4, 0), (1, 3), (1, 4), (1, 5), (1, 7), (1, 8)] [201] τ t40 := Fr_mu F34 M41 (by decide)
      refine r_iconst S dX0_readSeats_48 (by decide) (fun v45 z46 => ?_)
      have r47 := R_eq z46
      exact r_ret S hr hlk X42 ⟨I43, F44, (R_of r47 rfl)⟩ (nr_bool (R_of (lo := 0) (hi := 1) r47 rfl)) dX0_readSeats_49
    ·
      have r48 : R (0) (0) v29 := ⟨by omega, by omega⟩
      refine r_iconst S dX0_readSeats_35 (by decide) (fun v49 z50 => ?_)
      have r51 := R_eq z50
      exact r_ret S hr hlk X27 ⟨q30, F34, (R_of r51 rfl)⟩ (nr_bool (R_of (lo := 0) (hi := 1) r51 rfl)) dX0_readSeats_36
  ·
    have r52 : R (1) (1) v1 := ⟨by omega, by omega⟩
    refine r_aload_n S dX0_readSeats_7 rfl (lv_at hl 0 rfl) ?_
    refine r_iconst S dX0_readSeats_8 (by decide) (fun v53 z54 => ?_)
    have r55 := R_eq z54
    refine r_ki (q_U (As := [.int v53]) (rest := []) (K := 3) (ci := 0) S X (c_X8_fail_3 l G τ hI v53 (R_of (lo := -2147483648) (hi := 2147483647) r55 rfl)) ck0_98_0 (Nat.le_of_ble_eq_true rfl) rfl (fun _ => ⟨_, rfl⟩) ⟨_, _, rfl⟩ ⟨Nat.le_of_ble_eq_true rfl, Nat.le_of_ble_eq_true rfl⟩ rfl hl.1 rfl (Nat.le_of_ble_eq_true rfl) dX0_readSeats_9 ⟨Nat.le_refl 0, Nat.le_refl 0⟩) X (fun v59 t58 H lc q56 X57 => ?_)
    unfold po_X8_fail_3 at q56
    obtain ⟨q60, q61, q62⟩ := q56
    have F63 : Fr [(3, 1), (3, 2), (3, 5), (4, 0), (1, 3), (1, 4), (1, 5), (1, 7), (1, 8)] [201] τ t58 := Fr_call Fr_rfl q61 (by decide)
    exact r_ret S hr hlk X57 ⟨q60, F63, (R_of q62 rfl)⟩ (nr_bool (R_of (lo := 0) (hi := 1) q62 rfl)) dX0_readSeats_12
def po_X0_readSlack (τ : Tau)     (r : Int32) (u : Tau) : Prop := Inv u ∧ Fr [(3, 1), (3, 2), (3, 6), (4, 1), (1, 3), (1, 4), (1, 5), (1, 7), (1, 8)] [201] τ u ∧ R (0) (1) r
set_option maxHeartbeats 4000000 in
set_option maxRecDepth 100000 in
theorem c_X0_readSlack (l : Launch) (G : Gx) (τ : Tau) (hI : Inv τ) : Ci l G yX0_readSlack cX0_readSlack 1 (some .boolean) 2 46 [.ref (G.2.2.2.1 3)] τ (po_X0_readSlack τ    ) := by
  unfold Ci
  refine C_of (own := RX0) (by decide) rfl (Nat.le_of_ble_eq_true rfl) ?_
  intro p e s m below meth c ls S hr hlk X hl
  have hl : lv_has ls 1 [(0, .ref (G.2.2.2.1 3))] := hl
  refine r_aload_n S dX0_readSlack_0 rfl (lv_at hl 0 rfl) ?_
  refine r_getn (K := 3) S X (Nat.le_of_ble_eq_true rfl) rfl lk0_31_0 (fun _ => ⟨_, rfl, rfl⟩) dX0_readSlack_1 (fun v1 z2 => ?_)
  have r3 : R (0) (1) v1 := rd hI rfl z2
  refine r_if_eq (tgt := 13) S dX0_readSlack_4 (by decide) (fun c4 => ?_) (fun c4 => ?_)
  ·
    have r5 : R (0) (0) v1 := ⟨by omega, by omega⟩
    refine r_aload_n S dX0_readSlack_13 rfl (lv_at hl 0 rfl) ?_
    refine r_iconst S dX0_readSlack_14 (by decide) (fun v6 z7 => ?_)
    have r8 := R_eq z7
    refine r_put (K := 3) (ty := .boolean) S X (Nat.le_of_ble_eq_true rfl) rfl lk0_31_0 (fun _ => ⟨_, rfl, Nat.le_of_ble_eq_true rfl, rfl⟩) (fun _ _ _ h => by cases h; exact ⟨rfl, rfl⟩) (nr_bool (R_of (lo := 0) (hi := 1) r8 rfl)) (ft_bool (R_of (lo := 0) (hi := 1) r8 rfl)) dX0_readSlack_15 (fun t9 H lc M10 X11 => ?_)
    have I12 := Inv_mu hI M10 (show Rg (kd 3) 6 v6 from (R_of (lo := 0) (hi := 1) r8 rfl))
    have F13 : Fr [(3, 1), (3, 2), (3, 6), (4, 1), (1, 3), (1, 4), (1, 5), (1, 7), (1, 8)] [201] τ t9 := Fr_mu Fr_rfl M10 (by decide)
    refine r_aload_n S dX0_readSlack_18 rfl (lv_at hl 0 rfl) ?_
    refine r_get (K := 3) (v := .ref (G.2.2.2.1 1)) S X11 (Nat.le_of_ble_eq_true rfl) rfl lk0_38_0 (fun _ => ⟨_, rfl, rfl⟩) dX0_readSlack_19 ?_
    refine r_kv (q_V (As := []) (rest := []) (K := 1) (ci := 7) S X11 (c_X7_step l G t9 I12 ) ck0_102 (Nat.le_of_ble_eq_true rfl) rfl (fun _ => ⟨_, rfl⟩) ⟨_, _, rfl⟩ ⟨Nat.le_of_ble_eq_true rfl, Nat.le_of_ble_eq_true rfl⟩ rfl hl.1 rfl (Nat.le_of_ble_eq_true rfl) dX0_readSlack_22 ⟨Nat.le_refl 0, Nat.le_refl 0⟩) X11 (fun t16 H lc q14 X15 => ?_)
    unfold po_X7_step at q14
    obtain ⟨q17, q18⟩ := q14
    have F19 : Fr [(3, 1), (3, 2), (3, 6), (4, 1), (1, 3), (1, 4), (1, 5), (1, 7), (1, 8)] [201] τ t16 := Fr_call F13 q18 (by decide)
    refine r_aload_n S dX0_readSlack_25 rfl (lv_at hl 0 rfl) ?_
    refine r_iconst S dX0_readSlack_26 (by decide) (fun v20 z21 => ?_)
    have r22 := R_eq z21
    refine r_bipush S dX0_readSlack_27 (by decide) (fun v23 z24 => ?_)
    have r25 := R_eq z24
    refine r_ki (q_U (As := [.int v20, .int v23]) (rest := []) (K := 3) (ci := 0) S X15 (c_X8_takeNumber_3_0_9 l G t16 q17 v20 v23 r22 r25) ck0_105_0 (Nat.le_of_ble_eq_true rfl) rfl (fun _ => ⟨_, rfl⟩) ⟨_, _, rfl⟩ ⟨Nat.le_of_ble_eq_true rfl, Nat.le_of_ble_eq_true rfl⟩ rfl hl.1 rfl (Nat.le_of_ble_eq_true rfl) dX0_readSlack_29 ⟨Nat.le_refl 0, Nat.le_refl 0⟩) X15 (fun v29 t28 H lc q26 X27 => ?_)
    unfold po_X8_takeNumber_3_0_9 at q26
    obtain ⟨q30, q31, q32, q33⟩ := q26
    have F34 : Fr [(3, 1), (3, 2), (3, 6), (4, 1), (1, 3), (1, 4), (1, 5), (1, 7), (1, 8)] [201] τ t28 := Fr_call F19 q31 (by decide)
    refine r_if_ne (tgt := 37) S dX0_readSlack_32 (by decide) (fun c35 => ?_) (fun c35 => ?_)
    ·
      have r36 : R (1) (1) v29 := ⟨by omega, by omega⟩
      have p37 := q33 (by omega)
      obtain ⟨v38, z39⟩ : ∃ x, t28 3 2 = x := ⟨_, rfl⟩
      rw [z39] at p37
      refine r_aload_n S dX0_readSlack_37 rfl (lv_at hl 0 rfl) ?_
      refine r_get (K := 3) (v := .ref (G.2.2.2.1 4)) S X27 (Nat.le_of_ble_eq_true rfl) rfl lk0_14_0 (fun _ => ⟨_, rfl, rfl⟩) dX0_readSlack_38 ?_
      refine r_aload_n S dX0_readSlack_41 rfl (lv_at hl 0 rfl) ?_
      refine r_geti (K := 3) S X27 (Nat.le_of_ble_eq_true rfl) rfl lk0_109_0 (fun _ => ⟨_, rfl, rfl⟩) z39 dX0_readSlack_42 ?_
      refine r_put (K := 4) (ty := .int) S X27 (Nat.le_of_ble_eq_true rfl) rfl lk0_115_2 (fun _ => ⟨_, rfl, Nat.le_of_ble_eq_true rfl, rfl⟩) (fun _ _ _ h => by cases h; exact ⟨rfl, rfl⟩) rfl rfl dX0_readSlack_45 (fun t40 H lc M41 X42 => ?_)
      have I43 := Inv_mu q30 M41 (show Rg (kd 4) 1 v38 from (R_of (lo := 0) (hi := 9) p37 rfl))
      have F44 : Fr [(3, 1), (3, 2), (3, 6), (4, 1), (1, 3), (1, 4), (1, 5), (1, 7), (1, 8)] [201] τ t40 := Fr_mu F34 M41 (by decide)
      refine r_iconst S dX0_readSlack_48 (by decide) (fun v45 z46 => ?_)
      have r47 := R_eq z46
      exact r_ret S hr hlk X42 ⟨I43, F44, (R_of r47 rfl)⟩ (nr_bool (R_of (lo := 0) (hi := 1) r47 rfl)) dX0_readSlack_49
    ·
      have r48 : R (0) (0) v29 := ⟨by omega, by omega⟩
      refine r_iconst S dX0_readSlack_35 (by decide) (fun v49 z50 => ?_)
      have r51 := R_eq z50
      exact r_ret S hr hlk X27 ⟨q30, F34, (R_of r51 rfl)⟩ (nr_bool (R_of (lo := 0) (hi := 1) r51 rfl)) dX0_readSlack_36
  ·
    have r52 : R (1) (1) v1 := ⟨by omega, by omega⟩
    refine r_aload_n S dX0_readSlack_7 rfl (lv_at hl 0 rfl) ?_
    refine r_iconst S dX0_readSlack_8 (by decide) (fun v53 z54 => ?_)
    have r55 := R_eq z54
    refine r_ki (q_U (As := [.int v53]) (rest := []) (K := 3) (ci := 0) S X (c_X8_fail_3 l G τ hI v53 (R_of (lo := -2147483648) (hi := 2147483647) r55 rfl)) ck0_98_0 (Nat.le_of_ble_eq_true rfl) rfl (fun _ => ⟨_, rfl⟩) ⟨_, _, rfl⟩ ⟨Nat.le_of_ble_eq_true rfl, Nat.le_of_ble_eq_true rfl⟩ rfl hl.1 rfl (Nat.le_of_ble_eq_true rfl) dX0_readSlack_9 ⟨Nat.le_refl 0, Nat.le_refl 0⟩) X (fun v59 t58 H lc q56 X57 => ?_)
    unfold po_X8_fail_3 at q56
    obtain ⟨q60, q61, q62⟩ := q56
    have F63 : Fr [(3, 1), (3, 2), (3, 6), (4, 1), (1, 3), (1, 4), (1, 5), (1, 7), (1, 8)] [201] τ t58 := Fr_call Fr_rfl q61 (by decide)
    exact r_ret S hr hlk X57 ⟨q60, F63, (R_of q62 rfl)⟩ (nr_bool (R_of (lo := 0) (hi := 1) q62 rfl)) dX0_readSlack_12
def po_X0_seeNewName (τ : Tau)     (r : Int32) (u : Tau) : Prop := Inv u ∧ Fr [(3, 1)] [] τ u ∧ R (0) (1) r
set_option maxHeartbeats 4000000 in
set_option maxRecDepth 100000 in
theorem c_X0_seeNewName (l : Launch) (G : Gx) (τ : Tau) (hI : Inv τ) : Ci l G yX0_seeNewName cX0_seeNewName 2 (some .boolean) 1 23 [.ref (G.2.2.2.1 3)] τ (po_X0_seeNewName τ    ) := by
  unfold Ci
  refine C_of (own := RX0) (by decide) rfl (Nat.le_of_ble_eq_true rfl) ?_
  intro p e s m below meth c ls S hr hlk X hl
  have hl : lv_has ls 2 [(0, .ref (G.2.2.2.1 3))] := hl
  refine r_aload_n S dX0_seeNewName_0 rfl (lv_at hl 0 rfl) ?_
  refine r_get (K := 3) (v := .ref (G.2.2.2.1 1)) S X (Nat.le_of_ble_eq_true rfl) rfl lk0_38_0 (fun _ => ⟨_, rfl, rfl⟩) dX0_seeNewName_1 ?_
  refine r_getn (K := 1) S X (Nat.le_of_ble_eq_true rfl) rfl lk0_42_7 (fun _ => ⟨_, rfl, rfl⟩) dX0_seeNewName_4 (fun v1 z2 => ?_)
  have r3 : R (0) (4) v1 := rd hI rfl z2
  refine r_iconst S dX0_seeNewName_7 (by decide) (fun v4 z5 => ?_)
  have r6 := R_eq z5
  refine r_icmp_ne (tgt := 24) S dX0_seeNewName_8 (by decide) (fun c7 => ?_) (fun c7 => ?_)
  ·
    refine r_aload_n S dX0_seeNewName_24 rfl (lv_at hl 0 rfl) ?_
    refine r_iconst S dX0_seeNewName_25 (by decide) (fun v8 z9 => ?_)
    have r10 := R_eq z9
    refine r_ki (q_U (As := [.int v8]) (rest := []) (K := 3) (ci := 0) S X (c_X8_fail_3 l G τ hI v8 (R_of (lo := -2147483648) (hi := 2147483647) r10 rfl)) ck0_98_0 (Nat.le_of_ble_eq_true rfl) rfl (fun _ => ⟨_, rfl⟩) ⟨_, _, rfl⟩ ⟨Nat.le_of_ble_eq_true rfl, Nat.le_of_ble_eq_true rfl⟩ rfl hl.1 rfl (Nat.le_of_ble_eq_true rfl) dX0_seeNewName_26 ⟨Nat.le_refl 0, Nat.le_refl 0⟩) X (fun v14 t13 H lc q11 X12 => ?_)
    unfold po_X8_fail_3 at q11
    obtain ⟨q15, q16, q17⟩ := q11
    have F18 : Fr [(3, 1)] [] τ t13 := Fr_call Fr_rfl q16 (by decide)
    exact r_ret S hr hlk X12 ⟨q15, F18, (R_of q17 rfl)⟩ (nr_bool (R_of (lo := 0) (hi := 1) q17 rfl)) dX0_seeNewName_29
  ·
    have r19 : R (2) (2) v1 := ⟨by omega, by omega⟩
    refine r_aload_n S dX0_seeNewName_11 rfl (lv_at hl 0 rfl) ?_
    refine r_get (K := 3) (v := .ref (G.2.2.2.1 1)) S X (Nat.le_of_ble_eq_true rfl) rfl lk0_38_0 (fun _ => ⟨_, rfl, rfl⟩) dX0_seeNewName_12 ?_
    refine r_getJ (K := 1) S X (Nat.le_of_ble_eq_true rfl) rfl lk0_118_7 (fun _ => ⟨_, rfl, rfl⟩) dX0_seeNewName_15 (fun j20 z21 => ?_)
    refine r_ki (q_S (As := [.long j20]) (rest := []) S X (c_X9_isKept l G τ hI j20) ck0_122 ⟨Nat.le_of_ble_eq_true rfl, Nat.le_of_ble_eq_true rfl⟩ rfl hl.1 rfl (Nat.le_of_ble_eq_true rfl) dX0_seeNewName_18 ⟨Nat.le_refl 0, Nat.le_refl 0⟩) X (fun v25 t24 H lc q22 X23 => ?_)
    unfold po_X9_isKept at q22
    obtain ⟨q26, q27⟩ := q22
    rw [q26] at X23
    refine r_if_eq (tgt := 30) S dX0_seeNewName_21 (by decide) (fun c28 => ?_) (fun c28 => ?_)
    ·
      have r29 : R (0) (0) v25 := ⟨by omega, by omega⟩
      refine r_aload_n S dX0_seeNewName_30 rfl (lv_at hl 0 rfl) ?_
      refine r_get (K := 3) (v := .ref (G.2.2.2.1 4)) S X23 (Nat.le_of_ble_eq_true rfl) rfl lk0_14_0 (fun _ => ⟨_, rfl, rfl⟩) dX0_seeNewName_31 ?_
      refine r_aload_n S dX0_seeNewName_34 rfl (lv_at hl 0 rfl) ?_
      refine r_get (K := 3) (v := .ref (G.2.2.2.1 1)) S X23 (Nat.le_of_ble_eq_true rfl) rfl lk0_38_0 (fun _ => ⟨_, rfl, rfl⟩) dX0_seeNewName_35 ?_
      refine r_getJ (K := 1) S X23 (Nat.le_of_ble_eq_true rfl) rfl lk0_118_7 (fun _ => ⟨_, rfl, rfl⟩) dX0_seeNewName_38 (fun j30 z31 => ?_)
      refine r_ki (q_V (As := [.long j30]) (rest := []) (K := 4) (ci := 2) S X23 (c_X2_askNamed l G τ hI 4 (Nat.le_of_ble_eq_true rfl) rfl j30) ck0_126 (Nat.le_of_ble_eq_true rfl) rfl (fun _ => ⟨_, rfl⟩) ⟨_, _, rfl⟩ ⟨Nat.le_of_ble_eq_true rfl, Nat.le_of_ble_eq_true rfl⟩ rfl hl.1 rfl (Nat.le_of_ble_eq_true rfl) dX0_seeNewName_41 ⟨Nat.le_refl 0, Nat.le_refl 0⟩) X23 (fun v35 t34 H lc q32 X33 => ?_)
      unfold po_X2_askNamed at q32
      obtain ⟨q36, q37⟩ := q32
      rw [q36] at X33
      refine r_iconst S dX0_seeNewName_44 (by decide) (fun v38 z39 => ?_)
      have r40 := R_eq z39
      refine r_icmp_ne (tgt := 66) S dX0_seeNewName_45 (by decide) (fun c41 => ?_) (fun c41 => ?_)
      ·
        have r42 : R (0) (8) v35 := ⟨by omega, by omega⟩
        refine r_iconst S dX0_seeNewName_66 (by decide) (fun v43 z44 => ?_)
        have r45 := R_eq z44
        refine r_goto (tgt := 71) S dX0_seeNewName_67 (by decide) ?_
        refine r_istore_n (lv' := [(1, .int v43), (0, .ref (G.2.2.2.1 3))]) S dX0_seeNewName_71 rfl hl (by decide) rfl (fun ls hl => ?_)
        refine r_iload_n S dX0_seeNewName_72 rfl (lv_at hl 0 rfl) ?_
        refine r_if_eq (tgt := 84) S dX0_seeNewName_73 (by decide) (fun c46 => ?_) (fun c46 => ?_)
        ·
          exfalso; omega
        ·
          refine r_aload_n S dX0_seeNewName_76 rfl (lv_at hl 1 rfl) ?_
          refine r_iconst S dX0_seeNewName_77 (by decide) (fun v47 z48 => ?_)
          have r49 := R_eq z48
          refine r_ki (q_U (As := [.int v47]) (rest := []) (K := 3) (ci := 0) S X33 (c_X8_fail_3 l G τ hI v47 (R_of (lo := -2147483648) (hi := 2147483647) r49 rfl)) ck0_98_0 (Nat.le_of_ble_eq_true rfl) rfl (fun _ => ⟨_, rfl⟩) ⟨_, _, rfl⟩ ⟨Nat.le_of_ble_eq_true rfl, Nat.le_of_ble_eq_true rfl⟩ rfl hl.1 rfl (Nat.le_of_ble_eq_true rfl) dX0_seeNewName_78 ⟨Nat.le_refl 0, Nat.le_refl 0⟩) X33 (fun v53 t52 H lc q50 X51 => ?_)
          unfold po_X8_fail_3 at q50
          obtain ⟨q54, q55, q56⟩ := q50
          have F57 : Fr [(3, 1)] [] τ t52 := Fr_call Fr_rfl q55 (by decide)
          refine r_if_eq (tgt := 88) S dX0_seeNewName_81 (by decide) (fun c58 => ?_) (fun c58 => ?_)
          ·
            refine r_iconst S dX0_seeNewName_88 (by decide) (fun v59 z60 => ?_)
            have r61 := R_eq z60
            exact r_ret S hr hlk X51 ⟨q54, F57, (R_of r61 rfl)⟩ (nr_bool (R_of (lo := 0) (hi := 1) r61 rfl)) dX0_seeNewName_89
          ·
            exfalso; omega
      ·
        have r62 : R (-1) (-1) v35 := ⟨by omega, by omega⟩
        refine r_aload_n S dX0_seeNewName_48 rfl (lv_at hl 0 rfl) ?_
        refine r_get (K := 3) (v := .ref (G.2.2.2.1 4)) S X33 (Nat.le_of_ble_eq_true rfl) rfl lk0_14_0 (fun _ => ⟨_, rfl, rfl⟩) dX0_seeNewName_49 ?_
        refine r_aload_n S dX0_seeNewName_52 rfl (lv_at hl 0 rfl) ?_
        refine r_get (K := 3) (v := .ref (G.2.2.2.1 1)) S X33 (Nat.le_of_ble_eq_true rfl) rfl lk0_38_0 (fun _ => ⟨_, rfl, rfl⟩) dX0_seeNewName_53 ?_
        refine r_getJ (K := 1) S X33 (Nat.le_of_ble_eq_true rfl) rfl lk0_118_7 (fun _ => ⟨_, rfl, rfl⟩) dX0_seeNewName_56 (fun j63 z64 => ?_)
        refine r_ki (q_V (As := [.long j63]) (rest := []) (K := 4) (ci := 2) S X33 (c_X2_manNamed l G τ hI 4 (Nat.le_of_ble_eq_true rfl) rfl j63) ck0_130 (Nat.le_of_ble_eq_true rfl) rfl (fun _ => ⟨_, rfl⟩) ⟨_, _, rfl⟩ ⟨Nat.le_of_ble_eq_true rfl, Nat.le_of_ble_eq_true rfl⟩ rfl hl.1 rfl (Nat.le_of_ble_eq_true rfl) dX0_seeNewName_59 ⟨Nat.le_refl 0, Nat.le_refl 0⟩) X33 (fun v68 t67 H lc q65 X66 => ?_)
        unfold po_X2_manNamed at q65
        obtain ⟨q69, q70⟩ := q65
        rw [q69] at X66
        refine r_iconst S dX0_seeNewName_62 (by decide) (fun v71 z72 => ?_)
        have r73 := R_eq z72
        refine r_icmp_eq (tgt := 70) S dX0_seeNewName_63 (by decide) (fun c74 => ?_) (fun c74 => ?_)
        ·
          have r75 : R (-1) (-1) v68 := ⟨by omega, by omega⟩
          refine r_iconst S dX0_seeNewName_70 (by decide) (fun v76 z77 => ?_)
          have r78 := R_eq z77
          refine r_istore_n (lv' := [(1, .int v76), (0, .ref (G.2.2.2.1 3))]) S dX0_seeNewName_71 rfl hl (by decide) rfl (fun ls hl => ?_)
          refine r_iload_n S dX0_seeNewName_72 rfl (lv_at hl 0 rfl) ?_
          refine r_if_eq (tgt := 84) S dX0_seeNewName_73 (by decide) (fun c79 => ?_) (fun c79 => ?_)
          ·
            refine r_iconst S dX0_seeNewName_84 (by decide) (fun v80 z81 => ?_)
            have r82 := R_eq z81
            refine r_goto (tgt := 89) S dX0_seeNewName_85 (by decide) ?_
            exact r_ret S hr hlk X66 ⟨hI, Fr_rfl, (R_of r82 rfl)⟩ (nr_bool (R_of (lo := 0) (hi := 1) r82 rfl)) dX0_seeNewName_89
          ·
            exfalso; omega
        ·
          have r83 : R (0) (9) v68 := ⟨by omega, by omega⟩
          refine r_iconst S dX0_seeNewName_66 (by decide) (fun v84 z85 => ?_)
          have r86 := R_eq z85
          refine r_goto (tgt := 71) S dX0_seeNewName_67 (by decide) ?_
          refine r_istore_n (lv' := [(1, .int v84), (0, .ref (G.2.2.2.1 3))]) S dX0_seeNewName_71 rfl hl (by decide) rfl (fun ls hl => ?_)
          refine r_iload_n S dX0_seeNewName_72 rfl (lv_at hl 0 rfl) ?_
          refine r_if_eq (tgt := 84) S dX0_seeNewName_73 (by decide) (fun c87 => ?_) (fun c87 => ?_)
          ·
            exfalso; omega
          ·
            refine r_aload_n S dX0_seeNewName_76 rfl (lv_at hl 1 rfl) ?_
            refine r_iconst S dX0_seeNewName_77 (by decide) (fun v88 z89 => ?_)
            have r90 := R_eq z89
            refine r_ki (q_U (As := [.int v88]) (rest := []) (K := 3) (ci := 0) S X66 (c_X8_fail_3 l G τ hI v88 (R_of (lo := -2147483648) (hi := 2147483647) r90 rfl)) ck0_98_0 (Nat.le_of_ble_eq_true rfl) rfl (fun _ => ⟨_, rfl⟩) ⟨_, _, rfl⟩ ⟨Nat.le_of_ble_eq_true rfl, Nat.le_of_ble_eq_true rfl⟩ rfl hl.1 rfl (Nat.le_of_ble_eq_true rfl) dX0_seeNewName_78 ⟨Nat.le_refl 0, Nat.le_refl 0⟩) X66 (fun v94 t93 H lc q91 X92 => ?_)
            unfold po_X8_fail_3 at q91
            obtain ⟨q95, q96, q97⟩ := q91
            have F98 : Fr [(3, 1)] [] τ t93 := Fr_call Fr_rfl q96 (by decide)
            refine r_if_eq (tgt := 88) S dX0_seeNewName_81 (by decide) (fun c99 => ?_) (fun c99 => ?_)
            ·
              refine r_iconst S dX0_seeNewName_88 (by decide) (fun v100 z101 => ?_)
              have r102 := R_eq z101
              exact r_ret S hr hlk X92 ⟨q95, F98, (R_of r102 rfl)⟩ (nr_bool (R_of (lo := 0) (hi := 1) r102 rfl)) dX0_seeNewName_89
            ·
              exfalso; omega
    ·
      have r103 : R (1) (1) v25 := ⟨by omega, by omega⟩
      refine r_aload_n S dX0_seeNewName_24 rfl (lv_at hl 0 rfl) ?_
      refine r_iconst S dX0_seeNewName_25 (by decide) (fun v104 z105 => ?_)
      have r106 := R_eq z105
      refine r_ki (q_U (As := [.int v104]) (rest := []) (K := 3) (ci := 0) S X23 (c_X8_fail_3 l G τ hI v104 (R_of (lo := -2147483648) (hi := 2147483647) r106 rfl)) ck0_98_0 (Nat.le_of_ble_eq_true rfl) rfl (fun _ => ⟨_, rfl⟩) ⟨_, _, rfl⟩ ⟨Nat.le_of_ble_eq_true rfl, Nat.le_of_ble_eq_true rfl⟩ rfl hl.1 rfl (Nat.le_of_ble_eq_true rfl) dX0_seeNewName_26 ⟨Nat.le_refl 0, Nat.le_refl 0⟩) X23 (fun v110 t109 H lc q107 X108 => ?_)
      unfold po_X8_fail_3 at q107
      obtain ⟨q111, q112, q113⟩ := q107
      have F114 : Fr [(3, 1)] [] τ t109 := Fr_call Fr_rfl q112 (by decide)
      exact r_ret S hr hlk X108 ⟨q111, F114, (R_of q113 rfl)⟩ (nr_bool (R_of (lo := 0) (hi := 1) q113 rfl)) dX0_seeNewName_29
def po_X0_readAsk (τ : Tau)     (r : Int32) (u : Tau) : Prop := Inv u ∧ Fr [(3, 1), (4, 2), (1, 3), (1, 4), (1, 5), (1, 7), (1, 8)] [201, 209] τ u ∧ R (0) (1) r
set_option maxHeartbeats 4000000 in
set_option maxRecDepth 100000 in
theorem c_X0_readAsk (l : Launch) (G : Gx) (τ : Tau) (hI : Inv τ) : Ci l G yX0_readAsk cX0_readAsk 1 (some .boolean) 2 44 [.ref (G.2.2.2.1 3)] τ (po_X0_readAsk τ    ) := by
  unfold Ci
  refine C_of (own := RX0) (by decide) rfl (Nat.le_of_ble_eq_true rfl) ?_
  intro p e s m below meth c ls S hr hlk X hl
  have hl : lv_has ls 1 [(0, .ref (G.2.2.2.1 3))] := hl
  refine r_aload_n S dX0_readAsk_0 rfl (lv_at hl 0 rfl) ?_
  refine r_get (K := 3) (v := .ref (G.2.2.2.1 4)) S X (Nat.le_of_ble_eq_true rfl) rfl lk0_14_0 (fun _ => ⟨_, rfl, rfl⟩) dX0_readAsk_1 ?_
  refine r_getn (K := 4) S X (Nat.le_of_ble_eq_true rfl) rfl lk0_133_2 (fun _ => ⟨_, rfl, rfl⟩) dX0_readAsk_4 (fun v1 z2 => ?_)
  have r3 : R (0) (9) v1 := rd hI rfl z2
  refine r_bipush S dX0_readAsk_7 (by decide) (fun v4 z5 => ?_)
  have r6 := R_eq z5
  refine r_icmp_lt (tgt := 18) S dX0_readAsk_9 (by decide) (fun c7 => ?_) (fun c7 => ?_)
  ·
    have r8 : R (0) (8) v1 := ⟨by omega, by omega⟩
    refine r_aload_n S dX0_readAsk_18 rfl (lv_at hl 0 rfl) ?_
    refine r_get (K := 3) (v := .ref (G.2.2.2.1 1)) S X (Nat.le_of_ble_eq_true rfl) rfl lk0_38_0 (fun _ => ⟨_, rfl, rfl⟩) dX0_readAsk_19 ?_
    refine r_kv (q_V (As := []) (rest := []) (K := 1) (ci := 7) S X (c_X7_step l G τ hI ) ck0_102 (Nat.le_of_ble_eq_true rfl) rfl (fun _ => ⟨_, rfl⟩) ⟨_, _, rfl⟩ ⟨Nat.le_of_ble_eq_true rfl, Nat.le_of_ble_eq_true rfl⟩ rfl hl.1 rfl (Nat.le_of_ble_eq_true rfl) dX0_readAsk_22 ⟨Nat.le_refl 0, Nat.le_refl 0⟩) X (fun t11 H lc q9 X10 => ?_)
    unfold po_X7_step at q9
    obtain ⟨q12, q13⟩ := q9
    have F14 : Fr [(3, 1), (4, 2), (1, 3), (1, 4), (1, 5), (1, 7), (1, 8)] [201, 209] τ t11 := Fr_call Fr_rfl q13 (by decide)
    refine r_aload_n S dX0_readAsk_25 rfl (lv_at hl 0 rfl) ?_
    refine r_ki (q_V (As := []) (rest := []) (K := 3) (ci := 0) S X10 (c_X0_seeNewName l G t11 q12 ) ck0_136 (Nat.le_of_ble_eq_true rfl) rfl (fun _ => ⟨_, rfl⟩) ⟨_, _, rfl⟩ ⟨Nat.le_of_ble_eq_true rfl, Nat.le_of_ble_eq_true rfl⟩ rfl hl.1 rfl (Nat.le_of_ble_eq_true rfl) dX0_readAsk_26 ⟨Nat.le_refl 0, Nat.le_refl 0⟩) X10 (fun v18 t17 H lc q15 X16 => ?_)
    unfold po_X0_seeNewName at q15
    obtain ⟨q19, q20, q21⟩ := q15
    have F22 : Fr [(3, 1), (4, 2), (1, 3), (1, 4), (1, 5), (1, 7), (1, 8)] [201, 209] τ t17 := Fr_call F14 q20 (by decide)
    refine r_if_ne (tgt := 34) S dX0_readAsk_29 (by decide) (fun c23 => ?_) (fun c23 => ?_)
    ·
      have r24 : R (1) (1) v18 := ⟨by omega, by omega⟩
      refine r_aload_n S dX0_readAsk_34 rfl (lv_at hl 0 rfl) ?_
      refine r_get (K := 3) (v := .ref (G.2.2.2.1 4)) S X16 (Nat.le_of_ble_eq_true rfl) rfl lk0_14_0 (fun _ => ⟨_, rfl, rfl⟩) dX0_readAsk_35 ?_
      refine r_get (K := 4) (v := .ref (G.2.2.2.1 9)) S X16 (Nat.le_of_ble_eq_true rfl) rfl lk0_139_2 (fun _ => ⟨_, rfl, rfl⟩) dX0_readAsk_38 ?_
      refine r_aload_n S dX0_readAsk_41 rfl (lv_at hl 0 rfl) ?_
      refine r_get (K := 3) (v := .ref (G.2.2.2.1 4)) S X16 (Nat.le_of_ble_eq_true rfl) rfl lk0_14_0 (fun _ => ⟨_, rfl, rfl⟩) dX0_readAsk_42 ?_
      refine r_geti (K := 4) S X16 (Nat.le_of_ble_eq_true rfl) rfl lk0_133_2 (fun _ => ⟨_, rfl, rfl⟩) ((q20 4 2 (by decide)).trans ((q13 4 2 (by decide)).trans z2)) dX0_readAsk_45 ?_
      refine r_aload_n S dX0_readAsk_48 rfl (lv_at hl 0 rfl) ?_
      refine r_get (K := 3) (v := .ref (G.2.2.2.1 1)) S X16 (Nat.le_of_ble_eq_true rfl) rfl lk0_38_0 (fun _ => ⟨_, rfl, rfl⟩) dX0_readAsk_49 ?_
      refine r_getJ (K := 1) S X16 (Nat.le_of_ble_eq_true rfl) rfl lk0_118_7 (fun _ => ⟨_, rfl, rfl⟩) dX0_readAsk_52 (fun j25 z26 => ?_)
      refine r_last (n := 9) (K := 9) S X16 (Nat.le_of_ble_eq_true rfl) rfl (fun _ => rfl) (ix_of r8 rfl) dX0_readAsk_55 (fun t28 H lc M29 X27 => ?_)
      have I30 := Inv_ml q19 M29
      have F31 : Fr [(3, 1), (4, 2), (1, 3), (1, 4), (1, 5), (1, 7), (1, 8)] [201, 209] τ t28 := Fr_ml F22 M29 (by decide)
      refine r_aload_n S dX0_readAsk_56 rfl (lv_at hl 0 rfl) ?_
      refine r_get (K := 3) (v := .ref (G.2.2.2.1 4)) S X27 (Nat.le_of_ble_eq_true rfl) rfl lk0_14_0 (fun _ => ⟨_, rfl, rfl⟩) dX0_readAsk_57 ?_
      refine r_dup S dX0_readAsk_60 rfl ?_
      refine r_geti (K := 4) S X27 (Nat.le_of_ble_eq_true rfl) rfl lk0_133_2 (fun _ => ⟨_, rfl, rfl⟩) ((M29.1 4 (by decide) 2).trans ((q20 4 2 (by decide)).trans ((q13 4 2 (by decide)).trans z2))) dX0_readAsk_61 ?_
      refine r_iconst S dX0_readAsk_64 (by decide) (fun v32 z33 => ?_)
      have r34 := R_eq z33
      refine r_iadd S dX0_readAsk_65 (fun v35 z36 => ?_)
      obtain ⟨e37, r38⟩ := i_add (lo := 1) (hi := 9) z36 r8 r34 rfl
      refine r_put (K := 4) (ty := .int) S X27 (Nat.le_of_ble_eq_true rfl) rfl lk0_133_2 (fun _ => ⟨_, rfl, Nat.le_of_ble_eq_true rfl, rfl⟩) (fun _ _ _ h => by cases h; exact ⟨rfl, rfl⟩) rfl rfl dX0_readAsk_66 (fun t39 H lc M40 X41 => ?_)
      have I42 := Inv_mu I30 M40 (show Rg (kd 4) 2 v35 from (R_of (lo := 0) (hi := 9) r38 rfl))
      have F43 : Fr [(3, 1), (4, 2), (1, 3), (1, 4), (1, 5), (1, 7), (1, 8)] [201, 209] τ t39 := Fr_mu F31 M40 (by decide)
      refine r_aload_n S dX0_readAsk_69 rfl (lv_at hl 0 rfl) ?_
      refine r_get (K := 3) (v := .ref (G.2.2.2.1 1)) S X41 (Nat.le_of_ble_eq_true rfl) rfl lk0_38_0 (fun _ => ⟨_, rfl, rfl⟩) dX0_readAsk_70 ?_
      refine r_kv (q_V (As := []) (rest := []) (K := 1) (ci := 7) S X41 (c_X7_step l G t39 I42 ) ck0_102 (Nat.le_of_ble_eq_true rfl) rfl (fun _ => ⟨_, rfl⟩) ⟨_, _, rfl⟩ ⟨Nat.le_of_ble_eq_true rfl, Nat.le_of_ble_eq_true rfl⟩ rfl hl.1 rfl (Nat.le_of_ble_eq_true rfl) dX0_readAsk_73 ⟨Nat.le_refl 0, Nat.le_refl 0⟩) X41 (fun t46 H lc q44 X45 => ?_)
      unfold po_X7_step at q44
      obtain ⟨q47, q48⟩ := q44
      have F49 : Fr [(3, 1), (4, 2), (1, 3), (1, 4), (1, 5), (1, 7), (1, 8)] [201, 209] τ t46 := Fr_call F43 q48 (by decide)
      refine r_iconst S dX0_readAsk_76 (by decide) (fun v50 z51 => ?_)
      have r52 := R_eq z51
      exact r_ret S hr hlk X45 ⟨q47, F49, (R_of r52 rfl)⟩ (nr_bool (R_of (lo := 0) (hi := 1) r52 rfl)) dX0_readAsk_77
    ·
      have r53 : R (0) (0) v18 := ⟨by omega, by omega⟩
      refine r_iconst S dX0_readAsk_32 (by decide) (fun v54 z55 => ?_)
      have r56 := R_eq z55
      exact r_ret S hr hlk X16 ⟨q19, F22, (R_of r56 rfl)⟩ (nr_bool (R_of (lo := 0) (hi := 1) r56 rfl)) dX0_readAsk_33
  ·
    have r57 : R (9) (9) v1 := ⟨by omega, by omega⟩
    refine r_aload_n S dX0_readAsk_12 rfl (lv_at hl 0 rfl) ?_
    refine r_iconst S dX0_readAsk_13 (by decide) (fun v58 z59 => ?_)
    have r60 := R_eq z59
    refine r_ki (q_U (As := [.int v58]) (rest := []) (K := 3) (ci := 0) S X (c_X8_fail_3 l G τ hI v58 (R_of (lo := -2147483648) (hi := 2147483647) r60 rfl)) ck0_98_0 (Nat.le_of_ble_eq_true rfl) rfl (fun _ => ⟨_, rfl⟩) ⟨_, _, rfl⟩ ⟨Nat.le_of_ble_eq_true rfl, Nat.le_of_ble_eq_true rfl⟩ rfl hl.1 rfl (Nat.le_of_ble_eq_true rfl) dX0_readAsk_14 ⟨Nat.le_refl 0, Nat.le_refl 0⟩) X (fun v64 t63 H lc q61 X62 => ?_)
    unfold po_X8_fail_3 at q61
    obtain ⟨q65, q66, q67⟩ := q61
    have F68 : Fr [(3, 1), (4, 2), (1, 3), (1, 4), (1, 5), (1, 7), (1, 8)] [201, 209] τ t63 := Fr_call Fr_rfl q66 (by decide)
    exact r_ret S hr hlk X62 ⟨q65, F68, (R_of q67 rfl)⟩ (nr_bool (R_of (lo := 0) (hi := 1) q67 rfl)) dX0_readAsk_17
def po_X0_readOpinion (τ : Tau)  (a0 : Int32)   (r : Int32) (u : Tau) : Prop := Inv u ∧ Fr [(3, 1), (3, 2), (1, 3), (1, 4), (1, 5), (1, 7), (1, 8)] [8, 201] τ u ∧ R (0) (1) r
set_option maxHeartbeats 4000000 in
set_option maxRecDepth 100000 in
theorem c_X0_readOpinion (l : Launch) (G : Gx) (τ : Tau) (hI : Inv τ) (a0 : Int32) (h_a0 : R (0) (9) a0) : Ci l G yX0_readOpinion cX0_readOpinion 4 (some .boolean) 2 46 [.ref (G.2.2.2.1 3), .int a0] τ (po_X0_readOpinion τ  a0  ) := by
  unfold Ci
  refine C_of (own := RX0) (by decide) rfl (Nat.le_of_ble_eq_true rfl) ?_
  intro p e s m below meth c ls S hr hlk X hl
  have hl : lv_has ls 4 [(0, .ref (G.2.2.2.1 3)), (1, .int a0)] := hl
  refine r_aload_n S dX0_readOpinion_0 rfl (lv_at hl 0 rfl) ?_
  refine r_aload_n S dX0_readOpinion_1 rfl (lv_at hl 0 rfl) ?_
  refine r_get (K := 3) (v := .ref (G.2.2.2.1 4)) S X (Nat.le_of_ble_eq_true rfl) rfl lk0_14_0 (fun _ => ⟨_, rfl, rfl⟩) dX0_readOpinion_2 ?_
  refine r_ki (q_U (As := [.ref (G.2.2.2.1 4)]) (rest := []) (K := 3) (ci := 0) S X (c_X8_seeAsk_3 l G τ hI ) ck0_159_0 (Nat.le_of_ble_eq_true rfl) rfl (fun _ => ⟨_, rfl⟩) ⟨_, _, rfl⟩ ⟨Nat.le_of_ble_eq_true rfl, Nat.le_of_ble_eq_true rfl⟩ rfl hl.1 rfl (Nat.le_of_ble_eq_true rfl) dX0_readOpinion_5 ⟨Nat.le_refl 0, Nat.le_refl 0⟩) X (fun v4 t3 H lc q1 X2 => ?_)
  unfold po_X8_seeAsk_3 at q1
  obtain ⟨q5, q6, q7, q8⟩ := q1
  have F9 : Fr [(3, 1), (3, 2), (1, 3), (1, 4), (1, 5), (1, 7), (1, 8)] [8, 201] τ t3 := Fr_call Fr_rfl q6 (by decide)
  refine r_if_ne (tgt := 13) S dX0_readOpinion_8 (by decide) (fun c10 => ?_) (fun c10 => ?_)
  ·
    have r11 : R (1) (1) v4 := ⟨by omega, by omega⟩
    have p12 := q8 (by omega)
    obtain ⟨v13, z14⟩ : ∃ x, t3 3 2 = x := ⟨_, rfl⟩
    rw [z14] at p12
    refine r_iload_n S dX0_readOpinion_13 rfl (lv_at hl 1 rfl) ?_
    refine r_bipush S dX0_readOpinion_14 (by decide) (fun v15 z16 => ?_)
    have r17 := R_eq z16
    refine r_imul S dX0_readOpinion_16 (fun v18 z19 => ?_)
    obtain ⟨e20, r21⟩ := i_mul (lo := 0) (hi := 81) z19 h_a0 r17 rfl rfl
    have e22 : v18.toInt = a0.toInt * 9 := by rw [e20, show v15.toInt = 9 by omega]
    refine r_aload_n S dX0_readOpinion_17 rfl (lv_at hl 0 rfl) ?_
    refine r_geti (K := 3) S X2 (Nat.le_of_ble_eq_true rfl) rfl lk0_109_0 (fun _ => ⟨_, rfl, rfl⟩) z14 dX0_readOpinion_18 ?_
    refine r_iadd S dX0_readOpinion_21 (fun v23 z24 => ?_)
    obtain ⟨e25, r26⟩ := i_add (lo := 0) (hi := 89) z24 r21 p12 rfl
    refine r_istore_n (lv' := [(2, .int v23), (0, .ref (G.2.2.2.1 3)), (1, .int a0)]) S dX0_readOpinion_22 rfl hl (by decide) rfl (fun ls hl => ?_)
    refine r_aload_n S dX0_readOpinion_23 rfl (lv_at hl 1 rfl) ?_
    refine r_get (K := 3) (v := .ref (G.2.2.2.1 4)) S X2 (Nat.le_of_ble_eq_true rfl) rfl lk0_14_0 (fun _ => ⟨_, rfl, rfl⟩) dX0_readOpinion_24 ?_
    refine r_get (K := 4) (v := .ref (G.2.2.2.1 8)) S X2 (Nat.le_of_ble_eq_true rfl) rfl lk0_163_2 (fun _ => ⟨_, rfl, rfl⟩) dX0_readOpinion_27 ?_
    refine r_iload_n S dX0_readOpinion_30 rfl (lv_at hl 0 rfl) ?_
    refine r_aldn (n := 90) (K := 8) S X2 (Nat.le_of_ble_eq_true rfl) rfl (fun _ => rfl) (ix_of r26 rfl) dX0_readOpinion_31 (fun v27 z28 => ?_)
    have r29 : R (-9) (9) v27 := rd q5 rfl z28
    refine r_if_eq (tgt := 41) S dX0_readOpinion_32 (by decide) (fun c30 => ?_) (fun c30 => ?_)
    ·
      have r31 : R (0) (0) v27 := ⟨by omega, by omega⟩
      refine r_aload_n S dX0_readOpinion_41 rfl (lv_at hl 1 rfl) ?_
      refine r_get (K := 3) (v := .ref (G.2.2.2.1 1)) S X2 (Nat.le_of_ble_eq_true rfl) rfl lk0_38_0 (fun _ => ⟨_, rfl, rfl⟩) dX0_readOpinion_42 ?_
      refine r_kv (q_V (As := []) (rest := []) (K := 1) (ci := 7) S X2 (c_X7_step l G t3 q5 ) ck0_102 (Nat.le_of_ble_eq_true rfl) rfl (fun _ => ⟨_, rfl⟩) ⟨_, _, rfl⟩ ⟨Nat.le_of_ble_eq_true rfl, Nat.le_of_ble_eq_true rfl⟩ rfl hl.1 rfl (Nat.le_of_ble_eq_true rfl) dX0_readOpinion_45 ⟨Nat.le_refl 0, Nat.le_refl 0⟩) X2 (fun t34 H lc q32 X33 => ?_)
      unfold po_X7_step at q32
      obtain ⟨q35, q36⟩ := q32
      have F37 : Fr [(3, 1), (3, 2), (1, 3), (1, 4), (1, 5), (1, 7), (1, 8)] [8, 201] τ t34 := Fr_call F9 q36 (by decide)
      refine r_aload_n S dX0_readOpinion_48 rfl (lv_at hl 1 rfl) ?_
      refine r_ki (q_U (As := []) (rest := []) (K := 3) (ci := 0) S X33 (c_X8_takeYesOrNo_3 l G t34 q35 ) ck0_166_0 (Nat.le_of_ble_eq_true rfl) rfl (fun _ => ⟨_, rfl⟩) ⟨_, _, rfl⟩ ⟨Nat.le_of_ble_eq_true rfl, Nat.le_of_ble_eq_true rfl⟩ rfl hl.1 rfl (Nat.le_of_ble_eq_true rfl) dX0_readOpinion_49 ⟨Nat.le_refl 0, Nat.le_refl 0⟩) X33 (fun v41 t40 H lc q38 X39 => ?_)
      unfold po_X8_takeYesOrNo_3 at q38
      obtain ⟨q42, q43, q44, q45⟩ := q38
      have F46 : Fr [(3, 1), (3, 2), (1, 3), (1, 4), (1, 5), (1, 7), (1, 8)] [8, 201] τ t40 := Fr_call F37 q43 (by decide)
      refine r_if_ne (tgt := 57) S dX0_readOpinion_52 (by decide) (fun c47 => ?_) (fun c47 => ?_)
      ·
        have r48 : R (1) (1) v41 := ⟨by omega, by omega⟩
        have p49 := q45 (by omega)
        obtain ⟨v50, z51⟩ : ∃ x, t40 3 2 = x := ⟨_, rfl⟩
        rw [z51] at p49
        refine r_aload_n S dX0_readOpinion_57 rfl (lv_at hl 1 rfl) ?_
        refine r_geti (K := 3) S X39 (Nat.le_of_ble_eq_true rfl) rfl lk0_109_0 (fun _ => ⟨_, rfl, rfl⟩) z51 dX0_readOpinion_58 ?_
        refine r_istore_n (lv' := [(3, .int v50), (2, .int v23), (0, .ref (G.2.2.2.1 3)), (1, .int a0)]) S dX0_readOpinion_61 rfl hl (by decide) rfl (fun ls hl => ?_)
        refine r_aload_n S dX0_readOpinion_62 rfl (lv_at hl 2 rfl) ?_
        refine r_iconst S dX0_readOpinion_63 (by decide) (fun v52 z53 => ?_)
        have r54 := R_eq z53
        refine r_bipush S dX0_readOpinion_64 (by decide) (fun v55 z56 => ?_)
        have r57 := R_eq z56
        refine r_ki (q_U (As := [.int v52, .int v55]) (rest := []) (K := 3) (ci := 0) S X39 (c_X8_takeNumber_3_1_9 l G t40 q42 v52 v55 r54 r57) ck0_105_0 (Nat.le_of_ble_eq_true rfl) rfl (fun _ => ⟨_, rfl⟩) ⟨_, _, rfl⟩ ⟨Nat.le_of_ble_eq_true rfl, Nat.le_of_ble_eq_true rfl⟩ rfl hl.1 rfl (Nat.le_of_ble_eq_true rfl) dX0_readOpinion_66 ⟨Nat.le_refl 0, Nat.le_refl 0⟩) X39 (fun v61 t60 H lc q58 X59 => ?_)
        unfold po_X8_takeNumber_3_1_9 at q58
        obtain ⟨q62, q63, q64, q65⟩ := q58
        have F66 : Fr [(3, 1), (3, 2), (1, 3), (1, 4), (1, 5), (1, 7), (1, 8)] [8, 201] τ t60 := Fr_call F46 q63 (by decide)
        refine r_if_ne (tgt := 74) S dX0_readOpinion_69 (by decide) (fun c67 => ?_) (fun c67 => ?_)
        ·
          have r68 : R (1) (1) v61 := ⟨by omega, by omega⟩
          have p69 := q65 (by omega)
          obtain ⟨v70, z71⟩ : ∃ x, t60 3 2 = x := ⟨_, rfl⟩
          rw [z71] at p69
          refine r_aload_n S dX0_readOpinion_74 rfl (lv_at hl 2 rfl) ?_
          refine r_get (K := 3) (v := .ref (G.2.2.2.1 4)) S X59 (Nat.le_of_ble_eq_true rfl) rfl lk0_14_0 (fun _ => ⟨_, rfl, rfl⟩) dX0_readOpinion_75 ?_
          refine r_get (K := 4) (v := .ref (G.2.2.2.1 8)) S X59 (Nat.le_of_ble_eq_true rfl) rfl lk0_163_2 (fun _ => ⟨_, rfl, rfl⟩) dX0_readOpinion_78 ?_
          refine r_iload_n S dX0_readOpinion_81 rfl (lv_at hl 1 rfl) ?_
          refine r_iload_n S dX0_readOpinion_82 rfl (lv_at hl 0 rfl) ?_
          refine r_aload_n S dX0_readOpinion_83 rfl (lv_at hl 2 rfl) ?_
          refine r_geti (K := 3) S X59 (Nat.le_of_ble_eq_true rfl) rfl lk0_109_0 (fun _ => ⟨_, rfl, rfl⟩) z71 dX0_readOpinion_84 ?_
          refine r_imul S dX0_readOpinion_87 (fun v72 z73 => ?_)
          obtain ⟨e74, r75⟩ := i_mul (lo := -9) (hi := 9) z73 p49 p69 rfl rfl
          refine r_ast (n := 90) (K := 8) S X59 (Nat.le_of_ble_eq_true rfl) rfl (fun _ _ => rfl) (ix_of r26 rfl) dX0_readOpinion_88 (fun t76 H lc M77 X78 => ?_)
          have I79 := Inv_mu q62 M77 (show Rg (kd 8) _ v72 from (R_of (lo := -9) (hi := 9) r75 rfl))
          have F80 : Fr [(3, 1), (3, 2), (1, 3), (1, 4), (1, 5), (1, 7), (1, 8)] [8, 201] τ t76 := Fr_cell F66 M77 (by decide)
          refine r_iconst S dX0_readOpinion_89 (by decide) (fun v81 z82 => ?_)
          have r83 := R_eq z82
          exact r_ret S hr hlk X78 ⟨I79, F80, (R_of r83 rfl)⟩ (nr_bool (R_of (lo := 0) (hi := 1) r83 rfl)) dX0_readOpinion_90
        ·
          have r84 : R (0) (0) v61 := ⟨by omega, by omega⟩
          refine r_iconst S dX0_readOpinion_72 (by decide) (fun v85 z86 => ?_)
          have r87 := R_eq z86
          exact r_ret S hr hlk X59 ⟨q62, F66, (R_of r87 rfl)⟩ (nr_bool (R_of (lo := 0) (hi := 1) r87 rfl)) dX0_readOpinion_73
      ·
        have r88 : R (0) (0) v41 := ⟨by omega, by omega⟩
        refine r_iconst S dX0_readOpinion_55 (by decide) (fun v89 z90 => ?_)
        have r91 := R_eq z90
        exact r_ret S hr hlk X39 ⟨q42, F46, (R_of r91 rfl)⟩ (nr_bool (R_of (lo := 0) (hi := 1) r91 rfl)) dX0_readOpinion_56
    ·
      refine r_aload_n S dX0_readOpinion_35 rfl (lv_at hl 1 rfl) ?_
      refine r_iconst S dX0_readOpinion_36 (by decide) (fun v92 z93 => ?_)
      have r94 := R_eq z93
      refine r_ki (q_U (As := [.int v92]) (rest := []) (K := 3) (ci := 0) S X2 (c_X8_fail_3 l G t3 q5 v92 (R_of (lo := -2147483648) (hi := 2147483647) r94 rfl)) ck0_98_0 (Nat.le_of_ble_eq_true rfl) rfl (fun _ => ⟨_, rfl⟩) ⟨_, _, rfl⟩ ⟨Nat.le_of_ble_eq_true rfl, Nat.le_of_ble_eq_true rfl⟩ rfl hl.1 rfl (Nat.le_of_ble_eq_true rfl) dX0_readOpinion_37 ⟨Nat.le_refl 0, Nat.le_refl 0⟩) X2 (fun v98 t97 H lc q95 X96 => ?_)
      unfold po_X8_fail_3 at q95
      obtain ⟨q99, q100, q101⟩ := q95
      have F102 : Fr [(3, 1), (3, 2), (1, 3), (1, 4), (1, 5), (1, 7), (1, 8)] [8, 201] τ t97 := Fr_call F9 q100 (by decide)
      exact r_ret S hr hlk X96 ⟨q99, F102, (R_of q101 rfl)⟩ (nr_bool (R_of (lo := 0) (hi := 1) q101 rfl)) dX0_readOpinion_40
  ·
    have r103 : R (0) (0) v4 := ⟨by omega, by omega⟩
    refine r_iconst S dX0_readOpinion_11 (by decide) (fun v104 z105 => ?_)
    have r106 := R_eq z105
    exact r_ret S hr hlk X2 ⟨q5, F9, (R_of r106 rfl)⟩ (nr_bool (R_of (lo := 0) (hi := 1) r106 rfl)) dX0_readOpinion_12
def po_X0_readMan (τ : Tau)     (r : Int32) (u : Tau) : Prop := Inv u ∧ Fr [(3, 1), (3, 2), (4, 3), (1, 3), (1, 4), (1, 5), (1, 7), (1, 8)] [5, 8, 201, 210] τ u ∧ R (0) (1) r
set_option maxHeartbeats 4000000 in
set_option maxRecDepth 100000 in
theorem c_X0_readMan (l : Launch) (G : Gx) (τ : Tau) (hI : Inv τ) : Ci l G yX0_readMan cX0_readMan 3 (some .boolean) 3 69 [.ref (G.2.2.2.1 3)] τ (po_X0_readMan τ    ) := by
  unfold Ci
  refine C_of (own := RX0) (by decide) rfl (Nat.le_of_ble_eq_true rfl) ?_
  intro p e s m below meth c ls S hr hlk X hl
  have hl : lv_has ls 3 [(0, .ref (G.2.2.2.1 3))] := hl
  refine r_aload_n S dX0_readMan_0 rfl (lv_at hl 0 rfl) ?_
  refine r_get (K := 3) (v := .ref (G.2.2.2.1 4)) S X (Nat.le_of_ble_eq_true rfl) rfl lk0_14_0 (fun _ => ⟨_, rfl, rfl⟩) dX0_readMan_1 ?_
  refine r_getn (K := 4) S X (Nat.le_of_ble_eq_true rfl) rfl lk0_143_2 (fun _ => ⟨_, rfl, rfl⟩) dX0_readMan_4 (fun v1 z2 => ?_)
  have r3 : R (0) (10) v1 := rd hI rfl z2
  refine r_bipush S dX0_readMan_7 (by decide) (fun v4 z5 => ?_)
  have r6 := R_eq z5
  refine r_icmp_lt (tgt := 18) S dX0_readMan_9 (by decide) (fun c7 => ?_) (fun c7 => ?_)
  ·
    have r8 : R (0) (9) v1 := ⟨by omega, by omega⟩
    refine r_aload_n S dX0_readMan_18 rfl (lv_at hl 0 rfl) ?_
    refine r_get (K := 3) (v := .ref (G.2.2.2.1 1)) S X (Nat.le_of_ble_eq_true rfl) rfl lk0_38_0 (fun _ => ⟨_, rfl, rfl⟩) dX0_readMan_19 ?_
    refine r_kv (q_V (As := []) (rest := []) (K := 1) (ci := 7) S X (c_X7_step l G τ hI ) ck0_102 (Nat.le_of_ble_eq_true rfl) rfl (fun _ => ⟨_, rfl⟩) ⟨_, _, rfl⟩ ⟨Nat.le_of_ble_eq_true rfl, Nat.le_of_ble_eq_true rfl⟩ rfl hl.1 rfl (Nat.le_of_ble_eq_true rfl) dX0_readMan_22 ⟨Nat.le_refl 0, Nat.le_refl 0⟩) X (fun t11 H lc q9 X10 => ?_)
    unfold po_X7_step at q9
    obtain ⟨q12, q13⟩ := q9
    have F14 : Fr [(3, 1), (3, 2), (4, 3), (1, 3), (1, 4), (1, 5), (1, 7), (1, 8)] [5, 8, 201, 210] τ t11 := Fr_call Fr_rfl q13 (by decide)
    refine r_aload_n S dX0_readMan_25 rfl (lv_at hl 0 rfl) ?_
    refine r_ki (q_V (As := []) (rest := []) (K := 3) (ci := 0) S X10 (c_X0_seeNewName l G t11 q12 ) ck0_136 (Nat.le_of_ble_eq_true rfl) rfl (fun _ => ⟨_, rfl⟩) ⟨_, _, rfl⟩ ⟨Nat.le_of_ble_eq_true rfl, Nat.le_of_ble_eq_true rfl⟩ rfl hl.1 rfl (Nat.le_of_ble_eq_true rfl) dX0_readMan_26 ⟨Nat.le_refl 0, Nat.le_refl 0⟩) X10 (fun v18 t17 H lc q15 X16 => ?_)
    unfold po_X0_seeNewName at q15
    obtain ⟨q19, q20, q21⟩ := q15
    have F22 : Fr [(3, 1), (3, 2), (4, 3), (1, 3), (1, 4), (1, 5), (1, 7), (1, 8)] [5, 8, 201, 210] τ t17 := Fr_call F14 q20 (by decide)
    refine r_if_ne (tgt := 34) S dX0_readMan_29 (by decide) (fun c23 => ?_) (fun c23 => ?_)
    ·
      have r24 : R (1) (1) v18 := ⟨by omega, by omega⟩
      refine r_aload_n S dX0_readMan_34 rfl (lv_at hl 0 rfl) ?_
      refine r_get (K := 3) (v := .ref (G.2.2.2.1 4)) S X16 (Nat.le_of_ble_eq_true rfl) rfl lk0_14_0 (fun _ => ⟨_, rfl, rfl⟩) dX0_readMan_35 ?_
      refine r_geti (K := 4) S X16 (Nat.le_of_ble_eq_true rfl) rfl lk0_143_2 (fun _ => ⟨_, rfl, rfl⟩) ((q20 4 3 (by decide)).trans ((q13 4 3 (by decide)).trans z2)) dX0_readMan_38 ?_
      refine r_istore_n (lv' := [(1, .int v1), (0, .ref (G.2.2.2.1 3))]) S dX0_readMan_41 rfl hl (by decide) rfl (fun ls hl => ?_)
      refine r_aload_n S dX0_readMan_42 rfl (lv_at hl 1 rfl) ?_
      refine r_get (K := 3) (v := .ref (G.2.2.2.1 4)) S X16 (Nat.le_of_ble_eq_true rfl) rfl lk0_14_0 (fun _ => ⟨_, rfl, rfl⟩) dX0_readMan_43 ?_
      refine r_get (K := 4) (v := .ref (G.2.2.2.1 10)) S X16 (Nat.le_of_ble_eq_true rfl) rfl lk0_146_2 (fun _ => ⟨_, rfl, rfl⟩) dX0_readMan_46 ?_
      refine r_iload_n S dX0_readMan_49 rfl (lv_at hl 0 rfl) ?_
      refine r_aload_n S dX0_readMan_50 rfl (lv_at hl 1 rfl) ?_
      refine r_get (K := 3) (v := .ref (G.2.2.2.1 1)) S X16 (Nat.le_of_ble_eq_true rfl) rfl lk0_38_0 (fun _ => ⟨_, rfl, rfl⟩) dX0_readMan_51 ?_
      refine r_getJ (K := 1) S X16 (Nat.le_of_ble_eq_true rfl) rfl lk0_118_7 (fun _ => ⟨_, rfl, rfl⟩) dX0_readMan_54 (fun j25 z26 => ?_)
      refine r_last (n := 10) (K := 10) S X16 (Nat.le_of_ble_eq_true rfl) rfl (fun _ => rfl) (ix_of r8 rfl) dX0_readMan_57 (fun t28 H lc M29 X27 => ?_)
      have I30 := Inv_ml q19 M29
      have F31 : Fr [(3, 1), (3, 2), (4, 3), (1, 3), (1, 4), (1, 5), (1, 7), (1, 8)] [5, 8, 201, 210] τ t28 := Fr_ml F22 M29 (by decide)
      refine r_aload_n S dX0_readMan_58 rfl (lv_at hl 1 rfl) ?_
      refine r_get (K := 3) (v := .ref (G.2.2.2.1 4)) S X27 (Nat.le_of_ble_eq_true rfl) rfl lk0_14_0 (fun _ => ⟨_, rfl, rfl⟩) dX0_readMan_59 ?_
      refine r_dup S dX0_readMan_62 rfl ?_
      refine r_geti (K := 4) S X27 (Nat.le_of_ble_eq_true rfl) rfl lk0_143_2 (fun _ => ⟨_, rfl, rfl⟩) ((M29.1 4 (by decide) 3).trans ((q20 4 3 (by decide)).trans ((q13 4 3 (by decide)).trans z2))) dX0_readMan_63 ?_
      refine r_iconst S dX0_readMan_66 (by decide) (fun v32 z33 => ?_)
      have r34 := R_eq z33
      refine r_iadd S dX0_readMan_67 (fun v35 z36 => ?_)
      obtain ⟨e37, r38⟩ := i_add (lo := 1) (hi := 10) z36 r8 r34 rfl
      refine r_put (K := 4) (ty := .int) S X27 (Nat.le_of_ble_eq_true rfl) rfl lk0_143_2 (fun _ => ⟨_, rfl, Nat.le_of_ble_eq_true rfl, rfl⟩) (fun _ _ _ h => by cases h; exact ⟨rfl, rfl⟩) rfl rfl dX0_readMan_68 (fun t39 H lc M40 X41 => ?_)
      have I42 := Inv_mu I30 M40 (show Rg (kd 4) 3 v35 from (R_of (lo := 0) (hi := 10) r38 rfl))
      have F43 : Fr [(3, 1), (3, 2), (4, 3), (1, 3), (1, 4), (1, 5), (1, 7), (1, 8)] [5, 8, 201, 210] τ t39 := Fr_mu F31 M40 (by decide)
      refine r_aload_n S dX0_readMan_71 rfl (lv_at hl 1 rfl) ?_
      refine r_get (K := 3) (v := .ref (G.2.2.2.1 1)) S X41 (Nat.le_of_ble_eq_true rfl) rfl lk0_38_0 (fun _ => ⟨_, rfl, rfl⟩) dX0_readMan_72 ?_
      refine r_kv (q_V (As := []) (rest := []) (K := 1) (ci := 7) S X41 (c_X7_step l G t39 I42 ) ck0_102 (Nat.le_of_ble_eq_true rfl) rfl (fun _ => ⟨_, rfl⟩) ⟨_, _, rfl⟩ ⟨Nat.le_of_ble_eq_true rfl, Nat.le_of_ble_eq_true rfl⟩ rfl hl.1 rfl (Nat.le_of_ble_eq_true rfl) dX0_readMan_75 ⟨Nat.le_refl 0, Nat.le_refl 0⟩) X41 (fun t46 H lc q44 X45 => ?_)
      unfold po_X7_step at q44
      obtain ⟨q47, q48⟩ := q44
      have F49 : Fr [(3, 1), (3, 2), (4, 3), (1, 3), (1, 4), (1, 5), (1, 7), (1, 8)] [5, 8, 201, 210] τ t46 := Fr_call F43 q48 (by decide)
      refine r_aload_n S dX0_readMan_78 rfl (lv_at hl 1 rfl) ?_
      refine r_iconst S dX0_readMan_79 (by decide) (fun v50 z51 => ?_)
      have r52 := R_eq z51
      refine r_bipush S dX0_readMan_80 (by decide) (fun v53 z54 => ?_)
      have r55 := R_eq z54
      refine r_ki (q_U (As := [.int v50, .int v53]) (rest := []) (K := 3) (ci := 0) S X45 (c_X8_takeNumber_3_0_20 l G t46 q47 v50 v53 r52 r55) ck0_105_0 (Nat.le_of_ble_eq_true rfl) rfl (fun _ => ⟨_, rfl⟩) ⟨_, _, rfl⟩ ⟨Nat.le_of_ble_eq_true rfl, Nat.le_of_ble_eq_true rfl⟩ rfl hl.1 rfl (Nat.le_of_ble_eq_true rfl) dX0_readMan_82 ⟨Nat.le_refl 0, Nat.le_refl 0⟩) X45 (fun v59 t58 H lc q56 X57 => ?_)
      unfold po_X8_takeNumber_3_0_20 at q56
      obtain ⟨q60, q61, q62, q63⟩ := q56
      have F64 : Fr [(3, 1), (3, 2), (4, 3), (1, 3), (1, 4), (1, 5), (1, 7), (1, 8)] [5, 8, 201, 210] τ t58 := Fr_call F49 q61 (by decide)
      refine r_if_ne (tgt := 90) S dX0_readMan_85 (by decide) (fun c65 => ?_) (fun c65 => ?_)
      ·
        have r66 : R (1) (1) v59 := ⟨by omega, by omega⟩
        have p67 := q63 (by omega)
        obtain ⟨v68, z69⟩ : ∃ x, t58 3 2 = x := ⟨_, rfl⟩
        rw [z69] at p67
        refine r_aload_n S dX0_readMan_90 rfl (lv_at hl 1 rfl) ?_
        refine r_get (K := 3) (v := .ref (G.2.2.2.1 4)) S X57 (Nat.le_of_ble_eq_true rfl) rfl lk0_14_0 (fun _ => ⟨_, rfl, rfl⟩) dX0_readMan_91 ?_
        refine r_get (K := 4) (v := .ref (G.2.2.2.1 5)) S X57 (Nat.le_of_ble_eq_true rfl) rfl lk0_149_2 (fun _ => ⟨_, rfl, rfl⟩) dX0_readMan_94 ?_
        refine r_iload_n S dX0_readMan_97 rfl (lv_at hl 0 rfl) ?_
        refine r_aload_n S dX0_readMan_98 rfl (lv_at hl 1 rfl) ?_
        refine r_geti (K := 3) S X57 (Nat.le_of_ble_eq_true rfl) rfl lk0_109_0 (fun _ => ⟨_, rfl, rfl⟩) z69 dX0_readMan_99 ?_
        refine r_ast (n := 10) (K := 5) S X57 (Nat.le_of_ble_eq_true rfl) rfl (fun _ _ => rfl) (ix_of r8 rfl) dX0_readMan_102 (fun t70 H lc M71 X72 => ?_)
        have I73 := Inv_mu q60 M71 (show Rg (kd 5) _ v68 from (R_of (lo := 0) (hi := 20) p67 rfl))
        have F74 : Fr [(3, 1), (3, 2), (4, 3), (1, 3), (1, 4), (1, 5), (1, 7), (1, 8)] [5, 8, 201, 210] τ t70 := Fr_cell F64 M71 (by decide)
        refine r_iconst S dX0_readMan_103 (by decide) (fun v75 z76 => ?_)
        have r77 := R_eq z76
        refine r_istore_n (lv' := [(2, .int v75), (1, .int v1), (0, .ref (G.2.2.2.1 3))]) S dX0_readMan_104 rfl hl (by decide) rfl (fun ls hl => ?_)
        have L404 : ∀ (n : Nat) (t399 : Tau) (H : Heap) (lc : List Loc) (ls : Array Slot) (i397 : Int32), Xd G s H lc t399 → Inv t399 → Fr [(3, 1), (3, 2), (4, 3), (1, 3), (1, 4), (1, 5), (1, 7), (1, 8)] [5, 8, 201, 210] τ t399 → R (0) (10) i397 → t399 4 3 = v35 → lv_has ls 3 [(0, .ref (G.2.2.2.1 3)), (1, .int v1), (2, .int i397)] → (10 - i397.toInt).toNat < n → W p l e (Rm 3 69) s m ([.ref (G.2.2.2.1 3)] : List Value).toArray below meth c H lc 0 0 (MQ below (va_Qi (po_X0_readMan τ    ) (Bs G) G.2.2.2.2) ([.ref (G.2.2.2.1 3)] : List Value).toArray s 0 0 G.2.2.2.2) (F0 m 105 ls []) := by
          intro n
          induction n with
          | zero => intros; omega
          | succ n ih405 =>
            intro t399 H lc ls i397 X402 I400 F401 r398 z403 hl hm
            refine r_iload_n S dX0_readMan_105 rfl (lv_at hl 2 rfl) ?_
            refine r_bipush S dX0_readMan_106 (by decide) (fun v406 z407 => ?_)
            have r408 := R_eq z407
            refine r_icmp_gt (tgt := 139) S dX0_readMan_108 (by decide) (fun c409 => ?_) (fun c409 => ?_)
            ·
              have r410 : R (10) (10) i397 := ⟨by omega, by omega⟩
              refine r_iconst S dX0_readMan_139 (by decide) (fun v411 z412 => ?_)
              have r413 := R_eq z412
              exact r_ret S hr hlk X402 ⟨I400, F401, (R_of r413 rfl)⟩ (nr_bool (R_of (lo := 0) (hi := 1) r413 rfl)) dX0_readMan_140
            ·
              have r414 : R (0) (9) i397 := ⟨by omega, by omega⟩
              refine r_aload_n S dX0_readMan_111 rfl (lv_at hl 0 rfl) ?_
              refine r_get (K := 3) (v := .ref (G.2.2.2.1 1)) S X402 (Nat.le_of_ble_eq_true rfl) rfl lk0_38_0 (fun _ => ⟨_, rfl, rfl⟩) dX0_readMan_112 ?_
              refine r_bipush S dX0_readMan_115 (by decide) (fun v415 z416 => ?_)
              have r417 := R_eq z416
              refine r_ki (q_V (As := [.int v415]) (rest := []) (K := 1) (ci := 7) S X402 (c_X7_isSigned l G t399 I400 v415 (R_of (lo := 0) (hi := 65535) r417 rfl)) ck0_153 (Nat.le_of_ble_eq_true rfl) rfl (fun _ => ⟨_, rfl⟩) ⟨_, _, rfl⟩ ⟨Nat.le_of_ble_eq_true rfl, Nat.le_of_ble_eq_true rfl⟩ rfl hl.1 rfl (Nat.le_of_ble_eq_true rfl) dX0_readMan_117 ⟨Nat.le_refl 0, Nat.le_refl 0⟩) X402 (fun v421 t420 H lc q418 X419 => ?_)
              unfold po_X7_isSigned at q418
              obtain ⟨q422, q423⟩ := q418
              rw [q422] at X419
              refine r_if_ne (tgt := 139) S dX0_readMan_120 (by decide) (fun c424 => ?_) (fun c424 => ?_)
              ·
                have r425 : R (1) (1) v421 := ⟨by omega, by omega⟩
                refine r_iconst S dX0_readMan_139 (by decide) (fun v426 z427 => ?_)
                have r428 := R_eq z427
                exact r_ret S hr hlk X419 ⟨I400, F401, (R_of r428 rfl)⟩ (nr_bool (R_of (lo := 0) (hi := 1) r428 rfl)) dX0_readMan_140
              ·
                have r429 : R (0) (0) v421 := ⟨by omega, by omega⟩
                refine r_aload_n S dX0_readMan_123 rfl (lv_at hl 0 rfl) ?_
                refine r_iload_n S dX0_readMan_124 rfl (lv_at hl 1 rfl) ?_
                refine r_ki (q_V (As := [.int v1]) (rest := []) (K := 3) (ci := 0) S X419 (c_X0_readOpinion l G t399 I400 v1 r8) ck0_156 (Nat.le_of_ble_eq_true rfl) rfl (fun _ => ⟨_, rfl⟩) ⟨_, _, rfl⟩ ⟨Nat.le_of_ble_eq_true rfl, Nat.le_of_ble_eq_true rfl⟩ rfl hl.1 rfl (Nat.le_of_ble_eq_true rfl) dX0_readMan_125 ⟨Nat.le_refl 0, Nat.le_refl 0⟩) X419 (fun v433 t432 H lc q430 X431 => ?_)
                unfold po_X0_readOpinion at q430
                obtain ⟨q434, q435, q436⟩ := q430
                have F437 : Fr [(3, 1), (3, 2), (4, 3), (1, 3), (1, 4), (1, 5), (1, 7), (1, 8)] [5, 8, 201, 210] τ t432 := Fr_call F401 q435 (by decide)
                refine r_if_ne (tgt := 133) S dX0_readMan_128 (by decide) (fun c438 => ?_) (fun c438 => ?_)
                ·
                  have r439 : R (1) (1) v433 := ⟨by omega, by omega⟩
                  refine r_iinc (k := 2) S dX0_readMan_133 hl rfl (by decide) (by decide) (fun v440 d441 ls z442 z443 hl => ?_)
                  obtain ⟨e444, r445⟩ := i_add (lo := 1) (hi := 10) z442 r414 (R_eq z443) rfl
                  have hl : lv_has ls 3 [(2, .int v440), (0, .ref (G.2.2.2.1 3)), (1, .int v1)] := hl
                  refine r_goto (tgt := 105) S dX0_readMan_136 (by decide) ?_
                  exact ih405 t432 _ _ _ v440 X431 q434 F437 (R_of r445 rfl) ((q435 4 3 (by decide)).trans z403) (lv_sub hl [1, 2, 0] rfl) (by omega)
                ·
                  have r446 : R (0) (0) v433 := ⟨by omega, by omega⟩
                  refine r_iconst S dX0_readMan_131 (by decide) (fun v447 z448 => ?_)
                  have r449 := R_eq z448
                  exact r_ret S hr hlk X431 ⟨q434, F437, (R_of r449 rfl)⟩ (nr_bool (R_of (lo := 0) (hi := 1) r449 rfl)) dX0_readMan_132
        exact L404 _ t70 _ _ _ v75 X72 I73 F74 (R_of r77 rfl) ((M71.2 4 3 (Or.inl (by decide))).trans ((q61 4 3 (by decide)).trans ((q48 4 3 (by decide)).trans M40.1))) (lv_sub hl [2, 1, 0] rfl) (Nat.lt_succ_self _)
      ·
        have r450 : R (0) (0) v59 := ⟨by omega, by omega⟩
        refine r_iconst S dX0_readMan_88 (by decide) (fun v451 z452 => ?_)
        have r453 := R_eq z452
        exact r_ret S hr hlk X57 ⟨q60, F64, (R_of r453 rfl)⟩ (nr_bool (R_of (lo := 0) (hi := 1) r453 rfl)) dX0_readMan_89
    ·
      have r454 : R (0) (0) v18 := ⟨by omega, by omega⟩
      refine r_iconst S dX0_readMan_32 (by decide) (fun v455 z456 => ?_)
      have r457 := R_eq z456
      exact r_ret S hr hlk X16 ⟨q19, F22, (R_of r457 rfl)⟩ (nr_bool (R_of (lo := 0) (hi := 1) r457 rfl)) dX0_readMan_33
  ·
    have r458 : R (10) (10) v1 := ⟨by omega, by omega⟩
    refine r_aload_n S dX0_readMan_12 rfl (lv_at hl 0 rfl) ?_
    refine r_iconst S dX0_readMan_13 (by decide) (fun v459 z460 => ?_)
    have r461 := R_eq z460
    refine r_ki (q_U (As := [.int v459]) (rest := []) (K := 3) (ci := 0) S X (c_X8_fail_3 l G τ hI v459 (R_of (lo := -2147483648) (hi := 2147483647) r461 rfl)) ck0_98_0 (Nat.le_of_ble_eq_true rfl) rfl (fun _ => ⟨_, rfl⟩) ⟨_, _, rfl⟩ ⟨Nat.le_of_ble_eq_true rfl, Nat.le_of_ble_eq_true rfl⟩ rfl hl.1 rfl (Nat.le_of_ble_eq_true rfl) dX0_readMan_14 ⟨Nat.le_refl 0, Nat.le_refl 0⟩) X (fun v465 t464 H lc q462 X463 => ?_)
    unfold po_X8_fail_3 at q462
    obtain ⟨q466, q467, q468⟩ := q462
    have F469 : Fr [(3, 1), (3, 2), (4, 3), (1, 3), (1, 4), (1, 5), (1, 7), (1, 8)] [5, 8, 201, 210] τ t464 := Fr_call Fr_rfl q467 (by decide)
    exact r_ret S hr hlk X463 ⟨q466, F469, (R_of q468 rfl)⟩ (nr_bool (R_of (lo := 0) (hi := 1) q468 rfl)) dX0_readMan_17
def po_X0_readChild (τ : Tau)     (r : Int32) (u : Tau) : Prop := Inv u ∧ Fr [(3, 1), (3, 2), (1, 3), (1, 4), (1, 5), (1, 7), (1, 8)] [6, 201] τ u ∧ R (0) (1) r
set_option maxHeartbeats 4000000 in
set_option maxRecDepth 100000 in
theorem c_X0_readChild (l : Launch) (G : Gx) (τ : Tau) (hI : Inv τ) : Ci l G yX0_readChild cX0_readChild 2 (some .boolean) 2 44 [.ref (G.2.2.2.1 3)] τ (po_X0_readChild τ    ) := by
  unfold Ci
  refine C_of (own := RX0) (by decide) rfl (Nat.le_of_ble_eq_true rfl) ?_
  intro p e s m below meth c ls S hr hlk X hl
  have hl : lv_has ls 2 [(0, .ref (G.2.2.2.1 3))] := hl
  refine r_aload_n S dX0_readChild_0 rfl (lv_at hl 0 rfl) ?_
  refine r_get (K := 3) (v := .ref (G.2.2.2.1 1)) S X (Nat.le_of_ble_eq_true rfl) rfl lk0_38_0 (fun _ => ⟨_, rfl, rfl⟩) dX0_readChild_1 ?_
  refine r_kv (q_V (As := []) (rest := []) (K := 1) (ci := 7) S X (c_X7_step l G τ hI ) ck0_102 (Nat.le_of_ble_eq_true rfl) rfl (fun _ => ⟨_, rfl⟩) ⟨_, _, rfl⟩ ⟨Nat.le_of_ble_eq_true rfl, Nat.le_of_ble_eq_true rfl⟩ rfl hl.1 rfl (Nat.le_of_ble_eq_true rfl) dX0_readChild_4 ⟨Nat.le_refl 0, Nat.le_refl 0⟩) X (fun t3 H lc q1 X2 => ?_)
  unfold po_X7_step at q1
  obtain ⟨q4, q5⟩ := q1
  have F6 : Fr [(3, 1), (3, 2), (1, 3), (1, 4), (1, 5), (1, 7), (1, 8)] [6, 201] τ t3 := Fr_call Fr_rfl q5 (by decide)
  refine r_aload_n S dX0_readChild_7 rfl (lv_at hl 0 rfl) ?_
  refine r_aload_n S dX0_readChild_8 rfl (lv_at hl 0 rfl) ?_
  refine r_get (K := 3) (v := .ref (G.2.2.2.1 4)) S X2 (Nat.le_of_ble_eq_true rfl) rfl lk0_14_0 (fun _ => ⟨_, rfl, rfl⟩) dX0_readChild_9 ?_
  refine r_ki (q_U (As := [.ref (G.2.2.2.1 4)]) (rest := []) (K := 3) (ci := 0) S X2 (c_X8_seeMan_3 l G t3 q4 ) ck0_169_0 (Nat.le_of_ble_eq_true rfl) rfl (fun _ => ⟨_, rfl⟩) ⟨_, _, rfl⟩ ⟨Nat.le_of_ble_eq_true rfl, Nat.le_of_ble_eq_true rfl⟩ rfl hl.1 rfl (Nat.le_of_ble_eq_true rfl) dX0_readChild_12 ⟨Nat.le_refl 0, Nat.le_refl 0⟩) X2 (fun v10 t9 H lc q7 X8 => ?_)
  unfold po_X8_seeMan_3 at q7
  obtain ⟨q11, q12, q13, q14⟩ := q7
  have F15 : Fr [(3, 1), (3, 2), (1, 3), (1, 4), (1, 5), (1, 7), (1, 8)] [6, 201] τ t9 := Fr_call F6 q12 (by decide)
  refine r_if_ne (tgt := 20) S dX0_readChild_15 (by decide) (fun c16 => ?_) (fun c16 => ?_)
  ·
    have r17 : R (1) (1) v10 := ⟨by omega, by omega⟩
    have p18 := q14 (by omega)
    obtain ⟨v19, z20⟩ : ∃ x, t9 3 2 = x := ⟨_, rfl⟩
    rw [z20] at p18
    refine r_aload_n S dX0_readChild_20 rfl (lv_at hl 0 rfl) ?_
    refine r_geti (K := 3) S X8 (Nat.le_of_ble_eq_true rfl) rfl lk0_109_0 (fun _ => ⟨_, rfl, rfl⟩) z20 dX0_readChild_21 ?_
    refine r_istore_n (lv' := [(1, .int v19), (0, .ref (G.2.2.2.1 3))]) S dX0_readChild_24 rfl hl (by decide) rfl (fun ls hl => ?_)
    refine r_aload_n S dX0_readChild_25 rfl (lv_at hl 1 rfl) ?_
    refine r_get (K := 3) (v := .ref (G.2.2.2.1 4)) S X8 (Nat.le_of_ble_eq_true rfl) rfl lk0_14_0 (fun _ => ⟨_, rfl, rfl⟩) dX0_readChild_26 ?_
    refine r_get (K := 4) (v := .ref (G.2.2.2.1 6)) S X8 (Nat.le_of_ble_eq_true rfl) rfl lk0_172_2 (fun _ => ⟨_, rfl, rfl⟩) dX0_readChild_29 ?_
    refine r_iload_n S dX0_readChild_32 rfl (lv_at hl 0 rfl) ?_
    refine r_aldn (n := 10) (K := 6) S X8 (Nat.le_of_ble_eq_true rfl) rfl (fun _ => rfl) (ix_of p18 rfl) dX0_readChild_33 (fun v21 z22 => ?_)
    have r23 : R (-1) (9) v21 := rd q11 rfl z22
    refine r_iconst S dX0_readChild_34 (by decide) (fun v24 z25 => ?_)
    have r26 := R_eq z25
    refine r_icmp_eq (tgt := 44) S dX0_readChild_35 (by decide) (fun c27 => ?_) (fun c27 => ?_)
    ·
      have r28 : R (-1) (-1) v21 := ⟨by omega, by omega⟩
      refine r_aload_n S dX0_readChild_44 rfl (lv_at hl 1 rfl) ?_
      refine r_get (K := 3) (v := .ref (G.2.2.2.1 1)) S X8 (Nat.le_of_ble_eq_true rfl) rfl lk0_38_0 (fun _ => ⟨_, rfl, rfl⟩) dX0_readChild_45 ?_
      refine r_kv (q_V (As := []) (rest := []) (K := 1) (ci := 7) S X8 (c_X7_step l G t9 q11 ) ck0_102 (Nat.le_of_ble_eq_true rfl) rfl (fun _ => ⟨_, rfl⟩) ⟨_, _, rfl⟩ ⟨Nat.le_of_ble_eq_true rfl, Nat.le_of_ble_eq_true rfl⟩ rfl hl.1 rfl (Nat.le_of_ble_eq_true rfl) dX0_readChild_48 ⟨Nat.le_refl 0, Nat.le_refl 0⟩) X8 (fun t31 H lc q29 X30 => ?_)
      unfold po_X7_step at q29
      obtain ⟨q32, q33⟩ := q29
      have F34 : Fr [(3, 1), (3, 2), (1, 3), (1, 4), (1, 5), (1, 7), (1, 8)] [6, 201] τ t31 := Fr_call F15 q33 (by decide)
      refine r_aload_n S dX0_readChild_51 rfl (lv_at hl 1 rfl) ?_
      refine r_aload_n S dX0_readChild_52 rfl (lv_at hl 1 rfl) ?_
      refine r_get (K := 3) (v := .ref (G.2.2.2.1 4)) S X30 (Nat.le_of_ble_eq_true rfl) rfl lk0_14_0 (fun _ => ⟨_, rfl, rfl⟩) dX0_readChild_53 ?_
      refine r_ki (q_U (As := [.ref (G.2.2.2.1 4)]) (rest := []) (K := 3) (ci := 0) S X30 (c_X8_seeMan_3 l G t31 q32 ) ck0_169_0 (Nat.le_of_ble_eq_true rfl) rfl (fun _ => ⟨_, rfl⟩) ⟨_, _, rfl⟩ ⟨Nat.le_of_ble_eq_true rfl, Nat.le_of_ble_eq_true rfl⟩ rfl hl.1 rfl (Nat.le_of_ble_eq_true rfl) dX0_readChild_56 ⟨Nat.le_refl 0, Nat.le_refl 0⟩) X30 (fun v38 t37 H lc q35 X36 => ?_)
      unfold po_X8_seeMan_3 at q35
      obtain ⟨q39, q40, q41, q42⟩ := q35
      have F43 : Fr [(3, 1), (3, 2), (1, 3), (1, 4), (1, 5), (1, 7), (1, 8)] [6, 201] τ t37 := Fr_call F34 q40 (by decide)
      refine r_if_ne (tgt := 64) S dX0_readChild_59 (by decide) (fun c44 => ?_) (fun c44 => ?_)
      ·
        have r45 : R (1) (1) v38 := ⟨by omega, by omega⟩
        have p46 := q42 (by omega)
        obtain ⟨v47, z48⟩ : ∃ x, t37 3 2 = x := ⟨_, rfl⟩
        rw [z48] at p46
        refine r_aload_n S dX0_readChild_64 rfl (lv_at hl 1 rfl) ?_
        refine r_geti (K := 3) S X36 (Nat.le_of_ble_eq_true rfl) rfl lk0_109_0 (fun _ => ⟨_, rfl, rfl⟩) z48 dX0_readChild_65 ?_
        refine r_iload_n S dX0_readChild_68 rfl (lv_at hl 0 rfl) ?_
        refine r_icmp_ne (tgt := 78) S dX0_readChild_69 (by decide) (fun c49 => ?_) (fun c49 => ?_)
        ·
          refine r_aload_n S dX0_readChild_78 rfl (lv_at hl 1 rfl) ?_
          refine r_get (K := 3) (v := .ref (G.2.2.2.1 4)) S X36 (Nat.le_of_ble_eq_true rfl) rfl lk0_14_0 (fun _ => ⟨_, rfl, rfl⟩) dX0_readChild_79 ?_
          refine r_get (K := 4) (v := .ref (G.2.2.2.1 6)) S X36 (Nat.le_of_ble_eq_true rfl) rfl lk0_172_2 (fun _ => ⟨_, rfl, rfl⟩) dX0_readChild_82 ?_
          refine r_iload_n S dX0_readChild_85 rfl (lv_at hl 0 rfl) ?_
          refine r_aload_n S dX0_readChild_86 rfl (lv_at hl 1 rfl) ?_
          refine r_geti (K := 3) S X36 (Nat.le_of_ble_eq_true rfl) rfl lk0_109_0 (fun _ => ⟨_, rfl, rfl⟩) z48 dX0_readChild_87 ?_
          refine r_ast (n := 10) (K := 6) S X36 (Nat.le_of_ble_eq_true rfl) rfl (fun _ _ => rfl) (ix_of p18 rfl) dX0_readChild_90 (fun t50 H lc M51 X52 => ?_)
          have I53 := Inv_mu q39 M51 (show Rg (kd 6) _ v47 from (R_of (lo := -1) (hi := 9) p46 rfl))
          have F54 : Fr [(3, 1), (3, 2), (1, 3), (1, 4), (1, 5), (1, 7), (1, 8)] [6, 201] τ t50 := Fr_cell F43 M51 (by decide)
          refine r_aload_n S dX0_readChild_91 rfl (lv_at hl 1 rfl) ?_
          refine r_get (K := 3) (v := .ref (G.2.2.2.1 1)) S X52 (Nat.le_of_ble_eq_true rfl) rfl lk0_38_0 (fun _ => ⟨_, rfl, rfl⟩) dX0_readChild_92 ?_
          refine r_kv (q_V (As := []) (rest := []) (K := 1) (ci := 7) S X52 (c_X7_step l G t50 I53 ) ck0_102 (Nat.le_of_ble_eq_true rfl) rfl (fun _ => ⟨_, rfl⟩) ⟨_, _, rfl⟩ ⟨Nat.le_of_ble_eq_true rfl, Nat.le_of_ble_eq_true rfl⟩ rfl hl.1 rfl (Nat.le_of_ble_eq_true rfl) dX0_readChild_95 ⟨Nat.le_refl 0, Nat.le_refl 0⟩) X52 (fun t57 H lc q55 X56 => ?_)
          unfold po_X7_step at q55
          obtain ⟨q58, q59⟩ := q55
          have F60 : Fr [(3, 1), (3, 2), (1, 3), (1, 4), (1, 5), (1, 7), (1, 8)] [6, 201] τ t57 := Fr_call F54 q59 (by decide)
          refine r_iconst S dX0_readChild_98 (by decide) (fun v61 z62 => ?_)
          have r63 := R_eq z62
          exact r_ret S hr hlk X56 ⟨q58, F60, (R_of r63 rfl)⟩ (nr_bool (R_of (lo := 0) (hi := 1) r63 rfl)) dX0_readChild_99
        ·
          refine r_aload_n S dX0_readChild_72 rfl (lv_at hl 1 rfl) ?_
          refine r_iconst S dX0_readChild_73 (by decide) (fun v64 z65 => ?_)
          have r66 := R_eq z65
          refine r_ki (q_U (As := [.int v64]) (rest := []) (K := 3) (ci := 0) S X36 (c_X8_fail_3 l G t37 q39 v64 (R_of (lo := -2147483648) (hi := 2147483647) r66 rfl)) ck0_98_0 (Nat.le_of_ble_eq_true rfl) rfl (fun _ => ⟨_, rfl⟩) ⟨_, _, rfl⟩ ⟨Nat.le_of_ble_eq_true rfl, Nat.le_of_ble_eq_true rfl⟩ rfl hl.1 rfl (Nat.le_of_ble_eq_true rfl) dX0_readChild_74 ⟨Nat.le_refl 0, Nat.le_refl 0⟩) X36 (fun v70 t69 H lc q67 X68 => ?_)
          unfold po_X8_fail_3 at q67
          obtain ⟨q71, q72, q73⟩ := q67
          have F74 : Fr [(3, 1), (3, 2), (1, 3), (1, 4), (1, 5), (1, 7), (1, 8)] [6, 201] τ t69 := Fr_call F43 q72 (by decide)
          exact r_ret S hr hlk X68 ⟨q71, F74, (R_of q73 rfl)⟩ (nr_bool (R_of (lo := 0) (hi := 1) q73 rfl)) dX0_readChild_77
      ·
        have r75 : R (0) (0) v38 := ⟨by omega, by omega⟩
        refine r_iconst S dX0_readChild_62 (by decide) (fun v76 z77 => ?_)
        have r78 := R_eq z77
        exact r_ret S hr hlk X36 ⟨q39, F43, (R_of r78 rfl)⟩ (nr_bool (R_of (lo := 0) (hi := 1) r78 rfl)) dX0_readChild_63
    ·
      have r79 : R (0) (9) v21 := ⟨by omega, by omega⟩
      refine r_aload_n S dX0_readChild_38 rfl (lv_at hl 1 rfl) ?_
      refine r_iconst S dX0_readChild_39 (by decide) (fun v80 z81 => ?_)
      have r82 := R_eq z81
      refine r_ki (q_U (As := [.int v80]) (rest := []) (K := 3) (ci := 0) S X8 (c_X8_fail_3 l G t9 q11 v80 (R_of (lo := -2147483648) (hi := 2147483647) r82 rfl)) ck0_98_0 (Nat.le_of_ble_eq_true rfl) rfl (fun _ => ⟨_, rfl⟩) ⟨_, _, rfl⟩ ⟨Nat.le_of_ble_eq_true rfl, Nat.le_of_ble_eq_true rfl⟩ rfl hl.1 rfl (Nat.le_of_ble_eq_true rfl) dX0_readChild_40 ⟨Nat.le_refl 0, Nat.le_refl 0⟩) X8 (fun v86 t85 H lc q83 X84 => ?_)
      unfold po_X8_fail_3 at q83
      obtain ⟨q87, q88, q89⟩ := q83
      have F90 : Fr [(3, 1), (3, 2), (1, 3), (1, 4), (1, 5), (1, 7), (1, 8)] [6, 201] τ t85 := Fr_call F15 q88 (by decide)
      exact r_ret S hr hlk X84 ⟨q87, F90, (R_of q89 rfl)⟩ (nr_bool (R_of (lo := 0) (hi := 1) q89 rfl)) dX0_readChild_43
  ·
    have r91 : R (0) (0) v10 := ⟨by omega, by omega⟩
    refine r_iconst S dX0_readChild_18 (by decide) (fun v92 z93 => ?_)
    have r94 := R_eq z93
    exact r_ret S hr hlk X8 ⟨q11, F15, (R_of r94 rfl)⟩ (nr_bool (R_of (lo := 0) (hi := 1) r94 rfl)) dX0_readChild_19
def po_X0_readKin (τ : Tau)     (r : Int32) (u : Tau) : Prop := Inv u ∧ Fr [(3, 1), (3, 2), (4, 4), (1, 3), (1, 4), (1, 5), (1, 7), (1, 8)] [7, 201] τ u ∧ R (0) (1) r
set_option maxHeartbeats 4000000 in
set_option maxRecDepth 100000 in
theorem c_X0_readKin (l : Launch) (G : Gx) (τ : Tau) (hI : Inv τ) : Ci l G yX0_readKin cX0_readKin 2 (some .boolean) 2 44 [.ref (G.2.2.2.1 3)] τ (po_X0_readKin τ    ) := by
  unfold Ci
  refine C_of (own := RX0) (by decide) rfl (Nat.le_of_ble_eq_true rfl) ?_
  intro p e s m below meth c ls S hr hlk X hl
  have hl : lv_has ls 2 [(0, .ref (G.2.2.2.1 3))] := hl
  refine r_aload_n S dX0_readKin_0 rfl (lv_at hl 0 rfl) ?_
  refine r_get (K := 3) (v := .ref (G.2.2.2.1 1)) S X (Nat.le_of_ble_eq_true rfl) rfl lk0_38_0 (fun _ => ⟨_, rfl, rfl⟩) dX0_readKin_1 ?_
  refine r_kv (q_V (As := []) (rest := []) (K := 1) (ci := 7) S X (c_X7_step l G τ hI ) ck0_102 (Nat.le_of_ble_eq_true rfl) rfl (fun _ => ⟨_, rfl⟩) ⟨_, _, rfl⟩ ⟨Nat.le_of_ble_eq_true rfl, Nat.le_of_ble_eq_true rfl⟩ rfl hl.1 rfl (Nat.le_of_ble_eq_true rfl) dX0_readKin_4 ⟨Nat.le_refl 0, Nat.le_refl 0⟩) X (fun t3 H lc q1 X2 => ?_)
  unfold po_X7_step at q1
  obtain ⟨q4, q5⟩ := q1
  have F6 : Fr [(3, 1), (3, 2), (4, 4), (1, 3), (1, 4), (1, 5), (1, 7), (1, 8)] [7, 201] τ t3 := Fr_call Fr_rfl q5 (by decide)
  refine r_aload_n S dX0_readKin_7 rfl (lv_at hl 0 rfl) ?_
  refine r_aload_n S dX0_readKin_8 rfl (lv_at hl 0 rfl) ?_
  refine r_get (K := 3) (v := .ref (G.2.2.2.1 4)) S X2 (Nat.le_of_ble_eq_true rfl) rfl lk0_14_0 (fun _ => ⟨_, rfl, rfl⟩) dX0_readKin_9 ?_
  refine r_ki (q_U (As := [.ref (G.2.2.2.1 4)]) (rest := []) (K := 3) (ci := 0) S X2 (c_X8_seeMan_3 l G t3 q4 ) ck0_169_0 (Nat.le_of_ble_eq_true rfl) rfl (fun _ => ⟨_, rfl⟩) ⟨_, _, rfl⟩ ⟨Nat.le_of_ble_eq_true rfl, Nat.le_of_ble_eq_true rfl⟩ rfl hl.1 rfl (Nat.le_of_ble_eq_true rfl) dX0_readKin_12 ⟨Nat.le_refl 0, Nat.le_refl 0⟩) X2 (fun v10 t9 H lc q7 X8 => ?_)
  unfold po_X8_seeMan_3 at q7
  obtain ⟨q11, q12, q13, q14⟩ := q7
  have F15 : Fr [(3, 1), (3, 2), (4, 4), (1, 3), (1, 4), (1, 5), (1, 7), (1, 8)] [7, 201] τ t9 := Fr_call F6 q12 (by decide)
  refine r_if_ne (tgt := 20) S dX0_readKin_15 (by decide) (fun c16 => ?_) (fun c16 => ?_)
  ·
    have r17 : R (1) (1) v10 := ⟨by omega, by omega⟩
    have p18 := q14 (by omega)
    obtain ⟨v19, z20⟩ : ∃ x, t9 3 2 = x := ⟨_, rfl⟩
    rw [z20] at p18
    refine r_aload_n S dX0_readKin_20 rfl (lv_at hl 0 rfl) ?_
    refine r_geti (K := 3) S X8 (Nat.le_of_ble_eq_true rfl) rfl lk0_109_0 (fun _ => ⟨_, rfl, rfl⟩) z20 dX0_readKin_21 ?_
    refine r_istore_n (lv' := [(1, .int v19), (0, .ref (G.2.2.2.1 3))]) S dX0_readKin_24 rfl hl (by decide) rfl (fun ls hl => ?_)
    refine r_aload_n S dX0_readKin_25 rfl (lv_at hl 1 rfl) ?_
    refine r_get (K := 3) (v := .ref (G.2.2.2.1 1)) S X8 (Nat.le_of_ble_eq_true rfl) rfl lk0_38_0 (fun _ => ⟨_, rfl, rfl⟩) dX0_readKin_26 ?_
    refine r_kv (q_V (As := []) (rest := []) (K := 1) (ci := 7) S X8 (c_X7_step l G t9 q11 ) ck0_102 (Nat.le_of_ble_eq_true rfl) rfl (fun _ => ⟨_, rfl⟩) ⟨_, _, rfl⟩ ⟨Nat.le_of_ble_eq_true rfl, Nat.le_of_ble_eq_true rfl⟩ rfl hl.1 rfl (Nat.le_of_ble_eq_true rfl) dX0_readKin_29 ⟨Nat.le_refl 0, Nat.le_refl 0⟩) X8 (fun t23 H lc q21 X22 => ?_)
    unfold po_X7_step at q21
    obtain ⟨q24, q25⟩ := q21
    have F26 : Fr [(3, 1), (3, 2), (4, 4), (1, 3), (1, 4), (1, 5), (1, 7), (1, 8)] [7, 201] τ t23 := Fr_call F15 q25 (by decide)
    refine r_aload_n S dX0_readKin_32 rfl (lv_at hl 1 rfl) ?_
    refine r_aload_n S dX0_readKin_33 rfl (lv_at hl 1 rfl) ?_
    refine r_get (K := 3) (v := .ref (G.2.2.2.1 4)) S X22 (Nat.le_of_ble_eq_true rfl) rfl lk0_14_0 (fun _ => ⟨_, rfl, rfl⟩) dX0_readKin_34 ?_
    refine r_ki (q_U (As := [.ref (G.2.2.2.1 4)]) (rest := []) (K := 3) (ci := 0) S X22 (c_X8_seeMan_3 l G t23 q24 ) ck0_169_0 (Nat.le_of_ble_eq_true rfl) rfl (fun _ => ⟨_, rfl⟩) ⟨_, _, rfl⟩ ⟨Nat.le_of_ble_eq_true rfl, Nat.le_of_ble_eq_true rfl⟩ rfl hl.1 rfl (Nat.le_of_ble_eq_true rfl) dX0_readKin_37 ⟨Nat.le_refl 0, Nat.le_refl 0⟩) X22 (fun v30 t29 H lc q27 X28 => ?_)
    unfold po_X8_seeMan_3 at q27
    obtain ⟨q31, q32, q33, q34⟩ := q27
    have F35 : Fr [(3, 1), (3, 2), (4, 4), (1, 3), (1, 4), (1, 5), (1, 7), (1, 8)] [7, 201] τ t29 := Fr_call F26 q32 (by decide)
    refine r_if_ne (tgt := 45) S dX0_readKin_40 (by decide) (fun c36 => ?_) (fun c36 => ?_)
    ·
      have r37 : R (1) (1) v30 := ⟨by omega, by omega⟩
      have p38 := q34 (by omega)
      obtain ⟨v39, z40⟩ : ∃ x, t29 3 2 = x := ⟨_, rfl⟩
      rw [z40] at p38
      refine r_aload_n S dX0_readKin_45 rfl (lv_at hl 1 rfl) ?_
      refine r_geti (K := 3) S X28 (Nat.le_of_ble_eq_true rfl) rfl lk0_109_0 (fun _ => ⟨_, rfl, rfl⟩) z40 dX0_readKin_46 ?_
      refine r_iload_n S dX0_readKin_49 rfl (lv_at hl 0 rfl) ?_
      refine r_icmp_eq (tgt := 73) S dX0_readKin_50 (by decide) (fun c41 => ?_) (fun c41 => ?_)
      ·
        refine r_aload_n S dX0_readKin_73 rfl (lv_at hl 1 rfl) ?_
        refine r_iconst S dX0_readKin_74 (by decide) (fun v42 z43 => ?_)
        have r44 := R_eq z43
        refine r_ki (q_U (As := [.int v42]) (rest := []) (K := 3) (ci := 0) S X28 (c_X8_fail_3 l G t29 q31 v42 (R_of (lo := -2147483648) (hi := 2147483647) r44 rfl)) ck0_98_0 (Nat.le_of_ble_eq_true rfl) rfl (fun _ => ⟨_, rfl⟩) ⟨_, _, rfl⟩ ⟨Nat.le_of_ble_eq_true rfl, Nat.le_of_ble_eq_true rfl⟩ rfl hl.1 rfl (Nat.le_of_ble_eq_true rfl) dX0_readKin_75 ⟨Nat.le_refl 0, Nat.le_refl 0⟩) X28 (fun v48 t47 H lc q45 X46 => ?_)
        unfold po_X8_fail_3 at q45
        obtain ⟨q49, q50, q51⟩ := q45
        have F52 : Fr [(3, 1), (3, 2), (4, 4), (1, 3), (1, 4), (1, 5), (1, 7), (1, 8)] [7, 201] τ t47 := Fr_call F35 q50 (by decide)
        exact r_ret S hr hlk X46 ⟨q49, F52, (R_of q51 rfl)⟩ (nr_bool (R_of (lo := 0) (hi := 1) q51 rfl)) dX0_readKin_78
      ·
        refine r_aload_n S dX0_readKin_53 rfl (lv_at hl 1 rfl) ?_
        refine r_get (K := 3) (v := .ref (G.2.2.2.1 4)) S X28 (Nat.le_of_ble_eq_true rfl) rfl lk0_14_0 (fun _ => ⟨_, rfl, rfl⟩) dX0_readKin_54 ?_
        refine r_get (K := 4) (v := .ref (G.2.2.2.1 7)) S X28 (Nat.le_of_ble_eq_true rfl) rfl lk0_175_2 (fun _ => ⟨_, rfl, rfl⟩) dX0_readKin_57 ?_
        refine r_iload_n S dX0_readKin_60 rfl (lv_at hl 0 rfl) ?_
        refine r_aldn (n := 10) (K := 7) S X28 (Nat.le_of_ble_eq_true rfl) rfl (fun _ => rfl) (ix_of p18 rfl) dX0_readKin_61 (fun v53 z54 => ?_)
        have r55 : R (0) (1023) v53 := rd q31 rfl z54
        refine r_aload_n S dX0_readKin_62 rfl (lv_at hl 1 rfl) ?_
        refine r_geti (K := 3) S X28 (Nat.le_of_ble_eq_true rfl) rfl lk0_109_0 (fun _ => ⟨_, rfl, rfl⟩) z40 dX0_readKin_63 ?_
        refine r_ki (q_N (As := [.int v53, .int v39]) (rest := []) S X28 (c_X11_bit l G t29 q31 v53 v39 (R_of (lo := -2147483648) (hi := 2147483647) r55 rfl) (R_of (lo := -2147483648) (hi := 2147483647) p38 rfl)) ck0_178 ⟨Nat.le_of_ble_eq_true rfl, Nat.le_of_ble_eq_true rfl⟩ rfl hl.1 rfl (Nat.le_of_ble_eq_true rfl) dX0_readKin_66 ⟨Nat.le_refl 0, Nat.le_refl 0⟩) X28 (fun v59 t58 H lc q56 X57 => ?_)
        unfold po_X11_bit at q56
        obtain ⟨q60, q61⟩ := q56
        rw [q60] at X57
        refine r_iconst S dX0_readKin_69 (by decide) (fun v62 z63 => ?_)
        have r64 := R_eq z63
        refine r_icmp_ne (tgt := 79) S dX0_readKin_70 (by decide) (fun c65 => ?_) (fun c65 => ?_)
        ·
          have r66 : R (0) (0) v59 := ⟨by omega, by omega⟩
          refine r_aload_n S dX0_readKin_79 rfl (lv_at hl 1 rfl) ?_
          refine r_get (K := 3) (v := .ref (G.2.2.2.1 4)) S X57 (Nat.le_of_ble_eq_true rfl) rfl lk0_14_0 (fun _ => ⟨_, rfl, rfl⟩) dX0_readKin_80 ?_
          refine r_get (K := 4) (v := .ref (G.2.2.2.1 7)) S X57 (Nat.le_of_ble_eq_true rfl) rfl lk0_175_2 (fun _ => ⟨_, rfl, rfl⟩) dX0_readKin_83 ?_
          refine r_iload_n S dX0_readKin_86 rfl (lv_at hl 0 rfl) ?_
          refine r_dup2 S dX0_readKin_87 rfl rfl ?_
          refine r_aldn (n := 10) (K := 7) S X57 (Nat.le_of_ble_eq_true rfl) rfl (fun _ => rfl) (ix_of p18 rfl) dX0_readKin_88 (fun v67 z68 => ?_)
          have r69 : R (0) (1023) v67 := rd q31 rfl z68
          refine r_iconst S dX0_readKin_89 (by decide) (fun v70 z71 => ?_)
          have r72 := R_eq z71
          refine r_aload_n S dX0_readKin_90 rfl (lv_at hl 1 rfl) ?_
          refine r_geti (K := 3) S X57 (Nat.le_of_ble_eq_true rfl) rfl lk0_109_0 (fun _ => ⟨_, rfl, rfl⟩) z40 dX0_readKin_91 ?_
          refine r_ishl S dX0_readKin_94 (fun v73 z74 => ?_)
          have r76 : R (1) (512) v73 := i_shl z74 r72 p38 rfl
          refine r_ior S dX0_readKin_95 (fun v77 z78 => ?_)
          have r80 : R (0) (1023) v77 := i_or 10 z78 r69 r76 rfl
          refine r_ast (n := 10) (K := 7) S X57 (Nat.le_of_ble_eq_true rfl) rfl (fun _ _ => rfl) (ix_of p18 rfl) dX0_readKin_96 (fun t81 H lc M82 X83 => ?_)
          have I84 := Inv_mu q31 M82 (show Rg (kd 7) _ v77 from (R_of (lo := 0) (hi := 1023) r80 rfl))
          have F85 : Fr [(3, 1), (3, 2), (4, 4), (1, 3), (1, 4), (1, 5), (1, 7), (1, 8)] [7, 201] τ t81 := Fr_cell F35 M82 (by decide)
          refine r_aload_n S dX0_readKin_97 rfl (lv_at hl 1 rfl) ?_
          refine r_get (K := 3) (v := .ref (G.2.2.2.1 4)) S X83 (Nat.le_of_ble_eq_true rfl) rfl lk0_14_0 (fun _ => ⟨_, rfl, rfl⟩) dX0_readKin_98 ?_
          refine r_get (K := 4) (v := .ref (G.2.2.2.1 7)) S X83 (Nat.le_of_ble_eq_true rfl) rfl lk0_175_2 (fun _ => ⟨_, rfl, rfl⟩) dX0_readKin_101 ?_
          refine r_aload_n S dX0_readKin_104 rfl (lv_at hl 1 rfl) ?_
          refine r_geti (K := 3) S X83 (Nat.le_of_ble_eq_true rfl) rfl lk0_109_0 (fun _ => ⟨_, rfl, rfl⟩) ((M82.2 3 2 (Or.inl (by decide))).trans z40) dX0_readKin_105 ?_
          refine r_dup2 S dX0_readKin_108 rfl rfl ?_
          refine r_aldn (n := 10) (K := 7) S X83 (Nat.le_of_ble_eq_true rfl) rfl (fun _ => rfl) (ix_of p38 rfl) dX0_readKin_109 (fun v86 z87 => ?_)
          have r88 : R (0) (1023) v86 := rd I84 rfl z87
          refine r_iconst S dX0_readKin_110 (by decide) (fun v89 z90 => ?_)
          have r91 := R_eq z90
          refine r_iload_n S dX0_readKin_111 rfl (lv_at hl 0 rfl) ?_
          refine r_ishl S dX0_readKin_112 (fun v92 z93 => ?_)
          have r95 : R (1) (512) v92 := i_shl z93 r91 p18 rfl
          refine r_ior S dX0_readKin_113 (fun v96 z97 => ?_)
          have r99 : R (0) (1023) v96 := i_or 10 z97 r88 r95 rfl
          refine r_ast (n := 10) (K := 7) S X83 (Nat.le_of_ble_eq_true rfl) rfl (fun _ _ => rfl) (ix_of p38 rfl) dX0_readKin_114 (fun t100 H lc M101 X102 => ?_)
          have I103 := Inv_mu I84 M101 (show Rg (kd 7) _ v96 from (R_of (lo := 0) (hi := 1023) r99 rfl))
          have F104 : Fr [(3, 1), (3, 2), (4, 4), (1, 3), (1, 4), (1, 5), (1, 7), (1, 8)] [7, 201] τ t100 := Fr_cell F85 M101 (by decide)
          refine r_aload_n S dX0_readKin_115 rfl (lv_at hl 1 rfl) ?_
          refine r_get (K := 3) (v := .ref (G.2.2.2.1 4)) S X102 (Nat.le_of_ble_eq_true rfl) rfl lk0_14_0 (fun _ => ⟨_, rfl, rfl⟩) dX0_readKin_116 ?_
          refine r_dup S dX0_readKin_119 rfl ?_
          refine r_getn (K := 4) S X102 (Nat.le_of_ble_eq_true rfl) rfl lk0_182_2 (fun _ => ⟨_, rfl, rfl⟩) dX0_readKin_120 (fun v105 z106 => ?_)
          have r108 := R_any v105
          refine r_iconst S dX0_readKin_123 (by decide) (fun v109 z110 => ?_)
          have r111 := R_eq z110
          refine r_iadd S dX0_readKin_124 (fun v112 z113 => ?_)
          have r114 := R_any v112
          refine r_put (K := 4) (ty := .int) S X102 (Nat.le_of_ble_eq_true rfl) rfl lk0_182_2 (fun _ => ⟨_, rfl, Nat.le_of_ble_eq_true rfl, rfl⟩) (fun _ _ _ h => by cases h; exact ⟨rfl, rfl⟩) rfl rfl dX0_readKin_125 (fun t115 H lc M116 X117 => ?_)
          have I118 := Inv_mu I103 M116 (R_any v112)
          have F119 : Fr [(3, 1), (3, 2), (4, 4), (1, 3), (1, 4), (1, 5), (1, 7), (1, 8)] [7, 201] τ t115 := Fr_mu F104 M116 (by decide)
          refine r_aload_n S dX0_readKin_128 rfl (lv_at hl 1 rfl) ?_
          refine r_get (K := 3) (v := .ref (G.2.2.2.1 1)) S X117 (Nat.le_of_ble_eq_true rfl) rfl lk0_38_0 (fun _ => ⟨_, rfl, rfl⟩) dX0_readKin_129 ?_
          refine r_kv (q_V (As := []) (rest := []) (K := 1) (ci := 7) S X117 (c_X7_step l G t115 I118 ) ck0_102 (Nat.le_of_ble_eq_true rfl) rfl (fun _ => ⟨_, rfl⟩) ⟨_, _, rfl⟩ ⟨Nat.le_of_ble_eq_true rfl, Nat.le_of_ble_eq_true rfl⟩ rfl hl.1 rfl (Nat.le_of_ble_eq_true rfl) dX0_readKin_132 ⟨Nat.le_refl 0, Nat.le_refl 0⟩) X117 (fun t122 H lc q120 X121 => ?_)
          unfold po_X7_step at q120
          obtain ⟨q123, q124⟩ := q120
          have F125 : Fr [(3, 1), (3, 2), (4, 4), (1, 3), (1, 4), (1, 5), (1, 7), (1, 8)] [7, 201] τ t122 := Fr_call F119 q124 (by decide)
          refine r_iconst S dX0_readKin_135 (by decide) (fun v126 z127 => ?_)
          have r128 := R_eq z127
          exact r_ret S hr hlk X121 ⟨q123, F125, (R_of r128 rfl)⟩ (nr_bool (R_of (lo := 0) (hi := 1) r128 rfl)) dX0_readKin_136
        ·
          have r129 : R (1) (1) v59 := ⟨by omega, by omega⟩
          refine r_aload_n S dX0_readKin_73 rfl (lv_at hl 1 rfl) ?_
          refine r_iconst S dX0_readKin_74 (by decide) (fun v130 z131 => ?_)
          have r132 := R_eq z131
          refine r_ki (q_U (As := [.int v130]) (rest := []) (K := 3) (ci := 0) S X57 (c_X8_fail_3 l G t29 q31 v130 (R_of (lo := -2147483648) (hi := 2147483647) r132 rfl)) ck0_98_0 (Nat.le_of_ble_eq_true rfl) rfl (fun _ => ⟨_, rfl⟩) ⟨_, _, rfl⟩ ⟨Nat.le_of_ble_eq_true rfl, Nat.le_of_ble_eq_true rfl⟩ rfl hl.1 rfl (Nat.le_of_ble_eq_true rfl) dX0_readKin_75 ⟨Nat.le_refl 0, Nat.le_refl 0⟩) X57 (fun v136 t135 H lc q133 X134 => ?_)
          unfold po_X8_fail_3 at q133
          obtain ⟨q137, q138, q139⟩ := q133
          have F140 : Fr [(3, 1), (3, 2), (4, 4), (1, 3), (1, 4), (1, 5), (1, 7), (1, 8)] [7, 201] τ t135 := Fr_call F35 q138 (by decide)
          exact r_ret S hr hlk X134 ⟨q137, F140, (R_of q139 rfl)⟩ (nr_bool (R_of (lo := 0) (hi := 1) q139 rfl)) dX0_readKin_78
    ·
      have r141 : R (0) (0) v30 := ⟨by omega, by omega⟩
      refine r_iconst S dX0_readKin_43 (by decide) (fun v142 z143 => ?_)
      have r144 := R_eq z143
      exact r_ret S hr hlk X28 ⟨q31, F35, (R_of r144 rfl)⟩ (nr_bool (R_of (lo := 0) (hi := 1) r144 rfl)) dX0_readKin_44
  ·
    have r145 : R (0) (0) v10 := ⟨by omega, by omega⟩
    refine r_iconst S dX0_readKin_18 (by decide) (fun v146 z147 => ?_)
    have r148 := R_eq z147
    exact r_ret S hr hlk X8 ⟨q11, F15, (R_of r148 rfl)⟩ (nr_bool (R_of (lo := 0) (hi := 1) r148 rfl)) dX0_readKin_19
def po_X0_readLine (τ : Tau)     (r : Int32) (u : Tau) : Prop := Inv u ∧ Fr [(3, 1), (3, 2), (3, 5), (3, 6), (4, 0), (4, 1), (4, 2), (4, 3), (4, 4), (1, 3), (1, 4), (1, 5), (1, 7), (1, 8)] [5, 6, 7, 8, 201, 210, 209] τ u ∧ R (0) (1) r
set_option maxHeartbeats 4000000 in
set_option maxRecDepth 100000 in
theorem c_X0_readLine (l : Launch) (G : Gx) (τ : Tau) (hI : Inv τ) : Ci l G yX0_readLine cX0_readLine 1 (some .boolean) 4 91 [.ref (G.2.2.2.1 3)] τ (po_X0_readLine τ    ) := by
  unfold Ci
  refine C_of (own := RX0) (by decide) rfl (Nat.le_of_ble_eq_true rfl) ?_
  intro p e s m below meth c ls S hr hlk X hl
  have hl : lv_has ls 1 [(0, .ref (G.2.2.2.1 3))] := hl
  refine r_aload_n S dX0_readLine_0 rfl (lv_at hl 0 rfl) ?_
  refine r_get (K := 3) (v := .ref (G.2.2.2.1 1)) S X (Nat.le_of_ble_eq_true rfl) rfl lk0_38_0 (fun _ => ⟨_, rfl, rfl⟩) dX0_readLine_1 ?_
  refine r_wst (i := 0) S X (by decide) kw18 dX0_readLine_4 ?_
  refine r_ki (q_V (As := [.ref (G.2.2.1 0)]) (rest := []) (K := 1) (ci := 7) S X (c_X7_is l G τ hI 0 (by decide)) ck0_61 (Nat.le_of_ble_eq_true rfl) rfl (fun _ => ⟨_, rfl⟩) ⟨_, _, rfl⟩ ⟨Nat.le_of_ble_eq_true rfl, Nat.le_of_ble_eq_true rfl⟩ rfl hl.1 rfl (Nat.le_of_ble_eq_true rfl) dX0_readLine_7 ⟨Nat.le_refl 0, Nat.le_refl 0⟩) X (fun v4 t3 H lc q1 X2 => ?_)
  unfold po_X7_is at q1
  obtain ⟨q5, q6⟩ := q1
  rw [q5] at X2
  refine r_if_eq (tgt := 18) S dX0_readLine_10 (by decide) (fun c7 => ?_) (fun c7 => ?_)
  ·
    have r8 : R (0) (0) v4 := ⟨by omega, by omega⟩
    refine r_aload_n S dX0_readLine_18 rfl (lv_at hl 0 rfl) ?_
    refine r_get (K := 3) (v := .ref (G.2.2.2.1 1)) S X2 (Nat.le_of_ble_eq_true rfl) rfl lk0_38_0 (fun _ => ⟨_, rfl, rfl⟩) dX0_readLine_19 ?_
    refine r_wst (i := 1) S X2 (by decide) kw19 dX0_readLine_22 ?_
    refine r_ki (q_V (As := [.ref (G.2.2.1 1)]) (rest := []) (K := 1) (ci := 7) S X2 (c_X7_is l G τ hI 1 (by decide)) ck0_61 (Nat.le_of_ble_eq_true rfl) rfl (fun _ => ⟨_, rfl⟩) ⟨_, _, rfl⟩ ⟨Nat.le_of_ble_eq_true rfl, Nat.le_of_ble_eq_true rfl⟩ rfl hl.1 rfl (Nat.le_of_ble_eq_true rfl) dX0_readLine_25 ⟨Nat.le_refl 0, Nat.le_refl 0⟩) X2 (fun v12 t11 H lc q9 X10 => ?_)
    unfold po_X7_is at q9
    obtain ⟨q13, q14⟩ := q9
    rw [q13] at X10
    refine r_if_eq (tgt := 36) S dX0_readLine_28 (by decide) (fun c15 => ?_) (fun c15 => ?_)
    ·
      have r16 : R (0) (0) v12 := ⟨by omega, by omega⟩
      refine r_aload_n S dX0_readLine_36 rfl (lv_at hl 0 rfl) ?_
      refine r_get (K := 3) (v := .ref (G.2.2.2.1 1)) S X10 (Nat.le_of_ble_eq_true rfl) rfl lk0_38_0 (fun _ => ⟨_, rfl, rfl⟩) dX0_readLine_37 ?_
      refine r_wst (i := 2) S X10 (by decide) kw20 dX0_readLine_40 ?_
      refine r_ki (q_V (As := [.ref (G.2.2.1 2)]) (rest := []) (K := 1) (ci := 7) S X10 (c_X7_is l G τ hI 2 (by decide)) ck0_61 (Nat.le_of_ble_eq_true rfl) rfl (fun _ => ⟨_, rfl⟩) ⟨_, _, rfl⟩ ⟨Nat.le_of_ble_eq_true rfl, Nat.le_of_ble_eq_true rfl⟩ rfl hl.1 rfl (Nat.le_of_ble_eq_true rfl) dX0_readLine_43 ⟨Nat.le_refl 0, Nat.le_refl 0⟩) X10 (fun v20 t19 H lc q17 X18 => ?_)
      unfold po_X7_is at q17
      obtain ⟨q21, q22⟩ := q17
      rw [q21] at X18
      refine r_if_eq (tgt := 54) S dX0_readLine_46 (by decide) (fun c23 => ?_) (fun c23 => ?_)
      ·
        have r24 : R (0) (0) v20 := ⟨by omega, by omega⟩
        refine r_aload_n S dX0_readLine_54 rfl (lv_at hl 0 rfl) ?_
        refine r_get (K := 3) (v := .ref (G.2.2.2.1 1)) S X18 (Nat.le_of_ble_eq_true rfl) rfl lk0_38_0 (fun _ => ⟨_, rfl, rfl⟩) dX0_readLine_55 ?_
        refine r_wst (i := 3) S X18 (by decide) kw21 dX0_readLine_58 ?_
        refine r_ki (q_V (As := [.ref (G.2.2.1 3)]) (rest := []) (K := 1) (ci := 7) S X18 (c_X7_is l G τ hI 3 (by decide)) ck0_61 (Nat.le_of_ble_eq_true rfl) rfl (fun _ => ⟨_, rfl⟩) ⟨_, _, rfl⟩ ⟨Nat.le_of_ble_eq_true rfl, Nat.le_of_ble_eq_true rfl⟩ rfl hl.1 rfl (Nat.le_of_ble_eq_true rfl) dX0_readLine_61 ⟨Nat.le_refl 0, Nat.le_refl 0⟩) X18 (fun v28 t27 H lc q25 X26 => ?_)
        unfold po_X7_is at q25
        obtain ⟨q29, q30⟩ := q25
        rw [q29] at X26
        refine r_if_eq (tgt := 72) S dX0_readLine_64 (by decide) (fun c31 => ?_) (fun c31 => ?_)
        ·
          have r32 : R (0) (0) v28 := ⟨by omega, by omega⟩
          refine r_aload_n S dX0_readLine_72 rfl (lv_at hl 0 rfl) ?_
          refine r_get (K := 3) (v := .ref (G.2.2.2.1 1)) S X26 (Nat.le_of_ble_eq_true rfl) rfl lk0_38_0 (fun _ => ⟨_, rfl, rfl⟩) dX0_readLine_73 ?_
          refine r_wst (i := 6) S X26 (by decide) kw22 dX0_readLine_76 ?_
          refine r_ki (q_V (As := [.ref (G.2.2.1 6)]) (rest := []) (K := 1) (ci := 7) S X26 (c_X7_is l G τ hI 6 (by decide)) ck0_61 (Nat.le_of_ble_eq_true rfl) rfl (fun _ => ⟨_, rfl⟩) ⟨_, _, rfl⟩ ⟨Nat.le_of_ble_eq_true rfl, Nat.le_of_ble_eq_true rfl⟩ rfl hl.1 rfl (Nat.le_of_ble_eq_true rfl) dX0_readLine_79 ⟨Nat.le_refl 0, Nat.le_refl 0⟩) X26 (fun v36 t35 H lc q33 X34 => ?_)
          unfold po_X7_is at q33
          obtain ⟨q37, q38⟩ := q33
          rw [q37] at X34
          refine r_if_eq (tgt := 90) S dX0_readLine_82 (by decide) (fun c39 => ?_) (fun c39 => ?_)
          ·
            have r40 : R (0) (0) v36 := ⟨by omega, by omega⟩
            refine r_aload_n S dX0_readLine_90 rfl (lv_at hl 0 rfl) ?_
            refine r_get (K := 3) (v := .ref (G.2.2.2.1 1)) S X34 (Nat.le_of_ble_eq_true rfl) rfl lk0_38_0 (fun _ => ⟨_, rfl, rfl⟩) dX0_readLine_91 ?_
            refine r_wst (i := 7) S X34 (by decide) kw23 dX0_readLine_94 ?_
            refine r_ki (q_V (As := [.ref (G.2.2.1 7)]) (rest := []) (K := 1) (ci := 7) S X34 (c_X7_is l G τ hI 7 (by decide)) ck0_61 (Nat.le_of_ble_eq_true rfl) rfl (fun _ => ⟨_, rfl⟩) ⟨_, _, rfl⟩ ⟨Nat.le_of_ble_eq_true rfl, Nat.le_of_ble_eq_true rfl⟩ rfl hl.1 rfl (Nat.le_of_ble_eq_true rfl) dX0_readLine_97 ⟨Nat.le_refl 0, Nat.le_refl 0⟩) X34 (fun v44 t43 H lc q41 X42 => ?_)
            unfold po_X7_is at q41
            obtain ⟨q45, q46⟩ := q41
            rw [q45] at X42
            refine r_if_eq (tgt := 108) S dX0_readLine_100 (by decide) (fun c47 => ?_) (fun c47 => ?_)
            ·
              have r48 : R (0) (0) v44 := ⟨by omega, by omega⟩
              refine r_aload_n S dX0_readLine_108 rfl (lv_at hl 0 rfl) ?_
              refine r_iconst S dX0_readLine_109 (by decide) (fun v49 z50 => ?_)
              have r51 := R_eq z50
              refine r_ki (q_U (As := [.int v49]) (rest := []) (K := 3) (ci := 0) S X42 (c_X8_fail_3 l G τ hI v49 (R_of (lo := -2147483648) (hi := 2147483647) r51 rfl)) ck0_98_0 (Nat.le_of_ble_eq_true rfl) rfl (fun _ => ⟨_, rfl⟩) ⟨_, _, rfl⟩ ⟨Nat.le_of_ble_eq_true rfl, Nat.le_of_ble_eq_true rfl⟩ rfl hl.1 rfl (Nat.le_of_ble_eq_true rfl) dX0_readLine_110 ⟨Nat.le_refl 0, Nat.le_refl 0⟩) X42 (fun v55 t54 H lc q52 X53 => ?_)
              unfold po_X8_fail_3 at q52
              obtain ⟨q56, q57, q58⟩ := q52
              have F59 : Fr [(3, 1), (3, 2), (3, 5), (3, 6), (4, 0), (4, 1), (4, 2), (4, 3), (4, 4), (1, 3), (1, 4), (1, 5), (1, 7), (1, 8)] [5, 6, 7, 8, 201, 210, 209] τ t54 := Fr_call Fr_rfl q57 (by decide)
              exact r_ret S hr hlk X53 ⟨q56, F59, (R_of q58 rfl)⟩ (nr_bool (R_of (lo := 0) (hi := 1) q58 rfl)) dX0_readLine_113
            ·
              have r60 : R (1) (1) v44 := ⟨by omega, by omega⟩
              refine r_aload_n S dX0_readLine_103 rfl (lv_at hl 0 rfl) ?_
              refine r_ki (q_V (As := []) (rest := []) (K := 3) (ci := 0) S X42 (c_X0_readKin l G τ hI ) ck0_95 (Nat.le_of_ble_eq_true rfl) rfl (fun _ => ⟨_, rfl⟩) ⟨_, _, rfl⟩ ⟨Nat.le_of_ble_eq_true rfl, Nat.le_of_ble_eq_true rfl⟩ rfl hl.1 rfl (Nat.le_of_ble_eq_true rfl) dX0_readLine_104 ⟨Nat.le_refl 0, Nat.le_refl 0⟩) X42 (fun v64 t63 H lc q61 X62 => ?_)
              unfold po_X0_readKin at q61
              obtain ⟨q65, q66, q67⟩ := q61
              have F68 : Fr [(3, 1), (3, 2), (3, 5), (3, 6), (4, 0), (4, 1), (4, 2), (4, 3), (4, 4), (1, 3), (1, 4), (1, 5), (1, 7), (1, 8)] [5, 6, 7, 8, 201, 210, 209] τ t63 := Fr_call Fr_rfl q66 (by decide)
              exact r_ret S hr hlk X62 ⟨q65, F68, q67⟩ (nr_bool (R_of (lo := 0) (hi := 1) q67 rfl)) dX0_readLine_107
          ·
            have r69 : R (1) (1) v36 := ⟨by omega, by omega⟩
            refine r_aload_n S dX0_readLine_85 rfl (lv_at hl 0 rfl) ?_
            refine r_ki (q_V (As := []) (rest := []) (K := 3) (ci := 0) S X34 (c_X0_readChild l G τ hI ) ck0_89 (Nat.le_of_ble_eq_true rfl) rfl (fun _ => ⟨_, rfl⟩) ⟨_, _, rfl⟩ ⟨Nat.le_of_ble_eq_true rfl, Nat.le_of_ble_eq_true rfl⟩ rfl hl.1 rfl (Nat.le_of_ble_eq_true rfl) dX0_readLine_86 ⟨Nat.le_refl 0, Nat.le_refl 0⟩) X34 (fun v73 t72 H lc q70 X71 => ?_)
            unfold po_X0_readChild at q70
            obtain ⟨q74, q75, q76⟩ := q70
            have F77 : Fr [(3, 1), (3, 2), (3, 5), (3, 6), (4, 0), (4, 1), (4, 2), (4, 3), (4, 4), (1, 3), (1, 4), (1, 5), (1, 7), (1, 8)] [5, 6, 7, 8, 201, 210, 209] τ t72 := Fr_call Fr_rfl q75 (by decide)
            exact r_ret S hr hlk X71 ⟨q74, F77, q76⟩ (nr_bool (R_of (lo := 0) (hi := 1) q76 rfl)) dX0_readLine_89
        ·
          have r78 : R (1) (1) v28 := ⟨by omega, by omega⟩
          refine r_aload_n S dX0_readLine_67 rfl (lv_at hl 0 rfl) ?_
          refine r_ki (q_V (As := []) (rest := []) (K := 3) (ci := 0) S X26 (c_X0_readMan l G τ hI ) ck0_83 (Nat.le_of_ble_eq_true rfl) rfl (fun _ => ⟨_, rfl⟩) ⟨_, _, rfl⟩ ⟨Nat.le_of_ble_eq_true rfl, Nat.le_of_ble_eq_true rfl⟩ rfl hl.1 rfl (Nat.le_of_ble_eq_true rfl) dX0_readLine_68 ⟨Nat.le_refl 0, Nat.le_refl 0⟩) X26 (fun v82 t81 H lc q79 X80 => ?_)
          unfold po_X0_readMan at q79
          obtain ⟨q83, q84, q85⟩ := q79
          have F86 : Fr [(3, 1), (3, 2), (3, 5), (3, 6), (4, 0), (4, 1), (4, 2), (4, 3), (4, 4), (1, 3), (1, 4), (1, 5), (1, 7), (1, 8)] [5, 6, 7, 8, 201, 210, 209] τ t81 := Fr_call Fr_rfl q84 (by decide)
          exact r_ret S hr hlk X80 ⟨q83, F86, q85⟩ (nr_bool (R_of (lo := 0) (hi := 1) q85 rfl)) dX0_readLine_71
      ·
        have r87 : R (1) (1) v20 := ⟨by omega, by omega⟩
        refine r_aload_n S dX0_readLine_49 rfl (lv_at hl 0 rfl) ?_
        refine r_ki (q_V (As := []) (rest := []) (K := 3) (ci := 0) S X18 (c_X0_readAsk l G τ hI ) ck0_77 (Nat.le_of_ble_eq_true rfl) rfl (fun _ => ⟨_, rfl⟩) ⟨_, _, rfl⟩ ⟨Nat.le_of_ble_eq_true rfl, Nat.le_of_ble_eq_true rfl⟩ rfl hl.1 rfl (Nat.le_of_ble_eq_true rfl) dX0_readLine_50 ⟨Nat.le_refl 0, Nat.le_refl 0⟩) X18 (fun v91 t90 H lc q88 X89 => ?_)
        unfold po_X0_readAsk at q88
        obtain ⟨q92, q93, q94⟩ := q88
        have F95 : Fr [(3, 1), (3, 2), (3, 5), (3, 6), (4, 0), (4, 1), (4, 2), (4, 3), (4, 4), (1, 3), (1, 4), (1, 5), (1, 7), (1, 8)] [5, 6, 7, 8, 201, 210, 209] τ t90 := Fr_call Fr_rfl q93 (by decide)
        exact r_ret S hr hlk X89 ⟨q92, F95, q94⟩ (nr_bool (R_of (lo := 0) (hi := 1) q94 rfl)) dX0_readLine_53
    ·
      have r96 : R (1) (1) v12 := ⟨by omega, by omega⟩
      refine r_aload_n S dX0_readLine_31 rfl (lv_at hl 0 rfl) ?_
      refine r_ki (q_V (As := []) (rest := []) (K := 3) (ci := 0) S X10 (c_X0_readSlack l G τ hI ) ck0_71 (Nat.le_of_ble_eq_true rfl) rfl (fun _ => ⟨_, rfl⟩) ⟨_, _, rfl⟩ ⟨Nat.le_of_ble_eq_true rfl, Nat.le_of_ble_eq_true rfl⟩ rfl hl.1 rfl (Nat.le_of_ble_eq_true rfl) dX0_readLine_32 ⟨Nat.le_refl 0, Nat.le_refl 0⟩) X10 (fun v100 t99 H lc q97 X98 => ?_)
      unfold po_X0_readSlack at q97
      obtain ⟨q101, q102, q103⟩ := q97
      have F104 : Fr [(3, 1), (3, 2), (3, 5), (3, 6), (4, 0), (4, 1), (4, 2), (4, 3), (4, 4), (1, 3), (1, 4), (1, 5), (1, 7), (1, 8)] [5, 6, 7, 8, 201, 210, 209] τ t99 := Fr_call Fr_rfl q102 (by decide)
      exact r_ret S hr hlk X98 ⟨q101, F104, q103⟩ (nr_bool (R_of (lo := 0) (hi := 1) q103 rfl)) dX0_readLine_35
  ·
    have r105 : R (1) (1) v4 := ⟨by omega, by omega⟩
    refine r_aload_n S dX0_readLine_13 rfl (lv_at hl 0 rfl) ?_
    refine r_ki (q_V (As := []) (rest := []) (K := 3) (ci := 0) S X2 (c_X0_readSeats l G τ hI ) ck0_65 (Nat.le_of_ble_eq_true rfl) rfl (fun _ => ⟨_, rfl⟩) ⟨_, _, rfl⟩ ⟨Nat.le_of_ble_eq_true rfl, Nat.le_of_ble_eq_true rfl⟩ rfl hl.1 rfl (Nat.le_of_ble_eq_true rfl) dX0_readLine_14 ⟨Nat.le_refl 0, Nat.le_refl 0⟩) X2 (fun v109 t108 H lc q106 X107 => ?_)
    unfold po_X0_readSeats at q106
    obtain ⟨q110, q111, q112⟩ := q106
    have F113 : Fr [(3, 1), (3, 2), (3, 5), (3, 6), (4, 0), (4, 1), (4, 2), (4, 3), (4, 4), (1, 3), (1, 4), (1, 5), (1, 7), (1, 8)] [5, 6, 7, 8, 201, 210, 209] τ t108 := Fr_call Fr_rfl q111 (by decide)
    exact r_ret S hr hlk X107 ⟨q110, F113, q112⟩ (nr_bool (R_of (lo := 0) (hi := 1) q112 rfl)) dX0_readLine_17
def po_X0_read (τ : Tau)     (r : Int32) (u : Tau) : Prop := Inv u ∧ Fr [(3, 1), (3, 2), (3, 5), (3, 6), (4, 0), (4, 1), (4, 2), (4, 3), (4, 4), (1, 3), (1, 4), (1, 5), (1, 7), (1, 8), (3, 4), (1, 2)] [5, 6, 7, 8, 201, 210, 209] τ u ∧ R (0) (1) r
set_option maxHeartbeats 4000000 in
set_option maxRecDepth 100000 in
theorem c_X0_read (l : Launch) (G : Gx) (τ : Tau) (hI : Inv τ) : Ci l G yX0_read cX0_read 1 (some .boolean) 5 111 [.ref (G.2.2.2.1 3)] τ (po_X0_read τ    ) := by
  unfold Ci
  refine C_of (own := RX0) (by decide) rfl (Nat.le_of_ble_eq_true rfl) ?_
  intro p e s m below meth c ls S hr hlk X hl
  have hl : lv_has ls 1 [(0, .ref (G.2.2.2.1 3))] := hl
  refine r_aload_n S dX0_read_0 rfl (lv_at hl 0 rfl) ?_
  refine r_get (K := 3) (v := .ref (G.2.2.2.1 4)) S X (Nat.le_of_ble_eq_true rfl) rfl lk0_14_0 (fun _ => ⟨_, rfl, rfl⟩) dX0_read_1 ?_
  refine r_kv (q_V (As := []) (rest := []) (K := 4) (ci := 2) S X (c_X2_clear l G τ hI 4 (Nat.le_of_ble_eq_true rfl) rfl) ck0_20 (Nat.le_of_ble_eq_true rfl) rfl (fun _ => ⟨_, rfl⟩) ⟨_, _, rfl⟩ ⟨Nat.le_of_ble_eq_true rfl, Nat.le_of_ble_eq_true rfl⟩ rfl hl.1 rfl (Nat.le_of_ble_eq_true rfl) dX0_read_4 ⟨Nat.le_refl 0, Nat.le_refl 0⟩) X (fun t3 H lc q1 X2 => ?_)
  unfold po_X2_clear at q1
  obtain ⟨q4, q5⟩ := q1
  have F6 : Fr [(3, 1), (3, 2), (3, 5), (3, 6), (4, 0), (4, 1), (4, 2), (4, 3), (4, 4), (1, 3), (1, 4), (1, 5), (1, 7), (1, 8), (3, 4), (1, 2)] [5, 6, 7, 8, 201, 210, 209] τ t3 := Fr_call Fr_rfl q5 (by decide)
  refine r_aload_n S dX0_read_7 rfl (lv_at hl 0 rfl) ?_
  refine r_iconst S dX0_read_8 (by decide) (fun v7 z8 => ?_)
  have r9 := R_eq z8
  refine r_put (K := 3) (ty := .int) S X2 (Nat.le_of_ble_eq_true rfl) rfl lk0_23_0 (fun _ => ⟨_, rfl, Nat.le_of_ble_eq_true rfl, rfl⟩) (fun _ _ _ h => by cases h; exact ⟨rfl, rfl⟩) rfl rfl dX0_read_9 (fun t10 H lc M11 X12 => ?_)
  have I13 := Inv_mu q4 M11 (show Rg (kd 3) 4 v7 from (R_of (lo := 0) (hi := 940) r9 rfl))
  have F14 : Fr [(3, 1), (3, 2), (3, 5), (3, 6), (4, 0), (4, 1), (4, 2), (4, 3), (4, 4), (1, 3), (1, 4), (1, 5), (1, 7), (1, 8), (3, 4), (1, 2)] [5, 6, 7, 8, 201, 210, 209] τ t10 := Fr_mu F6 M11 (by decide)
  refine r_aload_n S dX0_read_12 rfl (lv_at hl 0 rfl) ?_
  refine r_iconst S dX0_read_13 (by decide) (fun v15 z16 => ?_)
  have r17 := R_eq z16
  refine r_put (K := 3) (ty := .boolean) S X12 (Nat.le_of_ble_eq_true rfl) rfl lk0_27_0 (fun _ => ⟨_, rfl, Nat.le_of_ble_eq_true rfl, rfl⟩) (fun _ _ _ h => by cases h; exact ⟨rfl, rfl⟩) (nr_bool (R_of (lo := 0) (hi := 1) r17 rfl)) (ft_bool (R_of (lo := 0) (hi := 1) r17 rfl)) dX0_read_14 (fun t18 H lc M19 X20 => ?_)
  have I21 := Inv_mu I13 M19 (show Rg (kd 3) 5 v15 from (R_of (lo := 0) (hi := 1) r17 rfl))
  have F22 : Fr [(3, 1), (3, 2), (3, 5), (3, 6), (4, 0), (4, 1), (4, 2), (4, 3), (4, 4), (1, 3), (1, 4), (1, 5), (1, 7), (1, 8), (3, 4), (1, 2)] [5, 6, 7, 8, 201, 210, 209] τ t18 := Fr_mu F14 M19 (by decide)
  refine r_aload_n S dX0_read_17 rfl (lv_at hl 0 rfl) ?_
  refine r_iconst S dX0_read_18 (by decide) (fun v23 z24 => ?_)
  have r25 := R_eq z24
  refine r_put (K := 3) (ty := .boolean) S X20 (Nat.le_of_ble_eq_true rfl) rfl lk0_31_0 (fun _ => ⟨_, rfl, Nat.le_of_ble_eq_true rfl, rfl⟩) (fun _ _ _ h => by cases h; exact ⟨rfl, rfl⟩) (nr_bool (R_of (lo := 0) (hi := 1) r25 rfl)) (ft_bool (R_of (lo := 0) (hi := 1) r25 rfl)) dX0_read_19 (fun t26 H lc M27 X28 => ?_)
  have I29 := Inv_mu I21 M27 (show Rg (kd 3) 6 v23 from (R_of (lo := 0) (hi := 1) r25 rfl))
  have F30 : Fr [(3, 1), (3, 2), (3, 5), (3, 6), (4, 0), (4, 1), (4, 2), (4, 3), (4, 4), (1, 3), (1, 4), (1, 5), (1, 7), (1, 8), (3, 4), (1, 2)] [5, 6, 7, 8, 201, 210, 209] τ t26 := Fr_mu F22 M27 (by decide)
  refine r_aload_n S dX0_read_22 rfl (lv_at hl 0 rfl) ?_
  refine r_sipush S dX0_read_23 (by decide) (fun v31 z32 => ?_)
  have r33 := R_eq z32
  refine r_kv (q_U (As := [.int v31]) (rest := []) (K := 3) (ci := 0) S X28 (c_X8_open_3 l G t26 I29 v31 (R_of (lo := 0) (hi := 900) r33 rfl)) ck0_34_0 (Nat.le_of_ble_eq_true rfl) rfl (fun _ => ⟨_, rfl⟩) ⟨_, _, rfl⟩ ⟨Nat.le_of_ble_eq_true rfl, Nat.le_of_ble_eq_true rfl⟩ rfl hl.1 rfl (Nat.le_of_ble_eq_true rfl) dX0_read_26 ⟨Nat.le_refl 0, Nat.le_refl 0⟩) X28 (fun t36 H lc q34 X35 => ?_)
  unfold po_X8_open_3 at q34
  obtain ⟨q37, q38⟩ := q34
  have F39 : Fr [(3, 1), (3, 2), (3, 5), (3, 6), (4, 0), (4, 1), (4, 2), (4, 3), (4, 4), (1, 3), (1, 4), (1, 5), (1, 7), (1, 8), (3, 4), (1, 2)] [5, 6, 7, 8, 201, 210, 209] τ t36 := Fr_call F30 q38 (by decide)
  have L1771 : ∀ (n : Nat) (t1764 : Tau) (H : Heap) (lc : List Loc) (ls : Array Slot) (f1768 : Int32), Xd G s H lc t1764 → Inv t1764 → Fr [(3, 1), (3, 2), (3, 5), (3, 6), (4, 0), (4, 1), (4, 2), (4, 3), (4, 4), (1, 3), (1, 4), (1, 5), (1, 7), (1, 8), (3, 4), (1, 2)] [5, 6, 7, 8, 201, 210, 209] τ t1764 → t1764 3 4 = f1768 → R (0) (940) f1768 → lv_has ls 1 [(0, .ref (G.2.2.2.1 3))] → (940 - f1768.toInt).toNat < n → W p l e (Rm 5 111) s m ([.ref (G.2.2.2.1 3)] : List Value).toArray below meth c H lc 0 0 (MQ below (va_Qi (po_X0_read τ    ) (Bs G) G.2.2.2.2) ([.ref (G.2.2.2.1 3)] : List Value).toArray s 0 0 G.2.2.2.2) (F0 m 29 ls []) := by
    intro n
    induction n with
    | zero => intros; omega
    | succ n ih1772 =>
      intro t1764 H lc ls f1768 X1767 I1765 F1766 z1770 r1769 hl hm
      refine r_aload_n S dX0_read_29 rfl (lv_at hl 0 rfl) ?_
      refine r_geti (K := 3) S X1767 (Nat.le_of_ble_eq_true rfl) rfl lk0_23_0 (fun _ => ⟨_, rfl, rfl⟩) z1770 dX0_read_30 ?_
      refine r_sipush S dX0_read_33 (by decide) (fun v1773 z1774 => ?_)
      have r1775 := R_eq z1774
      refine r_icmp_ge (tgt := 80) S dX0_read_36 (by decide) (fun c1776 => ?_) (fun c1776 => ?_)
      ·
        have r1777 : R (940) (940) f1768 := ⟨by omega, by omega⟩
        refine r_iconst S dX0_read_80 (by decide) (fun v1778 z1779 => ?_)
        have r1780 := R_eq z1779
        exact r_ret S hr hlk X1767 ⟨I1765, F1766, (R_of r1780 rfl)⟩ (nr_bool (R_of (lo := 0) (hi := 1) r1780 rfl)) dX0_read_81
      ·
        have r1781 : R (0) (939) f1768 := ⟨by omega, by omega⟩
        refine r_aload_n S dX0_read_39 rfl (lv_at hl 0 rfl) ?_
        refine r_get (K := 3) (v := .ref (G.2.2.2.1 1)) S X1767 (Nat.le_of_ble_eq_true rfl) rfl lk0_38_0 (fun _ => ⟨_, rfl, rfl⟩) dX0_read_40 ?_
        refine r_getn (K := 1) S X1767 (Nat.le_of_ble_eq_true rfl) rfl lk0_42_7 (fun _ => ⟨_, rfl, rfl⟩) dX0_read_43 (fun v1782 z1783 => ?_)
        have r1784 : R (0) (4) v1782 := rd I1765 rfl z1783
        refine r_if_eq (tgt := 80) S dX0_read_46 (by decide) (fun c1785 => ?_) (fun c1785 => ?_)
        ·
          have r1786 : R (0) (0) v1782 := ⟨by omega, by omega⟩
          refine r_iconst S dX0_read_80 (by decide) (fun v1787 z1788 => ?_)
          have r1789 := R_eq z1788
          exact r_ret S hr hlk X1767 ⟨I1765, F1766, (R_of r1789 rfl)⟩ (nr_bool (R_of (lo := 0) (hi := 1) r1789 rfl)) dX0_read_81
        ·
          have r1790 : R (1) (4) v1782 := ⟨by omega, by omega⟩
          refine r_aload_n S dX0_read_49 rfl (lv_at hl 0 rfl) ?_
          refine r_ki (q_V (As := []) (rest := []) (K := 3) (ci := 0) S X1767 (c_X0_readLine l G t1764 I1765 ) ck0_47 (Nat.le_of_ble_eq_true rfl) rfl (fun _ => ⟨_, rfl⟩) ⟨_, _, rfl⟩ ⟨Nat.le_of_ble_eq_true rfl, Nat.le_of_ble_eq_true rfl⟩ rfl hl.1 rfl (Nat.le_of_ble_eq_true rfl) dX0_read_50 ⟨Nat.le_refl 0, Nat.le_refl 0⟩) X1767 (fun v1794 t1793 H lc q1791 X1792 => ?_)
          unfold po_X0_readLine at q1791
          obtain ⟨q1795, q1796, q1797⟩ := q1791
          have F1798 : Fr [(3, 1), (3, 2), (3, 5), (3, 6), (4, 0), (4, 1), (4, 2), (4, 3), (4, 4), (1, 3), (1, 4), (1, 5), (1, 7), (1, 8), (3, 4), (1, 2)] [5, 6, 7, 8, 201, 210, 209] τ t1793 := Fr_call F1766 q1796 (by decide)
          refine r_if_eq (tgt := 65) S dX0_read_53 (by decide) (fun c1799 => ?_) (fun c1799 => ?_)
          ·
            have r1800 : R (0) (0) v1794 := ⟨by omega, by omega⟩
            refine r_iconst S dX0_read_65 (by decide) (fun v1801 z1802 => ?_)
            have r1803 := R_eq z1802
            exact r_ret S hr hlk X1792 ⟨q1795, F1798, (R_of r1803 rfl)⟩ (nr_bool (R_of (lo := 0) (hi := 1) r1803 rfl)) dX0_read_66
          ·
            have r1804 : R (1) (1) v1794 := ⟨by omega, by omega⟩
            refine r_aload_n S dX0_read_56 rfl (lv_at hl 0 rfl) ?_
            refine r_bipush S dX0_read_57 (by decide) (fun v1805 z1806 => ?_)
            have r1807 := R_eq z1806
            refine r_ki (q_U (As := [.int v1805]) (rest := []) (K := 3) (ci := 0) S X1792 (c_X8_takeSign_3 l G t1793 q1795 v1805 (R_of (lo := 0) (hi := 65535) r1807 rfl)) ck0_51_0 (Nat.le_of_ble_eq_true rfl) rfl (fun _ => ⟨_, rfl⟩) ⟨_, _, rfl⟩ ⟨Nat.le_of_ble_eq_true rfl, Nat.le_of_ble_eq_true rfl⟩ rfl hl.1 rfl (Nat.le_of_ble_eq_true rfl) dX0_read_59 ⟨Nat.le_refl 0, Nat.le_refl 0⟩) X1792 (fun v1811 t1810 H lc q1808 X1809 => ?_)
            unfold po_X8_takeSign_3 at q1808
            obtain ⟨q1812, q1813, q1814⟩ := q1808
            have F1815 : Fr [(3, 1), (3, 2), (3, 5), (3, 6), (4, 0), (4, 1), (4, 2), (4, 3), (4, 4), (1, 3), (1, 4), (1, 5), (1, 7), (1, 8), (3, 4), (1, 2)] [5, 6, 7, 8, 201, 210, 209] τ t1810 := Fr_call F1798 q1813 (by decide)
            refine r_if_ne (tgt := 67) S dX0_read_62 (by decide) (fun c1816 => ?_) (fun c1816 => ?_)
            ·
              have r1817 : R (1) (1) v1811 := ⟨by omega, by omega⟩
              refine r_aload_n S dX0_read_67 rfl (lv_at hl 0 rfl) ?_
              refine r_dup S dX0_read_68 rfl ?_
              refine r_geti (K := 3) S X1809 (Nat.le_of_ble_eq_true rfl) rfl lk0_23_0 (fun _ => ⟨_, rfl, rfl⟩) ((q1813 3 4 (by decide)).trans ((q1796 3 4 (by decide)).trans z1770)) dX0_read_69 ?_
              refine r_iconst S dX0_read_72 (by decide) (fun v1818 z1819 => ?_)
              have r1820 := R_eq z1819
              refine r_iadd S dX0_read_73 (fun v1821 z1822 => ?_)
              obtain ⟨e1823, r1824⟩ := i_add (lo := 1) (hi := 940) z1822 r1781 r1820 rfl
              refine r_put (K := 3) (ty := .int) S X1809 (Nat.le_of_ble_eq_true rfl) rfl lk0_23_0 (fun _ => ⟨_, rfl, Nat.le_of_ble_eq_true rfl, rfl⟩) (fun _ _ _ h => by cases h; exact ⟨rfl, rfl⟩) rfl rfl dX0_read_74 (fun t1825 H lc M1826 X1827 => ?_)
              have I1828 := Inv_mu q1812 M1826 (show Rg (kd 3) 4 v1821 from (R_of (lo := 0) (hi := 940) r1824 rfl))
              have F1829 : Fr [(3, 1), (3, 2), (3, 5), (3, 6), (4, 0), (4, 1), (4, 2), (4, 3), (4, 4), (1, 3), (1, 4), (1, 5), (1, 7), (1, 8), (3, 4), (1, 2)] [5, 6, 7, 8, 201, 210, 209] τ t1825 := Fr_mu F1815 M1826 (by decide)
              refine r_goto (tgt := 29) S dX0_read_77 (by decide) ?_
              exact ih1772 t1825 _ _ _ v1821 X1827 I1828 F1829 M1826.1 ⟨by omega, by omega⟩ (lv_sub hl [0] rfl) (by omega)
            ·
              have r1830 : R (0) (0) v1811 := ⟨by omega, by omega⟩
              refine r_iconst S dX0_read_65 (by decide) (fun v1831 z1832 => ?_)
              have r1833 := R_eq z1832
              exact r_ret S hr hlk X1809 ⟨q1812, F1815, (R_of r1833 rfl)⟩ (nr_bool (R_of (lo := 0) (hi := 1) r1833 rfl)) dX0_read_66
  exact L1771 _ t36 _ _ _ v7 X35 q37 F39 ((q38 3 4 (by decide)).trans ((M27.2 3 4 (Or.inr (by decide))).trans ((M19.2 3 4 (Or.inr (by decide))).trans M11.1))) ⟨by omega, by omega⟩ (lv_sub hl [0] rfl) (Nat.lt_succ_self _)
