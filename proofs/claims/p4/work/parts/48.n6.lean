def po_X11_ferry_q (τ : Tau)    (bb : Nat → Int) (nb : Nat) (r : Int32) (u : Tau) : Prop := Inv u ∧ Fr [(3, 1), (3, 2), (3, 5), (3, 6), (4, 0), (4, 1), (4, 2), (4, 3), (4, 4), (1, 3), (1, 4), (1, 5), (1, 7), (1, 8), (3, 4), (1, 2), (1, 1), (0, 12), (0, 9), (23, 0), (23, 1), (23, 2), (23, 3), (23, 4), (30, 4), (30, 5), (30, 6), (30, 7), (30, 8), (30, 9), (30, 10), (35, 4)] [5, 6, 7, 8, 24, 25, 26, 27, 31, 33, 34, 201, 210, 209, 228, 229] τ u ∧ WI u ∧ HI u ∧ (u 1 1).toInt = 0 ∧ QF (sFe bb nb) r (∀ j, u 23 j = τ 23 j) (fun f => PLc u f.2)
set_option maxHeartbeats 4000000 in
set_option maxRecDepth 100000 in
theorem c_X11_ferry_q (l : Launch) (G : Gx) (τ : Tau) (hI : Inv τ) (hWI : WI τ) (hHI : HI τ) (bb : Nat → Int) (nb : Nat) (hB0 : RB0 bb nb τ) : Ci l G yX11_ferry cX11_ferry 2 (some .int) 6 131 [.ref (G.2.2.2.1 0)] τ (po_X11_ferry_q τ    bb nb) := by
  unfold Ci
  refine C_of (own := RX11) (by decide) rfl (Nat.le_of_ble_eq_true rfl) ?_
  intro p e s m below meth c ls S hr hlk X hl
  have hl : lv_has ls 2 [(0, .ref (G.2.2.2.1 0))] := hl
  refine r_aload_n S dX11_ferry_0 rfl (lv_at hl 0 rfl) ?_
  refine r_get (K := 0) (v := .ref (G.2.2.2.1 3)) S X (Nat.le_of_ble_eq_true rfl) rfl lk11_21_9 (fun _ => ⟨_, rfl, rfl⟩) dX11_ferry_1 ?_
  refine r_ki (q_V (As := []) (rest := []) (K := 3) (ci := 0) S X (c_X0_read_q l G τ hI bb nb hB0) ck11_95 (Nat.le_of_ble_eq_true rfl) rfl (fun _ => ⟨_, rfl⟩) ⟨_, _, rfl⟩ ⟨Nat.le_of_ble_eq_true rfl, Nat.le_of_ble_eq_true rfl⟩ rfl hl.1 rfl (Nat.le_of_ble_eq_true rfl) dX11_ferry_4 ⟨Nat.le_refl 0, Nat.le_refl 0⟩) X (fun v4 t3 H lc q1 X2 => ?_)
  unfold po_X0_read_q at q1
  obtain ⟨q5, q6, q7, q8⟩ := q1
  have F9 : Fr [(3, 1), (3, 2), (3, 5), (3, 6), (4, 0), (4, 1), (4, 2), (4, 3), (4, 4), (1, 3), (1, 4), (1, 5), (1, 7), (1, 8), (3, 4), (1, 2), (1, 1), (0, 12), (0, 9), (23, 0), (23, 1), (23, 2), (23, 3), (23, 4), (30, 4), (30, 5), (30, 6), (30, 7), (30, 8), (30, 9), (30, 10), (35, 4)] [5, 6, 7, 8, 24, 25, 26, 27, 31, 33, 34, 201, 210, 209, 228, 229] τ t3 := Fr_call Fr_rfl q6 (by decide)
  refine r_istore_n (lv' := [(1, .int v4), (0, .ref (G.2.2.2.1 0))]) S dX11_ferry_7 rfl hl (by decide) rfl (fun ls hl => ?_)
  refine r_aload_n S dX11_ferry_8 rfl (lv_at hl 1 rfl) ?_
  refine r_aload_n S dX11_ferry_9 rfl (lv_at hl 1 rfl) ?_
  refine r_get (K := 0) (v := .ref (G.2.2.2.1 3)) S X2 (Nat.le_of_ble_eq_true rfl) rfl lk11_21_9 (fun _ => ⟨_, rfl, rfl⟩) dX11_ferry_10 ?_
  refine r_getn (K := 3) S X2 (Nat.le_of_ble_eq_true rfl) rfl lk11_99_0 (fun _ => ⟨_, rfl, rfl⟩) dX11_ferry_13 (fun v10 z11 => ?_)
  have r13 := R_any v10
  refine r_put (K := 0) (ty := .int) S X2 (Nat.le_of_ble_eq_true rfl) rfl lk11_102_9 (fun _ => ⟨_, rfl, Nat.le_of_ble_eq_true rfl, rfl⟩) (fun _ _ _ h => by cases h; exact ⟨rfl, rfl⟩) rfl rfl dX11_ferry_16 (fun t14 H lc M15 X16 => ?_)
  have I17 := Inv_mu q5 M15 (R_any v10)
  have F18 : Fr [(3, 1), (3, 2), (3, 5), (3, 6), (4, 0), (4, 1), (4, 2), (4, 3), (4, 4), (1, 3), (1, 4), (1, 5), (1, 7), (1, 8), (3, 4), (1, 2), (1, 1), (0, 12), (0, 9), (23, 0), (23, 1), (23, 2), (23, 3), (23, 4), (30, 4), (30, 5), (30, 6), (30, 7), (30, 8), (30, 9), (30, 10), (35, 4)] [5, 6, 7, 8, 24, 25, 26, 27, 31, 33, 34, 201, 210, 209, 228, 229] τ t14 := Fr_mu F9 M15 (by decide)
  refine r_aload_n S dX11_ferry_19 rfl (lv_at hl 1 rfl) ?_
  refine r_get (K := 0) (v := .ref (G.2.2.2.1 1)) S X16 (Nat.le_of_ble_eq_true rfl) rfl lk11_12_9 (fun _ => ⟨_, rfl, rfl⟩) dX11_ferry_20 ?_
  refine r_iconst S dX11_ferry_23 (by decide) (fun v19 z20 => ?_)
  have r21 := R_eq z20
  refine r_put (K := 1) (ty := .int) S X16 (Nat.le_of_ble_eq_true rfl) rfl lk11_88_7 (fun _ => ⟨_, rfl, Nat.le_of_ble_eq_true rfl, rfl⟩) (fun _ _ _ h => by cases h; exact ⟨rfl, rfl⟩) rfl rfl dX11_ferry_24 (fun t22 H lc M23 X24 => ?_)
  have I25 := Inv_mu I17 M23 (show Rg (kd 1) 1 v19 from (R_of (lo := 0) (hi := 940) r21 rfl))
  have F26 : Fr [(3, 1), (3, 2), (3, 5), (3, 6), (4, 0), (4, 1), (4, 2), (4, 3), (4, 4), (1, 3), (1, 4), (1, 5), (1, 7), (1, 8), (3, 4), (1, 2), (1, 1), (0, 12), (0, 9), (23, 0), (23, 1), (23, 2), (23, 3), (23, 4), (30, 4), (30, 5), (30, 6), (30, 7), (30, 8), (30, 9), (30, 10), (35, 4)] [5, 6, 7, 8, 24, 25, 26, 27, 31, 33, 34, 201, 210, 209, 228, 229] τ t22 := Fr_mu F18 M23 (by decide)
  refine r_iload_n S dX11_ferry_27 rfl (lv_at hl 0 rfl) ?_
  refine r_if_ne (tgt := 41) S dX11_ferry_28 (by decide) (fun c27 => ?_) (fun c27 => ?_)
  ·
    have r28 : R (1) (1) v4 := ⟨by omega, by omega⟩
    have p29 := (QX_1 q8) (by omega)
    obtain ⟨g30, e31, hP32⟩ := p29
    refine r_aload_n S dX11_ferry_41 rfl (lv_at hl 1 rfl) ?_
    refine r_get (K := 0) (v := .ref (G.2.2.2.1 22)) S X24 (Nat.le_of_ble_eq_true rfl) rfl lk11_42_9 (fun _ => ⟨_, rfl, rfl⟩) dX11_ferry_42 ?_
    refine r_aload_n S dX11_ferry_45 rfl (lv_at hl 1 rfl) ?_
    refine r_get (K := 0) (v := .ref (G.2.2.2.1 3)) S X24 (Nat.le_of_ble_eq_true rfl) rfl lk11_21_9 (fun _ => ⟨_, rfl, rfl⟩) dX11_ferry_46 ?_
    refine r_get (K := 3) (v := .ref (G.2.2.2.1 4)) S X24 (Nat.le_of_ble_eq_true rfl) rfl lk11_108_0 (fun _ => ⟨_, rfl, rfl⟩) dX11_ferry_49 ?_
    refine r_kv (q_V (As := [.ref (G.2.2.2.1 4)]) (rest := []) (K := 22) (ci := 8) S X24 (c_X10_begin l G t22 I25 ) ck11_112 (Nat.le_of_ble_eq_true rfl) rfl (fun _ => ⟨_, rfl⟩) ⟨_, _, rfl⟩ ⟨Nat.le_of_ble_eq_true rfl, Nat.le_of_ble_eq_true rfl⟩ rfl hl.1 rfl (Nat.le_of_ble_eq_true rfl) dX11_ferry_52 ⟨Nat.le_refl 0, Nat.le_refl 0⟩) X24 (fun t35 H lc q33 X34 => ?_)
    unfold po_X10_begin at q33
    obtain ⟨v36, z37⟩ : ∃ x, t22 4 0 = x := ⟨_, rfl⟩
    have r38 : R (0) (8) v36 := rd I25 rfl z37
    obtain ⟨v39, z40⟩ : ∃ x, t22 4 1 = x := ⟨_, rfl⟩
    have r41 : R (0) (9) v39 := rd I25 rfl z40
    obtain ⟨v42, z43⟩ : ∃ x, t22 4 2 = x := ⟨_, rfl⟩
    have r44 : R (0) (9) v42 := rd I25 rfl z43
    obtain ⟨v45, z46⟩ : ∃ x, t22 4 3 = x := ⟨_, rfl⟩
    have r47 : R (0) (10) v45 := rd I25 rfl z46
    obtain ⟨v48, z49⟩ : ∃ x, t22 4 4 = x := ⟨_, rfl⟩
    have r50 := R_any v48
    obtain ⟨q51, q52, q53, q54, q55, q56, q57, q58⟩ := q33
    have F59 : Fr [(3, 1), (3, 2), (3, 5), (3, 6), (4, 0), (4, 1), (4, 2), (4, 3), (4, 4), (1, 3), (1, 4), (1, 5), (1, 7), (1, 8), (3, 4), (1, 2), (1, 1), (0, 12), (0, 9), (23, 0), (23, 1), (23, 2), (23, 3), (23, 4), (30, 4), (30, 5), (30, 6), (30, 7), (30, 8), (30, 9), (30, 10), (35, 4)] [5, 6, 7, 8, 24, 25, 26, 27, 31, 33, 34, 201, 210, 209, 228, 229] τ t35 := Fr_call F26 q52 (by decide)
    refine r_aload_n S dX11_ferry_55 rfl (lv_at hl 1 rfl) ?_
    refine r_iconst S dX11_ferry_56 (by decide) (fun v60 z61 => ?_)
    have r62 := R_eq z61
    refine r_put (K := 0) (ty := .int) S X34 (Nat.le_of_ble_eq_true rfl) rfl lk11_116_9 (fun _ => ⟨_, rfl, Nat.le_of_ble_eq_true rfl, rfl⟩) (fun _ _ _ h => by cases h; exact ⟨rfl, rfl⟩) rfl rfl dX11_ferry_57 (fun t63 H lc M64 X65 => ?_)
    have I66 := Inv_mu q51 M64 (show Rg (kd 0) 9 v60 from (R_of (lo := 0) (hi := 8) r62 rfl))
    have F67 : Fr [(3, 1), (3, 2), (3, 5), (3, 6), (4, 0), (4, 1), (4, 2), (4, 3), (4, 4), (1, 3), (1, 4), (1, 5), (1, 7), (1, 8), (3, 4), (1, 2), (1, 1), (0, 12), (0, 9), (23, 0), (23, 1), (23, 2), (23, 3), (23, 4), (30, 4), (30, 5), (30, 6), (30, 7), (30, 8), (30, 9), (30, 10), (35, 4)] [5, 6, 7, 8, 24, 25, 26, 27, 31, 33, 34, 201, 210, 209, 228, 229] τ t63 := Fr_mu F59 M64 (by decide)
    refine r_aload_n S dX11_ferry_60 rfl (lv_at hl 1 rfl) ?_
    refine r_get (K := 0) (v := .ref (G.2.2.2.1 3)) S X65 (Nat.le_of_ble_eq_true rfl) rfl lk11_21_9 (fun _ => ⟨_, rfl, rfl⟩) dX11_ferry_61 ?_
    refine r_getn (K := 3) S X65 (Nat.le_of_ble_eq_true rfl) rfl lk11_119_0 (fun _ => ⟨_, rfl, rfl⟩) dX11_ferry_64 (fun v68 z69 => ?_)
    have r70 : R (0) (940) v68 := rd I66 rfl z69
    exact r_ret S hr hlk X65 ⟨I66, F67, (WI_eq q53 ((M64.2 23 2 (Or.inl (by decide))).trans rfl) ((M64.2 30 8 (Or.inl (by decide))).trans rfl)), (HI_0 M64.1 (by omega)), (by have h1_0 := congrArg Int32.toInt ((M64.2 1 1 (Or.inl (by decide))).trans ((q52 1 1 (by decide)).trans M23.1)); omega), (QF_r e31 (by have q1 := hP32.1; have q2 := congrArg Int32.toInt z69; have q3 := congrArg Int32.toInt (((M64.2 3 4 (Or.inl (by decide))).trans ((q52 3 4 (by decide)).trans ((M23.2 3 4 (Or.inl (by decide))).trans ((M15.2 3 4 (Or.inl (by decide))).trans rfl)))) : t63 3 4 = t3 3 4); omega) (PLc_of hP32.2.2 (fun j hj => match j, hj with | 0, _ => (((M64.2 23 0 (Or.inl (by decide))).trans (q54.trans z37)).trans ((((M23.2 4 0 (Or.inl (by decide))).trans ((M15.2 4 0 (Or.inl (by decide))).trans rfl)).symm.trans z37)).symm) | 1, _ => (((M64.2 23 1 (Or.inl (by decide))).trans (q55.trans z40)).trans ((((M23.2 4 1 (Or.inl (by decide))).trans ((M15.2 4 1 (Or.inl (by decide))).trans rfl)).symm.trans z40)).symm) | 2, _ => (((M64.2 23 2 (Or.inl (by decide))).trans (q56.trans z43)).trans ((((M23.2 4 2 (Or.inl (by decide))).trans ((M15.2 4 2 (Or.inl (by decide))).trans rfl)).symm.trans z43)).symm) | 3, _ => (((M64.2 23 3 (Or.inl (by decide))).trans (q57.trans z46)).trans ((((M23.2 4 3 (Or.inl (by decide))).trans ((M15.2 4 3 (Or.inl (by decide))).trans rfl)).symm.trans z46)).symm) | 4, _ => (((M64.2 23 4 (Or.inl (by decide))).trans (q58.trans z49)).trans ((((M23.2 4 4 (Or.inl (by decide))).trans ((M15.2 4 4 (Or.inl (by decide))).trans rfl)).symm.trans z49)).symm) | n + 5, h => absurd h (by omega))))⟩ rfl dX11_ferry_67
  ·
    have r71 : R (0) (0) v4 := ⟨by omega, by omega⟩
    have p72 := (QX_0 q8) (by omega)
    obtain ⟨q73, e74, h75, h76⟩ := p72
    refine r_iconst S dX11_ferry_31 (by decide) (fun v77 z78 => ?_)
    have r79 := R_eq z78
    refine r_aload_n S dX11_ferry_32 rfl (lv_at hl 1 rfl) ?_
    refine r_get (K := 0) (v := .ref (G.2.2.2.1 1)) S X24 (Nat.le_of_ble_eq_true rfl) rfl lk11_12_9 (fun _ => ⟨_, rfl, rfl⟩) dX11_ferry_33 ?_
    refine r_getn (K := 1) S X24 (Nat.le_of_ble_eq_true rfl) rfl lk11_105_7 (fun _ => ⟨_, rfl, rfl⟩) dX11_ferry_36 (fun v80 z81 => ?_)
    have r82 : R (0) (940) v80 := rd I25 rfl z81
    refine r_isub S dX11_ferry_39 (fun v83 z84 => ?_)
    obtain ⟨e85, r86⟩ := i_sub (lo := -941) (hi := -1) z84 r79 r82 rfl
    exact r_ret S hr hlk X24 ⟨I25, F26, (WI_eq hWI ((M23.2 23 2 (Or.inl (by decide))).trans ((M15.2 23 2 (Or.inl (by decide))).trans ((q6 23 2 (by decide)).trans rfl))) ((M23.2 30 8 (Or.inl (by decide))).trans ((M15.2 30 8 (Or.inl (by decide))).trans ((q6 30 8 (by decide)).trans rfl)))), (HI_eq hHI ((M23.2 23 2 (Or.inl (by decide))).trans ((M15.2 23 2 (Or.inl (by decide))).trans ((q6 23 2 (by decide)).trans rfl))) ((M23.2 0 8 (Or.inl (by decide))).trans ((M15.2 0 8 (Or.inr (by decide))).trans ((q6 0 8 (by decide)).trans rfl))) ((M23.2 0 9 (Or.inl (by decide))).trans ((M15.2 0 9 (Or.inr (by decide))).trans ((q6 0 9 (by decide)).trans rfl))) ((M23.2 52 8 (Or.inl (by decide))).trans ((M15.2 52 8 (Or.inl (by decide))).trans ((q6 52 8 (by decide)).trans rfl))) ((M23.2 57 8 (Or.inl (by decide))).trans ((M15.2 57 8 (Or.inl (by decide))).trans ((q6 57 8 (by decide)).trans rfl))) ((M23.2 62 8 (Or.inl (by decide))).trans ((M15.2 62 8 (Or.inl (by decide))).trans ((q6 62 8 (by decide)).trans rfl))) ((M23.2 67 8 (Or.inl (by decide))).trans ((M15.2 67 8 (Or.inl (by decide))).trans ((q6 67 8 (by decide)).trans rfl))) ((M23.2 72 8 (Or.inl (by decide))).trans ((M15.2 72 8 (Or.inl (by decide))).trans ((q6 72 8 (by decide)).trans rfl))) ((M23.2 77 8 (Or.inl (by decide))).trans ((M15.2 77 8 (Or.inl (by decide))).trans ((q6 77 8 (by decide)).trans rfl))) ((M23.2 82 8 (Or.inl (by decide))).trans ((M15.2 82 8 (Or.inl (by decide))).trans ((q6 82 8 (by decide)).trans rfl))) ((M23.2 87 8 (Or.inl (by decide))).trans ((M15.2 87 8 (Or.inl (by decide))).trans ((q6 87 8 (by decide)).trans rfl)))), (by have h1_0 := congrArg Int32.toInt M23.1; omega), (QF_l e74 (by have q1 := h76; have q2 := congrArg Int32.toInt z81; have q3 := congrArg Int32.toInt (((M23.2 1 3 (Or.inr (by decide))).trans ((M15.2 1 3 (Or.inl (by decide))).trans rfl)) : t22 1 3 = t3 1 3); omega) (fun j => ((M23.2 23 j (Or.inl (by decide))).trans ((M15.2 23 j (Or.inl (by decide))).trans ((q6 23 j (by simp [fz])).trans rfl)))))⟩ rfl dX11_ferry_40
