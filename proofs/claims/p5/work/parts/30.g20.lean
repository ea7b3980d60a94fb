def po_X10_whyNot_L0 (τ : Tau)  (a0 a1 a2 a3 : Int32)   (r : Int32) (u : Tau) : Prop := u = τ ∧ R (0) (4) r
set_option maxHeartbeats 4000000 in
set_option maxRecDepth 100000 in
theorem c_X10_whyNot_L0 (l : Launch) (G : Gx) (τ : Tau) (hI : Inv τ) (a0 : Int32) (a1 : Int32) (a2 : Int32) (a3 : Int32) (h_a0 : R (0) (0) a0) (h_a1 : R (0) (1023) a1) (h_a2 : R (-1) (8) a2) (h_a3 : R (-9) (9) a3) (hWI : WI τ) : Ci l G yX10_whyNot cX10_whyNot 5 (some .int) 5 118 [.ref (G.2.2.2.1 22), .int a0, .int a1, .int a2, .int a3] τ (po_X10_whyNot_L0 τ  a0 a1 a2 a3  ) := by
  unfold Ci
  refine C_of (own := RX10) (by decide) rfl (Nat.le_of_ble_eq_true rfl) ?_
  intro p e s m below meth c ls S hr hlk X hl
  have hl : lv_has ls 5 [(0, .ref (G.2.2.2.1 22)), (1, .int a0), (2, .int a1), (3, .int a2), (4, .int a3)] := hl
  refine r_iload_n S dX10_whyNot_0 rfl (lv_at hl 1 rfl) ?_
  rcases (show a0.toInt = 0 by omega) with c1
  ·
    refine lv_tableIn (tgt := 32) S.1.1 S.1.2.1 dX10_whyNot_1 (by omega) (by omega) (by rw [c1]; rfl) (by decide) ?_
    have r2 : R (0) (0) a0 := ⟨by omega, by omega⟩
    refine r_aload_n S dX10_whyNot_32 rfl (lv_at hl 0 rfl) ?_
    refine r_iload_n S dX10_whyNot_33 rfl (lv_at hl 2 rfl) ?_
    refine r_ki (q_V (As := [.int a1]) (rest := []) (K := 22) (ci := 8) S X (c_X10_whyStay l G τ hI a1 (R_of (lo := -2147483648) (hi := 2147483647) h_a1 rfl) hWI) ck10_128 (Nat.le_of_ble_eq_true rfl) rfl (fun _ => ⟨_, rfl⟩) ⟨_, _, rfl⟩ ⟨Nat.le_of_ble_eq_true rfl, Nat.le_of_ble_eq_true rfl⟩ rfl hl.1 rfl (Nat.le_of_ble_eq_true rfl) dX10_whyNot_34 ⟨Nat.le_refl 0, Nat.le_refl 0⟩) X (fun v6 t5 H lc q3 X4 => ?_)
    unfold po_X10_whyStay at q3
    obtain ⟨q7, q8⟩ := q3
    rw [q7] at X4
    exact r_ret S hr hlk X4 ⟨rfl, q8⟩ rfl dX10_whyNot_37
def po_X10_perform_L0 (τ : Tau)  (a0 a1 a2 a3 : Int32)   (u : Tau) : Prop := Inv u ∧ Fr [(30, 4), (30, 5), (30, 6), (30, 10)] [33, 34] τ u
set_option maxHeartbeats 4000000 in
set_option maxRecDepth 100000 in
theorem c_X10_perform_L0 (l : Launch) (G : Gx) (τ : Tau) (hI : Inv τ) (a0 : Int32) (a1 : Int32) (a2 : Int32) (a3 : Int32) (h_a0 : R (0) (0) a0) (h_a1 : R (0) (1023) a1) (h_a2 : R (-1) (8) a2) (h_a3 : R (-9) (9) a3) : Cv l G yX10_perform cX10_perform 5 2 43 [.ref (G.2.2.2.1 22), .int a0, .int a1, .int a2, .int a3] τ (po_X10_perform_L0 τ  a0 a1 a2 a3  ) := by
  unfold Cv
  refine C_of (own := RX10) (by decide) rfl (Nat.le_of_ble_eq_true rfl) ?_
  intro p e s m below meth c ls S hr hlk X hl
  have hl : lv_has ls 5 [(0, .ref (G.2.2.2.1 22)), (1, .int a0), (2, .int a1), (3, .int a2), (4, .int a3)] := hl
  refine r_iload_n S dX10_perform_0 rfl (lv_at hl 1 rfl) ?_
  rcases (show a0.toInt = 0 by omega) with c1
  ·
    refine lv_tableIn (tgt := 32) S.1.1 S.1.2.1 dX10_perform_1 (by omega) (by omega) (by rw [c1]; rfl) (by decide) ?_
    have r2 : R (0) (0) a0 := ⟨by omega, by omega⟩
    refine r_aload_n S dX10_perform_32 rfl (lv_at hl 0 rfl) ?_
    refine r_iload_n S dX10_perform_33 rfl (lv_at hl 2 rfl) ?_
    refine r_kv (q_V (As := [.int a1]) (rest := []) (K := 22) (ci := 8) S X (c_X10_carry l G τ hI a1 h_a1) ck10_131 (Nat.le_of_ble_eq_true rfl) rfl (fun _ => ⟨_, rfl⟩) ⟨_, _, rfl⟩ ⟨Nat.le_of_ble_eq_true rfl, Nat.le_of_ble_eq_true rfl⟩ rfl hl.1 rfl (Nat.le_of_ble_eq_true rfl) dX10_perform_34 ⟨Nat.le_refl 0, Nat.le_refl 0⟩) X (fun t5 H lc q3 X4 => ?_)
    unfold po_X10_carry at q3
    obtain ⟨q6, q7⟩ := q3
    have F8 : Fr [(30, 4), (30, 5), (30, 6), (30, 10)] [33, 34] τ t5 := Fr_call Fr_rfl q7 (by decide)
    refine r_goto (tgt := 169) S dX10_perform_37 (by decide) ?_
    exact r_vret S hr hlk X4 ⟨q6, F8⟩ dX10_perform_169
def po_X10_whyNot_L1 (τ : Tau)  (a0 a1 a2 a3 : Int32)   (r : Int32) (u : Tau) : Prop := u = τ ∧ R (0) (4) r
set_option maxHeartbeats 4000000 in
set_option maxRecDepth 100000 in
theorem c_X10_whyNot_L1 (l : Launch) (G : Gx) (τ : Tau) (hI : Inv τ) (a0 : Int32) (a1 : Int32) (a2 : Int32) (a3 : Int32) (h_a0 : R (1) (1) a0) (h_a1 : R (-1) (1023) a1) (h_a2 : R (0) (8) a2) (h_a3 : R (-9) (9) a3) (hWI : WI τ) : Ci l G yX10_whyNot cX10_whyNot 5 (some .int) 0 0 [.ref (G.2.2.2.1 22), .int a0, .int a1, .int a2, .int a3] τ (po_X10_whyNot_L1 τ  a0 a1 a2 a3  ) := by
  unfold Ci
  refine C_of (own := RX10) (by decide) rfl (Nat.le_of_ble_eq_true rfl) ?_
  intro p e s m below meth c ls S hr hlk X hl
  have hl : lv_has ls 5 [(0, .ref (G.2.2.2.1 22)), (1, .int a0), (2, .int a1), (3, .int a2), (4, .int a3)] := hl
  refine r_iload_n S dX10_whyNot_0 rfl (lv_at hl 1 rfl) ?_
  rcases (show a0.toInt = 1 by omega) with c1
  ·
    refine lv_tableIn (tgt := 38) S.1.1 S.1.2.1 dX10_whyNot_1 (by omega) (by omega) (by rw [c1]; rfl) (by decide) ?_
    have r2 : R (1) (1) a0 := ⟨by omega, by omega⟩
    refine r_aload_n S dX10_whyNot_38 rfl (lv_at hl 0 rfl) ?_
    refine r_get (K := 22) (v := .ref (G.2.2.2.1 30)) S X (Nat.le_of_ble_eq_true rfl) rfl lk10_21_8 (fun _ => ⟨_, rfl, rfl⟩) dX10_whyNot_39 ?_
    refine r_getn (K := 23) S X (Nat.le_of_ble_eq_true rfl) rfl lk10_115_3 (fun _ => ⟨_, rfl, rfl⟩) dX10_whyNot_42 (fun v3 z4 => ?_)
    have r5 : R (-1) (8) v3 := rd hI rfl z4
    refine r_iload_n S dX10_whyNot_45 rfl (lv_at hl 3 rfl) ?_
    refine r_icmp_ne (tgt := 53) S dX10_whyNot_46 (by decide) (fun c6 => ?_) (fun c6 => ?_)
    ·
      refine r_iconst S dX10_whyNot_53 (by decide) (fun v7 z8 => ?_)
      have r9 := R_eq z8
      exact r_ret S hr hlk X ⟨rfl, (R_of r9 rfl)⟩ rfl dX10_whyNot_54
    ·
      have r10 : R (0) (8) v3 := ⟨by omega, by omega⟩
      refine r_iconst S dX10_whyNot_49 (by decide) (fun v11 z12 => ?_)
      have r13 := R_eq z12
      refine r_goto (tgt := 54) S dX10_whyNot_50 (by decide) ?_
      exact r_ret S hr hlk X ⟨rfl, (R_of r13 rfl)⟩ rfl dX10_whyNot_54
def po_X10_perform_L1 (τ : Tau)  (a0 a1 a2 a3 : Int32)   (u : Tau) : Prop := Inv u ∧ Fr [(30, 8)] [] τ u ∧ WI u
set_option maxHeartbeats 4000000 in
set_option maxRecDepth 100000 in
theorem c_X10_perform_L1 (l : Launch) (G : Gx) (τ : Tau) (hI : Inv τ) (a0 : Int32) (a1 : Int32) (a2 : Int32) (a3 : Int32) (h_a0 : R (1) (1) a0) (h_a1 : R (-1) (1023) a1) (h_a2 : R (0) (8) a2) (h_a3 : R (-9) (9) a3) : Cv l G yX10_perform cX10_perform 5 0 0 [.ref (G.2.2.2.1 22), .int a0, .int a1, .int a2, .int a3] τ (po_X10_perform_L1 τ  a0 a1 a2 a3  ) := by
  unfold Cv
  refine C_of (own := RX10) (by decide) rfl (Nat.le_of_ble_eq_true rfl) ?_
  intro p e s m below meth c ls S hr hlk X hl
  have hl : lv_has ls 5 [(0, .ref (G.2.2.2.1 22)), (1, .int a0), (2, .int a1), (3, .int a2), (4, .int a3)] := hl
  refine r_iload_n S dX10_perform_0 rfl (lv_at hl 1 rfl) ?_
  rcases (show a0.toInt = 1 by omega) with c1
  ·
    refine lv_tableIn (tgt := 40) S.1.1 S.1.2.1 dX10_perform_1 (by omega) (by omega) (by rw [c1]; rfl) (by decide) ?_
    have r2 : R (1) (1) a0 := ⟨by omega, by omega⟩
    refine r_aload_n S dX10_perform_40 rfl (lv_at hl 0 rfl) ?_
    refine r_get (K := 22) (v := .ref (G.2.2.2.1 30)) S X (Nat.le_of_ble_eq_true rfl) rfl lk10_21_8 (fun _ => ⟨_, rfl, rfl⟩) dX10_perform_41 ?_
    refine r_iload_n S dX10_perform_44 rfl (lv_at hl 3 rfl) ?_
    refine r_put (K := 23) (ty := .int) S X (Nat.le_of_ble_eq_true rfl) rfl lk10_115_3 (fun _ => ⟨_, rfl, Nat.le_of_ble_eq_true rfl, rfl⟩) (fun _ _ _ h => by cases h; exact ⟨rfl, rfl⟩) rfl rfl dX10_perform_45 (fun t3 H lc M4 X5 => ?_)
    have I6 := Inv_mu hI M4 (show Rg (kd 30) 8 a2 from (R_of (lo := -1) (hi := 8) h_a2 rfl))
    have F7 : Fr [(30, 8)] [] τ t3 := Fr_mu Fr_rfl M4 (by decide)
    refine r_goto (tgt := 169) S dX10_perform_48 (by decide) ?_
    exact r_vret S hr hlk X5 ⟨I6, F7, (WI_mk ((M4.2 23 2 (Or.inl (by decide))).trans rfl) M4.1 (by omega))⟩ dX10_perform_169
def po_X10_whyNot_L2 (τ : Tau)  (a0 a1 a2 a3 : Int32)   (r : Int32) (u : Tau) : Prop := u = τ ∧ R (0) (4) r
set_option maxHeartbeats 4000000 in
set_option maxRecDepth 100000 in
theorem c_X10_whyNot_L2 (l : Launch) (G : Gx) (τ : Tau) (hI : Inv τ) (a0 : Int32) (a1 : Int32) (a2 : Int32) (a3 : Int32) (h_a0 : R (2) (2) a0) (h_a1 : R (0) (9) a1) (h_a2 : R (-1) (8) a2) (h_a3 : R (-9) (9) a3) (hWI : WI τ) : Ci l G yX10_whyNot cX10_whyNot 5 (some .int) 1 21 [.ref (G.2.2.2.1 22), .int a0, .int a1, .int a2, .int a3] τ (po_X10_whyNot_L2 τ  a0 a1 a2 a3  ) := by
  unfold Ci
  refine C_of (own := RX10) (by decide) rfl (Nat.le_of_ble_eq_true rfl) ?_
  intro p e s m below meth c ls S hr hlk X hl
  have hl : lv_has ls 5 [(0, .ref (G.2.2.2.1 22)), (1, .int a0), (2, .int a1), (3, .int a2), (4, .int a3)] := hl
  refine r_iload_n S dX10_whyNot_0 rfl (lv_at hl 1 rfl) ?_
  rcases (show a0.toInt = 2 by omega) with c1
  ·
    refine lv_tableIn (tgt := 55) S.1.1 S.1.2.1 dX10_whyNot_1 (by omega) (by omega) (by rw [c1]; rfl) (by decide) ?_
    have r2 : R (2) (2) a0 := ⟨by omega, by omega⟩
    refine r_aload_n S dX10_whyNot_55 rfl (lv_at hl 0 rfl) ?_
    refine r_get (K := 22) (v := .ref (G.2.2.2.1 30)) S X (Nat.le_of_ble_eq_true rfl) rfl lk10_21_8 (fun _ => ⟨_, rfl, rfl⟩) dX10_whyNot_56 ?_
    refine r_getn (K := 23) S X (Nat.le_of_ble_eq_true rfl) rfl lk10_91_3 (fun _ => ⟨_, rfl, rfl⟩) dX10_whyNot_59 (fun v3 z4 => ?_)
    have r5 : R (0) (1023) v3 := rd hI rfl z4
    refine r_iload_n S dX10_whyNot_62 rfl (lv_at hl 2 rfl) ?_
    refine r_ki (q_N (As := [.int v3, .int a1]) (rest := []) S X (c_X11_bit l G τ hI v3 a1 (R_of (lo := -2147483648) (hi := 2147483647) r5 rfl) (R_of (lo := -2147483648) (hi := 2147483647) h_a1 rfl)) ck10_65 ⟨Nat.le_of_ble_eq_true rfl, Nat.le_of_ble_eq_true rfl⟩ rfl hl.1 rfl (Nat.le_of_ble_eq_true rfl) dX10_whyNot_63 ⟨Nat.le_refl 0, Nat.le_refl 0⟩) X (fun v9 t8 H lc q6 X7 => ?_)
    unfold po_X11_bit at q6
    obtain ⟨q10, q11⟩ := q6
    rw [q10] at X7
    exact r_ret S hr hlk X7 ⟨rfl, (R_of q11 rfl)⟩ rfl dX10_whyNot_66
def po_X10_perform_L2 (τ : Tau)  (a0 a1 a2 a3 : Int32)   (u : Tau) : Prop := Inv u ∧ Fr [(30, 6), (30, 9)] [] τ u
set_option maxHeartbeats 4000000 in
set_option maxRecDepth 100000 in
theorem c_X10_perform_L2 (l : Launch) (G : Gx) (τ : Tau) (hI : Inv τ) (a0 : Int32) (a1 : Int32) (a2 : Int32) (a3 : Int32) (h_a0 : R (2) (2) a0) (h_a1 : R (0) (9) a1) (h_a2 : R (-1) (8) a2) (h_a3 : R (-9) (9) a3) : Cv l G yX10_perform cX10_perform 5 0 0 [.ref (G.2.2.2.1 22), .int a0, .int a1, .int a2, .int a3] τ (po_X10_perform_L2 τ  a0 a1 a2 a3  ) := by
  unfold Cv
  refine C_of (own := RX10) (by decide) rfl (Nat.le_of_ble_eq_true rfl) ?_
  intro p e s m below meth c ls S hr hlk X hl
  have hl : lv_has ls 5 [(0, .ref (G.2.2.2.1 22)), (1, .int a0), (2, .int a1), (3, .int a2), (4, .int a3)] := hl
  refine r_iload_n S dX10_perform_0 rfl (lv_at hl 1 rfl) ?_
  rcases (show a0.toInt = 2 by omega) with c1
  ·
    refine lv_tableIn (tgt := 51) S.1.1 S.1.2.1 dX10_perform_1 (by omega) (by omega) (by rw [c1]; rfl) (by decide) ?_
    have r2 : R (2) (2) a0 := ⟨by omega, by omega⟩
    refine r_aload_n S dX10_perform_51 rfl (lv_at hl 0 rfl) ?_
    refine r_get (K := 22) (v := .ref (G.2.2.2.1 30)) S X (Nat.le_of_ble_eq_true rfl) rfl lk10_21_8 (fun _ => ⟨_, rfl, rfl⟩) dX10_perform_52 ?_
    refine r_dup S dX10_perform_55 rfl ?_
    refine r_getn (K := 23) S X (Nat.le_of_ble_eq_true rfl) rfl lk10_91_3 (fun _ => ⟨_, rfl, rfl⟩) dX10_perform_56 (fun v3 z4 => ?_)
    have r5 : R (0) (1023) v3 := rd hI rfl z4
    refine r_iconst S dX10_perform_59 (by decide) (fun v6 z7 => ?_)
    have r8 := R_eq z7
    refine r_iload_n S dX10_perform_60 rfl (lv_at hl 2 rfl) ?_
    refine r_ishl S dX10_perform_61 (fun v9 z10 => ?_)
    have r12 : R (1) (512) v9 := i_shl z10 r8 h_a1 rfl
    refine r_ior S dX10_perform_62 (fun v13 z14 => ?_)
    have r16 : R (0) (1023) v13 := i_or 10 z14 r5 r12 rfl
    refine r_put (K := 23) (ty := .int) S X (Nat.le_of_ble_eq_true rfl) rfl lk10_91_3 (fun _ => ⟨_, rfl, Nat.le_of_ble_eq_true rfl, rfl⟩) (fun _ _ _ h => by cases h; exact ⟨rfl, rfl⟩) rfl rfl dX10_perform_63 (fun t17 H lc M18 X19 => ?_)
    have I20 := Inv_mu hI M18 (show Rg (kd 30) 6 v13 from (R_of (lo := 0) (hi := 1023) r16 rfl))
    have F21 : Fr [(30, 6), (30, 9)] [] τ t17 := Fr_mu Fr_rfl M18 (by decide)
    refine r_aload_n S dX10_perform_66 rfl (lv_at hl 0 rfl) ?_
    refine r_get (K := 22) (v := .ref (G.2.2.2.1 30)) S X19 (Nat.le_of_ble_eq_true rfl) rfl lk10_21_8 (fun _ => ⟨_, rfl, rfl⟩) dX10_perform_67 ?_
    refine r_dup S dX10_perform_70 rfl ?_
    refine r_getn (K := 23) S X19 (Nat.le_of_ble_eq_true rfl) rfl lk10_135_3 (fun _ => ⟨_, rfl, rfl⟩) dX10_perform_71 (fun v22 z23 => ?_)
    have r25 := R_any v22
    refine r_aload_n S dX10_perform_74 rfl (lv_at hl 0 rfl) ?_
    refine r_get (K := 22) (v := .ref (G.2.2.2.1 23)) S X19 (Nat.le_of_ble_eq_true rfl) rfl lk10_12_8 (fun _ => ⟨_, rfl, rfl⟩) dX10_perform_75 ?_
    refine r_get (K := 4) (v := .ref (G.2.2.2.1 24)) S X19 (Nat.le_of_ble_eq_true rfl) rfl lk10_138_2 (fun _ => ⟨_, rfl, rfl⟩) dX10_perform_78 ?_
    refine r_iload_n S dX10_perform_81 rfl (lv_at hl 2 rfl) ?_
    refine r_aldn (n := 10) (K := 5) S X19 (Nat.le_of_ble_eq_true rfl) rfl (fun _ => rfl) (ix_of h_a1 rfl) dX10_perform_82 (fun v26 z27 => ?_)
    have r28 : R (0) (20) v26 := rd I20 rfl z27
    refine r_iadd S dX10_perform_83 (fun v29 z30 => ?_)
    have r31 := R_any v29
    refine r_put (K := 23) (ty := .int) S X19 (Nat.le_of_ble_eq_true rfl) rfl lk10_135_3 (fun _ => ⟨_, rfl, Nat.le_of_ble_eq_true rfl, rfl⟩) (fun _ _ _ h => by cases h; exact ⟨rfl, rfl⟩) rfl rfl dX10_perform_84 (fun t32 H lc M33 X34 => ?_)
    have I35 := Inv_mu I20 M33 (R_any v29)
    have F36 : Fr [(30, 6), (30, 9)] [] τ t32 := Fr_mu F21 M33 (by decide)
    refine r_goto (tgt := 169) S dX10_perform_87 (by decide) ?_
    exact r_vret S hr hlk X34 ⟨I35, F36⟩ dX10_perform_169
def po_X1_keep_0 (τ : Tau)  (a0 a1 a2 a3 : Int32)   (r : Int32) (u : Tau) : Prop := Inv u ∧ Fr [] [12, 13, 14, 15] τ u ∧ LR u ∧ R (1) (1) r
set_option maxHeartbeats 4000000 in
set_option maxRecDepth 100000 in
theorem c_X1_keep_0 (l : Launch) (G : Gx) (τ : Tau) (hI : Inv τ) (a0 : Int32) (a1 : Int32) (a2 : Int32) (a3 : Int32) (h_a0 : R (0) (0) a0) (h_a1 : R (0) (1023) a1) (h_a2 : R (-1) (-1) a2) (h_a3 : R (0) (0) a3) (hf_0 : R (0) (39) (τ 11 3)) (hLR : LR τ) : Ci l G yX1_keep cX1_keep 5 (some .boolean) 0 0 [.ref (G.2.2.2.1 11), .int a0, .int a1, .int a2, .int a3] τ (po_X1_keep_0 τ  a0 a1 a2 a3  ) := by
  unfold Ci
  refine C_of (own := RX1) (by decide) rfl (Nat.le_of_ble_eq_true rfl) ?_
  intro p e s m below meth c ls S hr hlk X hl
  have hl : lv_has ls 5 [(0, .ref (G.2.2.2.1 11)), (1, .int a0), (2, .int a1), (3, .int a2), (4, .int a3)] := hl
  obtain ⟨v1, z2⟩ : ∃ x, τ 11 3 = x := ⟨_, rfl⟩
  rw [z2] at hf_0
  refine r_aload_n S dX1_keep_0 rfl (lv_at hl 0 rfl) ?_
  refine r_get (K := 11) (v := .ref (G.2.2.2.1 12)) S X (Nat.le_of_ble_eq_true rfl) rfl lk1_9_1 (fun _ => ⟨_, rfl, rfl⟩) dX1_keep_1 ?_
  refine r_aload_n S dX1_keep_4 rfl (lv_at hl 0 rfl) ?_
  refine r_geti (K := 11) S X (Nat.le_of_ble_eq_true rfl) rfl lk1_24_1 (fun _ => ⟨_, rfl, rfl⟩) z2 dX1_keep_5 ?_
  refine r_iload_n S dX1_keep_8 rfl (lv_at hl 1 rfl) ?_
  refine r_ast (n := 40) (K := 12) S X (Nat.le_of_ble_eq_true rfl) rfl (fun _ _ => rfl) (ix_of hf_0 rfl) dX1_keep_9 (fun t3 H lc M4 X5 => ?_)
  have I6 := Inv_mu hI M4 (show Rg (kd 12) _ a0 from (R_of (lo := 0) (hi := 4) h_a0 rfl))
  have F7 : Fr [] [12, 13, 14, 15] τ t3 := Fr_cell Fr_rfl M4 (by decide)
  refine r_aload_n S dX1_keep_10 rfl (lv_at hl 0 rfl) ?_
  refine r_get (K := 11) (v := .ref (G.2.2.2.1 13)) S X5 (Nat.le_of_ble_eq_true rfl) rfl lk1_15_1 (fun _ => ⟨_, rfl, rfl⟩) dX1_keep_11 ?_
  refine r_aload_n S dX1_keep_14 rfl (lv_at hl 0 rfl) ?_
  refine r_geti (K := 11) S X5 (Nat.le_of_ble_eq_true rfl) rfl lk1_24_1 (fun _ => ⟨_, rfl, rfl⟩) ((M4.2 11 3 (Or.inl (by decide))).trans z2) dX1_keep_15 ?_
  refine r_iload_n S dX1_keep_18 rfl (lv_at hl 2 rfl) ?_
  refine r_ast (n := 40) (K := 13) S X5 (Nat.le_of_ble_eq_true rfl) rfl (fun _ _ => rfl) (ix_of hf_0 rfl) dX1_keep_19 (fun t8 H lc M9 X10 => ?_)
  have I11 := Inv_mu I6 M9 (show Rg (kd 13) _ a1 from (R_of (lo := -1) (hi := 1023) h_a1 rfl))
  have F12 : Fr [] [12, 13, 14, 15] τ t8 := Fr_cell F7 M9 (by decide)
  refine r_aload_n S dX1_keep_20 rfl (lv_at hl 0 rfl) ?_
  refine r_get (K := 11) (v := .ref (G.2.2.2.1 14)) S X10 (Nat.le_of_ble_eq_true rfl) rfl lk1_18_1 (fun _ => ⟨_, rfl, rfl⟩) dX1_keep_21 ?_
  refine r_aload_n S dX1_keep_24 rfl (lv_at hl 0 rfl) ?_
  refine r_geti (K := 11) S X10 (Nat.le_of_ble_eq_true rfl) rfl lk1_24_1 (fun _ => ⟨_, rfl, rfl⟩) ((M9.2 11 3 (Or.inl (by decide))).trans ((M4.2 11 3 (Or.inl (by decide))).trans z2)) dX1_keep_25 ?_
  refine r_iload_n S dX1_keep_28 rfl (lv_at hl 3 rfl) ?_
  refine r_ast (n := 40) (K := 14) S X10 (Nat.le_of_ble_eq_true rfl) rfl (fun _ _ => rfl) (ix_of hf_0 rfl) dX1_keep_29 (fun t13 H lc M14 X15 => ?_)
  have I16 := Inv_mu I11 M14 (show Rg (kd 14) _ a2 from (R_of (lo := -1) (hi := 8) h_a2 rfl))
  have F17 : Fr [] [12, 13, 14, 15] τ t13 := Fr_cell F12 M14 (by decide)
  refine r_aload_n S dX1_keep_30 rfl (lv_at hl 0 rfl) ?_
  refine r_get (K := 11) (v := .ref (G.2.2.2.1 15)) S X15 (Nat.le_of_ble_eq_true rfl) rfl lk1_21_1 (fun _ => ⟨_, rfl, rfl⟩) dX1_keep_31 ?_
  refine r_aload_n S dX1_keep_34 rfl (lv_at hl 0 rfl) ?_
  refine r_geti (K := 11) S X15 (Nat.le_of_ble_eq_true rfl) rfl lk1_24_1 (fun _ => ⟨_, rfl, rfl⟩) ((M14.2 11 3 (Or.inl (by decide))).trans ((M9.2 11 3 (Or.inl (by decide))).trans ((M4.2 11 3 (Or.inl (by decide))).trans z2))) dX1_keep_35 ?_
  refine r_iload S dX1_keep_38 (lv_at hl 4 rfl) ?_
  refine r_ast (n := 40) (K := 15) S X15 (Nat.le_of_ble_eq_true rfl) rfl (fun _ _ => rfl) (ix_of hf_0 rfl) dX1_keep_40 (fun t18 H lc M19 X20 => ?_)
  have I21 := Inv_mu I16 M19 (show Rg (kd 15) _ a3 from (R_of (lo := -9) (hi := 9) h_a3 rfl))
  have F22 : Fr [] [12, 13, 14, 15] τ t18 := Fr_cell F17 M19 (by decide)
  refine r_iconst S dX1_keep_41 (by decide) (fun v23 z24 => ?_)
  have r25 := R_eq z24
  exact r_ret S hr hlk X20 ⟨I21, F22, (LR_put hLR M4 M9 M14 M19 (LB_mk ⟨by omega, by omega, by omega, by omega⟩)), r25⟩ (nr_bool (R_of (lo := 0) (hi := 1) r25 rfl)) dX1_keep_42
def po_X1_keep_1 (τ : Tau)  (a0 a1 a2 a3 : Int32)   (r : Int32) (u : Tau) : Prop := Inv u ∧ Fr [] [12, 13, 14, 15] τ u ∧ LR u ∧ R (1) (1) r
set_option maxHeartbeats 4000000 in
set_option maxRecDepth 100000 in
theorem c_X1_keep_1 (l : Launch) (G : Gx) (τ : Tau) (hI : Inv τ) (a0 : Int32) (a1 : Int32) (a2 : Int32) (a3 : Int32) (h_a0 : R (1) (1) a0) (h_a1 : R (-1) (-1) a1) (h_a2 : R (0) (8) a2) (h_a3 : R (0) (0) a3) (hf_0 : R (0) (39) (τ 11 3)) (hLR : LR τ) : Ci l G yX1_keep cX1_keep 5 (some .boolean) 0 0 [.ref (G.2.2.2.1 11), .int a0, .int a1, .int a2, .int a3] τ (po_X1_keep_1 τ  a0 a1 a2 a3  ) := by
  unfold Ci
  refine C_of (own := RX1) (by decide) rfl (Nat.le_of_ble_eq_true rfl) ?_
  intro p e s m below meth c ls S hr hlk X hl
  have hl : lv_has ls 5 [(0, .ref (G.2.2.2.1 11)), (1, .int a0), (2, .int a1), (3, .int a2), (4, .int a3)] := hl
  obtain ⟨v1, z2⟩ : ∃ x, τ 11 3 = x := ⟨_, rfl⟩
  rw [z2] at hf_0
  refine r_aload_n S dX1_keep_0 rfl (lv_at hl 0 rfl) ?_
  refine r_get (K := 11) (v := .ref (G.2.2.2.1 12)) S X (Nat.le_of_ble_eq_true rfl) rfl lk1_9_1 (fun _ => ⟨_, rfl, rfl⟩) dX1_keep_1 ?_
  refine r_aload_n S dX1_keep_4 rfl (lv_at hl 0 rfl) ?_
  refine r_geti (K := 11) S X (Nat.le_of_ble_eq_true rfl) rfl lk1_24_1 (fun _ => ⟨_, rfl, rfl⟩) z2 dX1_keep_5 ?_
  refine r_iload_n S dX1_keep_8 rfl (lv_at hl 1 rfl) ?_
  refine r_ast (n := 40) (K := 12) S X (Nat.le_of_ble_eq_true rfl) rfl (fun _ _ => rfl) (ix_of hf_0 rfl) dX1_keep_9 (fun t3 H lc M4 X5 => ?_)
  have I6 := Inv_mu hI M4 (show Rg (kd 12) _ a0 from (R_of (lo := 0) (hi := 4) h_a0 rfl))
  have F7 : Fr [] [12, 13, 14, 15] τ t3 := Fr_cell Fr_rfl M4 (by decide)
  refine r_aload_n S dX1_keep_10 rfl (lv_at hl 0 rfl) ?_
  refine r_get (K := 11) (v := .ref (G.2.2.2.1 13)) S X5 (Nat.le_of_ble_eq_true rfl) rfl lk1_15_1 (fun _ => ⟨_, rfl, rfl⟩) dX1_keep_11 ?_
  refine r_aload_n S dX1_keep_14 rfl (lv_at hl 0 rfl) ?_
  refine r_geti (K := 11) S X5 (Nat.le_of_ble_eq_true rfl) rfl lk1_24_1 (fun _ => ⟨_, rfl, rfl⟩) ((M4.2 11 3 (Or.inl (by decide))).trans z2) dX1_keep_15 ?_
  refine r_iload_n S dX1_keep_18 rfl (lv_at hl 2 rfl) ?_
  refine r_ast (n := 40) (K := 13) S X5 (Nat.le_of_ble_eq_true rfl) rfl (fun _ _ => rfl) (ix_of hf_0 rfl) dX1_keep_19 (fun t8 H lc M9 X10 => ?_)
  have I11 := Inv_mu I6 M9 (show Rg (kd 13) _ a1 from (R_of (lo := -1) (hi := 1023) h_a1 rfl))
  have F12 : Fr [] [12, 13, 14, 15] τ t8 := Fr_cell F7 M9 (by decide)
  refine r_aload_n S dX1_keep_20 rfl (lv_at hl 0 rfl) ?_
  refine r_get (K := 11) (v := .ref (G.2.2.2.1 14)) S X10 (Nat.le_of_ble_eq_true rfl) rfl lk1_18_1 (fun _ => ⟨_, rfl, rfl⟩) dX1_keep_21 ?_
  refine r_aload_n S dX1_keep_24 rfl (lv_at hl 0 rfl) ?_
  refine r_geti (K := 11) S X10 (Nat.le_of_ble_eq_true rfl) rfl lk1_24_1 (fun _ => ⟨_, rfl, rfl⟩) ((M9.2 11 3 (Or.inl (by decide))).trans ((M4.2 11 3 (Or.inl (by decide))).trans z2)) dX1_keep_25 ?_
  refine r_iload_n S dX1_keep_28 rfl (lv_at hl 3 rfl) ?_
  refine r_ast (n := 40) (K := 14) S X10 (Nat.le_of_ble_eq_true rfl) rfl (fun _ _ => rfl) (ix_of hf_0 rfl) dX1_keep_29 (fun t13 H lc M14 X15 => ?_)
  have I16 := Inv_mu I11 M14 (show Rg (kd 14) _ a2 from (R_of (lo := -1) (hi := 8) h_a2 rfl))
  have F17 : Fr [] [12, 13, 14, 15] τ t13 := Fr_cell F12 M14 (by decide)
  refine r_aload_n S dX1_keep_30 rfl (lv_at hl 0 rfl) ?_
  refine r_get (K := 11) (v := .ref (G.2.2.2.1 15)) S X15 (Nat.le_of_ble_eq_true rfl) rfl lk1_21_1 (fun _ => ⟨_, rfl, rfl⟩) dX1_keep_31 ?_
  refine r_aload_n S dX1_keep_34 rfl (lv_at hl 0 rfl) ?_
  refine r_geti (K := 11) S X15 (Nat.le_of_ble_eq_true rfl) rfl lk1_24_1 (fun _ => ⟨_, rfl, rfl⟩) ((M14.2 11 3 (Or.inl (by decide))).trans ((M9.2 11 3 (Or.inl (by decide))).trans ((M4.2 11 3 (Or.inl (by decide))).trans z2))) dX1_keep_35 ?_
  refine r_iload S dX1_keep_38 (lv_at hl 4 rfl) ?_
  refine r_ast (n := 40) (K := 15) S X15 (Nat.le_of_ble_eq_true rfl) rfl (fun _ _ => rfl) (ix_of hf_0 rfl) dX1_keep_40 (fun t18 H lc M19 X20 => ?_)
  have I21 := Inv_mu I16 M19 (show Rg (kd 15) _ a3 from (R_of (lo := -9) (hi := 9) h_a3 rfl))
  have F22 : Fr [] [12, 13, 14, 15] τ t18 := Fr_cell F17 M19 (by decide)
  refine r_iconst S dX1_keep_41 (by decide) (fun v23 z24 => ?_)
  have r25 := R_eq z24
  exact r_ret S hr hlk X20 ⟨I21, F22, (LR_put hLR M4 M9 M14 M19 (LB_mk ⟨by omega, by omega, by omega, by omega⟩)), r25⟩ (nr_bool (R_of (lo := 0) (hi := 1) r25 rfl)) dX1_keep_42
def po_X1_keep_2 (τ : Tau)  (a0 a1 a2 a3 : Int32)   (r : Int32) (u : Tau) : Prop := Inv u ∧ Fr [] [12, 13, 14, 15] τ u ∧ LR u ∧ R (1) (1) r
set_option maxHeartbeats 4000000 in
set_option maxRecDepth 100000 in
theorem c_X1_keep_2 (l : Launch) (G : Gx) (τ : Tau) (hI : Inv τ) (a0 : Int32) (a1 : Int32) (a2 : Int32) (a3 : Int32) (h_a0 : R (2) (2) a0) (h_a1 : R (0) (9) a1) (h_a2 : R (-1) (-1) a2) (h_a3 : R (0) (0) a3) (hf_0 : R (0) (39) (τ 11 3)) (hLR : LR τ) : Ci l G yX1_keep cX1_keep 5 (some .boolean) 0 0 [.ref (G.2.2.2.1 11), .int a0, .int a1, .int a2, .int a3] τ (po_X1_keep_2 τ  a0 a1 a2 a3  ) := by
  unfold Ci
  refine C_of (own := RX1) (by decide) rfl (Nat.le_of_ble_eq_true rfl) ?_
  intro p e s m below meth c ls S hr hlk X hl
  have hl : lv_has ls 5 [(0, .ref (G.2.2.2.1 11)), (1, .int a0), (2, .int a1), (3, .int a2), (4, .int a3)] := hl
  obtain ⟨v1, z2⟩ : ∃ x, τ 11 3 = x := ⟨_, rfl⟩
  rw [z2] at hf_0
  refine r_aload_n S dX1_keep_0 rfl (lv_at hl 0 rfl) ?_
  refine r_get (K := 11) (v := .ref (G.2.2.2.1 12)) S X (Nat.le_of_ble_eq_true rfl) rfl lk1_9_1 (fun _ => ⟨_, rfl, rfl⟩) dX1_keep_1 ?_
  refine r_aload_n S dX1_keep_4 rfl (lv_at hl 0 rfl) ?_
  refine r_geti (K := 11) S X (Nat.le_of_ble_eq_true rfl) rfl lk1_24_1 (fun _ => ⟨_, rfl, rfl⟩) z2 dX1_keep_5 ?_
  refine r_iload_n S dX1_keep_8 rfl (lv_at hl 1 rfl) ?_
  refine r_ast (n := 40) (K := 12) S X (Nat.le_of_ble_eq_true rfl) rfl (fun _ _ => rfl) (ix_of hf_0 rfl) dX1_keep_9 (fun t3 H lc M4 X5 => ?_)
  have I6 := Inv_mu hI M4 (show Rg (kd 12) _ a0 from (R_of (lo := 0) (hi := 4) h_a0 rfl))
  have F7 : Fr [] [12, 13, 14, 15] τ t3 := Fr_cell Fr_rfl M4 (by decide)
  refine r_aload_n S dX1_keep_10 rfl (lv_at hl 0 rfl) ?_
  refine r_get (K := 11) (v := .ref (G.2.2.2.1 13)) S X5 (Nat.le_of_ble_eq_true rfl) rfl lk1_15_1 (fun _ => ⟨_, rfl, rfl⟩) dX1_keep_11 ?_
  refine r_aload_n S dX1_keep_14 rfl (lv_at hl 0 rfl) ?_
  refine r_geti (K := 11) S X5 (Nat.le_of_ble_eq_true rfl) rfl lk1_24_1 (fun _ => ⟨_, rfl, rfl⟩) ((M4.2 11 3 (Or.inl (by decide))).trans z2) dX1_keep_15 ?_
  refine r_iload_n S dX1_keep_18 rfl (lv_at hl 2 rfl) ?_
  refine r_ast (n := 40) (K := 13) S X5 (Nat.le_of_ble_eq_true rfl) rfl (fun _ _ => rfl) (ix_of hf_0 rfl) dX1_keep_19 (fun t8 H lc M9 X10 => ?_)
  have I11 := Inv_mu I6 M9 (show Rg (kd 13) _ a1 from (R_of (lo := -1) (hi := 1023) h_a1 rfl))
  have F12 : Fr [] [12, 13, 14, 15] τ t8 := Fr_cell F7 M9 (by decide)
  refine r_aload_n S dX1_keep_20 rfl (lv_at hl 0 rfl) ?_
  refine r_get (K := 11) (v := .ref (G.2.2.2.1 14)) S X10 (Nat.le_of_ble_eq_true rfl) rfl lk1_18_1 (fun _ => ⟨_, rfl, rfl⟩) dX1_keep_21 ?_
  refine r_aload_n S dX1_keep_24 rfl (lv_at hl 0 rfl) ?_
  refine r_geti (K := 11) S X10 (Nat.le_of_ble_eq_true rfl) rfl lk1_24_1 (fun _ => ⟨_, rfl, rfl⟩) ((M9.2 11 3 (Or.inl (by decide))).trans ((M4.2 11 3 (Or.inl (by decide))).trans z2)) dX1_keep_25 ?_
  refine r_iload_n S dX1_keep_28 rfl (lv_at hl 3 rfl) ?_
  refine r_ast (n := 40) (K := 14) S X10 (Nat.le_of_ble_eq_true rfl) rfl (fun _ _ => rfl) (ix_of hf_0 rfl) dX1_keep_29 (fun t13 H lc M14 X15 => ?_)
  have I16 := Inv_mu I11 M14 (show Rg (kd 14) _ a2 from (R_of (lo := -1) (hi := 8) h_a2 rfl))
  have F17 : Fr [] [12, 13, 14, 15] τ t13 := Fr_cell F12 M14 (by decide)
  refine r_aload_n S dX1_keep_30 rfl (lv_at hl 0 rfl) ?_
  refine r_get (K := 11) (v := .ref (G.2.2.2.1 15)) S X15 (Nat.le_of_ble_eq_true rfl) rfl lk1_21_1 (fun _ => ⟨_, rfl, rfl⟩) dX1_keep_31 ?_
  refine r_aload_n S dX1_keep_34 rfl (lv_at hl 0 rfl) ?_
  refine r_geti (K := 11) S X15 (Nat.le_of_ble_eq_true rfl) rfl lk1_24_1 (fun _ => ⟨_, rfl, rfl⟩) ((M14.2 11 3 (Or.inl (by decide))).trans ((M9.2 11 3 (Or.inl (by decide))).trans ((M4.2 11 3 (Or.inl (by decide))).trans z2))) dX1_keep_35 ?_
  refine r_iload S dX1_keep_38 (lv_at hl 4 rfl) ?_
  refine r_ast (n := 40) (K := 15) S X15 (Nat.le_of_ble_eq_true rfl) rfl (fun _ _ => rfl) (ix_of hf_0 rfl) dX1_keep_40 (fun t18 H lc M19 X20 => ?_)
  have I21 := Inv_mu I16 M19 (show Rg (kd 15) _ a3 from (R_of (lo := -9) (hi := 9) h_a3 rfl))
  have F22 : Fr [] [12, 13, 14, 15] τ t18 := Fr_cell F17 M19 (by decide)
  refine r_iconst S dX1_keep_41 (by decide) (fun v23 z24 => ?_)
  have r25 := R_eq z24
  exact r_ret S hr hlk X20 ⟨I21, F22, (LR_put hLR M4 M9 M14 M19 (LB_mk ⟨by omega, by omega, by omega, by omega⟩)), r25⟩ (nr_bool (R_of (lo := 0) (hi := 1) r25 rfl)) dX1_keep_42
def po_X1_keep_3 (τ : Tau)  (a0 a1 a2 a3 : Int32)   (r : Int32) (u : Tau) : Prop := Inv u ∧ Fr [] [12, 13, 14, 15] τ u ∧ LR u ∧ R (1) (1) r
set_option maxHeartbeats 4000000 in
set_option maxRecDepth 100000 in
theorem c_X1_keep_3 (l : Launch) (G : Gx) (τ : Tau) (hI : Inv τ) (a0 : Int32) (a1 : Int32) (a2 : Int32) (a3 : Int32) (h_a0 : R (3) (3) a0) (h_a1 : R (0) (9) a1) (h_a2 : R (0) (8) a2) (h_a3 : R (-9) (9) a3) (hf_0 : R (0) (39) (τ 11 3)) (hLR : LR τ) : Ci l G yX1_keep cX1_keep 5 (some .boolean) 0 0 [.ref (G.2.2.2.1 11), .int a0, .int a1, .int a2, .int a3] τ (po_X1_keep_3 τ  a0 a1 a2 a3  ) := by
  unfold Ci
  refine C_of (own := RX1) (by decide) rfl (Nat.le_of_ble_eq_true rfl) ?_
  intro p e s m below meth c ls S hr hlk X hl
  have hl : lv_has ls 5 [(0, .ref (G.2.2.2.1 11)), (1, .int a0), (2, .int a1), (3, .int a2), (4, .int a3)] := hl
  obtain ⟨v1, z2⟩ : ∃ x, τ 11 3 = x := ⟨_, rfl⟩
  rw [z2] at hf_0
  refine r_aload_n S dX1_keep_0 rfl (lv_at hl 0 rfl) ?_
  refine r_get (K := 11) (v := .ref (G.2.2.2.1 12)) S X (Nat.le_of_ble_eq_true rfl) rfl lk1_9_1 (fun _ => ⟨_, rfl, rfl⟩) dX1_keep_1 ?_
  refine r_aload_n S dX1_keep_4 rfl (lv_at hl 0 rfl) ?_
  refine r_geti (K := 11) S X (Nat.le_of_ble_eq_true rfl) rfl lk1_24_1 (fun _ => ⟨_, rfl, rfl⟩) z2 dX1_keep_5 ?_
  refine r_iload_n S dX1_keep_8 rfl (lv_at hl 1 rfl) ?_
  refine r_ast (n := 40) (K := 12) S X (Nat.le_of_ble_eq_true rfl) rfl (fun _ _ => rfl) (ix_of hf_0 rfl) dX1_keep_9 (fun t3 H lc M4 X5 => ?_)
  have I6 := Inv_mu hI M4 (show Rg (kd 12) _ a0 from (R_of (lo := 0) (hi := 4) h_a0 rfl))
  have F7 : Fr [] [12, 13, 14, 15] τ t3 := Fr_cell Fr_rfl M4 (by decide)
  refine r_aload_n S dX1_keep_10 rfl (lv_at hl 0 rfl) ?_
  refine r_get (K := 11) (v := .ref (G.2.2.2.1 13)) S X5 (Nat.le_of_ble_eq_true rfl) rfl lk1_15_1 (fun _ => ⟨_, rfl, rfl⟩) dX1_keep_11 ?_
  refine r_aload_n S dX1_keep_14 rfl (lv_at hl 0 rfl) ?_
  refine r_geti (K := 11) S X5 (Nat.le_of_ble_eq_true rfl) rfl lk1_24_1 (fun _ => ⟨_, rfl, rfl⟩) ((M4.2 11 3 (Or.inl (by decide))).trans z2) dX1_keep_15 ?_
  refine r_iload_n S dX1_keep_18 rfl (lv_at hl 2 rfl) ?_
  refine r_ast (n := 40) (K := 13) S X5 (Nat.le_of_ble_eq_true rfl) rfl (fun _ _ => rfl) (ix_of hf_0 rfl) dX1_keep_19 (fun t8 H lc M9 X10 => ?_)
  have I11 := Inv_mu I6 M9 (show Rg (kd 13) _ a1 from (R_of (lo := -1) (hi := 1023) h_a1 rfl))
  have F12 : Fr [] [12, 13, 14, 15] τ t8 := Fr_cell F7 M9 (by decide)
  refine r_aload_n S dX1_keep_20 rfl (lv_at hl 0 rfl) ?_
  refine r_get (K := 11) (v := .ref (G.2.2.2.1 14)) S X10 (Nat.le_of_ble_eq_true rfl) rfl lk1_18_1 (fun _ => ⟨_, rfl, rfl⟩) dX1_keep_21 ?_
  refine r_aload_n S dX1_keep_24 rfl (lv_at hl 0 rfl) ?_
  refine r_geti (K := 11) S X10 (Nat.le_of_ble_eq_true rfl) rfl lk1_24_1 (fun _ => ⟨_, rfl, rfl⟩) ((M9.2 11 3 (Or.inl (by decide))).trans ((M4.2 11 3 (Or.inl (by decide))).trans z2)) dX1_keep_25 ?_
  refine r_iload_n S dX1_keep_28 rfl (lv_at hl 3 rfl) ?_
  refine r_ast (n := 40) (K := 14) S X10 (Nat.le_of_ble_eq_true rfl) rfl (fun _ _ => rfl) (ix_of hf_0 rfl) dX1_keep_29 (fun t13 H lc M14 X15 => ?_)
  have I16 := Inv_mu I11 M14 (show Rg (kd 14) _ a2 from (R_of (lo := -1) (hi := 8) h_a2 rfl))
  have F17 : Fr [] [12, 13, 14, 15] τ t13 := Fr_cell F12 M14 (by decide)
  refine r_aload_n S dX1_keep_30 rfl (lv_at hl 0 rfl) ?_
  refine r_get (K := 11) (v := .ref (G.2.2.2.1 15)) S X15 (Nat.le_of_ble_eq_true rfl) rfl lk1_21_1 (fun _ => ⟨_, rfl, rfl⟩) dX1_keep_31 ?_
  refine r_aload_n S dX1_keep_34 rfl (lv_at hl 0 rfl) ?_
  refine r_geti (K := 11) S X15 (Nat.le_of_ble_eq_true rfl) rfl lk1_24_1 (fun _ => ⟨_, rfl, rfl⟩) ((M14.2 11 3 (Or.inl (by decide))).trans ((M9.2 11 3 (Or.inl (by decide))).trans ((M4.2 11 3 (Or.inl (by decide))).trans z2))) dX1_keep_35 ?_
  refine r_iload S dX1_keep_38 (lv_at hl 4 rfl) ?_
  refine r_ast (n := 40) (K := 15) S X15 (Nat.le_of_ble_eq_true rfl) rfl (fun _ _ => rfl) (ix_of hf_0 rfl) dX1_keep_40 (fun t18 H lc M19 X20 => ?_)
  have I21 := Inv_mu I16 M19 (show Rg (kd 15) _ a3 from (R_of (lo := -9) (hi := 9) h_a3 rfl))
  have F22 : Fr [] [12, 13, 14, 15] τ t18 := Fr_cell F17 M19 (by decide)
  refine r_iconst S dX1_keep_41 (by decide) (fun v23 z24 => ?_)
  have r25 := R_eq z24
  exact r_ret S hr hlk X20 ⟨I21, F22, (LR_put hLR M4 M9 M14 M19 (LB_mk ⟨by omega, by omega, by omega, by omega⟩)), r25⟩ (nr_bool (R_of (lo := 0) (hi := 1) r25 rfl)) dX1_keep_42
def po_X1_keep_4 (τ : Tau)  (a0 a1 a2 a3 : Int32)   (r : Int32) (u : Tau) : Prop := Inv u ∧ Fr [] [12, 13, 14, 15] τ u ∧ LR u ∧ R (1) (1) r
set_option maxHeartbeats 4000000 in
set_option maxRecDepth 100000 in
theorem c_X1_keep_4 (l : Launch) (G : Gx) (τ : Tau) (hI : Inv τ) (a0 : Int32) (a1 : Int32) (a2 : Int32) (a3 : Int32) (h_a0 : R (4) (4) a0) (h_a1 : R (0) (9) a1) (h_a2 : R (0) (8) a2) (h_a3 : R (-9) (9) a3) (hf_0 : R (0) (39) (τ 11 3)) (hLR : LR τ) : Ci l G yX1_keep cX1_keep 5 (some .boolean) 0 0 [.ref (G.2.2.2.1 11), .int a0, .int a1, .int a2, .int a3] τ (po_X1_keep_4 τ  a0 a1 a2 a3  ) := by
  unfold Ci
  refine C_of (own := RX1) (by decide) rfl (Nat.le_of_ble_eq_true rfl) ?_
  intro p e s m below meth c ls S hr hlk X hl
  have hl : lv_has ls 5 [(0, .ref (G.2.2.2.1 11)), (1, .int a0), (2, .int a1), (3, .int a2), (4, .int a3)] := hl
  obtain ⟨v1, z2⟩ : ∃ x, τ 11 3 = x := ⟨_, rfl⟩
  rw [z2] at hf_0
  refine r_aload_n S dX1_keep_0 rfl (lv_at hl 0 rfl) ?_
  refine r_get (K := 11) (v := .ref (G.2.2.2.1 12)) S X (Nat.le_of_ble_eq_true rfl) rfl lk1_9_1 (fun _ => ⟨_, rfl, rfl⟩) dX1_keep_1 ?_
  refine r_aload_n S dX1_keep_4 rfl (lv_at hl 0 rfl) ?_
  refine r_geti (K := 11) S X (Nat.le_of_ble_eq_true rfl) rfl lk1_24_1 (fun _ => ⟨_, rfl, rfl⟩) z2 dX1_keep_5 ?_
  refine r_iload_n S dX1_keep_8 rfl (lv_at hl 1 rfl) ?_
  refine r_ast (n := 40) (K := 12) S X (Nat.le_of_ble_eq_true rfl) rfl (fun _ _ => rfl) (ix_of hf_0 rfl) dX1_keep_9 (fun t3 H lc M4 X5 => ?_)
  have I6 := Inv_mu hI M4 (show Rg (kd 12) _ a0 from (R_of (lo := 0) (hi := 4) h_a0 rfl))
  have F7 : Fr [] [12, 13, 14, 15] τ t3 := Fr_cell Fr_rfl M4 (by decide)
  refine r_aload_n S dX1_keep_10 rfl (lv_at hl 0 rfl) ?_
  refine r_get (K := 11) (v := .ref (G.2.2.2.1 13)) S X5 (Nat.le_of_ble_eq_true rfl) rfl lk1_15_1 (fun _ => ⟨_, rfl, rfl⟩) dX1_keep_11 ?_
  refine r_aload_n S dX1_keep_14 rfl (lv_at hl 0 rfl) ?_
  refine r_geti (K := 11) S X5 (Nat.le_of_ble_eq_true rfl) rfl lk1_24_1 (fun _ => ⟨_, rfl, rfl⟩) ((M4.2 11 3 (Or.inl (by decide))).trans z2) dX1_keep_15 ?_
  refine r_iload_n S dX1_keep_18 rfl (lv_at hl 2 rfl) ?_
  refine r_ast (n := 40) (K := 13) S X5 (Nat.le_of_ble_eq_true rfl) rfl (fun _ _ => rfl) (ix_of hf_0 rfl) dX1_keep_19 (fun t8 H lc M9 X10 => ?_)
  have I11 := Inv_mu I6 M9 (show Rg (kd 13) _ a1 from (R_of (lo := -1) (hi := 1023) h_a1 rfl))
  have F12 : Fr [] [12, 13, 14, 15] τ t8 := Fr_cell F7 M9 (by decide)
  refine r_aload_n S dX1_keep_20 rfl (lv_at hl 0 rfl) ?_
  refine r_get (K := 11) (v := .ref (G.2.2.2.1 14)) S X10 (Nat.le_of_ble_eq_true rfl) rfl lk1_18_1 (fun _ => ⟨_, rfl, rfl⟩) dX1_keep_21 ?_
  refine r_aload_n S dX1_keep_24 rfl (lv_at hl 0 rfl) ?_
  refine r_geti (K := 11) S X10 (Nat.le_of_ble_eq_true rfl) rfl lk1_24_1 (fun _ => ⟨_, rfl, rfl⟩) ((M9.2 11 3 (Or.inl (by decide))).trans ((M4.2 11 3 (Or.inl (by decide))).trans z2)) dX1_keep_25 ?_
  refine r_iload_n S dX1_keep_28 rfl (lv_at hl 3 rfl) ?_
  refine r_ast (n := 40) (K := 14) S X10 (Nat.le_of_ble_eq_true rfl) rfl (fun _ _ => rfl) (ix_of hf_0 rfl) dX1_keep_29 (fun t13 H lc M14 X15 => ?_)
  have I16 := Inv_mu I11 M14 (show Rg (kd 14) _ a2 from (R_of (lo := -1) (hi := 8) h_a2 rfl))
  have F17 : Fr [] [12, 13, 14, 15] τ t13 := Fr_cell F12 M14 (by decide)
  refine r_aload_n S dX1_keep_30 rfl (lv_at hl 0 rfl) ?_
  refine r_get (K := 11) (v := .ref (G.2.2.2.1 15)) S X15 (Nat.le_of_ble_eq_true rfl) rfl lk1_21_1 (fun _ => ⟨_, rfl, rfl⟩) dX1_keep_31 ?_
  refine r_aload_n S dX1_keep_34 rfl (lv_at hl 0 rfl) ?_
  refine r_geti (K := 11) S X15 (Nat.le_of_ble_eq_true rfl) rfl lk1_24_1 (fun _ => ⟨_, rfl, rfl⟩) ((M14.2 11 3 (Or.inl (by decide))).trans ((M9.2 11 3 (Or.inl (by decide))).trans ((M4.2 11 3 (Or.inl (by decide))).trans z2))) dX1_keep_35 ?_
  refine r_iload S dX1_keep_38 (lv_at hl 4 rfl) ?_
  refine r_ast (n := 40) (K := 15) S X15 (Nat.le_of_ble_eq_true rfl) rfl (fun _ _ => rfl) (ix_of hf_0 rfl) dX1_keep_40 (fun t18 H lc M19 X20 => ?_)
  have I21 := Inv_mu I16 M19 (show Rg (kd 15) _ a3 from (R_of (lo := -9) (hi := 9) h_a3 rfl))
  have F22 : Fr [] [12, 13, 14, 15] τ t18 := Fr_cell F17 M19 (by decide)
  refine r_iconst S dX1_keep_41 (by decide) (fun v23 z24 => ?_)
  have r25 := R_eq z24
  exact r_ret S hr hlk X20 ⟨I21, F22, (LR_put hLR M4 M9 M14 M19 (LB_mk ⟨by omega, by omega, by omega, by omega⟩)), r25⟩ (nr_bool (R_of (lo := 0) (hi := 1) r25 rfl)) dX1_keep_42
def po_X1_readCrossing (τ : Tau)     (r : Int32) (u : Tau) : Prop := Inv u ∧ Fr [(11, 1), (11, 2), (1, 3), (1, 4), (1, 5), (1, 7), (1, 8)] [12, 13, 14, 15, 201] τ u ∧ LR u ∧ R (0) (1) r
set_option maxHeartbeats 4000000 in
set_option maxRecDepth 100000 in
theorem c_X1_readCrossing (l : Launch) (G : Gx) (τ : Tau) (hI : Inv τ) (hf_0 : R (0) (39) (τ 11 3)) (hLR : LR τ) : Ci l G yX1_readCrossing cX1_readCrossing 4 (some .boolean) 2 44 [.ref (G.2.2.2.1 11), .ref (G.2.2.2.1 23)] τ (po_X1_readCrossing τ    ) := by
  unfold Ci
  refine C_of (own := RX1) (by decide) rfl (Nat.le_of_ble_eq_true rfl) ?_
  intro p e s m below meth c ls S hr hlk X hl
  have hl : lv_has ls 4 [(0, .ref (G.2.2.2.1 11)), (1, .ref (G.2.2.2.1 23))] := hl
  obtain ⟨v1, z2⟩ : ∃ x, τ 11 3 = x := ⟨_, rfl⟩
  rw [z2] at hf_0
  refine r_iconst S dX1_readCrossing_0 (by decide) (fun v3 z4 => ?_)
  have r5 := R_eq z4
  refine r_istore_n (lv' := [(2, .int v3), (0, .ref (G.2.2.2.1 11)), (1, .ref (G.2.2.2.1 23))]) S dX1_readCrossing_1 rfl hl (by decide) rfl (fun ls hl => ?_)
  refine r_iconst S dX1_readCrossing_2 (by decide) (fun v6 z7 => ?_)
  have r8 := R_eq z7
  refine r_istore_n (lv' := [(3, .int v6), (2, .int v3), (0, .ref (G.2.2.2.1 11)), (1, .ref (G.2.2.2.1 23))]) S dX1_readCrossing_3 rfl hl (by decide) rfl (fun ls hl => ?_)
  have L1049 : ∀ (n : Nat) (t1043 : Tau) (H : Heap) (lc : List Loc) (ls : Array Slot) (i1039 : Int32) (i1041 : Int32), Xd G s H lc t1043 → Inv t1043 → Fr [(11, 1), (11, 2), (1, 3), (1, 4), (1, 5), (1, 7), (1, 8)] [12, 13, 14, 15, 201] τ t1043 → LR t1043 → R (0) (1023) i1039 → R (0) (19) i1041 → t1043 11 3 = v1 → lv_has ls 4 [(0, .ref (G.2.2.2.1 11)), (1, .ref (G.2.2.2.1 23)), (2, .int i1039), (3, .int i1041)] → (19 - i1041.toInt).toNat < n → W p l e (Rm 2 44) s m ([.ref (G.2.2.2.1 11), .ref (G.2.2.2.1 23)] : List Value).toArray below meth c H lc 0 0 (MQ below (va_Qi (po_X1_readCrossing τ    ) (Bs G) G.2.2.2.2) ([.ref (G.2.2.2.1 11), .ref (G.2.2.2.1 23)] : List Value).toArray s 0 0 G.2.2.2.2) (F0 m 4 ls []) := by
    intro n
    induction n with
    | zero => intros; omega
    | succ n ih1050 =>
      intro t1043 H lc ls i1039 i1041 X1047 I1044 F1045 hLR1046 r1040 r1042 z1048 hl hm
      refine r_iload_n S dX1_readCrossing_4 rfl (lv_at hl 3 rfl) ?_
      refine r_bipush S dX1_readCrossing_5 (by decide) (fun v1051 z1052 => ?_)
      have r1053 := R_eq z1052
      refine r_icmp_gt (tgt := 76) S dX1_readCrossing_7 (by decide) (fun c1054 => ?_) (fun c1054 => ?_)
      ·
        have r1055 : R (11) (19) i1041 := ⟨by omega, by omega⟩
        refine r_aload_n S dX1_readCrossing_76 rfl (lv_at hl 0 rfl) ?_
        refine r_iconst S dX1_readCrossing_77 (by decide) (fun v1056 z1057 => ?_)
        have r1058 := R_eq z1057
        refine r_iload_n S dX1_readCrossing_78 rfl (lv_at hl 2 rfl) ?_
        refine r_iconst S dX1_readCrossing_79 (by decide) (fun v1059 z1060 => ?_)
        have r1061 := R_eq z1060
        refine r_iconst S dX1_readCrossing_80 (by decide) (fun v1062 z1063 => ?_)
        have r1064 := R_eq z1063
        refine r_ki (q_V (As := [.int v1056, .int i1039, .int v1059, .int v1062]) (rest := []) (K := 11) (ci := 1) S X1047 (c_X1_keep_0 l G t1043 I1044 v1056 i1039 v1059 v1062 r1058 r1040 r1061 r1064 (by rw [z1048]; exact R_of hf_0 rfl) hLR1046) ck1_99 (Nat.le_of_ble_eq_true rfl) rfl (fun _ => ⟨_, rfl⟩) ⟨_, _, rfl⟩ ⟨Nat.le_of_ble_eq_true rfl, Nat.le_of_ble_eq_true rfl⟩ rfl hl.1 rfl (Nat.le_of_ble_eq_true rfl) dX1_readCrossing_81 ⟨Nat.le_refl 0, Nat.le_refl 0⟩) X1047 (fun v1068 t1067 H lc q1065 X1066 => ?_)
        unfold po_X1_keep_0 at q1065
        obtain ⟨q1069, q1070, q1071, q1072⟩ := q1065
        have F1073 : Fr [(11, 1), (11, 2), (1, 3), (1, 4), (1, 5), (1, 7), (1, 8)] [12, 13, 14, 15, 201] τ t1067 := Fr_call F1045 q1070 (by decide)
        exact r_ret S hr hlk X1066 ⟨q1069, F1073, q1071, (R_of q1072 rfl)⟩ (nr_bool (R_of (lo := 0) (hi := 1) q1072 rfl)) dX1_readCrossing_84
      ·
        have r1074 : R (0) (10) i1041 := ⟨by omega, by omega⟩
        refine r_iload_n S dX1_readCrossing_10 rfl (lv_at hl 3 rfl) ?_
        refine r_if_eq (tgt := 26) S dX1_readCrossing_11 (by decide) (fun c1075 => ?_) (fun c1075 => ?_)
        ·
          have r1076 : R (0) (0) i1041 := ⟨by omega, by omega⟩
          refine r_aload_n S dX1_readCrossing_26 rfl (lv_at hl 0 rfl) ?_
          refine r_aload_n S dX1_readCrossing_27 rfl (lv_at hl 1 rfl) ?_
          refine r_ki (q_U (As := [.ref (G.2.2.2.1 23)]) (rest := []) (K := 11) (ci := 1) S X1047 (c_X8_seeMan_11 l G t1043 I1044 ) ck1_65_1 (Nat.le_of_ble_eq_true rfl) rfl (fun _ => ⟨_, rfl⟩) ⟨_, _, rfl⟩ ⟨Nat.le_of_ble_eq_true rfl, Nat.le_of_ble_eq_true rfl⟩ rfl hl.1 rfl (Nat.le_of_ble_eq_true rfl) dX1_readCrossing_28 ⟨Nat.le_refl 0, Nat.le_refl 0⟩) X1047 (fun v1080 t1079 H lc q1077 X1078 => ?_)
          unfold po_X8_seeMan_11 at q1077
          obtain ⟨q1081, q1082, q1083, q1084⟩ := q1077
          have F1085 : Fr [(11, 1), (11, 2), (1, 3), (1, 4), (1, 5), (1, 7), (1, 8)] [12, 13, 14, 15, 201] τ t1079 := Fr_call F1045 q1082 (by decide)
          refine r_if_ne (tgt := 36) S dX1_readCrossing_31 (by decide) (fun c1086 => ?_) (fun c1086 => ?_)
          ·
            have r1087 : R (1) (1) v1080 := ⟨by omega, by omega⟩
            have p1088 := q1084 (by omega)
            obtain ⟨v1089, z1090⟩ : ∃ x, t1079 11 2 = x := ⟨_, rfl⟩
            rw [z1090] at p1088
            refine r_iload_n S dX1_readCrossing_36 rfl (lv_at hl 2 rfl) ?_
            refine r_aload_n S dX1_readCrossing_37 rfl (lv_at hl 0 rfl) ?_
            refine r_geti (K := 11) S X1078 (Nat.le_of_ble_eq_true rfl) rfl lk1_72_1 (fun _ => ⟨_, rfl, rfl⟩) z1090 dX1_readCrossing_38 ?_
            refine r_ki (q_N (As := [.int i1039, .int v1089]) (rest := []) S X1078 (c_X11_bit l G t1079 q1081 i1039 v1089 (R_of (lo := -2147483648) (hi := 2147483647) r1040 rfl) (R_of (lo := -2147483648) (hi := 2147483647) p1088 rfl)) ck1_95 ⟨Nat.le_of_ble_eq_true rfl, Nat.le_of_ble_eq_true rfl⟩ rfl hl.1 rfl (Nat.le_of_ble_eq_true rfl) dX1_readCrossing_41 ⟨Nat.le_refl 0, Nat.le_refl 0⟩) X1078 (fun v1094 t1093 H lc q1091 X1092 => ?_)
            unfold po_X11_bit at q1091
            obtain ⟨q1095, q1096⟩ := q1091
            rw [q1095] at X1092
            refine r_iconst S dX1_readCrossing_44 (by decide) (fun v1097 z1098 => ?_)
            have r1099 := R_eq z1098
            refine r_icmp_ne (tgt := 54) S dX1_readCrossing_45 (by decide) (fun c1100 => ?_) (fun c1100 => ?_)
            ·
              have r1101 : R (0) (0) v1094 := ⟨by omega, by omega⟩
              refine r_iload_n S dX1_readCrossing_54 rfl (lv_at hl 2 rfl) ?_
              refine r_iconst S dX1_readCrossing_55 (by decide) (fun v1102 z1103 => ?_)
              have r1104 := R_eq z1103
              refine r_aload_n S dX1_readCrossing_56 rfl (lv_at hl 0 rfl) ?_
              refine r_geti (K := 11) S X1092 (Nat.le_of_ble_eq_true rfl) rfl lk1_72_1 (fun _ => ⟨_, rfl, rfl⟩) z1090 dX1_readCrossing_57 ?_
              refine r_ishl S dX1_readCrossing_60 (fun v1105 z1106 => ?_)
              have r1108 : R (1) (512) v1105 := i_shl z1106 r1104 p1088 rfl
              refine r_ior S dX1_readCrossing_61 (fun v1109 z1110 => ?_)
              have r1112 : R (0) (1023) v1109 := i_or 10 z1110 r1040 r1108 rfl
              refine r_istore_n (lv' := [(2, .int v1109), (0, .ref (G.2.2.2.1 11)), (1, .ref (G.2.2.2.1 23)), (3, .int i1041)]) S dX1_readCrossing_62 rfl hl (by decide) rfl (fun ls hl => ?_)
              refine r_aload_n S dX1_readCrossing_63 rfl (lv_at hl 1 rfl) ?_
              refine r_get (K := 11) (v := .ref (G.2.2.2.1 1)) S X1092 (Nat.le_of_ble_eq_true rfl) rfl lk1_32_1 (fun _ => ⟨_, rfl, rfl⟩) dX1_readCrossing_64 ?_
              refine r_kv (q_V (As := []) (rest := []) (K := 1) (ci := 7) S X1092 (c_X7_step l G t1079 q1081 ) ck1_75 (Nat.le_of_ble_eq_true rfl) rfl (fun _ => ⟨_, rfl⟩) ⟨_, _, rfl⟩ ⟨Nat.le_of_ble_eq_true rfl, Nat.le_of_ble_eq_true rfl⟩ rfl hl.1 rfl (Nat.le_of_ble_eq_true rfl) dX1_readCrossing_67 ⟨Nat.le_refl 0, Nat.le_refl 0⟩) X1092 (fun t1115 H lc q1113 X1114 => ?_)
              unfold po_X7_step at q1113
              obtain ⟨q1116, q1117⟩ := q1113
              have F1118 : Fr [(11, 1), (11, 2), (1, 3), (1, 4), (1, 5), (1, 7), (1, 8)] [12, 13, 14, 15, 201] τ t1115 := Fr_call F1085 q1117 (by decide)
              refine r_iinc (k := 3) S dX1_readCrossing_70 hl rfl (by decide) (by decide) (fun v1119 d1120 ls z1121 z1122 hl => ?_)
              obtain ⟨e1123, r1124⟩ := i_add (lo := 1) (hi := 1) z1121 r1076 (R_eq z1122) rfl
              have hl : lv_has ls 4 [(3, .int v1119), (2, .int v1109), (0, .ref (G.2.2.2.1 11)), (1, .ref (G.2.2.2.1 23))] := hl
              refine r_goto (tgt := 4) S dX1_readCrossing_73 (by decide) ?_
              exact ih1050 t1115 _ _ _ v1109 v1119 X1114 q1116 F1118 (LR_eq hLR1046 (fun j => ((q1117 12 j (by simp [fz])).trans ((q1082 12 j (by simp [fz])).trans rfl))) (fun j => ((q1117 13 j (by simp [fz])).trans ((q1082 13 j (by simp [fz])).trans rfl))) (fun j => ((q1117 14 j (by simp [fz])).trans ((q1082 14 j (by simp [fz])).trans rfl)))) r1112 (R_of r1124 rfl) ((q1117 11 3 (by decide)).trans ((q1082 11 3 (by decide)).trans z1048)) (lv_sub hl [2, 3, 1, 0] rfl) (by omega)
            ·
              have r1125 : R (1) (1) v1094 := ⟨by omega, by omega⟩
              refine r_aload_n S dX1_readCrossing_48 rfl (lv_at hl 0 rfl) ?_
              refine r_iconst S dX1_readCrossing_49 (by decide) (fun v1126 z1127 => ?_)
              have r1128 := R_eq z1127
              refine r_ki (q_U (As := [.int v1126]) (rest := []) (K := 11) (ci := 1) S X1092 (c_X8_fail_11 l G t1079 q1081 v1126 (R_of (lo := -2147483648) (hi := 2147483647) r1128 rfl)) ck1_68_1 (Nat.le_of_ble_eq_true rfl) rfl (fun _ => ⟨_, rfl⟩) ⟨_, _, rfl⟩ ⟨Nat.le_of_ble_eq_true rfl, Nat.le_of_ble_eq_true rfl⟩ rfl hl.1 rfl (Nat.le_of_ble_eq_true rfl) dX1_readCrossing_50 ⟨Nat.le_refl 0, Nat.le_refl 0⟩) X1092 (fun v1132 t1131 H lc q1129 X1130 => ?_)
              unfold po_X8_fail_11 at q1129
              obtain ⟨q1133, q1134, q1135⟩ := q1129
              have F1136 : Fr [(11, 1), (11, 2), (1, 3), (1, 4), (1, 5), (1, 7), (1, 8)] [12, 13, 14, 15, 201] τ t1131 := Fr_call F1085 q1134 (by decide)
              exact r_ret S hr hlk X1130 ⟨q1133, F1136, (LR_eq hLR1046 (fun j => ((q1134 12 j (by simp [fz])).trans ((q1082 12 j (by simp [fz])).trans rfl))) (fun j => ((q1134 13 j (by simp [fz])).trans ((q1082 13 j (by simp [fz])).trans rfl))) (fun j => ((q1134 14 j (by simp [fz])).trans ((q1082 14 j (by simp [fz])).trans rfl)))), (R_of q1135 rfl)⟩ (nr_bool (R_of (lo := 0) (hi := 1) q1135 rfl)) dX1_readCrossing_53
          ·
            have r1137 : R (0) (0) v1080 := ⟨by omega, by omega⟩
            refine r_iconst S dX1_readCrossing_34 (by decide) (fun v1138 z1139 => ?_)
            have r1140 := R_eq z1139
            exact r_ret S hr hlk X1078 ⟨q1081, F1085, (LR_eq hLR1046 (fun j => ((q1082 12 j (by simp [fz])).trans rfl)) (fun j => ((q1082 13 j (by simp [fz])).trans rfl)) (fun j => ((q1082 14 j (by simp [fz])).trans rfl))), (R_of r1140 rfl)⟩ (nr_bool (R_of (lo := 0) (hi := 1) r1140 rfl)) dX1_readCrossing_35
        ·
          have r1141 : R (1) (10) i1041 := ⟨by omega, by omega⟩
          refine r_aload_n S dX1_readCrossing_14 rfl (lv_at hl 0 rfl) ?_
          refine r_get (K := 11) (v := .ref (G.2.2.2.1 1)) S X1047 (Nat.le_of_ble_eq_true rfl) rfl lk1_32_1 (fun _ => ⟨_, rfl, rfl⟩) dX1_readCrossing_15 ?_
          refine r_bipush S dX1_readCrossing_18 (by decide) (fun v1142 z1143 => ?_)
          have r1144 := R_eq z1143
          refine r_ki (q_V (As := [.int v1142]) (rest := []) (K := 1) (ci := 7) S X1047 (c_X7_isSigned l G t1043 I1044 v1142 (R_of (lo := 0) (hi := 65535) r1144 rfl)) ck1_92 (Nat.le_of_ble_eq_true rfl) rfl (fun _ => ⟨_, rfl⟩) ⟨_, _, rfl⟩ ⟨Nat.le_of_ble_eq_true rfl, Nat.le_of_ble_eq_true rfl⟩ rfl hl.1 rfl (Nat.le_of_ble_eq_true rfl) dX1_readCrossing_20 ⟨Nat.le_refl 0, Nat.le_refl 0⟩) X1047 (fun v1148 t1147 H lc q1145 X1146 => ?_)
          unfold po_X7_isSigned at q1145
          obtain ⟨q1149, q1150⟩ := q1145
          rw [q1149] at X1146
          refine r_if_ne (tgt := 76) S dX1_readCrossing_23 (by decide) (fun c1151 => ?_) (fun c1151 => ?_)
          ·
            have r1152 : R (1) (1) v1148 := ⟨by omega, by omega⟩
            refine r_aload_n S dX1_readCrossing_76 rfl (lv_at hl 0 rfl) ?_
            refine r_iconst S dX1_readCrossing_77 (by decide) (fun v1153 z1154 => ?_)
            have r1155 := R_eq z1154
            refine r_iload_n S dX1_readCrossing_78 rfl (lv_at hl 2 rfl) ?_
            refine r_iconst S dX1_readCrossing_79 (by decide) (fun v1156 z1157 => ?_)
            have r1158 := R_eq z1157
            refine r_iconst S dX1_readCrossing_80 (by decide) (fun v1159 z1160 => ?_)
            have r1161 := R_eq z1160
            refine r_ki (q_V (As := [.int v1153, .int i1039, .int v1156, .int v1159]) (rest := []) (K := 11) (ci := 1) S X1146 (c_X1_keep_0 l G t1043 I1044 v1153 i1039 v1156 v1159 r1155 r1040 r1158 r1161 (by rw [z1048]; exact R_of hf_0 rfl) hLR1046) ck1_99 (Nat.le_of_ble_eq_true rfl) rfl (fun _ => ⟨_, rfl⟩) ⟨_, _, rfl⟩ ⟨Nat.le_of_ble_eq_true rfl, Nat.le_of_ble_eq_true rfl⟩ rfl hl.1 rfl (Nat.le_of_ble_eq_true rfl) dX1_readCrossing_81 ⟨Nat.le_refl 0, Nat.le_refl 0⟩) X1146 (fun v1165 t1164 H lc q1162 X1163 => ?_)
            unfold po_X1_keep_0 at q1162
            obtain ⟨q1166, q1167, q1168, q1169⟩ := q1162
            have F1170 : Fr [(11, 1), (11, 2), (1, 3), (1, 4), (1, 5), (1, 7), (1, 8)] [12, 13, 14, 15, 201] τ t1164 := Fr_call F1045 q1167 (by decide)
            exact r_ret S hr hlk X1163 ⟨q1166, F1170, q1168, (R_of q1169 rfl)⟩ (nr_bool (R_of (lo := 0) (hi := 1) q1169 rfl)) dX1_readCrossing_84
          ·
            have r1171 : R (0) (0) v1148 := ⟨by omega, by omega⟩
            refine r_aload_n S dX1_readCrossing_26 rfl (lv_at hl 0 rfl) ?_
            refine r_aload_n S dX1_readCrossing_27 rfl (lv_at hl 1 rfl) ?_
            refine r_ki (q_U (As := [.ref (G.2.2.2.1 23)]) (rest := []) (K := 11) (ci := 1) S X1146 (c_X8_seeMan_11 l G t1043 I1044 ) ck1_65_1 (Nat.le_of_ble_eq_true rfl) rfl (fun _ => ⟨_, rfl⟩) ⟨_, _, rfl⟩ ⟨Nat.le_of_ble_eq_true rfl, Nat.le_of_ble_eq_true rfl⟩ rfl hl.1 rfl (Nat.le_of_ble_eq_true rfl) dX1_readCrossing_28 ⟨Nat.le_refl 0, Nat.le_refl 0⟩) X1146 (fun v1175 t1174 H lc q1172 X1173 => ?_)
            unfold po_X8_seeMan_11 at q1172
            obtain ⟨q1176, q1177, q1178, q1179⟩ := q1172
            have F1180 : Fr [(11, 1), (11, 2), (1, 3), (1, 4), (1, 5), (1, 7), (1, 8)] [12, 13, 14, 15, 201] τ t1174 := Fr_call F1045 q1177 (by decide)
            refine r_if_ne (tgt := 36) S dX1_readCrossing_31 (by decide) (fun c1181 => ?_) (fun c1181 => ?_)
            ·
              have r1182 : R (1) (1) v1175 := ⟨by omega, by omega⟩
              have p1183 := q1179 (by omega)
              obtain ⟨v1184, z1185⟩ : ∃ x, t1174 11 2 = x := ⟨_, rfl⟩
              rw [z1185] at p1183
              refine r_iload_n S dX1_readCrossing_36 rfl (lv_at hl 2 rfl) ?_
              refine r_aload_n S dX1_readCrossing_37 rfl (lv_at hl 0 rfl) ?_
              refine r_geti (K := 11) S X1173 (Nat.le_of_ble_eq_true rfl) rfl lk1_72_1 (fun _ => ⟨_, rfl, rfl⟩) z1185 dX1_readCrossing_38 ?_
              refine r_ki (q_N (As := [.int i1039, .int v1184]) (rest := []) S X1173 (c_X11_bit l G t1174 q1176 i1039 v1184 (R_of (lo := -2147483648) (hi := 2147483647) r1040 rfl) (R_of (lo := -2147483648) (hi := 2147483647) p1183 rfl)) ck1_95 ⟨Nat.le_of_ble_eq_true rfl, Nat.le_of_ble_eq_true rfl⟩ rfl hl.1 rfl (Nat.le_of_ble_eq_true rfl) dX1_readCrossing_41 ⟨Nat.le_refl 0, Nat.le_refl 0⟩) X1173 (fun v1189 t1188 H lc q1186 X1187 => ?_)
              unfold po_X11_bit at q1186
              obtain ⟨q1190, q1191⟩ := q1186
              rw [q1190] at X1187
              refine r_iconst S dX1_readCrossing_44 (by decide) (fun v1192 z1193 => ?_)
              have r1194 := R_eq z1193
              refine r_icmp_ne (tgt := 54) S dX1_readCrossing_45 (by decide) (fun c1195 => ?_) (fun c1195 => ?_)
              ·
                have r1196 : R (0) (0) v1189 := ⟨by omega, by omega⟩
                refine r_iload_n S dX1_readCrossing_54 rfl (lv_at hl 2 rfl) ?_
                refine r_iconst S dX1_readCrossing_55 (by decide) (fun v1197 z1198 => ?_)
                have r1199 := R_eq z1198
                refine r_aload_n S dX1_readCrossing_56 rfl (lv_at hl 0 rfl) ?_
                refine r_geti (K := 11) S X1187 (Nat.le_of_ble_eq_true rfl) rfl lk1_72_1 (fun _ => ⟨_, rfl, rfl⟩) z1185 dX1_readCrossing_57 ?_
                refine r_ishl S dX1_readCrossing_60 (fun v1200 z1201 => ?_)
                have r1203 : R (1) (512) v1200 := i_shl z1201 r1199 p1183 rfl
                refine r_ior S dX1_readCrossing_61 (fun v1204 z1205 => ?_)
                have r1207 : R (0) (1023) v1204 := i_or 10 z1205 r1040 r1203 rfl
                refine r_istore_n (lv' := [(2, .int v1204), (0, .ref (G.2.2.2.1 11)), (1, .ref (G.2.2.2.1 23)), (3, .int i1041)]) S dX1_readCrossing_62 rfl hl (by decide) rfl (fun ls hl => ?_)
                refine r_aload_n S dX1_readCrossing_63 rfl (lv_at hl 1 rfl) ?_
                refine r_get (K := 11) (v := .ref (G.2.2.2.1 1)) S X1187 (Nat.le_of_ble_eq_true rfl) rfl lk1_32_1 (fun _ => ⟨_, rfl, rfl⟩) dX1_readCrossing_64 ?_
                refine r_kv (q_V (As := []) (rest := []) (K := 1) (ci := 7) S X1187 (c_X7_step l G t1174 q1176 ) ck1_75 (Nat.le_of_ble_eq_true rfl) rfl (fun _ => ⟨_, rfl⟩) ⟨_, _, rfl⟩ ⟨Nat.le_of_ble_eq_true rfl, Nat.le_of_ble_eq_true rfl⟩ rfl hl.1 rfl (Nat.le_of_ble_eq_true rfl) dX1_readCrossing_67 ⟨Nat.le_refl 0, Nat.le_refl 0⟩) X1187 (fun t1210 H lc q1208 X1209 => ?_)
                unfold po_X7_step at q1208
                obtain ⟨q1211, q1212⟩ := q1208
                have F1213 : Fr [(11, 1), (11, 2), (1, 3), (1, 4), (1, 5), (1, 7), (1, 8)] [12, 13, 14, 15, 201] τ t1210 := Fr_call F1180 q1212 (by decide)
                refine r_iinc (k := 3) S dX1_readCrossing_70 hl rfl (by decide) (by decide) (fun v1214 d1215 ls z1216 z1217 hl => ?_)
                obtain ⟨e1218, r1219⟩ := i_add (lo := 2) (hi := 11) z1216 r1141 (R_eq z1217) rfl
                have hl : lv_has ls 4 [(3, .int v1214), (2, .int v1204), (0, .ref (G.2.2.2.1 11)), (1, .ref (G.2.2.2.1 23))] := hl
                refine r_goto (tgt := 4) S dX1_readCrossing_73 (by decide) ?_
                exact ih1050 t1210 _ _ _ v1204 v1214 X1209 q1211 F1213 (LR_eq hLR1046 (fun j => ((q1212 12 j (by simp [fz])).trans ((q1177 12 j (by simp [fz])).trans rfl))) (fun j => ((q1212 13 j (by simp [fz])).trans ((q1177 13 j (by simp [fz])).trans rfl))) (fun j => ((q1212 14 j (by simp [fz])).trans ((q1177 14 j (by simp [fz])).trans rfl)))) r1207 (R_of r1219 rfl) ((q1212 11 3 (by decide)).trans ((q1177 11 3 (by decide)).trans z1048)) (lv_sub hl [2, 3, 1, 0] rfl) (by omega)
              ·
                have r1220 : R (1) (1) v1189 := ⟨by omega, by omega⟩
                refine r_aload_n S dX1_readCrossing_48 rfl (lv_at hl 0 rfl) ?_
                refine r_iconst S dX1_readCrossing_49 (by decide) (fun v1221 z1222 => ?_)
                have r1223 := R_eq z1222
                refine r_ki (q_U (As := [.int v1221]) (rest := []) (K := 11) (ci := 1) S X1187 (c_X8_fail_11 l G t1174 q1176 v1221 (R_of (lo := -2147483648) (hi := 2147483647) r1223 rfl)) ck1_68_1 (Nat.le_of_ble_eq_true rfl) rfl (fun _ => ⟨_, rfl⟩) ⟨_, _, rfl⟩ ⟨Nat.le_of_ble_eq_true rfl, Nat.le_of_ble_eq_true rfl⟩ rfl hl.1 rfl (Nat.le_of_ble_eq_true rfl) dX1_readCrossing_50 ⟨Nat.le_refl 0, Nat.le_refl 0⟩) X1187 (fun v1227 t1226 H lc q1224 X1225 => ?_)
                unfold po_X8_fail_11 at q1224
                obtain ⟨q1228, q1229, q1230⟩ := q1224
                have F1231 : Fr [(11, 1), (11, 2), (1, 3), (1, 4), (1, 5), (1, 7), (1, 8)] [12, 13, 14, 15, 201] τ t1226 := Fr_call F1180 q1229 (by decide)
                exact r_ret S hr hlk X1225 ⟨q1228, F1231, (LR_eq hLR1046 (fun j => ((q1229 12 j (by simp [fz])).trans ((q1177 12 j (by simp [fz])).trans rfl))) (fun j => ((q1229 13 j (by simp [fz])).trans ((q1177 13 j (by simp [fz])).trans rfl))) (fun j => ((q1229 14 j (by simp [fz])).trans ((q1177 14 j (by simp [fz])).trans rfl)))), (R_of q1230 rfl)⟩ (nr_bool (R_of (lo := 0) (hi := 1) q1230 rfl)) dX1_readCrossing_53
            ·
              have r1232 : R (0) (0) v1175 := ⟨by omega, by omega⟩
              refine r_iconst S dX1_readCrossing_34 (by decide) (fun v1233 z1234 => ?_)
              have r1235 := R_eq z1234
              exact r_ret S hr hlk X1173 ⟨q1176, F1180, (LR_eq hLR1046 (fun j => ((q1177 12 j (by simp [fz])).trans rfl)) (fun j => ((q1177 13 j (by simp [fz])).trans rfl)) (fun j => ((q1177 14 j (by simp [fz])).trans rfl))), (R_of r1235 rfl)⟩ (nr_bool (R_of (lo := 0) (hi := 1) r1235 rfl)) dX1_readCrossing_35
  exact L1049 _ τ _ _ _ v3 v6 X hI Fr_rfl hLR (R_of r5 rfl) (R_of r8 rfl) z2 (lv_sub hl [2, 3, 1, 0] rfl) (Nat.lt_succ_self _)
def po_X1_readRaising (τ : Tau)     (r : Int32) (u : Tau) : Prop := Inv u ∧ Fr [(11, 1), (11, 2), (1, 3), (1, 4), (1, 5), (1, 7), (1, 8)] [12, 13, 14, 15, 201] τ u ∧ LR u ∧ R (0) (1) r
set_option maxHeartbeats 4000000 in
set_option maxRecDepth 100000 in
theorem c_X1_readRaising (l : Launch) (G : Gx) (τ : Tau) (hI : Inv τ) (hf_0 : R (0) (39) (τ 11 3)) (hLR : LR τ) : Ci l G yX1_readRaising cX1_readRaising 2 (some .boolean) 2 44 [.ref (G.2.2.2.1 11), .ref (G.2.2.2.1 23)] τ (po_X1_readRaising τ    ) := by
  unfold Ci
  refine C_of (own := RX1) (by decide) rfl (Nat.le_of_ble_eq_true rfl) ?_
  intro p e s m below meth c ls S hr hlk X hl
  have hl : lv_has ls 2 [(0, .ref (G.2.2.2.1 11)), (1, .ref (G.2.2.2.1 23))] := hl
  obtain ⟨v1, z2⟩ : ∃ x, τ 11 3 = x := ⟨_, rfl⟩
  rw [z2] at hf_0
  refine r_aload_n S dX1_readRaising_0 rfl (lv_at hl 0 rfl) ?_
  refine r_aload_n S dX1_readRaising_1 rfl (lv_at hl 1 rfl) ?_
  refine r_ki (q_U (As := [.ref (G.2.2.2.1 23)]) (rest := []) (K := 11) (ci := 1) S X (c_X8_seeAsk_11 l G τ hI ) ck1_103_1 (Nat.le_of_ble_eq_true rfl) rfl (fun _ => ⟨_, rfl⟩) ⟨_, _, rfl⟩ ⟨Nat.le_of_ble_eq_true rfl, Nat.le_of_ble_eq_true rfl⟩ rfl hl.1 rfl (Nat.le_of_ble_eq_true rfl) dX1_readRaising_2 ⟨Nat.le_refl 0, Nat.le_refl 0⟩) X (fun v6 t5 H lc q3 X4 => ?_)
  unfold po_X8_seeAsk_11 at q3
  obtain ⟨q7, q8, q9, q10⟩ := q3
  have F11 : Fr [(11, 1), (11, 2), (1, 3), (1, 4), (1, 5), (1, 7), (1, 8)] [12, 13, 14, 15, 201] τ t5 := Fr_call Fr_rfl q8 (by decide)
  refine r_if_ne (tgt := 10) S dX1_readRaising_5 (by decide) (fun c12 => ?_) (fun c12 => ?_)
  ·
    have r13 : R (1) (1) v6 := ⟨by omega, by omega⟩
    have p14 := q10 (by omega)
    obtain ⟨v15, z16⟩ : ∃ x, t5 11 2 = x := ⟨_, rfl⟩
    rw [z16] at p14
    refine r_aload_n S dX1_readRaising_10 rfl (lv_at hl 0 rfl) ?_
    refine r_get (K := 11) (v := .ref (G.2.2.2.1 1)) S X4 (Nat.le_of_ble_eq_true rfl) rfl lk1_32_1 (fun _ => ⟨_, rfl, rfl⟩) dX1_readRaising_11 ?_
    refine r_kv (q_V (As := []) (rest := []) (K := 1) (ci := 7) S X4 (c_X7_step l G t5 q7 ) ck1_75 (Nat.le_of_ble_eq_true rfl) rfl (fun _ => ⟨_, rfl⟩) ⟨_, _, rfl⟩ ⟨Nat.le_of_ble_eq_true rfl, Nat.le_of_ble_eq_true rfl⟩ rfl hl.1 rfl (Nat.le_of_ble_eq_true rfl) dX1_readRaising_14 ⟨Nat.le_refl 0, Nat.le_refl 0⟩) X4 (fun t19 H lc q17 X18 => ?_)
    unfold po_X7_step at q17
    obtain ⟨q20, q21⟩ := q17
    have F22 : Fr [(11, 1), (11, 2), (1, 3), (1, 4), (1, 5), (1, 7), (1, 8)] [12, 13, 14, 15, 201] τ t19 := Fr_call F11 q21 (by decide)
    refine r_aload_n S dX1_readRaising_17 rfl (lv_at hl 0 rfl) ?_
    refine r_iconst S dX1_readRaising_18 (by decide) (fun v23 z24 => ?_)
    have r25 := R_eq z24
    refine r_iconst S dX1_readRaising_19 (by decide) (fun v26 z27 => ?_)
    have r28 := R_eq z27
    refine r_aload_n S dX1_readRaising_20 rfl (lv_at hl 0 rfl) ?_
    refine r_geti (K := 11) S X18 (Nat.le_of_ble_eq_true rfl) rfl lk1_72_1 (fun _ => ⟨_, rfl, rfl⟩) ((q21 11 2 (by decide)).trans z16) dX1_readRaising_21 ?_
    refine r_iconst S dX1_readRaising_24 (by decide) (fun v29 z30 => ?_)
    have r31 := R_eq z30
    refine r_ki (q_V (As := [.int v23, .int v26, .int v15, .int v29]) (rest := []) (K := 11) (ci := 1) S X18 (c_X1_keep_1 l G t19 q20 v23 v26 v15 v29 r25 r28 p14 r31 (by rw [((q21 11 3 (by decide)).trans ((q8 11 3 (by decide)).trans z2))]; exact R_of hf_0 rfl) (LR_eq hLR (fun j => ((q21 12 j (by simp [fz])).trans ((q8 12 j (by simp [fz])).trans rfl))) (fun j => ((q21 13 j (by simp [fz])).trans ((q8 13 j (by simp [fz])).trans rfl))) (fun j => ((q21 14 j (by simp [fz])).trans ((q8 14 j (by simp [fz])).trans rfl))))) ck1_99 (Nat.le_of_ble_eq_true rfl) rfl (fun _ => ⟨_, rfl⟩) ⟨_, _, rfl⟩ ⟨Nat.le_of_ble_eq_true rfl, Nat.le_of_ble_eq_true rfl⟩ rfl hl.1 rfl (Nat.le_of_ble_eq_true rfl) dX1_readRaising_25 ⟨Nat.le_refl 0, Nat.le_refl 0⟩) X18 (fun v35 t34 H lc q32 X33 => ?_)
    unfold po_X1_keep_1 at q32
    obtain ⟨q36, q37, q38, q39⟩ := q32
    have F40 : Fr [(11, 1), (11, 2), (1, 3), (1, 4), (1, 5), (1, 7), (1, 8)] [12, 13, 14, 15, 201] τ t34 := Fr_call F22 q37 (by decide)
    exact r_ret S hr hlk X33 ⟨q36, F40, q38, (R_of q39 rfl)⟩ (nr_bool (R_of (lo := 0) (hi := 1) q39 rfl)) dX1_readRaising_28
  ·
    have r41 : R (0) (0) v6 := ⟨by omega, by omega⟩
    refine r_iconst S dX1_readRaising_8 (by decide) (fun v42 z43 => ?_)
    have r44 := R_eq z43
    exact r_ret S hr hlk X4 ⟨q7, F11, (LR_eq hLR (fun j => ((q8 12 j (by simp [fz])).trans rfl)) (fun j => ((q8 13 j (by simp [fz])).trans rfl)) (fun j => ((q8 14 j (by simp [fz])).trans rfl))), (R_of r44 rfl)⟩ (nr_bool (R_of (lo := 0) (hi := 1) r44 rfl)) dX1_readRaising_9
def po_X1_readHiring (τ : Tau)     (r : Int32) (u : Tau) : Prop := Inv u ∧ Fr [(11, 1), (11, 2), (1, 3), (1, 4), (1, 5), (1, 7), (1, 8)] [12, 13, 14, 15, 201] τ u ∧ LR u ∧ R (0) (1) r
set_option maxHeartbeats 4000000 in
set_option maxRecDepth 100000 in
theorem c_X1_readHiring (l : Launch) (G : Gx) (τ : Tau) (hI : Inv τ) (hf_0 : R (0) (39) (τ 11 3)) (hLR : LR τ) : Ci l G yX1_readHiring cX1_readHiring 2 (some .boolean) 2 44 [.ref (G.2.2.2.1 11), .ref (G.2.2.2.1 23)] τ (po_X1_readHiring τ    ) := by
  unfold Ci
  refine C_of (own := RX1) (by decide) rfl (Nat.le_of_ble_eq_true rfl) ?_
  intro p e s m below meth c ls S hr hlk X hl
  have hl : lv_has ls 2 [(0, .ref (G.2.2.2.1 11)), (1, .ref (G.2.2.2.1 23))] := hl
  obtain ⟨v1, z2⟩ : ∃ x, τ 11 3 = x := ⟨_, rfl⟩
  rw [z2] at hf_0
  refine r_aload_n S dX1_readHiring_0 rfl (lv_at hl 0 rfl) ?_
  refine r_aload_n S dX1_readHiring_1 rfl (lv_at hl 1 rfl) ?_
  refine r_ki (q_U (As := [.ref (G.2.2.2.1 23)]) (rest := []) (K := 11) (ci := 1) S X (c_X8_seeMan_11 l G τ hI ) ck1_65_1 (Nat.le_of_ble_eq_true rfl) rfl (fun _ => ⟨_, rfl⟩) ⟨_, _, rfl⟩ ⟨Nat.le_of_ble_eq_true rfl, Nat.le_of_ble_eq_true rfl⟩ rfl hl.1 rfl (Nat.le_of_ble_eq_true rfl) dX1_readHiring_2 ⟨Nat.le_refl 0, Nat.le_refl 0⟩) X (fun v6 t5 H lc q3 X4 => ?_)
  unfold po_X8_seeMan_11 at q3
  obtain ⟨q7, q8, q9, q10⟩ := q3
  have F11 : Fr [(11, 1), (11, 2), (1, 3), (1, 4), (1, 5), (1, 7), (1, 8)] [12, 13, 14, 15, 201] τ t5 := Fr_call Fr_rfl q8 (by decide)
  refine r_if_ne (tgt := 10) S dX1_readHiring_5 (by decide) (fun c12 => ?_) (fun c12 => ?_)
  ·
    have r13 : R (1) (1) v6 := ⟨by omega, by omega⟩
    have p14 := q10 (by omega)
    obtain ⟨v15, z16⟩ : ∃ x, t5 11 2 = x := ⟨_, rfl⟩
    rw [z16] at p14
    refine r_aload_n S dX1_readHiring_10 rfl (lv_at hl 0 rfl) ?_
    refine r_get (K := 11) (v := .ref (G.2.2.2.1 1)) S X4 (Nat.le_of_ble_eq_true rfl) rfl lk1_32_1 (fun _ => ⟨_, rfl, rfl⟩) dX1_readHiring_11 ?_
    refine r_kv (q_V (As := []) (rest := []) (K := 1) (ci := 7) S X4 (c_X7_step l G t5 q7 ) ck1_75 (Nat.le_of_ble_eq_true rfl) rfl (fun _ => ⟨_, rfl⟩) ⟨_, _, rfl⟩ ⟨Nat.le_of_ble_eq_true rfl, Nat.le_of_ble_eq_true rfl⟩ rfl hl.1 rfl (Nat.le_of_ble_eq_true rfl) dX1_readHiring_14 ⟨Nat.le_refl 0, Nat.le_refl 0⟩) X4 (fun t19 H lc q17 X18 => ?_)
    unfold po_X7_step at q17
    obtain ⟨q20, q21⟩ := q17
    have F22 : Fr [(11, 1), (11, 2), (1, 3), (1, 4), (1, 5), (1, 7), (1, 8)] [12, 13, 14, 15, 201] τ t19 := Fr_call F11 q21 (by decide)
    refine r_aload_n S dX1_readHiring_17 rfl (lv_at hl 0 rfl) ?_
    refine r_iconst S dX1_readHiring_18 (by decide) (fun v23 z24 => ?_)
    have r25 := R_eq z24
    refine r_aload_n S dX1_readHiring_19 rfl (lv_at hl 0 rfl) ?_
    refine r_geti (K := 11) S X18 (Nat.le_of_ble_eq_true rfl) rfl lk1_72_1 (fun _ => ⟨_, rfl, rfl⟩) ((q21 11 2 (by decide)).trans z16) dX1_readHiring_20 ?_
    refine r_iconst S dX1_readHiring_23 (by decide) (fun v26 z27 => ?_)
    have r28 := R_eq z27
    refine r_iconst S dX1_readHiring_24 (by decide) (fun v29 z30 => ?_)
    have r31 := R_eq z30
    refine r_ki (q_V (As := [.int v23, .int v15, .int v26, .int v29]) (rest := []) (K := 11) (ci := 1) S X18 (c_X1_keep_2 l G t19 q20 v23 v15 v26 v29 r25 p14 r28 r31 (by rw [((q21 11 3 (by decide)).trans ((q8 11 3 (by decide)).trans z2))]; exact R_of hf_0 rfl) (LR_eq hLR (fun j => ((q21 12 j (by simp [fz])).trans ((q8 12 j (by simp [fz])).trans rfl))) (fun j => ((q21 13 j (by simp [fz])).trans ((q8 13 j (by simp [fz])).trans rfl))) (fun j => ((q21 14 j (by simp [fz])).trans ((q8 14 j (by simp [fz])).trans rfl))))) ck1_99 (Nat.le_of_ble_eq_true rfl) rfl (fun _ => ⟨_, rfl⟩) ⟨_, _, rfl⟩ ⟨Nat.le_of_ble_eq_true rfl, Nat.le_of_ble_eq_true rfl⟩ rfl hl.1 rfl (Nat.le_of_ble_eq_true rfl) dX1_readHiring_25 ⟨Nat.le_refl 0, Nat.le_refl 0⟩) X18 (fun v35 t34 H lc q32 X33 => ?_)
    unfold po_X1_keep_2 at q32
    obtain ⟨q36, q37, q38, q39⟩ := q32
    have F40 : Fr [(11, 1), (11, 2), (1, 3), (1, 4), (1, 5), (1, 7), (1, 8)] [12, 13, 14, 15, 201] τ t34 := Fr_call F22 q37 (by decide)
    exact r_ret S hr hlk X33 ⟨q36, F40, q38, (R_of q39 rfl)⟩ (nr_bool (R_of (lo := 0) (hi := 1) q39 rfl)) dX1_readHiring_28
  ·
    have r41 : R (0) (0) v6 := ⟨by omega, by omega⟩
    refine r_iconst S dX1_readHiring_8 (by decide) (fun v42 z43 => ?_)
    have r44 := R_eq z43
    exact r_ret S hr hlk X4 ⟨q7, F11, (LR_eq hLR (fun j => ((q8 12 j (by simp [fz])).trans rfl)) (fun j => ((q8 13 j (by simp [fz])).trans rfl)) (fun j => ((q8 14 j (by simp [fz])).trans rfl))), (R_of r44 rfl)⟩ (nr_bool (R_of (lo := 0) (hi := 1) r44 rfl)) dX1_readHiring_9
def po_X1_readSpeech (τ : Tau)  (a1 : Int32)   (r : Int32) (u : Tau) : Prop := Inv u ∧ Fr [(11, 1), (11, 2), (1, 3), (1, 4), (1, 5), (1, 7), (1, 8)] [12, 13, 14, 15, 201] τ u ∧ LR u ∧ R (0) (1) r
set_option maxHeartbeats 4000000 in
set_option maxRecDepth 100000 in
theorem c_X1_readSpeech (l : Launch) (G : Gx) (τ : Tau) (hI : Inv τ) (a1 : Int32) (h_a1 : R (0) (9) a1) (hf_0 : R (0) (39) (τ 11 3)) (hLR : LR τ) : Ci l G yX1_readSpeech cX1_readSpeech 6 (some .boolean) 2 46 [.ref (G.2.2.2.1 11), .ref (G.2.2.2.1 23), .int a1] τ (po_X1_readSpeech τ  a1  ) := by
  unfold Ci
  refine C_of (own := RX1) (by decide) rfl (Nat.le_of_ble_eq_true rfl) ?_
  intro p e s m below meth c ls S hr hlk X hl
  have hl : lv_has ls 6 [(0, .ref (G.2.2.2.1 11)), (1, .ref (G.2.2.2.1 23)), (2, .int a1)] := hl
  obtain ⟨v1, z2⟩ : ∃ x, τ 11 3 = x := ⟨_, rfl⟩
  rw [z2] at hf_0
  refine r_aload_n S dX1_readSpeech_0 rfl (lv_at hl 0 rfl) ?_
  refine r_get (K := 11) (v := .ref (G.2.2.2.1 1)) S X (Nat.le_of_ble_eq_true rfl) rfl lk1_32_1 (fun _ => ⟨_, rfl, rfl⟩) dX1_readSpeech_1 ?_
  refine r_wst (i := 11) S X (by decide) kw52 dX1_readSpeech_4 ?_
  refine r_ki (q_V (As := [.ref (G.2.2.1 11)]) (rest := []) (K := 1) (ci := 7) S X (c_X7_is l G τ hI 11 (by decide)) ck1_55 (Nat.le_of_ble_eq_true rfl) rfl (fun _ => ⟨_, rfl⟩) ⟨_, _, rfl⟩ ⟨Nat.le_of_ble_eq_true rfl, Nat.le_of_ble_eq_true rfl⟩ rfl hl.1 rfl (Nat.le_of_ble_eq_true rfl) dX1_readSpeech_7 ⟨Nat.le_refl 0, Nat.le_refl 0⟩) X (fun v6 t5 H lc q3 X4 => ?_)
  unfold po_X7_is at q3
  obtain ⟨q7, q8⟩ := q3
  rw [q7] at X4
  refine r_istore_n (lv' := [(3, .int v6), (0, .ref (G.2.2.2.1 11)), (1, .ref (G.2.2.2.1 23)), (2, .int a1)]) S dX1_readSpeech_10 rfl hl (by decide) rfl (fun ls hl => ?_)
  refine r_iload_n S dX1_readSpeech_11 rfl (lv_at hl 0 rfl) ?_
  refine r_if_ne (tgt := 34) S dX1_readSpeech_12 (by decide) (fun c9 => ?_) (fun c9 => ?_)
  ·
    have r10 : R (1) (1) v6 := ⟨by omega, by omega⟩
    refine r_aload_n S dX1_readSpeech_34 rfl (lv_at hl 1 rfl) ?_
    refine r_get (K := 11) (v := .ref (G.2.2.2.1 1)) S X4 (Nat.le_of_ble_eq_true rfl) rfl lk1_32_1 (fun _ => ⟨_, rfl, rfl⟩) dX1_readSpeech_35 ?_
    refine r_kv (q_V (As := []) (rest := []) (K := 1) (ci := 7) S X4 (c_X7_step l G τ hI ) ck1_75 (Nat.le_of_ble_eq_true rfl) rfl (fun _ => ⟨_, rfl⟩) ⟨_, _, rfl⟩ ⟨Nat.le_of_ble_eq_true rfl, Nat.le_of_ble_eq_true rfl⟩ rfl hl.1 rfl (Nat.le_of_ble_eq_true rfl) dX1_readSpeech_38 ⟨Nat.le_refl 0, Nat.le_refl 0⟩) X4 (fun t13 H lc q11 X12 => ?_)
    unfold po_X7_step at q11
    obtain ⟨q14, q15⟩ := q11
    have F16 : Fr [(11, 1), (11, 2), (1, 3), (1, 4), (1, 5), (1, 7), (1, 8)] [12, 13, 14, 15, 201] τ t13 := Fr_call Fr_rfl q15 (by decide)
    refine r_aload_n S dX1_readSpeech_41 rfl (lv_at hl 1 rfl) ?_
    refine r_aload_n S dX1_readSpeech_42 rfl (lv_at hl 2 rfl) ?_
    refine r_ki (q_U (As := [.ref (G.2.2.2.1 23)]) (rest := []) (K := 11) (ci := 1) S X12 (c_X8_seeAsk_11 l G t13 q14 ) ck1_103_1 (Nat.le_of_ble_eq_true rfl) rfl (fun _ => ⟨_, rfl⟩) ⟨_, _, rfl⟩ ⟨Nat.le_of_ble_eq_true rfl, Nat.le_of_ble_eq_true rfl⟩ rfl hl.1 rfl (Nat.le_of_ble_eq_true rfl) dX1_readSpeech_43 ⟨Nat.le_refl 0, Nat.le_refl 0⟩) X12 (fun v20 t19 H lc q17 X18 => ?_)
    unfold po_X8_seeAsk_11 at q17
    obtain ⟨q21, q22, q23, q24⟩ := q17
    have F25 : Fr [(11, 1), (11, 2), (1, 3), (1, 4), (1, 5), (1, 7), (1, 8)] [12, 13, 14, 15, 201] τ t19 := Fr_call F16 q22 (by decide)
    refine r_if_ne (tgt := 51) S dX1_readSpeech_46 (by decide) (fun c26 => ?_) (fun c26 => ?_)
    ·
      have r27 : R (1) (1) v20 := ⟨by omega, by omega⟩
      have p28 := q24 (by omega)
      obtain ⟨v29, z30⟩ : ∃ x, t19 11 2 = x := ⟨_, rfl⟩
      rw [z30] at p28
      refine r_aload_n S dX1_readSpeech_51 rfl (lv_at hl 1 rfl) ?_
      refine r_geti (K := 11) S X18 (Nat.le_of_ble_eq_true rfl) rfl lk1_72_1 (fun _ => ⟨_, rfl, rfl⟩) z30 dX1_readSpeech_52 ?_
      refine r_istore (lv' := [(4, .int v29), (3, .int v6), (0, .ref (G.2.2.2.1 11)), (1, .ref (G.2.2.2.1 23)), (2, .int a1)]) S dX1_readSpeech_55 hl (by decide) rfl (fun ls hl => ?_)
      refine r_aload_n S dX1_readSpeech_57 rfl (lv_at hl 2 rfl) ?_
      refine r_get (K := 11) (v := .ref (G.2.2.2.1 1)) S X18 (Nat.le_of_ble_eq_true rfl) rfl lk1_32_1 (fun _ => ⟨_, rfl, rfl⟩) dX1_readSpeech_58 ?_
      refine r_kv (q_V (As := []) (rest := []) (K := 1) (ci := 7) S X18 (c_X7_step l G t19 q21 ) ck1_75 (Nat.le_of_ble_eq_true rfl) rfl (fun _ => ⟨_, rfl⟩) ⟨_, _, rfl⟩ ⟨Nat.le_of_ble_eq_true rfl, Nat.le_of_ble_eq_true rfl⟩ rfl hl.1 rfl (Nat.le_of_ble_eq_true rfl) dX1_readSpeech_61 ⟨Nat.le_refl 0, Nat.le_refl 0⟩) X18 (fun t33 H lc q31 X32 => ?_)
      unfold po_X7_step at q31
      obtain ⟨q34, q35⟩ := q31
      have F36 : Fr [(11, 1), (11, 2), (1, 3), (1, 4), (1, 5), (1, 7), (1, 8)] [12, 13, 14, 15, 201] τ t33 := Fr_call F25 q35 (by decide)
      refine r_aload_n S dX1_readSpeech_64 rfl (lv_at hl 2 rfl) ?_
      refine r_ki (q_U (As := []) (rest := []) (K := 11) (ci := 1) S X32 (c_X8_takeYesOrNo_11 l G t33 q34 ) ck1_112_1 (Nat.le_of_ble_eq_true rfl) rfl (fun _ => ⟨_, rfl⟩) ⟨_, _, rfl⟩ ⟨Nat.le_of_ble_eq_true rfl, Nat.le_of_ble_eq_true rfl⟩ rfl hl.1 rfl (Nat.le_of_ble_eq_true rfl) dX1_readSpeech_65 ⟨Nat.le_refl 0, Nat.le_refl 0⟩) X32 (fun v40 t39 H lc q37 X38 => ?_)
      unfold po_X8_takeYesOrNo_11 at q37
      obtain ⟨q41, q42, q43, q44⟩ := q37
      have F45 : Fr [(11, 1), (11, 2), (1, 3), (1, 4), (1, 5), (1, 7), (1, 8)] [12, 13, 14, 15, 201] τ t39 := Fr_call F36 q42 (by decide)
      refine r_if_ne (tgt := 73) S dX1_readSpeech_68 (by decide) (fun c46 => ?_) (fun c46 => ?_)
      ·
        have r47 : R (1) (1) v40 := ⟨by omega, by omega⟩
        have p48 := q44 (by omega)
        obtain ⟨v49, z50⟩ : ∃ x, t39 11 2 = x := ⟨_, rfl⟩
        rw [z50] at p48
        refine r_aload_n S dX1_readSpeech_73 rfl (lv_at hl 2 rfl) ?_
        refine r_geti (K := 11) S X38 (Nat.le_of_ble_eq_true rfl) rfl lk1_72_1 (fun _ => ⟨_, rfl, rfl⟩) z50 dX1_readSpeech_74 ?_
        refine r_istore (lv' := [(5, .int v49), (4, .int v29), (3, .int v6), (0, .ref (G.2.2.2.1 11)), (1, .ref (G.2.2.2.1 23)), (2, .int a1)]) S dX1_readSpeech_77 hl (by decide) rfl (fun ls hl => ?_)
        refine r_aload_n S dX1_readSpeech_79 rfl (lv_at hl 3 rfl) ?_
        refine r_iconst S dX1_readSpeech_80 (by decide) (fun v51 z52 => ?_)
        have r53 := R_eq z52
        refine r_bipush S dX1_readSpeech_81 (by decide) (fun v54 z55 => ?_)
        have r56 := R_eq z55
        refine r_ki (q_U (As := [.int v51, .int v54]) (rest := []) (K := 11) (ci := 1) S X38 (c_X8_takeNumber_11_0_9 l G t39 q41 v51 v54 r53 r56) ck1_116_1 (Nat.le_of_ble_eq_true rfl) rfl (fun _ => ⟨_, rfl⟩) ⟨_, _, rfl⟩ ⟨Nat.le_of_ble_eq_true rfl, Nat.le_of_ble_eq_true rfl⟩ rfl hl.1 rfl (Nat.le_of_ble_eq_true rfl) dX1_readSpeech_83 ⟨Nat.le_refl 0, Nat.le_refl 0⟩) X38 (fun v60 t59 H lc q57 X58 => ?_)
        unfold po_X8_takeNumber_11_0_9 at q57
        obtain ⟨q61, q62, q63, q64⟩ := q57
        have F65 : Fr [(11, 1), (11, 2), (1, 3), (1, 4), (1, 5), (1, 7), (1, 8)] [12, 13, 14, 15, 201] τ t59 := Fr_call F45 q62 (by decide)
        refine r_if_ne (tgt := 91) S dX1_readSpeech_86 (by decide) (fun c66 => ?_) (fun c66 => ?_)
        ·
          have r67 : R (1) (1) v60 := ⟨by omega, by omega⟩
          have p68 := q64 (by omega)
          obtain ⟨v69, z70⟩ : ∃ x, t59 11 2 = x := ⟨_, rfl⟩
          rw [z70] at p68
          refine r_aload_n S dX1_readSpeech_91 rfl (lv_at hl 3 rfl) ?_
          refine r_iload_n S dX1_readSpeech_92 rfl (lv_at hl 2 rfl) ?_
          refine r_if_eq (tgt := 100) S dX1_readSpeech_93 (by decide) (fun c71 => ?_) (fun c71 => ?_)
          ·
            exfalso; omega
          ·
            refine r_iconst S dX1_readSpeech_96 (by decide) (fun v72 z73 => ?_)
            have r74 := R_eq z73
            refine r_goto (tgt := 101) S dX1_readSpeech_97 (by decide) ?_
            refine r_iload_n S dX1_readSpeech_101 rfl (lv_at hl 5 rfl) ?_
            refine r_iload S dX1_readSpeech_102 (lv_at hl 1 rfl) ?_
            refine r_iload S dX1_readSpeech_104 (lv_at hl 0 rfl) ?_
            refine r_aload_n S dX1_readSpeech_106 rfl (lv_at hl 3 rfl) ?_
            refine r_geti (K := 11) S X58 (Nat.le_of_ble_eq_true rfl) rfl lk1_72_1 (fun _ => ⟨_, rfl, rfl⟩) z70 dX1_readSpeech_107 ?_
            refine r_imul S dX1_readSpeech_110 (fun v75 z76 => ?_)
            obtain ⟨e77, r78⟩ := i_mul (lo := -9) (hi := 9) z76 p48 p68 rfl rfl
            refine r_ki (q_V (As := [.int v72, .int a1, .int v29, .int v75]) (rest := []) (K := 11) (ci := 1) S X58 (c_X1_keep_3 l G t59 q61 v72 a1 v29 v75 r74 h_a1 p28 r78 (by rw [((q62 11 3 (by decide)).trans ((q42 11 3 (by decide)).trans ((q35 11 3 (by decide)).trans ((q22 11 3 (by decide)).trans ((q15 11 3 (by decide)).trans z2)))))]; exact R_of hf_0 rfl) (LR_eq hLR (fun j => ((q62 12 j (by simp [fz])).trans ((q42 12 j (by simp [fz])).trans ((q35 12 j (by simp [fz])).trans ((q22 12 j (by simp [fz])).trans ((q15 12 j (by simp [fz])).trans rfl)))))) (fun j => ((q62 13 j (by simp [fz])).trans ((q42 13 j (by simp [fz])).trans ((q35 13 j (by simp [fz])).trans ((q22 13 j (by simp [fz])).trans ((q15 13 j (by simp [fz])).trans rfl)))))) (fun j => ((q62 14 j (by simp [fz])).trans ((q42 14 j (by simp [fz])).trans ((q35 14 j (by simp [fz])).trans ((q22 14 j (by simp [fz])).trans ((q15 14 j (by simp [fz])).trans rfl)))))))) ck1_99 (Nat.le_of_ble_eq_true rfl) rfl (fun _ => ⟨_, rfl⟩) ⟨_, _, rfl⟩ ⟨Nat.le_of_ble_eq_true rfl, Nat.le_of_ble_eq_true rfl⟩ rfl hl.1 rfl (Nat.le_of_ble_eq_true rfl) dX1_readSpeech_111 ⟨Nat.le_refl 0, Nat.le_refl 0⟩) X58 (fun v82 t81 H lc q79 X80 => ?_)
            unfold po_X1_keep_3 at q79
            obtain ⟨q83, q84, q85, q86⟩ := q79
            have F87 : Fr [(11, 1), (11, 2), (1, 3), (1, 4), (1, 5), (1, 7), (1, 8)] [12, 13, 14, 15, 201] τ t81 := Fr_call F65 q84 (by decide)
            exact r_ret S hr hlk X80 ⟨q83, F87, q85, (R_of q86 rfl)⟩ (nr_bool (R_of (lo := 0) (hi := 1) q86 rfl)) dX1_readSpeech_114
        ·
          have r88 : R (0) (0) v60 := ⟨by omega, by omega⟩
          refine r_iconst S dX1_readSpeech_89 (by decide) (fun v89 z90 => ?_)
          have r91 := R_eq z90
          exact r_ret S hr hlk X58 ⟨q61, F65, (LR_eq hLR (fun j => ((q62 12 j (by simp [fz])).trans ((q42 12 j (by simp [fz])).trans ((q35 12 j (by simp [fz])).trans ((q22 12 j (by simp [fz])).trans ((q15 12 j (by simp [fz])).trans rfl)))))) (fun j => ((q62 13 j (by simp [fz])).trans ((q42 13 j (by simp [fz])).trans ((q35 13 j (by simp [fz])).trans ((q22 13 j (by simp [fz])).trans ((q15 13 j (by simp [fz])).trans rfl)))))) (fun j => ((q62 14 j (by simp [fz])).trans ((q42 14 j (by simp [fz])).trans ((q35 14 j (by simp [fz])).trans ((q22 14 j (by simp [fz])).trans ((q15 14 j (by simp [fz])).trans rfl))))))), (R_of r91 rfl)⟩ (nr_bool (R_of (lo := 0) (hi := 1) r91 rfl)) dX1_readSpeech_90
      ·
        have r92 : R (0) (0) v40 := ⟨by omega, by omega⟩
        refine r_iconst S dX1_readSpeech_71 (by decide) (fun v93 z94 => ?_)
        have r95 := R_eq z94
        exact r_ret S hr hlk X38 ⟨q41, F45, (LR_eq hLR (fun j => ((q42 12 j (by simp [fz])).trans ((q35 12 j (by simp [fz])).trans ((q22 12 j (by simp [fz])).trans ((q15 12 j (by simp [fz])).trans rfl))))) (fun j => ((q42 13 j (by simp [fz])).trans ((q35 13 j (by simp [fz])).trans ((q22 13 j (by simp [fz])).trans ((q15 13 j (by simp [fz])).trans rfl))))) (fun j => ((q42 14 j (by simp [fz])).trans ((q35 14 j (by simp [fz])).trans ((q22 14 j (by simp [fz])).trans ((q15 14 j (by simp [fz])).trans rfl)))))), (R_of r95 rfl)⟩ (nr_bool (R_of (lo := 0) (hi := 1) r95 rfl)) dX1_readSpeech_72
    ·
      have r96 : R (0) (0) v20 := ⟨by omega, by omega⟩
      refine r_iconst S dX1_readSpeech_49 (by decide) (fun v97 z98 => ?_)
      have r99 := R_eq z98
      exact r_ret S hr hlk X18 ⟨q21, F25, (LR_eq hLR (fun j => ((q22 12 j (by simp [fz])).trans ((q15 12 j (by simp [fz])).trans rfl))) (fun j => ((q22 13 j (by simp [fz])).trans ((q15 13 j (by simp [fz])).trans rfl))) (fun j => ((q22 14 j (by simp [fz])).trans ((q15 14 j (by simp [fz])).trans rfl)))), (R_of r99 rfl)⟩ (nr_bool (R_of (lo := 0) (hi := 1) r99 rfl)) dX1_readSpeech_50
  ·
    have r100 : R (0) (0) v6 := ⟨by omega, by omega⟩
    refine r_aload_n S dX1_readSpeech_15 rfl (lv_at hl 1 rfl) ?_
    refine r_get (K := 11) (v := .ref (G.2.2.2.1 1)) S X4 (Nat.le_of_ble_eq_true rfl) rfl lk1_32_1 (fun _ => ⟨_, rfl, rfl⟩) dX1_readSpeech_16 ?_
    refine r_wst (i := 12) S X4 (by decide) kw53 dX1_readSpeech_19 ?_
    refine r_ki (q_V (As := [.ref (G.2.2.1 12)]) (rest := []) (K := 1) (ci := 7) S X4 (c_X7_is l G τ hI 12 (by decide)) ck1_55 (Nat.le_of_ble_eq_true rfl) rfl (fun _ => ⟨_, rfl⟩) ⟨_, _, rfl⟩ ⟨Nat.le_of_ble_eq_true rfl, Nat.le_of_ble_eq_true rfl⟩ rfl hl.1 rfl (Nat.le_of_ble_eq_true rfl) dX1_readSpeech_22 ⟨Nat.le_refl 0, Nat.le_refl 0⟩) X4 (fun v104 t103 H lc q101 X102 => ?_)
    unfold po_X7_is at q101
    obtain ⟨q105, q106⟩ := q101
    rw [q105] at X102
    refine r_if_ne (tgt := 34) S dX1_readSpeech_25 (by decide) (fun c107 => ?_) (fun c107 => ?_)
    ·
      have r108 : R (1) (1) v104 := ⟨by omega, by omega⟩
      refine r_aload_n S dX1_readSpeech_34 rfl (lv_at hl 1 rfl) ?_
      refine r_get (K := 11) (v := .ref (G.2.2.2.1 1)) S X102 (Nat.le_of_ble_eq_true rfl) rfl lk1_32_1 (fun _ => ⟨_, rfl, rfl⟩) dX1_readSpeech_35 ?_
      refine r_kv (q_V (As := []) (rest := []) (K := 1) (ci := 7) S X102 (c_X7_step l G τ hI ) ck1_75 (Nat.le_of_ble_eq_true rfl) rfl (fun _ => ⟨_, rfl⟩) ⟨_, _, rfl⟩ ⟨Nat.le_of_ble_eq_true rfl, Nat.le_of_ble_eq_true rfl⟩ rfl hl.1 rfl (Nat.le_of_ble_eq_true rfl) dX1_readSpeech_38 ⟨Nat.le_refl 0, Nat.le_refl 0⟩) X102 (fun t111 H lc q109 X110 => ?_)
      unfold po_X7_step at q109
      obtain ⟨q112, q113⟩ := q109
      have F114 : Fr [(11, 1), (11, 2), (1, 3), (1, 4), (1, 5), (1, 7), (1, 8)] [12, 13, 14, 15, 201] τ t111 := Fr_call Fr_rfl q113 (by decide)
      refine r_aload_n S dX1_readSpeech_41 rfl (lv_at hl 1 rfl) ?_
      refine r_aload_n S dX1_readSpeech_42 rfl (lv_at hl 2 rfl) ?_
      refine r_ki (q_U (As := [.ref (G.2.2.2.1 23)]) (rest := []) (K := 11) (ci := 1) S X110 (c_X8_seeAsk_11 l G t111 q112 ) ck1_103_1 (Nat.le_of_ble_eq_true rfl) rfl (fun _ => ⟨_, rfl⟩) ⟨_, _, rfl⟩ ⟨Nat.le_of_ble_eq_true rfl, Nat.le_of_ble_eq_true rfl⟩ rfl hl.1 rfl (Nat.le_of_ble_eq_true rfl) dX1_readSpeech_43 ⟨Nat.le_refl 0, Nat.le_refl 0⟩) X110 (fun v118 t117 H lc q115 X116 => ?_)
      unfold po_X8_seeAsk_11 at q115
      obtain ⟨q119, q120, q121, q122⟩ := q115
      have F123 : Fr [(11, 1), (11, 2), (1, 3), (1, 4), (1, 5), (1, 7), (1, 8)] [12, 13, 14, 15, 201] τ t117 := Fr_call F114 q120 (by decide)
      refine r_if_ne (tgt := 51) S dX1_readSpeech_46 (by decide) (fun c124 => ?_) (fun c124 => ?_)
      ·
        have r125 : R (1) (1) v118 := ⟨by omega, by omega⟩
        have p126 := q122 (by omega)
        obtain ⟨v127, z128⟩ : ∃ x, t117 11 2 = x := ⟨_, rfl⟩
        rw [z128] at p126
        refine r_aload_n S dX1_readSpeech_51 rfl (lv_at hl 1 rfl) ?_
        refine r_geti (K := 11) S X116 (Nat.le_of_ble_eq_true rfl) rfl lk1_72_1 (fun _ => ⟨_, rfl, rfl⟩) z128 dX1_readSpeech_52 ?_
        refine r_istore (lv' := [(4, .int v127), (3, .int v6), (0, .ref (G.2.2.2.1 11)), (1, .ref (G.2.2.2.1 23)), (2, .int a1)]) S dX1_readSpeech_55 hl (by decide) rfl (fun ls hl => ?_)
        refine r_aload_n S dX1_readSpeech_57 rfl (lv_at hl 2 rfl) ?_
        refine r_get (K := 11) (v := .ref (G.2.2.2.1 1)) S X116 (Nat.le_of_ble_eq_true rfl) rfl lk1_32_1 (fun _ => ⟨_, rfl, rfl⟩) dX1_readSpeech_58 ?_
        refine r_kv (q_V (As := []) (rest := []) (K := 1) (ci := 7) S X116 (c_X7_step l G t117 q119 ) ck1_75 (Nat.le_of_ble_eq_true rfl) rfl (fun _ => ⟨_, rfl⟩) ⟨_, _, rfl⟩ ⟨Nat.le_of_ble_eq_true rfl, Nat.le_of_ble_eq_true rfl⟩ rfl hl.1 rfl (Nat.le_of_ble_eq_true rfl) dX1_readSpeech_61 ⟨Nat.le_refl 0, Nat.le_refl 0⟩) X116 (fun t131 H lc q129 X130 => ?_)
        unfold po_X7_step at q129
        obtain ⟨q132, q133⟩ := q129
        have F134 : Fr [(11, 1), (11, 2), (1, 3), (1, 4), (1, 5), (1, 7), (1, 8)] [12, 13, 14, 15, 201] τ t131 := Fr_call F123 q133 (by decide)
        refine r_aload_n S dX1_readSpeech_64 rfl (lv_at hl 2 rfl) ?_
        refine r_ki (q_U (As := []) (rest := []) (K := 11) (ci := 1) S X130 (c_X8_takeYesOrNo_11 l G t131 q132 ) ck1_112_1 (Nat.le_of_ble_eq_true rfl) rfl (fun _ => ⟨_, rfl⟩) ⟨_, _, rfl⟩ ⟨Nat.le_of_ble_eq_true rfl, Nat.le_of_ble_eq_true rfl⟩ rfl hl.1 rfl (Nat.le_of_ble_eq_true rfl) dX1_readSpeech_65 ⟨Nat.le_refl 0, Nat.le_refl 0⟩) X130 (fun v138 t137 H lc q135 X136 => ?_)
        unfold po_X8_takeYesOrNo_11 at q135
        obtain ⟨q139, q140, q141, q142⟩ := q135
        have F143 : Fr [(11, 1), (11, 2), (1, 3), (1, 4), (1, 5), (1, 7), (1, 8)] [12, 13, 14, 15, 201] τ t137 := Fr_call F134 q140 (by decide)
        refine r_if_ne (tgt := 73) S dX1_readSpeech_68 (by decide) (fun c144 => ?_) (fun c144 => ?_)
        ·
          have r145 : R (1) (1) v138 := ⟨by omega, by omega⟩
          have p146 := q142 (by omega)
          obtain ⟨v147, z148⟩ : ∃ x, t137 11 2 = x := ⟨_, rfl⟩
          rw [z148] at p146
          refine r_aload_n S dX1_readSpeech_73 rfl (lv_at hl 2 rfl) ?_
          refine r_geti (K := 11) S X136 (Nat.le_of_ble_eq_true rfl) rfl lk1_72_1 (fun _ => ⟨_, rfl, rfl⟩) z148 dX1_readSpeech_74 ?_
          refine r_istore (lv' := [(5, .int v147), (4, .int v127), (3, .int v6), (0, .ref (G.2.2.2.1 11)), (1, .ref (G.2.2.2.1 23)), (2, .int a1)]) S dX1_readSpeech_77 hl (by decide) rfl (fun ls hl => ?_)
          refine r_aload_n S dX1_readSpeech_79 rfl (lv_at hl 3 rfl) ?_
          refine r_iconst S dX1_readSpeech_80 (by decide) (fun v149 z150 => ?_)
          have r151 := R_eq z150
          refine r_bipush S dX1_readSpeech_81 (by decide) (fun v152 z153 => ?_)
          have r154 := R_eq z153
          refine r_ki (q_U (As := [.int v149, .int v152]) (rest := []) (K := 11) (ci := 1) S X136 (c_X8_takeNumber_11_0_9 l G t137 q139 v149 v152 r151 r154) ck1_116_1 (Nat.le_of_ble_eq_true rfl) rfl (fun _ => ⟨_, rfl⟩) ⟨_, _, rfl⟩ ⟨Nat.le_of_ble_eq_true rfl, Nat.le_of_ble_eq_true rfl⟩ rfl hl.1 rfl (Nat.le_of_ble_eq_true rfl) dX1_readSpeech_83 ⟨Nat.le_refl 0, Nat.le_refl 0⟩) X136 (fun v158 t157 H lc q155 X156 => ?_)
          unfold po_X8_takeNumber_11_0_9 at q155
          obtain ⟨q159, q160, q161, q162⟩ := q155
          have F163 : Fr [(11, 1), (11, 2), (1, 3), (1, 4), (1, 5), (1, 7), (1, 8)] [12, 13, 14, 15, 201] τ t157 := Fr_call F143 q160 (by decide)
          refine r_if_ne (tgt := 91) S dX1_readSpeech_86 (by decide) (fun c164 => ?_) (fun c164 => ?_)
          ·
            have r165 : R (1) (1) v158 := ⟨by omega, by omega⟩
            have p166 := q162 (by omega)
            obtain ⟨v167, z168⟩ : ∃ x, t157 11 2 = x := ⟨_, rfl⟩
            rw [z168] at p166
            refine r_aload_n S dX1_readSpeech_91 rfl (lv_at hl 3 rfl) ?_
            refine r_iload_n S dX1_readSpeech_92 rfl (lv_at hl 2 rfl) ?_
            refine r_if_eq (tgt := 100) S dX1_readSpeech_93 (by decide) (fun c169 => ?_) (fun c169 => ?_)
            ·
              refine r_iconst S dX1_readSpeech_100 (by decide) (fun v170 z171 => ?_)
              have r172 := R_eq z171
              refine r_iload_n S dX1_readSpeech_101 rfl (lv_at hl 5 rfl) ?_
              refine r_iload S dX1_readSpeech_102 (lv_at hl 1 rfl) ?_
              refine r_iload S dX1_readSpeech_104 (lv_at hl 0 rfl) ?_
              refine r_aload_n S dX1_readSpeech_106 rfl (lv_at hl 3 rfl) ?_
              refine r_geti (K := 11) S X156 (Nat.le_of_ble_eq_true rfl) rfl lk1_72_1 (fun _ => ⟨_, rfl, rfl⟩) z168 dX1_readSpeech_107 ?_
              refine r_imul S dX1_readSpeech_110 (fun v173 z174 => ?_)
              obtain ⟨e175, r176⟩ := i_mul (lo := -9) (hi := 9) z174 p146 p166 rfl rfl
              refine r_ki (q_V (As := [.int v170, .int a1, .int v127, .int v173]) (rest := []) (K := 11) (ci := 1) S X156 (c_X1_keep_4 l G t157 q159 v170 a1 v127 v173 r172 h_a1 p126 r176 (by rw [((q160 11 3 (by decide)).trans ((q140 11 3 (by decide)).trans ((q133 11 3 (by decide)).trans ((q120 11 3 (by decide)).trans ((q113 11 3 (by decide)).trans z2)))))]; exact R_of hf_0 rfl) (LR_eq hLR (fun j => ((q160 12 j (by simp [fz])).trans ((q140 12 j (by simp [fz])).trans ((q133 12 j (by simp [fz])).trans ((q120 12 j (by simp [fz])).trans ((q113 12 j (by simp [fz])).trans rfl)))))) (fun j => ((q160 13 j (by simp [fz])).trans ((q140 13 j (by simp [fz])).trans ((q133 13 j (by simp [fz])).trans ((q120 13 j (by simp [fz])).trans ((q113 13 j (by simp [fz])).trans rfl)))))) (fun j => ((q160 14 j (by simp [fz])).trans ((q140 14 j (by simp [fz])).trans ((q133 14 j (by simp [fz])).trans ((q120 14 j (by simp [fz])).trans ((q113 14 j (by simp [fz])).trans rfl)))))))) ck1_99 (Nat.le_of_ble_eq_true rfl) rfl (fun _ => ⟨_, rfl⟩) ⟨_, _, rfl⟩ ⟨Nat.le_of_ble_eq_true rfl, Nat.le_of_ble_eq_true rfl⟩ rfl hl.1 rfl (Nat.le_of_ble_eq_true rfl) dX1_readSpeech_111 ⟨Nat.le_refl 0, Nat.le_refl 0⟩) X156 (fun v180 t179 H lc q177 X178 => ?_)
              unfold po_X1_keep_4 at q177
              obtain ⟨q181, q182, q183, q184⟩ := q177
              have F185 : Fr [(11, 1), (11, 2), (1, 3), (1, 4), (1, 5), (1, 7), (1, 8)] [12, 13, 14, 15, 201] τ t179 := Fr_call F163 q182 (by decide)
              exact r_ret S hr hlk X178 ⟨q181, F185, q183, (R_of q184 rfl)⟩ (nr_bool (R_of (lo := 0) (hi := 1) q184 rfl)) dX1_readSpeech_114
            ·
              exfalso; omega
          ·
            have r186 : R (0) (0) v158 := ⟨by omega, by omega⟩
            refine r_iconst S dX1_readSpeech_89 (by decide) (fun v187 z188 => ?_)
            have r189 := R_eq z188
            exact r_ret S hr hlk X156 ⟨q159, F163, (LR_eq hLR (fun j => ((q160 12 j (by simp [fz])).trans ((q140 12 j (by simp [fz])).trans ((q133 12 j (by simp [fz])).trans ((q120 12 j (by simp [fz])).trans ((q113 12 j (by simp [fz])).trans rfl)))))) (fun j => ((q160 13 j (by simp [fz])).trans ((q140 13 j (by simp [fz])).trans ((q133 13 j (by simp [fz])).trans ((q120 13 j (by simp [fz])).trans ((q113 13 j (by simp [fz])).trans rfl)))))) (fun j => ((q160 14 j (by simp [fz])).trans ((q140 14 j (by simp [fz])).trans ((q133 14 j (by simp [fz])).trans ((q120 14 j (by simp [fz])).trans ((q113 14 j (by simp [fz])).trans rfl))))))), (R_of r189 rfl)⟩ (nr_bool (R_of (lo := 0) (hi := 1) r189 rfl)) dX1_readSpeech_90
        ·
          have r190 : R (0) (0) v138 := ⟨by omega, by omega⟩
          refine r_iconst S dX1_readSpeech_71 (by decide) (fun v191 z192 => ?_)
          have r193 := R_eq z192
          exact r_ret S hr hlk X136 ⟨q139, F143, (LR_eq hLR (fun j => ((q140 12 j (by simp [fz])).trans ((q133 12 j (by simp [fz])).trans ((q120 12 j (by simp [fz])).trans ((q113 12 j (by simp [fz])).trans rfl))))) (fun j => ((q140 13 j (by simp [fz])).trans ((q133 13 j (by simp [fz])).trans ((q120 13 j (by simp [fz])).trans ((q113 13 j (by simp [fz])).trans rfl))))) (fun j => ((q140 14 j (by simp [fz])).trans ((q133 14 j (by simp [fz])).trans ((q120 14 j (by simp [fz])).trans ((q113 14 j (by simp [fz])).trans rfl)))))), (R_of r193 rfl)⟩ (nr_bool (R_of (lo := 0) (hi := 1) r193 rfl)) dX1_readSpeech_72
      ·
        have r194 : R (0) (0) v118 := ⟨by omega, by omega⟩
        refine r_iconst S dX1_readSpeech_49 (by decide) (fun v195 z196 => ?_)
        have r197 := R_eq z196
        exact r_ret S hr hlk X116 ⟨q119, F123, (LR_eq hLR (fun j => ((q120 12 j (by simp [fz])).trans ((q113 12 j (by simp [fz])).trans rfl))) (fun j => ((q120 13 j (by simp [fz])).trans ((q113 13 j (by simp [fz])).trans rfl))) (fun j => ((q120 14 j (by simp [fz])).trans ((q113 14 j (by simp [fz])).trans rfl)))), (R_of r197 rfl)⟩ (nr_bool (R_of (lo := 0) (hi := 1) r197 rfl)) dX1_readSpeech_50
    ·
      have r198 : R (0) (0) v104 := ⟨by omega, by omega⟩
      refine r_aload_n S dX1_readSpeech_28 rfl (lv_at hl 1 rfl) ?_
      refine r_iconst S dX1_readSpeech_29 (by decide) (fun v199 z200 => ?_)
      have r201 := R_eq z200
      refine r_ki (q_U (As := [.int v199]) (rest := []) (K := 11) (ci := 1) S X102 (c_X8_fail_11 l G τ hI v199 (R_of (lo := -2147483648) (hi := 2147483647) r201 rfl)) ck1_68_1 (Nat.le_of_ble_eq_true rfl) rfl (fun _ => ⟨_, rfl⟩) ⟨_, _, rfl⟩ ⟨Nat.le_of_ble_eq_true rfl, Nat.le_of_ble_eq_true rfl⟩ rfl hl.1 rfl (Nat.le_of_ble_eq_true rfl) dX1_readSpeech_30 ⟨Nat.le_refl 0, Nat.le_refl 0⟩) X102 (fun v205 t204 H lc q202 X203 => ?_)
      unfold po_X8_fail_11 at q202
      obtain ⟨q206, q207, q208⟩ := q202
      have F209 : Fr [(11, 1), (11, 2), (1, 3), (1, 4), (1, 5), (1, 7), (1, 8)] [12, 13, 14, 15, 201] τ t204 := Fr_call Fr_rfl q207 (by decide)
      exact r_ret S hr hlk X203 ⟨q206, F209, (LR_eq hLR (fun j => ((q207 12 j (by simp [fz])).trans rfl)) (fun j => ((q207 13 j (by simp [fz])).trans rfl)) (fun j => ((q207 14 j (by simp [fz])).trans rfl))), (R_of q208 rfl)⟩ (nr_bool (R_of (lo := 0) (hi := 1) q208 rfl)) dX1_readSpeech_33
def po_X1_readLine (τ : Tau)     (r : Int32) (u : Tau) : Prop := Inv u ∧ Fr [(11, 1), (11, 2), (1, 3), (1, 4), (1, 5), (1, 7), (1, 8)] [12, 13, 14, 15, 201] τ u ∧ LR u ∧ R (0) (1) r ∧ (r.toInt = 1 → R (0) (39) (u 11 3))
set_option maxHeartbeats 4000000 in
set_option maxRecDepth 100000 in
theorem c_X1_readLine (l : Launch) (G : Gx) (τ : Tau) (hI : Inv τ) (hLR : LR τ) : Ci l G yX1_readLine cX1_readLine 6 (some .boolean) 3 71 [.ref (G.2.2.2.1 11), .ref (G.2.2.2.1 23)] τ (po_X1_readLine τ    ) := by
  unfold Ci
  refine C_of (own := RX1) (by decide) rfl (Nat.le_of_ble_eq_true rfl) ?_
  intro p e s m below meth c ls S hr hlk X hl
  have hl : lv_has ls 6 [(0, .ref (G.2.2.2.1 11)), (1, .ref (G.2.2.2.1 23))] := hl
  obtain ⟨v1, z2⟩ : ∃ x, τ 11 3 = x := ⟨_, rfl⟩
  have r3 : R (0) (40) v1 := rd hI rfl z2
  refine r_aload_n S dX1_readLine_0 rfl (lv_at hl 0 rfl) ?_
  refine r_get (K := 11) (v := .ref (G.2.2.2.1 1)) S X (Nat.le_of_ble_eq_true rfl) rfl lk1_32_1 (fun _ => ⟨_, rfl, rfl⟩) dX1_readLine_1 ?_
  refine r_wst (i := 8) S X (by decide) kw54 dX1_readLine_4 ?_
  refine r_ki (q_V (As := [.ref (G.2.2.1 8)]) (rest := []) (K := 1) (ci := 7) S X (c_X7_is l G τ hI 8 (by decide)) ck1_55 (Nat.le_of_ble_eq_true rfl) rfl (fun _ => ⟨_, rfl⟩) ⟨_, _, rfl⟩ ⟨Nat.le_of_ble_eq_true rfl, Nat.le_of_ble_eq_true rfl⟩ rfl hl.1 rfl (Nat.le_of_ble_eq_true rfl) dX1_readLine_7 ⟨Nat.le_refl 0, Nat.le_refl 0⟩) X (fun v7 t6 H lc q4 X5 => ?_)
  unfold po_X7_is at q4
  obtain ⟨q8, q9⟩ := q4
  rw [q8] at X5
  refine r_istore_n (lv' := [(2, .int v7), (0, .ref (G.2.2.2.1 11)), (1, .ref (G.2.2.2.1 23))]) S dX1_readLine_10 rfl hl (by decide) rfl (fun ls hl => ?_)
  refine r_aload_n S dX1_readLine_11 rfl (lv_at hl 1 rfl) ?_
  refine r_get (K := 11) (v := .ref (G.2.2.2.1 1)) S X5 (Nat.le_of_ble_eq_true rfl) rfl lk1_32_1 (fun _ => ⟨_, rfl, rfl⟩) dX1_readLine_12 ?_
  refine r_wst (i := 9) S X5 (by decide) kw55 dX1_readLine_15 ?_
  refine r_ki (q_V (As := [.ref (G.2.2.1 9)]) (rest := []) (K := 1) (ci := 7) S X5 (c_X7_is l G τ hI 9 (by decide)) ck1_55 (Nat.le_of_ble_eq_true rfl) rfl (fun _ => ⟨_, rfl⟩) ⟨_, _, rfl⟩ ⟨Nat.le_of_ble_eq_true rfl, Nat.le_of_ble_eq_true rfl⟩ rfl hl.1 rfl (Nat.le_of_ble_eq_true rfl) dX1_readLine_18 ⟨Nat.le_refl 0, Nat.le_refl 0⟩) X5 (fun v13 t12 H lc q10 X11 => ?_)
  unfold po_X7_is at q10
  obtain ⟨q14, q15⟩ := q10
  rw [q14] at X11
  refine r_istore_n (lv' := [(3, .int v13), (2, .int v7), (0, .ref (G.2.2.2.1 11)), (1, .ref (G.2.2.2.1 23))]) S dX1_readLine_21 rfl hl (by decide) rfl (fun ls hl => ?_)
  refine r_aload_n S dX1_readLine_22 rfl (lv_at hl 2 rfl) ?_
  refine r_get (K := 11) (v := .ref (G.2.2.2.1 1)) S X11 (Nat.le_of_ble_eq_true rfl) rfl lk1_32_1 (fun _ => ⟨_, rfl, rfl⟩) dX1_readLine_23 ?_
  refine r_wst (i := 10) S X11 (by decide) kw56 dX1_readLine_26 ?_
  refine r_ki (q_V (As := [.ref (G.2.2.1 10)]) (rest := []) (K := 1) (ci := 7) S X11 (c_X7_is l G τ hI 10 (by decide)) ck1_55 (Nat.le_of_ble_eq_true rfl) rfl (fun _ => ⟨_, rfl⟩) ⟨_, _, rfl⟩ ⟨Nat.le_of_ble_eq_true rfl, Nat.le_of_ble_eq_true rfl⟩ rfl hl.1 rfl (Nat.le_of_ble_eq_true rfl) dX1_readLine_29 ⟨Nat.le_refl 0, Nat.le_refl 0⟩) X11 (fun v19 t18 H lc q16 X17 => ?_)
  unfold po_X7_is at q16
  obtain ⟨q20, q21⟩ := q16
  rw [q20] at X17
  refine r_istore (lv' := [(4, .int v19), (3, .int v13), (2, .int v7), (0, .ref (G.2.2.2.1 11)), (1, .ref (G.2.2.2.1 23))]) S dX1_readLine_32 hl (by decide) rfl (fun ls hl => ?_)
  refine r_iload_n S dX1_readLine_34 rfl (lv_at hl 2 rfl) ?_
  refine r_if_ne (tgt := 57) S dX1_readLine_35 (by decide) (fun c22 => ?_) (fun c22 => ?_)
  ·
    have r23 : R (1) (1) v7 := ⟨by omega, by omega⟩
    refine r_aload_n S dX1_readLine_57 rfl (lv_at hl 3 rfl) ?_
    refine r_geti (K := 11) S X17 (Nat.le_of_ble_eq_true rfl) rfl lk1_24_1 (fun _ => ⟨_, rfl, rfl⟩) z2 dX1_readLine_58 ?_
    refine r_bipush S dX1_readLine_61 (by decide) (fun v24 z25 => ?_)
    have r26 := R_eq z25
    refine r_icmp_lt (tgt := 72) S dX1_readLine_63 (by decide) (fun c27 => ?_) (fun c27 => ?_)
    ·
      have r28 : R (0) (39) v1 := ⟨by omega, by omega⟩
      refine r_aload_n S dX1_readLine_72 rfl (lv_at hl 3 rfl) ?_
      refine r_getn (K := 11) S X17 (Nat.le_of_ble_eq_true rfl) rfl lk1_72_1 (fun _ => ⟨_, rfl, rfl⟩) dX1_readLine_73 (fun v29 z30 => ?_)
      have r32 := R_any v29
      refine r_istore (lv' := [(5, .int v29), (4, .int v19), (3, .int v13), (2, .int v7), (0, .ref (G.2.2.2.1 11)), (1, .ref (G.2.2.2.1 23))]) S dX1_readLine_76 hl (by decide) rfl (fun ls hl => ?_)
      refine r_aload_n S dX1_readLine_78 rfl (lv_at hl 4 rfl) ?_
      refine r_get (K := 11) (v := .ref (G.2.2.2.1 1)) S X17 (Nat.le_of_ble_eq_true rfl) rfl lk1_32_1 (fun _ => ⟨_, rfl, rfl⟩) dX1_readLine_79 ?_
      refine r_kv (q_V (As := []) (rest := []) (K := 1) (ci := 7) S X17 (c_X7_step l G τ hI ) ck1_75 (Nat.le_of_ble_eq_true rfl) rfl (fun _ => ⟨_, rfl⟩) ⟨_, _, rfl⟩ ⟨Nat.le_of_ble_eq_true rfl, Nat.le_of_ble_eq_true rfl⟩ rfl hl.1 rfl (Nat.le_of_ble_eq_true rfl) dX1_readLine_82 ⟨Nat.le_refl 0, Nat.le_refl 0⟩) X17 (fun t35 H lc q33 X34 => ?_)
      unfold po_X7_step at q33
      obtain ⟨q36, q37⟩ := q33
      have F38 : Fr [(11, 1), (11, 2), (1, 3), (1, 4), (1, 5), (1, 7), (1, 8)] [12, 13, 14, 15, 201] τ t35 := Fr_call Fr_rfl q37 (by decide)
      refine r_iload_n S dX1_readLine_85 rfl (lv_at hl 3 rfl) ?_
      refine r_if_eq (tgt := 95) S dX1_readLine_86 (by decide) (fun c39 => ?_) (fun c39 => ?_)
      ·
        exfalso; omega
      ·
        refine r_aload_n S dX1_readLine_89 rfl (lv_at hl 4 rfl) ?_
        refine r_aload_n S dX1_readLine_90 rfl (lv_at hl 5 rfl) ?_
        refine r_ki (q_V (As := [.ref (G.2.2.2.1 23)]) (rest := []) (K := 11) (ci := 1) S X34 (c_X1_readCrossing l G t35 q36 (by rw [((q37 11 3 (by decide)).trans z2)]; exact R_of r28 rfl) (LR_eq hLR (fun j => ((q37 12 j (by simp [fz])).trans rfl)) (fun j => ((q37 13 j (by simp [fz])).trans rfl)) (fun j => ((q37 14 j (by simp [fz])).trans rfl)))) ck1_79 (Nat.le_of_ble_eq_true rfl) rfl (fun _ => ⟨_, rfl⟩) ⟨_, _, rfl⟩ ⟨Nat.le_of_ble_eq_true rfl, Nat.le_of_ble_eq_true rfl⟩ rfl hl.1 rfl (Nat.le_of_ble_eq_true rfl) dX1_readLine_91 ⟨Nat.le_refl 0, Nat.le_refl 0⟩) X34 (fun v43 t42 H lc q40 X41 => ?_)
        unfold po_X1_readCrossing at q40
        obtain ⟨q44, q45, q46, q47⟩ := q40
        have F48 : Fr [(11, 1), (11, 2), (1, 3), (1, 4), (1, 5), (1, 7), (1, 8)] [12, 13, 14, 15, 201] τ t42 := Fr_call F38 q45 (by decide)
        exact r_ret S hr hlk X41 ⟨q44, F48, q46, q47, (fun h => (by rw [((q45 11 3 (by decide)).trans ((q37 11 3 (by decide)).trans z2))]; exact R_of r28 rfl))⟩ (nr_bool (R_of (lo := 0) (hi := 1) q47 rfl)) dX1_readLine_94
    ·
      have r49 : R (40) (40) v1 := ⟨by omega, by omega⟩
      refine r_aload_n S dX1_readLine_66 rfl (lv_at hl 3 rfl) ?_
      refine r_iconst S dX1_readLine_67 (by decide) (fun v50 z51 => ?_)
      have r52 := R_eq z51
      refine r_ki (q_U (As := [.int v50]) (rest := []) (K := 11) (ci := 1) S X17 (c_X8_fail_11 l G τ hI v50 (R_of (lo := -2147483648) (hi := 2147483647) r52 rfl)) ck1_68_1 (Nat.le_of_ble_eq_true rfl) rfl (fun _ => ⟨_, rfl⟩) ⟨_, _, rfl⟩ ⟨Nat.le_of_ble_eq_true rfl, Nat.le_of_ble_eq_true rfl⟩ rfl hl.1 rfl (Nat.le_of_ble_eq_true rfl) dX1_readLine_68 ⟨Nat.le_refl 0, Nat.le_refl 0⟩) X17 (fun v56 t55 H lc q53 X54 => ?_)
      unfold po_X8_fail_11 at q53
      obtain ⟨q57, q58, q59⟩ := q53
      have F60 : Fr [(11, 1), (11, 2), (1, 3), (1, 4), (1, 5), (1, 7), (1, 8)] [12, 13, 14, 15, 201] τ t55 := Fr_call Fr_rfl q58 (by decide)
      exact r_ret S hr hlk X54 ⟨q57, F60, (LR_eq hLR (fun j => ((q58 12 j (by simp [fz])).trans rfl)) (fun j => ((q58 13 j (by simp [fz])).trans rfl)) (fun j => ((q58 14 j (by simp [fz])).trans rfl))), (R_of q59 rfl), (fun h => by exfalso; omega)⟩ (nr_bool (R_of (lo := 0) (hi := 1) q59 rfl)) dX1_readLine_71
  ·
    have r61 : R (0) (0) v7 := ⟨by omega, by omega⟩
    refine r_iload_n S dX1_readLine_38 rfl (lv_at hl 1 rfl) ?_
    refine r_if_ne (tgt := 57) S dX1_readLine_39 (by decide) (fun c62 => ?_) (fun c62 => ?_)
    ·
      have r63 : R (1) (1) v13 := ⟨by omega, by omega⟩
      refine r_aload_n S dX1_readLine_57 rfl (lv_at hl 3 rfl) ?_
      refine r_geti (K := 11) S X17 (Nat.le_of_ble_eq_true rfl) rfl lk1_24_1 (fun _ => ⟨_, rfl, rfl⟩) z2 dX1_readLine_58 ?_
      refine r_bipush S dX1_readLine_61 (by decide) (fun v64 z65 => ?_)
      have r66 := R_eq z65
      refine r_icmp_lt (tgt := 72) S dX1_readLine_63 (by decide) (fun c67 => ?_) (fun c67 => ?_)
      ·
        have r68 : R (0) (39) v1 := ⟨by omega, by omega⟩
        refine r_aload_n S dX1_readLine_72 rfl (lv_at hl 3 rfl) ?_
        refine r_getn (K := 11) S X17 (Nat.le_of_ble_eq_true rfl) rfl lk1_72_1 (fun _ => ⟨_, rfl, rfl⟩) dX1_readLine_73 (fun v69 z70 => ?_)
        have r72 := R_any v69
        refine r_istore (lv' := [(5, .int v69), (4, .int v19), (3, .int v13), (2, .int v7), (0, .ref (G.2.2.2.1 11)), (1, .ref (G.2.2.2.1 23))]) S dX1_readLine_76 hl (by decide) rfl (fun ls hl => ?_)
        refine r_aload_n S dX1_readLine_78 rfl (lv_at hl 4 rfl) ?_
        refine r_get (K := 11) (v := .ref (G.2.2.2.1 1)) S X17 (Nat.le_of_ble_eq_true rfl) rfl lk1_32_1 (fun _ => ⟨_, rfl, rfl⟩) dX1_readLine_79 ?_
        refine r_kv (q_V (As := []) (rest := []) (K := 1) (ci := 7) S X17 (c_X7_step l G τ hI ) ck1_75 (Nat.le_of_ble_eq_true rfl) rfl (fun _ => ⟨_, rfl⟩) ⟨_, _, rfl⟩ ⟨Nat.le_of_ble_eq_true rfl, Nat.le_of_ble_eq_true rfl⟩ rfl hl.1 rfl (Nat.le_of_ble_eq_true rfl) dX1_readLine_82 ⟨Nat.le_refl 0, Nat.le_refl 0⟩) X17 (fun t75 H lc q73 X74 => ?_)
        unfold po_X7_step at q73
        obtain ⟨q76, q77⟩ := q73
        have F78 : Fr [(11, 1), (11, 2), (1, 3), (1, 4), (1, 5), (1, 7), (1, 8)] [12, 13, 14, 15, 201] τ t75 := Fr_call Fr_rfl q77 (by decide)
        refine r_iload_n S dX1_readLine_85 rfl (lv_at hl 3 rfl) ?_
        refine r_if_eq (tgt := 95) S dX1_readLine_86 (by decide) (fun c79 => ?_) (fun c79 => ?_)
        ·
          refine r_iload_n S dX1_readLine_95 rfl (lv_at hl 2 rfl) ?_
          refine r_if_eq (tgt := 105) S dX1_readLine_96 (by decide) (fun c80 => ?_) (fun c80 => ?_)
          ·
            exfalso; omega
          ·
            refine r_aload_n S dX1_readLine_99 rfl (lv_at hl 4 rfl) ?_
            refine r_aload_n S dX1_readLine_100 rfl (lv_at hl 5 rfl) ?_
            refine r_ki (q_V (As := [.ref (G.2.2.2.1 23)]) (rest := []) (K := 11) (ci := 1) S X74 (c_X1_readRaising l G t75 q76 (by rw [((q77 11 3 (by decide)).trans z2)]; exact R_of r68 rfl) (LR_eq hLR (fun j => ((q77 12 j (by simp [fz])).trans rfl)) (fun j => ((q77 13 j (by simp [fz])).trans rfl)) (fun j => ((q77 14 j (by simp [fz])).trans rfl)))) ck1_82 (Nat.le_of_ble_eq_true rfl) rfl (fun _ => ⟨_, rfl⟩) ⟨_, _, rfl⟩ ⟨Nat.le_of_ble_eq_true rfl, Nat.le_of_ble_eq_true rfl⟩ rfl hl.1 rfl (Nat.le_of_ble_eq_true rfl) dX1_readLine_101 ⟨Nat.le_refl 0, Nat.le_refl 0⟩) X74 (fun v84 t83 H lc q81 X82 => ?_)
            unfold po_X1_readRaising at q81
            obtain ⟨q85, q86, q87, q88⟩ := q81
            have F89 : Fr [(11, 1), (11, 2), (1, 3), (1, 4), (1, 5), (1, 7), (1, 8)] [12, 13, 14, 15, 201] τ t83 := Fr_call F78 q86 (by decide)
            exact r_ret S hr hlk X82 ⟨q85, F89, q87, q88, (fun h => (by rw [((q86 11 3 (by decide)).trans ((q77 11 3 (by decide)).trans z2))]; exact R_of r68 rfl))⟩ (nr_bool (R_of (lo := 0) (hi := 1) q88 rfl)) dX1_readLine_104
        ·
          exfalso; omega
      ·
        have r90 : R (40) (40) v1 := ⟨by omega, by omega⟩
        refine r_aload_n S dX1_readLine_66 rfl (lv_at hl 3 rfl) ?_
        refine r_iconst S dX1_readLine_67 (by decide) (fun v91 z92 => ?_)
        have r93 := R_eq z92
        refine r_ki (q_U (As := [.int v91]) (rest := []) (K := 11) (ci := 1) S X17 (c_X8_fail_11 l G τ hI v91 (R_of (lo := -2147483648) (hi := 2147483647) r93 rfl)) ck1_68_1 (Nat.le_of_ble_eq_true rfl) rfl (fun _ => ⟨_, rfl⟩) ⟨_, _, rfl⟩ ⟨Nat.le_of_ble_eq_true rfl, Nat.le_of_ble_eq_true rfl⟩ rfl hl.1 rfl (Nat.le_of_ble_eq_true rfl) dX1_readLine_68 ⟨Nat.le_refl 0, Nat.le_refl 0⟩) X17 (fun v97 t96 H lc q94 X95 => ?_)
        unfold po_X8_fail_11 at q94
        obtain ⟨q98, q99, q100⟩ := q94
        have F101 : Fr [(11, 1), (11, 2), (1, 3), (1, 4), (1, 5), (1, 7), (1, 8)] [12, 13, 14, 15, 201] τ t96 := Fr_call Fr_rfl q99 (by decide)
        exact r_ret S hr hlk X95 ⟨q98, F101, (LR_eq hLR (fun j => ((q99 12 j (by simp [fz])).trans rfl)) (fun j => ((q99 13 j (by simp [fz])).trans rfl)) (fun j => ((q99 14 j (by simp [fz])).trans rfl))), (R_of q100 rfl), (fun h => by exfalso; omega)⟩ (nr_bool (R_of (lo := 0) (hi := 1) q100 rfl)) dX1_readLine_71
    ·
      have r102 : R (0) (0) v13 := ⟨by omega, by omega⟩
      refine r_iload S dX1_readLine_42 (lv_at hl 0 rfl) ?_
      refine r_if_ne (tgt := 57) S dX1_readLine_44 (by decide) (fun c103 => ?_) (fun c103 => ?_)
      ·
        have r104 : R (1) (1) v19 := ⟨by omega, by omega⟩
        refine r_aload_n S dX1_readLine_57 rfl (lv_at hl 3 rfl) ?_
        refine r_geti (K := 11) S X17 (Nat.le_of_ble_eq_true rfl) rfl lk1_24_1 (fun _ => ⟨_, rfl, rfl⟩) z2 dX1_readLine_58 ?_
        refine r_bipush S dX1_readLine_61 (by decide) (fun v105 z106 => ?_)
        have r107 := R_eq z106
        refine r_icmp_lt (tgt := 72) S dX1_readLine_63 (by decide) (fun c108 => ?_) (fun c108 => ?_)
        ·
          have r109 : R (0) (39) v1 := ⟨by omega, by omega⟩
          refine r_aload_n S dX1_readLine_72 rfl (lv_at hl 3 rfl) ?_
          refine r_getn (K := 11) S X17 (Nat.le_of_ble_eq_true rfl) rfl lk1_72_1 (fun _ => ⟨_, rfl, rfl⟩) dX1_readLine_73 (fun v110 z111 => ?_)
          have r113 := R_any v110
          refine r_istore (lv' := [(5, .int v110), (4, .int v19), (3, .int v13), (2, .int v7), (0, .ref (G.2.2.2.1 11)), (1, .ref (G.2.2.2.1 23))]) S dX1_readLine_76 hl (by decide) rfl (fun ls hl => ?_)
          refine r_aload_n S dX1_readLine_78 rfl (lv_at hl 4 rfl) ?_
          refine r_get (K := 11) (v := .ref (G.2.2.2.1 1)) S X17 (Nat.le_of_ble_eq_true rfl) rfl lk1_32_1 (fun _ => ⟨_, rfl, rfl⟩) dX1_readLine_79 ?_
          refine r_kv (q_V (As := []) (rest := []) (K := 1) (ci := 7) S X17 (c_X7_step l G τ hI ) ck1_75 (Nat.le_of_ble_eq_true rfl) rfl (fun _ => ⟨_, rfl⟩) ⟨_, _, rfl⟩ ⟨Nat.le_of_ble_eq_true rfl, Nat.le_of_ble_eq_true rfl⟩ rfl hl.1 rfl (Nat.le_of_ble_eq_true rfl) dX1_readLine_82 ⟨Nat.le_refl 0, Nat.le_refl 0⟩) X17 (fun t116 H lc q114 X115 => ?_)
          unfold po_X7_step at q114
          obtain ⟨q117, q118⟩ := q114
          have F119 : Fr [(11, 1), (11, 2), (1, 3), (1, 4), (1, 5), (1, 7), (1, 8)] [12, 13, 14, 15, 201] τ t116 := Fr_call Fr_rfl q118 (by decide)
          refine r_iload_n S dX1_readLine_85 rfl (lv_at hl 3 rfl) ?_
          refine r_if_eq (tgt := 95) S dX1_readLine_86 (by decide) (fun c120 => ?_) (fun c120 => ?_)
          ·
            refine r_iload_n S dX1_readLine_95 rfl (lv_at hl 2 rfl) ?_
            refine r_if_eq (tgt := 105) S dX1_readLine_96 (by decide) (fun c121 => ?_) (fun c121 => ?_)
            ·
              refine r_iload S dX1_readLine_105 (lv_at hl 1 rfl) ?_
              refine r_if_eq (tgt := 118) S dX1_readLine_107 (by decide) (fun c122 => ?_) (fun c122 => ?_)
              ·
                exfalso; omega
              ·
                refine r_aload_n S dX1_readLine_110 rfl (lv_at hl 4 rfl) ?_
                refine r_aload_n S dX1_readLine_111 rfl (lv_at hl 5 rfl) ?_
                refine r_ki (q_V (As := [.ref (G.2.2.2.1 23)]) (rest := []) (K := 11) (ci := 1) S X115 (c_X1_readHiring l G t116 q117 (by rw [((q118 11 3 (by decide)).trans z2)]; exact R_of r109 rfl) (LR_eq hLR (fun j => ((q118 12 j (by simp [fz])).trans rfl)) (fun j => ((q118 13 j (by simp [fz])).trans rfl)) (fun j => ((q118 14 j (by simp [fz])).trans rfl)))) ck1_85 (Nat.le_of_ble_eq_true rfl) rfl (fun _ => ⟨_, rfl⟩) ⟨_, _, rfl⟩ ⟨Nat.le_of_ble_eq_true rfl, Nat.le_of_ble_eq_true rfl⟩ rfl hl.1 rfl (Nat.le_of_ble_eq_true rfl) dX1_readLine_112 ⟨Nat.le_refl 0, Nat.le_refl 0⟩) X115 (fun v126 t125 H lc q123 X124 => ?_)
                unfold po_X1_readHiring at q123
                obtain ⟨q127, q128, q129, q130⟩ := q123
                have F131 : Fr [(11, 1), (11, 2), (1, 3), (1, 4), (1, 5), (1, 7), (1, 8)] [12, 13, 14, 15, 201] τ t125 := Fr_call F119 q128 (by decide)
                refine r_goto (tgt := 125) S dX1_readLine_115 (by decide) ?_
                exact r_ret S hr hlk X124 ⟨q127, F131, q129, q130, (fun h => (by rw [((q128 11 3 (by decide)).trans ((q118 11 3 (by decide)).trans z2))]; exact R_of r109 rfl))⟩ (nr_bool (R_of (lo := 0) (hi := 1) q130 rfl)) dX1_readLine_125
            ·
              exfalso; omega
          ·
            exfalso; omega
        ·
          have r132 : R (40) (40) v1 := ⟨by omega, by omega⟩
          refine r_aload_n S dX1_readLine_66 rfl (lv_at hl 3 rfl) ?_
          refine r_iconst S dX1_readLine_67 (by decide) (fun v133 z134 => ?_)
          have r135 := R_eq z134
          refine r_ki (q_U (As := [.int v133]) (rest := []) (K := 11) (ci := 1) S X17 (c_X8_fail_11 l G τ hI v133 (R_of (lo := -2147483648) (hi := 2147483647) r135 rfl)) ck1_68_1 (Nat.le_of_ble_eq_true rfl) rfl (fun _ => ⟨_, rfl⟩) ⟨_, _, rfl⟩ ⟨Nat.le_of_ble_eq_true rfl, Nat.le_of_ble_eq_true rfl⟩ rfl hl.1 rfl (Nat.le_of_ble_eq_true rfl) dX1_readLine_68 ⟨Nat.le_refl 0, Nat.le_refl 0⟩) X17 (fun v139 t138 H lc q136 X137 => ?_)
          unfold po_X8_fail_11 at q136
          obtain ⟨q140, q141, q142⟩ := q136
          have F143 : Fr [(11, 1), (11, 2), (1, 3), (1, 4), (1, 5), (1, 7), (1, 8)] [12, 13, 14, 15, 201] τ t138 := Fr_call Fr_rfl q141 (by decide)
          exact r_ret S hr hlk X137 ⟨q140, F143, (LR_eq hLR (fun j => ((q141 12 j (by simp [fz])).trans rfl)) (fun j => ((q141 13 j (by simp [fz])).trans rfl)) (fun j => ((q141 14 j (by simp [fz])).trans rfl))), (R_of q142 rfl), (fun h => by exfalso; omega)⟩ (nr_bool (R_of (lo := 0) (hi := 1) q142 rfl)) dX1_readLine_71
      ·
        have r144 : R (0) (0) v19 := ⟨by omega, by omega⟩
        refine r_aload_n S dX1_readLine_47 rfl (lv_at hl 3 rfl) ?_
        refine r_aload_n S dX1_readLine_48 rfl (lv_at hl 4 rfl) ?_
        refine r_ki (q_U (As := [.ref (G.2.2.2.1 23)]) (rest := []) (K := 11) (ci := 1) S X17 (c_X8_seeMan_11 l G τ hI ) ck1_65_1 (Nat.le_of_ble_eq_true rfl) rfl (fun _ => ⟨_, rfl⟩) ⟨_, _, rfl⟩ ⟨Nat.le_of_ble_eq_true rfl, Nat.le_of_ble_eq_true rfl⟩ rfl hl.1 rfl (Nat.le_of_ble_eq_true rfl) dX1_readLine_49 ⟨Nat.le_refl 0, Nat.le_refl 0⟩) X17 (fun v148 t147 H lc q145 X146 => ?_)
        unfold po_X8_seeMan_11 at q145
        obtain ⟨q149, q150, q151, q152⟩ := q145
        have F153 : Fr [(11, 1), (11, 2), (1, 3), (1, 4), (1, 5), (1, 7), (1, 8)] [12, 13, 14, 15, 201] τ t147 := Fr_call Fr_rfl q150 (by decide)
        refine r_if_ne (tgt := 57) S dX1_readLine_52 (by decide) (fun c154 => ?_) (fun c154 => ?_)
        ·
          have r155 : R (1) (1) v148 := ⟨by omega, by omega⟩
          have p156 := q152 (by omega)
          obtain ⟨v157, z158⟩ : ∃ x, t147 11 2 = x := ⟨_, rfl⟩
          rw [z158] at p156
          refine r_aload_n S dX1_readLine_57 rfl (lv_at hl 3 rfl) ?_
          refine r_geti (K := 11) S X146 (Nat.le_of_ble_eq_true rfl) rfl lk1_24_1 (fun _ => ⟨_, rfl, rfl⟩) ((q150 11 3 (by decide)).trans z2) dX1_readLine_58 ?_
          refine r_bipush S dX1_readLine_61 (by decide) (fun v159 z160 => ?_)
          have r161 := R_eq z160
          refine r_icmp_lt (tgt := 72) S dX1_readLine_63 (by decide) (fun c162 => ?_) (fun c162 => ?_)
          ·
            have r163 : R (0) (39) v1 := ⟨by omega, by omega⟩
            refine r_aload_n S dX1_readLine_72 rfl (lv_at hl 3 rfl) ?_
            refine r_geti (K := 11) S X146 (Nat.le_of_ble_eq_true rfl) rfl lk1_72_1 (fun _ => ⟨_, rfl, rfl⟩) z158 dX1_readLine_73 ?_
            refine r_istore (lv' := [(5, .int v157), (4, .int v19), (3, .int v13), (2, .int v7), (0, .ref (G.2.2.2.1 11)), (1, .ref (G.2.2.2.1 23))]) S dX1_readLine_76 hl (by decide) rfl (fun ls hl => ?_)
            refine r_aload_n S dX1_readLine_78 rfl (lv_at hl 4 rfl) ?_
            refine r_get (K := 11) (v := .ref (G.2.2.2.1 1)) S X146 (Nat.le_of_ble_eq_true rfl) rfl lk1_32_1 (fun _ => ⟨_, rfl, rfl⟩) dX1_readLine_79 ?_
            refine r_kv (q_V (As := []) (rest := []) (K := 1) (ci := 7) S X146 (c_X7_step l G t147 q149 ) ck1_75 (Nat.le_of_ble_eq_true rfl) rfl (fun _ => ⟨_, rfl⟩) ⟨_, _, rfl⟩ ⟨Nat.le_of_ble_eq_true rfl, Nat.le_of_ble_eq_true rfl⟩ rfl hl.1 rfl (Nat.le_of_ble_eq_true rfl) dX1_readLine_82 ⟨Nat.le_refl 0, Nat.le_refl 0⟩) X146 (fun t166 H lc q164 X165 => ?_)
            unfold po_X7_step at q164
            obtain ⟨q167, q168⟩ := q164
            have F169 : Fr [(11, 1), (11, 2), (1, 3), (1, 4), (1, 5), (1, 7), (1, 8)] [12, 13, 14, 15, 201] τ t166 := Fr_call F153 q168 (by decide)
            refine r_iload_n S dX1_readLine_85 rfl (lv_at hl 3 rfl) ?_
            refine r_if_eq (tgt := 95) S dX1_readLine_86 (by decide) (fun c170 => ?_) (fun c170 => ?_)
            ·
              refine r_iload_n S dX1_readLine_95 rfl (lv_at hl 2 rfl) ?_
              refine r_if_eq (tgt := 105) S dX1_readLine_96 (by decide) (fun c171 => ?_) (fun c171 => ?_)
              ·
                refine r_iload S dX1_readLine_105 (lv_at hl 1 rfl) ?_
                refine r_if_eq (tgt := 118) S dX1_readLine_107 (by decide) (fun c172 => ?_) (fun c172 => ?_)
                ·
                  refine r_aload_n S dX1_readLine_118 rfl (lv_at hl 4 rfl) ?_
                  refine r_aload_n S dX1_readLine_119 rfl (lv_at hl 5 rfl) ?_
                  refine r_iload S dX1_readLine_120 (lv_at hl 0 rfl) ?_
                  refine r_ki (q_V (As := [.ref (G.2.2.2.1 23), .int v157]) (rest := []) (K := 11) (ci := 1) S X165 (c_X1_readSpeech l G t166 q167 v157 p156 (by rw [((q168 11 3 (by decide)).trans ((q150 11 3 (by decide)).trans z2))]; exact R_of r163 rfl) (LR_eq hLR (fun j => ((q168 12 j (by simp [fz])).trans ((q150 12 j (by simp [fz])).trans rfl))) (fun j => ((q168 13 j (by simp [fz])).trans ((q150 13 j (by simp [fz])).trans rfl))) (fun j => ((q168 14 j (by simp [fz])).trans ((q150 14 j (by simp [fz])).trans rfl))))) ck1_88 (Nat.le_of_ble_eq_true rfl) rfl (fun _ => ⟨_, rfl⟩) ⟨_, _, rfl⟩ ⟨Nat.le_of_ble_eq_true rfl, Nat.le_of_ble_eq_true rfl⟩ rfl hl.1 rfl (Nat.le_of_ble_eq_true rfl) dX1_readLine_122 ⟨Nat.le_refl 0, Nat.le_refl 0⟩) X165 (fun v176 t175 H lc q173 X174 => ?_)
                  unfold po_X1_readSpeech at q173
                  obtain ⟨q177, q178, q179, q180⟩ := q173
                  have F181 : Fr [(11, 1), (11, 2), (1, 3), (1, 4), (1, 5), (1, 7), (1, 8)] [12, 13, 14, 15, 201] τ t175 := Fr_call F169 q178 (by decide)
                  exact r_ret S hr hlk X174 ⟨q177, F181, q179, q180, (fun h => (by rw [((q178 11 3 (by decide)).trans ((q168 11 3 (by decide)).trans ((q150 11 3 (by decide)).trans z2)))]; exact R_of r163 rfl))⟩ (nr_bool (R_of (lo := 0) (hi := 1) q180 rfl)) dX1_readLine_125
                ·
                  exfalso; omega
              ·
                exfalso; omega
            ·
              exfalso; omega
          ·
            have r182 : R (40) (40) v1 := ⟨by omega, by omega⟩
            refine r_aload_n S dX1_readLine_66 rfl (lv_at hl 3 rfl) ?_
            refine r_iconst S dX1_readLine_67 (by decide) (fun v183 z184 => ?_)
            have r185 := R_eq z184
            refine r_ki (q_U (As := [.int v183]) (rest := []) (K := 11) (ci := 1) S X146 (c_X8_fail_11 l G t147 q149 v183 (R_of (lo := -2147483648) (hi := 2147483647) r185 rfl)) ck1_68_1 (Nat.le_of_ble_eq_true rfl) rfl (fun _ => ⟨_, rfl⟩) ⟨_, _, rfl⟩ ⟨Nat.le_of_ble_eq_true rfl, Nat.le_of_ble_eq_true rfl⟩ rfl hl.1 rfl (Nat.le_of_ble_eq_true rfl) dX1_readLine_68 ⟨Nat.le_refl 0, Nat.le_refl 0⟩) X146 (fun v189 t188 H lc q186 X187 => ?_)
            unfold po_X8_fail_11 at q186
            obtain ⟨q190, q191, q192⟩ := q186
            have F193 : Fr [(11, 1), (11, 2), (1, 3), (1, 4), (1, 5), (1, 7), (1, 8)] [12, 13, 14, 15, 201] τ t188 := Fr_call F153 q191 (by decide)
            exact r_ret S hr hlk X187 ⟨q190, F193, (LR_eq hLR (fun j => ((q191 12 j (by simp [fz])).trans ((q150 12 j (by simp [fz])).trans rfl))) (fun j => ((q191 13 j (by simp [fz])).trans ((q150 13 j (by simp [fz])).trans rfl))) (fun j => ((q191 14 j (by simp [fz])).trans ((q150 14 j (by simp [fz])).trans rfl)))), (R_of q192 rfl), (fun h => by exfalso; omega)⟩ (nr_bool (R_of (lo := 0) (hi := 1) q192 rfl)) dX1_readLine_71
        ·
          have r194 : R (0) (0) v148 := ⟨by omega, by omega⟩
          refine r_iconst S dX1_readLine_55 (by decide) (fun v195 z196 => ?_)
          have r197 := R_eq z196
          exact r_ret S hr hlk X146 ⟨q149, F153, (LR_eq hLR (fun j => ((q150 12 j (by simp [fz])).trans rfl)) (fun j => ((q150 13 j (by simp [fz])).trans rfl)) (fun j => ((q150 14 j (by simp [fz])).trans rfl))), (R_of r197 rfl), (fun h => by exfalso; omega)⟩ (nr_bool (R_of (lo := 0) (hi := 1) r197 rfl)) dX1_readLine_56
def po_X1_read (τ : Tau)     (r : Int32) (u : Tau) : Prop := Inv u ∧ Fr [(11, 1), (11, 2), (1, 3), (1, 4), (1, 5), (1, 7), (1, 8), (11, 3), (1, 2)] [12, 13, 14, 15, 201] τ u ∧ LR u ∧ R (0) (1) r
set_option maxHeartbeats 4000000 in
set_option maxRecDepth 100000 in
theorem c_X1_read (l : Launch) (G : Gx) (τ : Tau) (hI : Inv τ) (hLR : LR τ) : Ci l G yX1_read cX1_read 3 (some .boolean) 4 96 [.ref (G.2.2.2.1 11), .ref (G.2.2.2.1 23)] τ (po_X1_read τ    ) := by
  unfold Ci
  refine C_of (own := RX1) (by decide) rfl (Nat.le_of_ble_eq_true rfl) ?_
  intro p e s m below meth c ls S hr hlk X hl
  have hl : lv_has ls 3 [(0, .ref (G.2.2.2.1 11)), (1, .ref (G.2.2.2.1 23))] := hl
  refine r_aload_n S dX1_read_0 rfl (lv_at hl 0 rfl) ?_
  refine r_iconst S dX1_read_1 (by decide) (fun v1 z2 => ?_)
  have r3 := R_eq z2
  refine r_put (K := 11) (ty := .int) S X (Nat.le_of_ble_eq_true rfl) rfl lk1_24_1 (fun _ => ⟨_, rfl, Nat.le_of_ble_eq_true rfl, rfl⟩) (fun _ _ _ h => by cases h; exact ⟨rfl, rfl⟩) rfl rfl dX1_read_2 (fun t4 H lc M5 X6 => ?_)
  have I7 := Inv_mu hI M5 (show Rg (kd 11) 3 v1 from (R_of (lo := 0) (hi := 40) r3 rfl))
  have F8 : Fr [(11, 1), (11, 2), (1, 3), (1, 4), (1, 5), (1, 7), (1, 8), (11, 3), (1, 2)] [12, 13, 14, 15, 201] τ t4 := Fr_mu Fr_rfl M5 (by decide)
  refine r_aload_n S dX1_read_5 rfl (lv_at hl 0 rfl) ?_
  refine r_sipush S dX1_read_6 (by decide) (fun v9 z10 => ?_)
  have r11 := R_eq z10
  refine r_kv (q_U (As := [.int v9]) (rest := []) (K := 11) (ci := 1) S X6 (c_X8_open_11 l G t4 I7 v9 (R_of (lo := 0) (hi := 900) r11 rfl)) ck1_28_1 (Nat.le_of_ble_eq_true rfl) rfl (fun _ => ⟨_, rfl⟩) ⟨_, _, rfl⟩ ⟨Nat.le_of_ble_eq_true rfl, Nat.le_of_ble_eq_true rfl⟩ rfl hl.1 rfl (Nat.le_of_ble_eq_true rfl) dX1_read_9 ⟨Nat.le_refl 0, Nat.le_refl 0⟩) X6 (fun t14 H lc q12 X13 => ?_)
  unfold po_X8_open_11 at q12
  obtain ⟨q15, q16⟩ := q12
  have F17 : Fr [(11, 1), (11, 2), (1, 3), (1, 4), (1, 5), (1, 7), (1, 8), (11, 3), (1, 2)] [12, 13, 14, 15, 201] τ t14 := Fr_call F8 q16 (by decide)
  refine r_iconst S dX1_read_12 (by decide) (fun v18 z19 => ?_)
  have r20 := R_eq z19
  refine r_istore_n (lv' := [(2, .int v18), (0, .ref (G.2.2.2.1 11)), (1, .ref (G.2.2.2.1 23))]) S dX1_read_13 rfl hl (by decide) rfl (fun ls hl => ?_)
  have L976 : ∀ (n : Nat) (t968 : Tau) (H : Heap) (lc : List Loc) (ls : Array Slot) (i966 : Int32) (f973 : Int32), Xd G s H lc t968 → Inv t968 → Fr [(11, 1), (11, 2), (1, 3), (1, 4), (1, 5), (1, 7), (1, 8), (11, 3), (1, 2)] [12, 13, 14, 15, 201] τ t968 → LR t968 → R (0) (41) i966 → t968 11 3 = f973 → R (0) (40) f973 → lv_has ls 3 [(0, .ref (G.2.2.2.1 11)), (1, .ref (G.2.2.2.1 23)), (2, .int i966)] → (41 - i966.toInt).toNat < n → W p l e (Rm 4 96) s m ([.ref (G.2.2.2.1 11), .ref (G.2.2.2.1 23)] : List Value).toArray below meth c H lc 0 0 (MQ below (va_Qi (po_X1_read τ    ) (Bs G) G.2.2.2.2) ([.ref (G.2.2.2.1 11), .ref (G.2.2.2.1 23)] : List Value).toArray s 0 0 G.2.2.2.2) (F0 m 14 ls []) := by
    intro n
    induction n with
    | zero => intros; omega
    | succ n ih977 =>
      intro t968 H lc ls i966 f973 X972 I969 F970 hLR971 r967 z975 r974 hl hm
      refine r_iload_n S dX1_read_14 rfl (lv_at hl 2 rfl) ?_
      refine r_bipush S dX1_read_15 (by decide) (fun v978 z979 => ?_)
      have r980 := R_eq z979
      refine r_icmp_gt (tgt := 65) S dX1_read_17 (by decide) (fun c981 => ?_) (fun c981 => ?_)
      ·
        have r982 : R (41) (41) i966 := ⟨by omega, by omega⟩
        refine r_iconst S dX1_read_65 (by decide) (fun v983 z984 => ?_)
        have r985 := R_eq z984
        exact r_ret S hr hlk X972 ⟨I969, F970, hLR971, (R_of r985 rfl)⟩ (nr_bool (R_of (lo := 0) (hi := 1) r985 rfl)) dX1_read_66
      ·
        have r986 : R (0) (40) i966 := ⟨by omega, by omega⟩
        refine r_aload_n S dX1_read_20 rfl (lv_at hl 0 rfl) ?_
        refine r_get (K := 11) (v := .ref (G.2.2.2.1 1)) S X972 (Nat.le_of_ble_eq_true rfl) rfl lk1_32_1 (fun _ => ⟨_, rfl, rfl⟩) dX1_read_21 ?_
        refine r_getn (K := 1) S X972 (Nat.le_of_ble_eq_true rfl) rfl lk1_36_7 (fun _ => ⟨_, rfl, rfl⟩) dX1_read_24 (fun v987 z988 => ?_)
        have r989 : R (0) (4) v987 := rd I969 rfl z988
        refine r_if_eq (tgt := 65) S dX1_read_27 (by decide) (fun c990 => ?_) (fun c990 => ?_)
        ·
          have r991 : R (0) (0) v987 := ⟨by omega, by omega⟩
          refine r_iconst S dX1_read_65 (by decide) (fun v992 z993 => ?_)
          have r994 := R_eq z993
          exact r_ret S hr hlk X972 ⟨I969, F970, hLR971, (R_of r994 rfl)⟩ (nr_bool (R_of (lo := 0) (hi := 1) r994 rfl)) dX1_read_66
        ·
          have r995 : R (1) (4) v987 := ⟨by omega, by omega⟩
          refine r_aload_n S dX1_read_30 rfl (lv_at hl 0 rfl) ?_
          refine r_aload_n S dX1_read_31 rfl (lv_at hl 1 rfl) ?_
          refine r_ki (q_V (As := [.ref (G.2.2.2.1 23)]) (rest := []) (K := 11) (ci := 1) S X972 (c_X1_readLine l G t968 I969 hLR971) ck1_41 (Nat.le_of_ble_eq_true rfl) rfl (fun _ => ⟨_, rfl⟩) ⟨_, _, rfl⟩ ⟨Nat.le_of_ble_eq_true rfl, Nat.le_of_ble_eq_true rfl⟩ rfl hl.1 rfl (Nat.le_of_ble_eq_true rfl) dX1_read_32 ⟨Nat.le_refl 0, Nat.le_refl 0⟩) X972 (fun v999 t998 H lc q996 X997 => ?_)
          unfold po_X1_readLine at q996
          obtain ⟨q1000, q1001, q1002, q1003, q1004⟩ := q996
          have F1005 : Fr [(11, 1), (11, 2), (1, 3), (1, 4), (1, 5), (1, 7), (1, 8), (11, 3), (1, 2)] [12, 13, 14, 15, 201] τ t998 := Fr_call F970 q1001 (by decide)
          refine r_if_eq (tgt := 47) S dX1_read_35 (by decide) (fun c1006 => ?_) (fun c1006 => ?_)
          ·
            have r1007 : R (0) (0) v999 := ⟨by omega, by omega⟩
            refine r_iconst S dX1_read_47 (by decide) (fun v1008 z1009 => ?_)
            have r1010 := R_eq z1009
            exact r_ret S hr hlk X997 ⟨q1000, F1005, q1002, (R_of r1010 rfl)⟩ (nr_bool (R_of (lo := 0) (hi := 1) r1010 rfl)) dX1_read_48
          ·
            have r1011 : R (1) (1) v999 := ⟨by omega, by omega⟩
            have p1012 := q1004 (by omega)
            have r1013 : R (0) (39) f973 := ((q1001 11 3 (by decide)).trans z975) ▸ p1012
            have r1014 : R (0) (39) f973 := ⟨by omega, by omega⟩
            refine r_aload_n S dX1_read_38 rfl (lv_at hl 0 rfl) ?_
            refine r_bipush S dX1_read_39 (by decide) (fun v1015 z1016 => ?_)
            have r1017 := R_eq z1016
            refine r_ki (q_U (As := [.int v1015]) (rest := []) (K := 11) (ci := 1) S X997 (c_X8_takeSign_11 l G t998 q1000 v1015 (R_of (lo := 0) (hi := 65535) r1017 rfl)) ck1_45_1 (Nat.le_of_ble_eq_true rfl) rfl (fun _ => ⟨_, rfl⟩) ⟨_, _, rfl⟩ ⟨Nat.le_of_ble_eq_true rfl, Nat.le_of_ble_eq_true rfl⟩ rfl hl.1 rfl (Nat.le_of_ble_eq_true rfl) dX1_read_41 ⟨Nat.le_refl 0, Nat.le_refl 0⟩) X997 (fun v1021 t1020 H lc q1018 X1019 => ?_)
            unfold po_X8_takeSign_11 at q1018
            obtain ⟨q1022, q1023, q1024⟩ := q1018
            have F1025 : Fr [(11, 1), (11, 2), (1, 3), (1, 4), (1, 5), (1, 7), (1, 8), (11, 3), (1, 2)] [12, 13, 14, 15, 201] τ t1020 := Fr_call F1005 q1023 (by decide)
            refine r_if_ne (tgt := 49) S dX1_read_44 (by decide) (fun c1026 => ?_) (fun c1026 => ?_)
            ·
              have r1027 : R (1) (1) v1021 := ⟨by omega, by omega⟩
              refine r_aload_n S dX1_read_49 rfl (lv_at hl 0 rfl) ?_
              refine r_dup S dX1_read_50 rfl ?_
              refine r_geti (K := 11) S X1019 (Nat.le_of_ble_eq_true rfl) rfl lk1_24_1 (fun _ => ⟨_, rfl, rfl⟩) ((q1023 11 3 (by decide)).trans ((q1001 11 3 (by decide)).trans z975)) dX1_read_51 ?_
              refine r_iconst S dX1_read_54 (by decide) (fun v1028 z1029 => ?_)
              have r1030 := R_eq z1029
              refine r_iadd S dX1_read_55 (fun v1031 z1032 => ?_)
              obtain ⟨e1033, r1034⟩ := i_add (lo := 1) (hi := 40) z1032 r1014 r1030 rfl
              refine r_put (K := 11) (ty := .int) S X1019 (Nat.le_of_ble_eq_true rfl) rfl lk1_24_1 (fun _ => ⟨_, rfl, Nat.le_of_ble_eq_true rfl, rfl⟩) (fun _ _ _ h => by cases h; exact ⟨rfl, rfl⟩) rfl rfl dX1_read_56 (fun t1035 H lc M1036 X1037 => ?_)
              have I1038 := Inv_mu q1022 M1036 (show Rg (kd 11) 3 v1031 from (R_of (lo := 0) (hi := 40) r1034 rfl))
              have F1039 : Fr [(11, 1), (11, 2), (1, 3), (1, 4), (1, 5), (1, 7), (1, 8), (11, 3), (1, 2)] [12, 13, 14, 15, 201] τ t1035 := Fr_mu F1025 M1036 (by decide)
              refine r_iinc (k := 2) S dX1_read_59 hl rfl (by decide) (by decide) (fun v1040 d1041 ls z1042 z1043 hl => ?_)
              obtain ⟨e1044, r1045⟩ := i_add (lo := 1) (hi := 41) z1042 r986 (R_eq z1043) rfl
              have hl : lv_has ls 3 [(2, .int v1040), (0, .ref (G.2.2.2.1 11)), (1, .ref (G.2.2.2.1 23))] := hl
              refine r_goto (tgt := 14) S dX1_read_62 (by decide) ?_
              exact ih977 t1035 _ _ _ v1040 v1031 X1037 I1038 F1039 (LR_eq q1002 (fun j => ((M1036.2 12 j (Or.inl (by decide))).trans ((q1023 12 j (by simp [fz])).trans rfl))) (fun j => ((M1036.2 13 j (Or.inl (by decide))).trans ((q1023 13 j (by simp [fz])).trans rfl))) (fun j => ((M1036.2 14 j (Or.inl (by decide))).trans ((q1023 14 j (by simp [fz])).trans rfl)))) (R_of r1045 rfl) M1036.1 ⟨by omega, by omega⟩ (lv_sub hl [1, 2, 0] rfl) (by omega)
            ·
              have r1046 : R (0) (0) v1021 := ⟨by omega, by omega⟩
              refine r_iconst S dX1_read_47 (by decide) (fun v1047 z1048 => ?_)
              have r1049 := R_eq z1048
              exact r_ret S hr hlk X1019 ⟨q1022, F1025, (LR_eq q1002 (fun j => ((q1023 12 j (by simp [fz])).trans rfl)) (fun j => ((q1023 13 j (by simp [fz])).trans rfl)) (fun j => ((q1023 14 j (by simp [fz])).trans rfl))), (R_of r1049 rfl)⟩ (nr_bool (R_of (lo := 0) (hi := 1) r1049 rfl)) dX1_read_48
  exact L976 _ t14 _ _ _ v18 v1 X13 q15 F17 (LR_eq hLR (fun j => ((q16 12 j (by simp [fz])).trans ((M5.2 12 j (Or.inl (by decide))).trans rfl))) (fun j => ((q16 13 j (by simp [fz])).trans ((M5.2 13 j (Or.inl (by decide))).trans rfl))) (fun j => ((q16 14 j (by simp [fz])).trans ((M5.2 14 j (Or.inl (by decide))).trans rfl)))) (R_of r20 rfl) ((q16 11 3 (by decide)).trans M5.1) ⟨by omega, by omega⟩ (lv_sub hl [1, 2, 0] rfl) (Nat.lt_succ_self _)
def po_X11_liveLog (τ : Tau)     (r : Int32) (u : Tau) : Prop := Inv u ∧ Fr [(30, 4), (30, 5), (30, 6), (30, 10), (30, 8), (30, 9), (30, 7)] [33, 34, 32, 31, 130] τ u ∧ WI u
set_option maxHeartbeats 4000000 in
set_option maxRecDepth 100000 in
theorem c_X11_liveLog (l : Launch) (G : Gx) (τ : Tau) (hI : Inv τ) (hWI : WI τ) (hLR : LR τ) : Ci l G yX11_liveLog cX11_liveLog 9 (some .int) 6 142 [.ref (G.2.2.2.1 0)] τ (po_X11_liveLog τ    ) := by
  unfold Ci
  refine C_of (own := RX11) (by decide) rfl (Nat.le_of_ble_eq_true rfl) ?_
  intro p e s m below meth c ls S hr hlk X hl
  have hl : lv_has ls 9 [(0, .ref (G.2.2.2.1 0))] := hl
  refine r_aload_n S dX11_liveLog_0 rfl (lv_at hl 0 rfl) ?_
  refine r_get (K := 0) (v := .ref (G.2.2.2.1 22)) S X (Nat.le_of_ble_eq_true rfl) rfl lk11_42_9 (fun _ => ⟨_, rfl, rfl⟩) dX11_liveLog_1 ?_
  refine r_get (K := 22) (v := .ref (G.2.2.2.1 30)) S X (Nat.le_of_ble_eq_true rfl) rfl lk11_129_8 (fun _ => ⟨_, rfl, rfl⟩) dX11_liveLog_4 ?_
  refine r_getn (K := 23) S X (Nat.le_of_ble_eq_true rfl) rfl lk11_181_3 (fun _ => ⟨_, rfl, rfl⟩) dX11_liveLog_7 (fun v1 z2 => ?_)
  have r4 := R_any v1
  refine r_istore_n (lv' := [(1, .int v1), (0, .ref (G.2.2.2.1 0))]) S dX11_liveLog_10 rfl hl (by decide) rfl (fun ls hl => ?_)
  refine r_iconst S dX11_liveLog_11 (by decide) (fun v5 z6 => ?_)
  have r7 := R_eq z6
  refine r_istore_n (lv' := [(2, .int v5), (1, .int v1), (0, .ref (G.2.2.2.1 0))]) S dX11_liveLog_12 rfl hl (by decide) rfl (fun ls hl => ?_)
  refine r_iconst S dX11_liveLog_13 (by decide) (fun v8 z9 => ?_)
  have r10 := R_eq z9
  refine r_istore_n (lv' := [(3, .int v8), (2, .int v5), (1, .int v1), (0, .ref (G.2.2.2.1 0))]) S dX11_liveLog_14 rfl hl (by decide) rfl (fun ls hl => ?_)
  have L2756 : ∀ (n : Nat) (t2750 : Tau) (H : Heap) (lc : List Loc) (ls : Array Slot) (i2746 : Int32) (i2748 : Int32), Xd G s H lc t2750 → Inv t2750 → Fr [(30, 4), (30, 5), (30, 6), (30, 10), (30, 8), (30, 9), (30, 7)] [33, 34, 32, 31, 130] τ t2750 → LR t2750 → WI t2750 → R (0) (45) i2746 → R (0) (40) i2748 → lv_has ls 9 [(0, .ref (G.2.2.2.1 0)), (1, .int v1), (2, .int i2746), (3, .int i2748)] → (2 * (41 - i2748.toInt) + (if i2746.toInt = 0 then 1 else 0)).toNat < n → W p l e (Rm 6 142) s m ([.ref (G.2.2.2.1 0)] : List Value).toArray below meth c H lc 0 0 (MQ below (va_Qi (po_X11_liveLog τ    ) (Bs G) G.2.2.2.2) ([.ref (G.2.2.2.1 0)] : List Value).toArray s 0 0 G.2.2.2.2) (F0 m 15 ls []) := by
    intro n
    induction n with
    | zero => intros; omega
    | succ n ih2757 =>
      intro t2750 H lc ls i2746 i2748 X2755 I2751 F2752 hLR2754 hWI2753 r2747 r2749 hl hm
      refine r_iload_n S dX11_liveLog_15 rfl (lv_at hl 3 rfl) ?_
      refine r_aload_n S dX11_liveLog_16 rfl (lv_at hl 0 rfl) ?_
      refine r_get (K := 0) (v := .ref (G.2.2.2.1 11)) S X2755 (Nat.le_of_ble_eq_true rfl) rfl lk11_28_9 (fun _ => ⟨_, rfl, rfl⟩) dX11_liveLog_17 ?_
      refine r_getn (K := 11) S X2755 (Nat.le_of_ble_eq_true rfl) rfl lk11_330_1 (fun _ => ⟨_, rfl, rfl⟩) dX11_liveLog_20 (fun v2758 z2759 => ?_)
      have r2760 : R (0) (40) v2758 := rd I2751 rfl z2759
      refine r_icmp_ge (tgt := 129) S dX11_liveLog_23 (by decide) (fun c2761 => ?_) (fun c2761 => ?_)
      ·
        refine r_aload_n S dX11_liveLog_129 rfl (lv_at hl 0 rfl) ?_
        refine r_get (K := 0) (v := .ref (G.2.2.2.1 130)) S X2755 (Nat.le_of_ble_eq_true rfl) rfl lk11_85_9 (fun _ => ⟨_, rfl, rfl⟩) dX11_liveLog_130 ?_
        refine r_iconst S dX11_liveLog_133 (by decide) (fun v2762 z2763 => ?_)
        have r2764 := R_eq z2763
        refine r_iload_n S dX11_liveLog_134 rfl (lv_at hl 2 rfl) ?_
        refine r_ast (n := 4) (K := 37) S X2755 (Nat.le_of_ble_eq_true rfl) rfl (fun _ _ => rfl) (ix_of r2764 rfl) dX11_liveLog_135 (fun t2765 H lc M2766 X2767 => ?_)
        have I2768 := Inv_mu I2751 M2766 (R_any i2746)
        have F2769 : Fr [(30, 4), (30, 5), (30, 6), (30, 10), (30, 8), (30, 9), (30, 7)] [33, 34, 32, 31, 130] τ t2765 := Fr_cell F2752 M2766 (by decide)
        refine r_aload_n S dX11_liveLog_136 rfl (lv_at hl 0 rfl) ?_
        refine r_get (K := 0) (v := .ref (G.2.2.2.1 130)) S X2767 (Nat.le_of_ble_eq_true rfl) rfl lk11_85_9 (fun _ => ⟨_, rfl, rfl⟩) dX11_liveLog_137 ?_
        refine r_iconst S dX11_liveLog_140 (by decide) (fun v2770 z2771 => ?_)
        have r2772 := R_eq z2771
        refine r_iload_n S dX11_liveLog_141 rfl (lv_at hl 3 rfl) ?_
        refine r_ast (n := 4) (K := 37) S X2767 (Nat.le_of_ble_eq_true rfl) rfl (fun _ _ => rfl) (ix_of r2772 rfl) dX11_liveLog_142 (fun t2773 H lc M2774 X2775 => ?_)
        have I2776 := Inv_mu I2768 M2774 (R_any i2748)
        have F2777 : Fr [(30, 4), (30, 5), (30, 6), (30, 10), (30, 8), (30, 9), (30, 7)] [33, 34, 32, 31, 130] τ t2773 := Fr_cell F2769 M2774 (by decide)
        refine r_aload_n S dX11_liveLog_143 rfl (lv_at hl 0 rfl) ?_
        refine r_get (K := 0) (v := .ref (G.2.2.2.1 130)) S X2775 (Nat.le_of_ble_eq_true rfl) rfl lk11_85_9 (fun _ => ⟨_, rfl, rfl⟩) dX11_liveLog_144 ?_
        refine r_iconst S dX11_liveLog_147 (by decide) (fun v2778 z2779 => ?_)
        have r2780 := R_eq z2779
        refine r_aload_n S dX11_liveLog_148 rfl (lv_at hl 0 rfl) ?_
        refine r_get (K := 0) (v := .ref (G.2.2.2.1 22)) S X2775 (Nat.le_of_ble_eq_true rfl) rfl lk11_42_9 (fun _ => ⟨_, rfl, rfl⟩) dX11_liveLog_149 ?_
        refine r_get (K := 22) (v := .ref (G.2.2.2.1 30)) S X2775 (Nat.le_of_ble_eq_true rfl) rfl lk11_129_8 (fun _ => ⟨_, rfl, rfl⟩) dX11_liveLog_152 ?_
        refine r_getn (K := 23) S X2775 (Nat.le_of_ble_eq_true rfl) rfl lk11_181_3 (fun _ => ⟨_, rfl, rfl⟩) dX11_liveLog_155 (fun v2781 z2782 => ?_)
        have r2784 := R_any v2781
        refine r_iload_n S dX11_liveLog_158 rfl (lv_at hl 1 rfl) ?_
        refine r_isub S dX11_liveLog_159 (fun v2785 z2786 => ?_)
        have r2787 := R_any v2785
        refine r_ast (n := 4) (K := 37) S X2775 (Nat.le_of_ble_eq_true rfl) rfl (fun _ _ => rfl) (ix_of r2780 rfl) dX11_liveLog_160 (fun t2788 H lc M2789 X2790 => ?_)
        have I2791 := Inv_mu I2776 M2789 (R_any v2785)
        have F2792 : Fr [(30, 4), (30, 5), (30, 6), (30, 10), (30, 8), (30, 9), (30, 7)] [33, 34, 32, 31, 130] τ t2788 := Fr_cell F2777 M2789 (by decide)
        refine r_aload_n S dX11_liveLog_161 rfl (lv_at hl 0 rfl) ?_
        refine r_get (K := 0) (v := .ref (G.2.2.2.1 130)) S X2790 (Nat.le_of_ble_eq_true rfl) rfl lk11_85_9 (fun _ => ⟨_, rfl, rfl⟩) dX11_liveLog_162 ?_
        refine r_iconst S dX11_liveLog_165 (by decide) (fun v2793 z2794 => ?_)
        have r2795 := R_eq z2794
        refine r_aload_n S dX11_liveLog_166 rfl (lv_at hl 0 rfl) ?_
        refine r_get (K := 0) (v := .ref (G.2.2.2.1 22)) S X2790 (Nat.le_of_ble_eq_true rfl) rfl lk11_42_9 (fun _ => ⟨_, rfl, rfl⟩) dX11_liveLog_167 ?_
        refine r_get (K := 22) (v := .ref (G.2.2.2.1 30)) S X2790 (Nat.le_of_ble_eq_true rfl) rfl lk11_129_8 (fun _ => ⟨_, rfl, rfl⟩) dX11_liveLog_170 ?_
        refine r_getn (K := 23) S X2790 (Nat.le_of_ble_eq_true rfl) rfl lk11_132_3 (fun _ => ⟨_, rfl, rfl⟩) dX11_liveLog_173 (fun v2796 z2797 => ?_)
        have r2798 : R (0) (1023) v2796 := rd I2791 rfl z2797
        refine r_ast (n := 4) (K := 37) S X2790 (Nat.le_of_ble_eq_true rfl) rfl (fun _ _ => rfl) (ix_of r2795 rfl) dX11_liveLog_176 (fun t2799 H lc M2800 X2801 => ?_)
        have I2802 := Inv_mu I2791 M2800 (R_any v2796)
        have F2803 : Fr [(30, 4), (30, 5), (30, 6), (30, 10), (30, 8), (30, 9), (30, 7)] [33, 34, 32, 31, 130] τ t2799 := Fr_cell F2792 M2800 (by decide)
        refine r_iload_n S dX11_liveLog_177 rfl (lv_at hl 2 rfl) ?_
        refine r_if_ne (tgt := 185) S dX11_liveLog_178 (by decide) (fun c2804 => ?_) (fun c2804 => ?_)
        ·
          have r2805 : R (1) (45) i2746 := ⟨by omega, by omega⟩
          refine r_iload_n S dX11_liveLog_185 rfl (lv_at hl 3 rfl) ?_
          exact r_ret S hr hlk X2801 ⟨I2802, F2803, (WI_eq hWI2753 ((M2800.2 23 2 (Or.inl (by decide))).trans ((M2789.2 23 2 (Or.inl (by decide))).trans ((M2774.2 23 2 (Or.inl (by decide))).trans ((M2766.2 23 2 (Or.inl (by decide))).trans rfl)))) ((M2800.2 30 8 (Or.inl (by decide))).trans ((M2789.2 30 8 (Or.inl (by decide))).trans ((M2774.2 30 8 (Or.inl (by decide))).trans ((M2766.2 30 8 (Or.inl (by decide))).trans rfl)))))⟩ rfl dX11_liveLog_186
        ·
          have r2806 : R (0) (0) i2746 := ⟨by omega, by omega⟩
          refine r_iconst S dX11_liveLog_181 (by decide) (fun v2807 z2808 => ?_)
          have r2809 := R_eq z2808
          refine r_goto (tgt := 186) S dX11_liveLog_182 (by decide) ?_
          exact r_ret S hr hlk X2801 ⟨I2802, F2803, (WI_eq hWI2753 ((M2800.2 23 2 (Or.inl (by decide))).trans ((M2789.2 23 2 (Or.inl (by decide))).trans ((M2774.2 23 2 (Or.inl (by decide))).trans ((M2766.2 23 2 (Or.inl (by decide))).trans rfl)))) ((M2800.2 30 8 (Or.inl (by decide))).trans ((M2789.2 30 8 (Or.inl (by decide))).trans ((M2774.2 30 8 (Or.inl (by decide))).trans ((M2766.2 30 8 (Or.inl (by decide))).trans rfl)))))⟩ rfl dX11_liveLog_186
      ·
        have r2810 : R (0) (39) i2748 := ⟨by omega, by omega⟩
        have r2811 : R (1) (40) v2758 := ⟨by omega, by omega⟩
        refine r_iload_n S dX11_liveLog_26 rfl (lv_at hl 2 rfl) ?_
        refine r_if_ne (tgt := 129) S dX11_liveLog_27 (by decide) (fun c2812 => ?_) (fun c2812 => ?_)
        ·
          have r2813 : R (1) (45) i2746 := ⟨by omega, by omega⟩
          refine r_aload_n S dX11_liveLog_129 rfl (lv_at hl 0 rfl) ?_
          refine r_get (K := 0) (v := .ref (G.2.2.2.1 130)) S X2755 (Nat.le_of_ble_eq_true rfl) rfl lk11_85_9 (fun _ => ⟨_, rfl, rfl⟩) dX11_liveLog_130 ?_
          refine r_iconst S dX11_liveLog_133 (by decide) (fun v2814 z2815 => ?_)
          have r2816 := R_eq z2815
          refine r_iload_n S dX11_liveLog_134 rfl (lv_at hl 2 rfl) ?_
          refine r_ast (n := 4) (K := 37) S X2755 (Nat.le_of_ble_eq_true rfl) rfl (fun _ _ => rfl) (ix_of r2816 rfl) dX11_liveLog_135 (fun t2817 H lc M2818 X2819 => ?_)
          have I2820 := Inv_mu I2751 M2818 (R_any i2746)
          have F2821 : Fr [(30, 4), (30, 5), (30, 6), (30, 10), (30, 8), (30, 9), (30, 7)] [33, 34, 32, 31, 130] τ t2817 := Fr_cell F2752 M2818 (by decide)
          refine r_aload_n S dX11_liveLog_136 rfl (lv_at hl 0 rfl) ?_
          refine r_get (K := 0) (v := .ref (G.2.2.2.1 130)) S X2819 (Nat.le_of_ble_eq_true rfl) rfl lk11_85_9 (fun _ => ⟨_, rfl, rfl⟩) dX11_liveLog_137 ?_
          refine r_iconst S dX11_liveLog_140 (by decide) (fun v2822 z2823 => ?_)
          have r2824 := R_eq z2823
          refine r_iload_n S dX11_liveLog_141 rfl (lv_at hl 3 rfl) ?_
          refine r_ast (n := 4) (K := 37) S X2819 (Nat.le_of_ble_eq_true rfl) rfl (fun _ _ => rfl) (ix_of r2824 rfl) dX11_liveLog_142 (fun t2825 H lc M2826 X2827 => ?_)
          have I2828 := Inv_mu I2820 M2826 (R_any i2748)
          have F2829 : Fr [(30, 4), (30, 5), (30, 6), (30, 10), (30, 8), (30, 9), (30, 7)] [33, 34, 32, 31, 130] τ t2825 := Fr_cell F2821 M2826 (by decide)
          refine r_aload_n S dX11_liveLog_143 rfl (lv_at hl 0 rfl) ?_
          refine r_get (K := 0) (v := .ref (G.2.2.2.1 130)) S X2827 (Nat.le_of_ble_eq_true rfl) rfl lk11_85_9 (fun _ => ⟨_, rfl, rfl⟩) dX11_liveLog_144 ?_
          refine r_iconst S dX11_liveLog_147 (by decide) (fun v2830 z2831 => ?_)
          have r2832 := R_eq z2831
          refine r_aload_n S dX11_liveLog_148 rfl (lv_at hl 0 rfl) ?_
          refine r_get (K := 0) (v := .ref (G.2.2.2.1 22)) S X2827 (Nat.le_of_ble_eq_true rfl) rfl lk11_42_9 (fun _ => ⟨_, rfl, rfl⟩) dX11_liveLog_149 ?_
          refine r_get (K := 22) (v := .ref (G.2.2.2.1 30)) S X2827 (Nat.le_of_ble_eq_true rfl) rfl lk11_129_8 (fun _ => ⟨_, rfl, rfl⟩) dX11_liveLog_152 ?_
          refine r_getn (K := 23) S X2827 (Nat.le_of_ble_eq_true rfl) rfl lk11_181_3 (fun _ => ⟨_, rfl, rfl⟩) dX11_liveLog_155 (fun v2833 z2834 => ?_)
          have r2836 := R_any v2833
          refine r_iload_n S dX11_liveLog_158 rfl (lv_at hl 1 rfl) ?_
          refine r_isub S dX11_liveLog_159 (fun v2837 z2838 => ?_)
          have r2839 := R_any v2837
          refine r_ast (n := 4) (K := 37) S X2827 (Nat.le_of_ble_eq_true rfl) rfl (fun _ _ => rfl) (ix_of r2832 rfl) dX11_liveLog_160 (fun t2840 H lc M2841 X2842 => ?_)
          have I2843 := Inv_mu I2828 M2841 (R_any v2837)
          have F2844 : Fr [(30, 4), (30, 5), (30, 6), (30, 10), (30, 8), (30, 9), (30, 7)] [33, 34, 32, 31, 130] τ t2840 := Fr_cell F2829 M2841 (by decide)
          refine r_aload_n S dX11_liveLog_161 rfl (lv_at hl 0 rfl) ?_
          refine r_get (K := 0) (v := .ref (G.2.2.2.1 130)) S X2842 (Nat.le_of_ble_eq_true rfl) rfl lk11_85_9 (fun _ => ⟨_, rfl, rfl⟩) dX11_liveLog_162 ?_
          refine r_iconst S dX11_liveLog_165 (by decide) (fun v2845 z2846 => ?_)
          have r2847 := R_eq z2846
          refine r_aload_n S dX11_liveLog_166 rfl (lv_at hl 0 rfl) ?_
          refine r_get (K := 0) (v := .ref (G.2.2.2.1 22)) S X2842 (Nat.le_of_ble_eq_true rfl) rfl lk11_42_9 (fun _ => ⟨_, rfl, rfl⟩) dX11_liveLog_167 ?_
          refine r_get (K := 22) (v := .ref (G.2.2.2.1 30)) S X2842 (Nat.le_of_ble_eq_true rfl) rfl lk11_129_8 (fun _ => ⟨_, rfl, rfl⟩) dX11_liveLog_170 ?_
          refine r_getn (K := 23) S X2842 (Nat.le_of_ble_eq_true rfl) rfl lk11_132_3 (fun _ => ⟨_, rfl, rfl⟩) dX11_liveLog_173 (fun v2848 z2849 => ?_)
          have r2850 : R (0) (1023) v2848 := rd I2843 rfl z2849
          refine r_ast (n := 4) (K := 37) S X2842 (Nat.le_of_ble_eq_true rfl) rfl (fun _ _ => rfl) (ix_of r2847 rfl) dX11_liveLog_176 (fun t2851 H lc M2852 X2853 => ?_)
          have I2854 := Inv_mu I2843 M2852 (R_any v2848)
          have F2855 : Fr [(30, 4), (30, 5), (30, 6), (30, 10), (30, 8), (30, 9), (30, 7)] [33, 34, 32, 31, 130] τ t2851 := Fr_cell F2844 M2852 (by decide)
          refine r_iload_n S dX11_liveLog_177 rfl (lv_at hl 2 rfl) ?_
          refine r_if_ne (tgt := 185) S dX11_liveLog_178 (by decide) (fun c2856 => ?_) (fun c2856 => ?_)
          ·
            refine r_iload_n S dX11_liveLog_185 rfl (lv_at hl 3 rfl) ?_
            exact r_ret S hr hlk X2853 ⟨I2854, F2855, (WI_eq hWI2753 ((M2852.2 23 2 (Or.inl (by decide))).trans ((M2841.2 23 2 (Or.inl (by decide))).trans ((M2826.2 23 2 (Or.inl (by decide))).trans ((M2818.2 23 2 (Or.inl (by decide))).trans rfl)))) ((M2852.2 30 8 (Or.inl (by decide))).trans ((M2841.2 30 8 (Or.inl (by decide))).trans ((M2826.2 30 8 (Or.inl (by decide))).trans ((M2818.2 30 8 (Or.inl (by decide))).trans rfl)))))⟩ rfl dX11_liveLog_186
          ·
            exfalso; omega
        ·
          have r2857 : R (0) (0) i2746 := ⟨by omega, by omega⟩
          refine r_aload_n S dX11_liveLog_30 rfl (lv_at hl 0 rfl) ?_
          refine r_get (K := 0) (v := .ref (G.2.2.2.1 11)) S X2755 (Nat.le_of_ble_eq_true rfl) rfl lk11_28_9 (fun _ => ⟨_, rfl, rfl⟩) dX11_liveLog_31 ?_
          refine r_get (K := 11) (v := .ref (G.2.2.2.1 12)) S X2755 (Nat.le_of_ble_eq_true rfl) rfl lk11_331_1 (fun _ => ⟨_, rfl, rfl⟩) dX11_liveLog_34 ?_
          refine r_iload_n S dX11_liveLog_37 rfl (lv_at hl 3 rfl) ?_
          refine r_aldn (n := 40) (K := 12) S X2755 (Nat.le_of_ble_eq_true rfl) rfl (fun _ => rfl) (ix_of r2810 rfl) dX11_liveLog_38 (fun v2858 z2859 => ?_)
          have r2860 : R (0) (4) v2858 := rd I2751 rfl z2859
          refine r_istore (lv' := [(4, .int v2858), (0, .ref (G.2.2.2.1 0)), (1, .int v1), (2, .int i2746), (3, .int i2748)]) S dX11_liveLog_39 hl (by decide) rfl (fun ls hl => ?_)
          refine r_aload_n S dX11_liveLog_41 rfl (lv_at hl 1 rfl) ?_
          refine r_get (K := 0) (v := .ref (G.2.2.2.1 11)) S X2755 (Nat.le_of_ble_eq_true rfl) rfl lk11_28_9 (fun _ => ⟨_, rfl, rfl⟩) dX11_liveLog_42 ?_
          refine r_get (K := 11) (v := .ref (G.2.2.2.1 13)) S X2755 (Nat.le_of_ble_eq_true rfl) rfl lk11_334_1 (fun _ => ⟨_, rfl, rfl⟩) dX11_liveLog_45 ?_
          refine r_iload_n S dX11_liveLog_48 rfl (lv_at hl 4 rfl) ?_
          refine r_aldn (n := 40) (K := 13) S X2755 (Nat.le_of_ble_eq_true rfl) rfl (fun _ => rfl) (ix_of r2810 rfl) dX11_liveLog_49 (fun v2861 z2862 => ?_)
          have r2863 : R (-1) (1023) v2861 := rd I2751 rfl z2862
          refine r_istore (lv' := [(5, .int v2861), (4, .int v2858), (0, .ref (G.2.2.2.1 0)), (1, .int v1), (2, .int i2746), (3, .int i2748)]) S dX11_liveLog_50 hl (by decide) rfl (fun ls hl => ?_)
          refine r_aload_n S dX11_liveLog_52 rfl (lv_at hl 2 rfl) ?_
          refine r_get (K := 0) (v := .ref (G.2.2.2.1 11)) S X2755 (Nat.le_of_ble_eq_true rfl) rfl lk11_28_9 (fun _ => ⟨_, rfl, rfl⟩) dX11_liveLog_53 ?_
          refine r_get (K := 11) (v := .ref (G.2.2.2.1 14)) S X2755 (Nat.le_of_ble_eq_true rfl) rfl lk11_337_1 (fun _ => ⟨_, rfl, rfl⟩) dX11_liveLog_56 ?_
          refine r_iload_n S dX11_liveLog_59 rfl (lv_at hl 5 rfl) ?_
          refine r_aldn (n := 40) (K := 14) S X2755 (Nat.le_of_ble_eq_true rfl) rfl (fun _ => rfl) (ix_of r2810 rfl) dX11_liveLog_60 (fun v2864 z2865 => ?_)
          have r2866 : R (-1) (8) v2864 := rd I2751 rfl z2865
          refine r_istore (lv' := [(6, .int v2864), (5, .int v2861), (4, .int v2858), (0, .ref (G.2.2.2.1 0)), (1, .int v1), (2, .int i2746), (3, .int i2748)]) S dX11_liveLog_61 hl (by decide) rfl (fun ls hl => ?_)
          refine r_aload_n S dX11_liveLog_63 rfl (lv_at hl 3 rfl) ?_
          refine r_get (K := 0) (v := .ref (G.2.2.2.1 11)) S X2755 (Nat.le_of_ble_eq_true rfl) rfl lk11_28_9 (fun _ => ⟨_, rfl, rfl⟩) dX11_liveLog_64 ?_
          refine r_get (K := 11) (v := .ref (G.2.2.2.1 15)) S X2755 (Nat.le_of_ble_eq_true rfl) rfl lk11_339_1 (fun _ => ⟨_, rfl, rfl⟩) dX11_liveLog_67 ?_
          refine r_iload_n S dX11_liveLog_70 rfl (lv_at hl 6 rfl) ?_
          refine r_aldn (n := 40) (K := 15) S X2755 (Nat.le_of_ble_eq_true rfl) rfl (fun _ => rfl) (ix_of r2810 rfl) dX11_liveLog_71 (fun v2867 z2868 => ?_)
          have r2869 : R (-9) (9) v2867 := rd I2751 rfl z2868
          refine r_istore (lv' := [(7, .int v2867), (6, .int v2864), (5, .int v2861), (4, .int v2858), (0, .ref (G.2.2.2.1 0)), (1, .int v1), (2, .int i2746), (3, .int i2748)]) S dX11_liveLog_72 hl (by decide) rfl (fun ls hl => ?_)
          have h2870 := LR_at hLR2754 z2859 z2862 z2865
          rcases (show v2858.toInt = 0 ∨ v2858.toInt = 1 ∨ v2858.toInt = 2 ∨ v2858.toInt = 3 ∨ v2858.toInt = 4 by omega) with c2871 | c2871 | c2871 | c2871 | c2871
          ·
            have r2872 : R (0) (0) v2858 := ⟨by omega, by omega⟩
            have r2873 : R (0) (1023) v2861 := ⟨by omega, by omega⟩
            refine r_aload_n S dX11_liveLog_74 rfl (lv_at hl 4 rfl) ?_
            refine r_get (K := 0) (v := .ref (G.2.2.2.1 22)) S X2755 (Nat.le_of_ble_eq_true rfl) rfl lk11_42_9 (fun _ => ⟨_, rfl, rfl⟩) dX11_liveLog_75 ?_
            refine r_iload S dX11_liveLog_78 (lv_at hl 3 rfl) ?_
            refine r_iload S dX11_liveLog_80 (lv_at hl 2 rfl) ?_
            refine r_iload S dX11_liveLog_82 (lv_at hl 1 rfl) ?_
            refine r_iload S dX11_liveLog_84 (lv_at hl 0 rfl) ?_
            refine r_ki (q_V (As := [.int v2858, .int v2861, .int v2864, .int v2867]) (rest := []) (K := 22) (ci := 8) S X2755 (c_X10_whyNot_L0 l G t2750 I2751 v2858 v2861 v2864 v2867 r2872 r2873 r2866 r2869 hWI2753) ck11_316 (Nat.le_of_ble_eq_true rfl) rfl (fun _ => ⟨_, rfl⟩) ⟨_, _, rfl⟩ ⟨Nat.le_of_ble_eq_true rfl, Nat.le_of_ble_eq_true rfl⟩ rfl hl.1 rfl (Nat.le_of_ble_eq_true rfl) dX11_liveLog_86 ⟨Nat.le_refl 0, Nat.le_refl 0⟩) X2755 (fun v2877 t2876 H lc q2874 X2875 => ?_)
            unfold po_X10_whyNot_L0 at q2874
            obtain ⟨q2878, q2879⟩ := q2874
            rw [q2878] at X2875
            refine r_istore (lv' := [(8, .int v2877), (7, .int v2867), (6, .int v2864), (5, .int v2861), (4, .int v2858), (0, .ref (G.2.2.2.1 0)), (1, .int v1), (2, .int i2746), (3, .int i2748)]) S dX11_liveLog_89 hl (by decide) rfl (fun ls hl => ?_)
            refine r_iload S dX11_liveLog_91 (lv_at hl 0 rfl) ?_
            refine r_if_ne (tgt := 117) S dX11_liveLog_93 (by decide) (fun c2880 => ?_) (fun c2880 => ?_)
            ·
              have r2881 : R (1) (4) v2877 := ⟨by omega, by omega⟩
              refine r_bipush S dX11_liveLog_117 (by decide) (fun v2882 z2883 => ?_)
              have r2884 := R_eq z2883
              refine r_iload S dX11_liveLog_119 (lv_at hl 4 rfl) ?_
              refine r_imul S dX11_liveLog_121 (fun v2885 z2886 => ?_)
              obtain ⟨e2887, r2888⟩ := i_mul (lo := 0) (hi := 0) z2886 r2884 r2872 rfl rfl
              have e2889 : v2885.toInt = 10 * v2858.toInt := by rw [e2887, show v2882.toInt = 10 by omega]
              refine r_iload S dX11_liveLog_122 (lv_at hl 0 rfl) ?_
              refine r_iadd S dX11_liveLog_124 (fun v2890 z2891 => ?_)
              obtain ⟨e2892, r2893⟩ := i_add (lo := 1) (hi := 4) z2891 r2888 r2881 rfl
              refine r_istore_n (lv' := [(2, .int v2890), (8, .int v2877), (7, .int v2867), (6, .int v2864), (5, .int v2861), (4, .int v2858), (0, .ref (G.2.2.2.1 0)), (1, .int v1), (3, .int i2748)]) S dX11_liveLog_125 rfl hl (by decide) rfl (fun ls hl => ?_)
              refine r_goto (tgt := 15) S dX11_liveLog_126 (by decide) ?_
              exact ih2757 t2750 _ _ _ v2890 i2748 X2875 I2751 F2752 hLR2754 hWI2753 (R_of r2893 rfl) (R_of r2810 rfl) (lv_sub hl [6, 7, 0, 8] rfl) (by omega)
            ·
              have r2894 : R (0) (0) v2877 := ⟨by omega, by omega⟩
              refine r_aload_n S dX11_liveLog_96 rfl (lv_at hl 5 rfl) ?_
              refine r_get (K := 0) (v := .ref (G.2.2.2.1 22)) S X2875 (Nat.le_of_ble_eq_true rfl) rfl lk11_42_9 (fun _ => ⟨_, rfl, rfl⟩) dX11_liveLog_97 ?_
              refine r_iload S dX11_liveLog_100 (lv_at hl 4 rfl) ?_
              refine r_iload S dX11_liveLog_102 (lv_at hl 3 rfl) ?_
              refine r_iload S dX11_liveLog_104 (lv_at hl 2 rfl) ?_
              refine r_iload S dX11_liveLog_106 (lv_at hl 1 rfl) ?_
              refine r_kv (q_V (As := [.int v2858, .int v2861, .int v2864, .int v2867]) (rest := []) (K := 22) (ci := 8) S X2875 (c_X10_perform_L0 l G t2750 I2751 v2858 v2861 v2864 v2867 r2872 r2873 r2866 r2869) ck11_319 (Nat.le_of_ble_eq_true rfl) rfl (fun _ => ⟨_, rfl⟩) ⟨_, _, rfl⟩ ⟨Nat.le_of_ble_eq_true rfl, Nat.le_of_ble_eq_true rfl⟩ rfl hl.1 rfl (Nat.le_of_ble_eq_true rfl) dX11_liveLog_108 ⟨Nat.le_refl 0, Nat.le_refl 0⟩) X2875 (fun t2897 H lc q2895 X2896 => ?_)
              unfold po_X10_perform_L0 at q2895
              obtain ⟨q2898, q2899⟩ := q2895
              have F2900 : Fr [(30, 4), (30, 5), (30, 6), (30, 10), (30, 8), (30, 9), (30, 7)] [33, 34, 32, 31, 130] τ t2897 := Fr_call F2752 q2899 (by decide)
              refine r_iinc (k := 8) S dX11_liveLog_111 hl rfl (by decide) (by decide) (fun v2901 d2902 ls z2903 z2904 hl => ?_)
              obtain ⟨e2905, r2906⟩ := i_add (lo := 1) (hi := 40) z2903 r2810 (R_eq z2904) rfl
              have hl : lv_has ls 9 [(3, .int v2901), (8, .int v2877), (7, .int v2867), (6, .int v2864), (5, .int v2861), (4, .int v2858), (0, .ref (G.2.2.2.1 0)), (1, .int v1), (2, .int i2746)] := hl
              refine r_goto (tgt := 126) S dX11_liveLog_114 (by decide) ?_
              refine r_goto (tgt := 15) S dX11_liveLog_126 (by decide) ?_
              exact ih2757 t2897 _ _ _ i2746 v2901 X2896 q2898 F2900 (LR_eq hLR2754 (fun j => ((q2899 12 j (by simp [fz])).trans rfl)) (fun j => ((q2899 13 j (by simp [fz])).trans rfl)) (fun j => ((q2899 14 j (by simp [fz])).trans rfl))) (WI_eq hWI2753 ((q2899 23 2 (by decide)).trans rfl) ((q2899 30 8 (by decide)).trans rfl)) (R_of r2857 rfl) (R_of r2906 rfl) (lv_sub hl [6, 7, 8, 0] rfl) (by omega)
          ·
            have r2907 : R (1) (1) v2858 := ⟨by omega, by omega⟩
            have r2908 : R (0) (8) v2864 := ⟨by omega, by omega⟩
            refine r_aload_n S dX11_liveLog_74 rfl (lv_at hl 4 rfl) ?_
            refine r_get (K := 0) (v := .ref (G.2.2.2.1 22)) S X2755 (Nat.le_of_ble_eq_true rfl) rfl lk11_42_9 (fun _ => ⟨_, rfl, rfl⟩) dX11_liveLog_75 ?_
            refine r_iload S dX11_liveLog_78 (lv_at hl 3 rfl) ?_
            refine r_iload S dX11_liveLog_80 (lv_at hl 2 rfl) ?_
            refine r_iload S dX11_liveLog_82 (lv_at hl 1 rfl) ?_
            refine r_iload S dX11_liveLog_84 (lv_at hl 0 rfl) ?_
            refine r_ki (q_V (As := [.int v2858, .int v2861, .int v2864, .int v2867]) (rest := []) (K := 22) (ci := 8) S X2755 (c_X10_whyNot_L1 l G t2750 I2751 v2858 v2861 v2864 v2867 r2907 r2863 r2908 r2869 hWI2753) ck11_316 (Nat.le_of_ble_eq_true rfl) rfl (fun _ => ⟨_, rfl⟩) ⟨_, _, rfl⟩ ⟨Nat.le_of_ble_eq_true rfl, Nat.le_of_ble_eq_true rfl⟩ rfl hl.1 rfl (Nat.le_of_ble_eq_true rfl) dX11_liveLog_86 ⟨Nat.le_refl 0, Nat.le_refl 0⟩) X2755 (fun v2912 t2911 H lc q2909 X2910 => ?_)
            unfold po_X10_whyNot_L1 at q2909
            obtain ⟨q2913, q2914⟩ := q2909
            rw [q2913] at X2910
            refine r_istore (lv' := [(8, .int v2912), (7, .int v2867), (6, .int v2864), (5, .int v2861), (4, .int v2858), (0, .ref (G.2.2.2.1 0)), (1, .int v1), (2, .int i2746), (3, .int i2748)]) S dX11_liveLog_89 hl (by decide) rfl (fun ls hl => ?_)
            refine r_iload S dX11_liveLog_91 (lv_at hl 0 rfl) ?_
            refine r_if_ne (tgt := 117) S dX11_liveLog_93 (by decide) (fun c2915 => ?_) (fun c2915 => ?_)
            ·
              have r2916 : R (1) (4) v2912 := ⟨by omega, by omega⟩
              refine r_bipush S dX11_liveLog_117 (by decide) (fun v2917 z2918 => ?_)
              have r2919 := R_eq z2918
              refine r_iload S dX11_liveLog_119 (lv_at hl 4 rfl) ?_
              refine r_imul S dX11_liveLog_121 (fun v2920 z2921 => ?_)
              obtain ⟨e2922, r2923⟩ := i_mul (lo := 10) (hi := 10) z2921 r2919 r2907 rfl rfl
              have e2924 : v2920.toInt = 10 * v2858.toInt := by rw [e2922, show v2917.toInt = 10 by omega]
              refine r_iload S dX11_liveLog_122 (lv_at hl 0 rfl) ?_
              refine r_iadd S dX11_liveLog_124 (fun v2925 z2926 => ?_)
              obtain ⟨e2927, r2928⟩ := i_add (lo := 11) (hi := 14) z2926 r2923 r2916 rfl
              refine r_istore_n (lv' := [(2, .int v2925), (8, .int v2912), (7, .int v2867), (6, .int v2864), (5, .int v2861), (4, .int v2858), (0, .ref (G.2.2.2.1 0)), (1, .int v1), (3, .int i2748)]) S dX11_liveLog_125 rfl hl (by decide) rfl (fun ls hl => ?_)
              refine r_goto (tgt := 15) S dX11_liveLog_126 (by decide) ?_
              exact ih2757 t2750 _ _ _ v2925 i2748 X2910 I2751 F2752 hLR2754 hWI2753 (R_of r2928 rfl) (R_of r2810 rfl) (lv_sub hl [6, 7, 0, 8] rfl) (by omega)
            ·
              have r2929 : R (0) (0) v2912 := ⟨by omega, by omega⟩
              refine r_aload_n S dX11_liveLog_96 rfl (lv_at hl 5 rfl) ?_
              refine r_get (K := 0) (v := .ref (G.2.2.2.1 22)) S X2910 (Nat.le_of_ble_eq_true rfl) rfl lk11_42_9 (fun _ => ⟨_, rfl, rfl⟩) dX11_liveLog_97 ?_
              refine r_iload S dX11_liveLog_100 (lv_at hl 4 rfl) ?_
              refine r_iload S dX11_liveLog_102 (lv_at hl 3 rfl) ?_
              refine r_iload S dX11_liveLog_104 (lv_at hl 2 rfl) ?_
              refine r_iload S dX11_liveLog_106 (lv_at hl 1 rfl) ?_
              refine r_kv (q_V (As := [.int v2858, .int v2861, .int v2864, .int v2867]) (rest := []) (K := 22) (ci := 8) S X2910 (c_X10_perform_L1 l G t2750 I2751 v2858 v2861 v2864 v2867 r2907 r2863 r2908 r2869) ck11_319 (Nat.le_of_ble_eq_true rfl) rfl (fun _ => ⟨_, rfl⟩) ⟨_, _, rfl⟩ ⟨Nat.le_of_ble_eq_true rfl, Nat.le_of_ble_eq_true rfl⟩ rfl hl.1 rfl (Nat.le_of_ble_eq_true rfl) dX11_liveLog_108 ⟨Nat.le_refl 0, Nat.le_refl 0⟩) X2910 (fun t2932 H lc q2930 X2931 => ?_)
              unfold po_X10_perform_L1 at q2930
              obtain ⟨q2933, q2934, q2935⟩ := q2930
              have F2936 : Fr [(30, 4), (30, 5), (30, 6), (30, 10), (30, 8), (30, 9), (30, 7)] [33, 34, 32, 31, 130] τ t2932 := Fr_call F2752 q2934 (by decide)
              refine r_iinc (k := 8) S dX11_liveLog_111 hl rfl (by decide) (by decide) (fun v2937 d2938 ls z2939 z2940 hl => ?_)
              obtain ⟨e2941, r2942⟩ := i_add (lo := 1) (hi := 40) z2939 r2810 (R_eq z2940) rfl
              have hl : lv_has ls 9 [(3, .int v2937), (8, .int v2912), (7, .int v2867), (6, .int v2864), (5, .int v2861), (4, .int v2858), (0, .ref (G.2.2.2.1 0)), (1, .int v1), (2, .int i2746)] := hl
              refine r_goto (tgt := 126) S dX11_liveLog_114 (by decide) ?_
              refine r_goto (tgt := 15) S dX11_liveLog_126 (by decide) ?_
              exact ih2757 t2932 _ _ _ i2746 v2937 X2931 q2933 F2936 (LR_eq hLR2754 (fun j => ((q2934 12 j (by simp [fz])).trans rfl)) (fun j => ((q2934 13 j (by simp [fz])).trans rfl)) (fun j => ((q2934 14 j (by simp [fz])).trans rfl))) q2935 (R_of r2857 rfl) (R_of r2942 rfl) (lv_sub hl [6, 7, 8, 0] rfl) (by omega)
          ·
            have r2943 : R (2) (2) v2858 := ⟨by omega, by omega⟩
            have r2944 : R (0) (9) v2861 := ⟨by omega, by omega⟩
            refine r_aload_n S dX11_liveLog_74 rfl (lv_at hl 4 rfl) ?_
            refine r_get (K := 0) (v := .ref (G.2.2.2.1 22)) S X2755 (Nat.le_of_ble_eq_true rfl) rfl lk11_42_9 (fun _ => ⟨_, rfl, rfl⟩) dX11_liveLog_75 ?_
            refine r_iload S dX11_liveLog_78 (lv_at hl 3 rfl) ?_
            refine r_iload S dX11_liveLog_80 (lv_at hl 2 rfl) ?_
            refine r_iload S dX11_liveLog_82 (lv_at hl 1 rfl) ?_
            refine r_iload S dX11_liveLog_84 (lv_at hl 0 rfl) ?_
            refine r_ki (q_V (As := [.int v2858, .int v2861, .int v2864, .int v2867]) (rest := []) (K := 22) (ci := 8) S X2755 (c_X10_whyNot_L2 l G t2750 I2751 v2858 v2861 v2864 v2867 r2943 r2944 r2866 r2869 hWI2753) ck11_316 (Nat.le_of_ble_eq_true rfl) rfl (fun _ => ⟨_, rfl⟩) ⟨_, _, rfl⟩ ⟨Nat.le_of_ble_eq_true rfl, Nat.le_of_ble_eq_true rfl⟩ rfl hl.1 rfl (Nat.le_of_ble_eq_true rfl) dX11_liveLog_86 ⟨Nat.le_refl 0, Nat.le_refl 0⟩) X2755 (fun v2948 t2947 H lc q2945 X2946 => ?_)
            unfold po_X10_whyNot_L2 at q2945
            obtain ⟨q2949, q2950⟩ := q2945
            rw [q2949] at X2946
            refine r_istore (lv' := [(8, .int v2948), (7, .int v2867), (6, .int v2864), (5, .int v2861), (4, .int v2858), (0, .ref (G.2.2.2.1 0)), (1, .int v1), (2, .int i2746), (3, .int i2748)]) S dX11_liveLog_89 hl (by decide) rfl (fun ls hl => ?_)
            refine r_iload S dX11_liveLog_91 (lv_at hl 0 rfl) ?_
            refine r_if_ne (tgt := 117) S dX11_liveLog_93 (by decide) (fun c2951 => ?_) (fun c2951 => ?_)
            ·
              have r2952 : R (1) (4) v2948 := ⟨by omega, by omega⟩
              refine r_bipush S dX11_liveLog_117 (by decide) (fun v2953 z2954 => ?_)
              have r2955 := R_eq z2954
              refine r_iload S dX11_liveLog_119 (lv_at hl 4 rfl) ?_
              refine r_imul S dX11_liveLog_121 (fun v2956 z2957 => ?_)
              obtain ⟨e2958, r2959⟩ := i_mul (lo := 20) (hi := 20) z2957 r2955 r2943 rfl rfl
              have e2960 : v2956.toInt = 10 * v2858.toInt := by rw [e2958, show v2953.toInt = 10 by omega]
              refine r_iload S dX11_liveLog_122 (lv_at hl 0 rfl) ?_
              refine r_iadd S dX11_liveLog_124 (fun v2961 z2962 => ?_)
              obtain ⟨e2963, r2964⟩ := i_add (lo := 21) (hi := 24) z2962 r2959 r2952 rfl
              refine r_istore_n (lv' := [(2, .int v2961), (8, .int v2948), (7, .int v2867), (6, .int v2864), (5, .int v2861), (4, .int v2858), (0, .ref (G.2.2.2.1 0)), (1, .int v1), (3, .int i2748)]) S dX11_liveLog_125 rfl hl (by decide) rfl (fun ls hl => ?_)
              refine r_goto (tgt := 15) S dX11_liveLog_126 (by decide) ?_
              exact ih2757 t2750 _ _ _ v2961 i2748 X2946 I2751 F2752 hLR2754 hWI2753 (R_of r2964 rfl) (R_of r2810 rfl) (lv_sub hl [6, 7, 0, 8] rfl) (by omega)
            ·
              have r2965 : R (0) (0) v2948 := ⟨by omega, by omega⟩
              refine r_aload_n S dX11_liveLog_96 rfl (lv_at hl 5 rfl) ?_
              refine r_get (K := 0) (v := .ref (G.2.2.2.1 22)) S X2946 (Nat.le_of_ble_eq_true rfl) rfl lk11_42_9 (fun _ => ⟨_, rfl, rfl⟩) dX11_liveLog_97 ?_
              refine r_iload S dX11_liveLog_100 (lv_at hl 4 rfl) ?_
              refine r_iload S dX11_liveLog_102 (lv_at hl 3 rfl) ?_
              refine r_iload S dX11_liveLog_104 (lv_at hl 2 rfl) ?_
              refine r_iload S dX11_liveLog_106 (lv_at hl 1 rfl) ?_
              refine r_kv (q_V (As := [.int v2858, .int v2861, .int v2864, .int v2867]) (rest := []) (K := 22) (ci := 8) S X2946 (c_X10_perform_L2 l G t2750 I2751 v2858 v2861 v2864 v2867 r2943 r2944 r2866 r2869) ck11_319 (Nat.le_of_ble_eq_true rfl) rfl (fun _ => ⟨_, rfl⟩) ⟨_, _, rfl⟩ ⟨Nat.le_of_ble_eq_true rfl, Nat.le_of_ble_eq_true rfl⟩ rfl hl.1 rfl (Nat.le_of_ble_eq_true rfl) dX11_liveLog_108 ⟨Nat.le_refl 0, Nat.le_refl 0⟩) X2946 (fun t2968 H lc q2966 X2967 => ?_)
              unfold po_X10_perform_L2 at q2966
              obtain ⟨q2969, q2970⟩ := q2966
              have F2971 : Fr [(30, 4), (30, 5), (30, 6), (30, 10), (30, 8), (30, 9), (30, 7)] [33, 34, 32, 31, 130] τ t2968 := Fr_call F2752 q2970 (by decide)
              refine r_iinc (k := 8) S dX11_liveLog_111 hl rfl (by decide) (by decide) (fun v2972 d2973 ls z2974 z2975 hl => ?_)
              obtain ⟨e2976, r2977⟩ := i_add (lo := 1) (hi := 40) z2974 r2810 (R_eq z2975) rfl
              have hl : lv_has ls 9 [(3, .int v2972), (8, .int v2948), (7, .int v2867), (6, .int v2864), (5, .int v2861), (4, .int v2858), (0, .ref (G.2.2.2.1 0)), (1, .int v1), (2, .int i2746)] := hl
              refine r_goto (tgt := 126) S dX11_liveLog_114 (by decide) ?_
              refine r_goto (tgt := 15) S dX11_liveLog_126 (by decide) ?_
              exact ih2757 t2968 _ _ _ i2746 v2972 X2967 q2969 F2971 (LR_eq hLR2754 (fun j => ((q2970 12 j (by simp [fz])).trans rfl)) (fun j => ((q2970 13 j (by simp [fz])).trans rfl)) (fun j => ((q2970 14 j (by simp [fz])).trans rfl))) (WI_eq hWI2753 ((q2970 23 2 (by decide)).trans rfl) ((q2970 30 8 (by decide)).trans rfl)) (R_of r2857 rfl) (R_of r2977 rfl) (lv_sub hl [6, 7, 8, 0] rfl) (by omega)
          ·
            have r2978 : R (3) (3) v2858 := ⟨by omega, by omega⟩
            have r2979 : R (0) (9) v2861 := ⟨by omega, by omega⟩
            have r2980 : R (0) (8) v2864 := ⟨by omega, by omega⟩
            refine r_aload_n S dX11_liveLog_74 rfl (lv_at hl 4 rfl) ?_
            refine r_get (K := 0) (v := .ref (G.2.2.2.1 22)) S X2755 (Nat.le_of_ble_eq_true rfl) rfl lk11_42_9 (fun _ => ⟨_, rfl, rfl⟩) dX11_liveLog_75 ?_
            refine r_iload S dX11_liveLog_78 (lv_at hl 3 rfl) ?_
            refine r_iload S dX11_liveLog_80 (lv_at hl 2 rfl) ?_
            refine r_iload S dX11_liveLog_82 (lv_at hl 1 rfl) ?_
            refine r_iload S dX11_liveLog_84 (lv_at hl 0 rfl) ?_
            refine r_ki (q_V (As := [.int v2858, .int v2861, .int v2864, .int v2867]) (rest := []) (K := 22) (ci := 8) S X2755 (c_X10_whyNot_3 l G t2750 I2751 v2858 v2861 v2864 v2867 r2978 r2979 r2980 r2869 hWI2753) ck11_316 (Nat.le_of_ble_eq_true rfl) rfl (fun _ => ⟨_, rfl⟩) ⟨_, _, rfl⟩ ⟨Nat.le_of_ble_eq_true rfl, Nat.le_of_ble_eq_true rfl⟩ rfl hl.1 rfl (Nat.le_of_ble_eq_true rfl) dX11_liveLog_86 ⟨Nat.le_refl 0, Nat.le_refl 0⟩) X2755 (fun v2984 t2983 H lc q2981 X2982 => ?_)
            unfold po_X10_whyNot_3 at q2981
            obtain ⟨q2985, q2986⟩ := q2981
            rw [q2985] at X2982
            refine r_istore (lv' := [(8, .int v2984), (7, .int v2867), (6, .int v2864), (5, .int v2861), (4, .int v2858), (0, .ref (G.2.2.2.1 0)), (1, .int v1), (2, .int i2746), (3, .int i2748)]) S dX11_liveLog_89 hl (by decide) rfl (fun ls hl => ?_)
            refine r_iload S dX11_liveLog_91 (lv_at hl 0 rfl) ?_
            refine r_if_ne (tgt := 117) S dX11_liveLog_93 (by decide) (fun c2987 => ?_) (fun c2987 => ?_)
            ·
              have r2988 : R (1) (4) v2984 := ⟨by omega, by omega⟩
              refine r_bipush S dX11_liveLog_117 (by decide) (fun v2989 z2990 => ?_)
              have r2991 := R_eq z2990
              refine r_iload S dX11_liveLog_119 (lv_at hl 4 rfl) ?_
              refine r_imul S dX11_liveLog_121 (fun v2992 z2993 => ?_)
              obtain ⟨e2994, r2995⟩ := i_mul (lo := 30) (hi := 30) z2993 r2991 r2978 rfl rfl
              have e2996 : v2992.toInt = 10 * v2858.toInt := by rw [e2994, show v2989.toInt = 10 by omega]
              refine r_iload S dX11_liveLog_122 (lv_at hl 0 rfl) ?_
              refine r_iadd S dX11_liveLog_124 (fun v2997 z2998 => ?_)
              obtain ⟨e2999, r3000⟩ := i_add (lo := 31) (hi := 34) z2998 r2995 r2988 rfl
              refine r_istore_n (lv' := [(2, .int v2997), (8, .int v2984), (7, .int v2867), (6, .int v2864), (5, .int v2861), (4, .int v2858), (0, .ref (G.2.2.2.1 0)), (1, .int v1), (3, .int i2748)]) S dX11_liveLog_125 rfl hl (by decide) rfl (fun ls hl => ?_)
              refine r_goto (tgt := 15) S dX11_liveLog_126 (by decide) ?_
              exact ih2757 t2750 _ _ _ v2997 i2748 X2982 I2751 F2752 hLR2754 hWI2753 (R_of r3000 rfl) (R_of r2810 rfl) (lv_sub hl [6, 7, 0, 8] rfl) (by omega)
            ·
              have r3001 : R (0) (0) v2984 := ⟨by omega, by omega⟩
              refine r_aload_n S dX11_liveLog_96 rfl (lv_at hl 5 rfl) ?_
              refine r_get (K := 0) (v := .ref (G.2.2.2.1 22)) S X2982 (Nat.le_of_ble_eq_true rfl) rfl lk11_42_9 (fun _ => ⟨_, rfl, rfl⟩) dX11_liveLog_97 ?_
              refine r_iload S dX11_liveLog_100 (lv_at hl 4 rfl) ?_
              refine r_iload S dX11_liveLog_102 (lv_at hl 3 rfl) ?_
              refine r_iload S dX11_liveLog_104 (lv_at hl 2 rfl) ?_
              refine r_iload S dX11_liveLog_106 (lv_at hl 1 rfl) ?_
              refine r_kv (q_V (As := [.int v2858, .int v2861, .int v2864, .int v2867]) (rest := []) (K := 22) (ci := 8) S X2982 (c_X10_perform_3 l G t2750 I2751 v2858 v2861 v2864 v2867 r2978 r2979 r2980 r2869) ck11_319 (Nat.le_of_ble_eq_true rfl) rfl (fun _ => ⟨_, rfl⟩) ⟨_, _, rfl⟩ ⟨Nat.le_of_ble_eq_true rfl, Nat.le_of_ble_eq_true rfl⟩ rfl hl.1 rfl (Nat.le_of_ble_eq_true rfl) dX11_liveLog_108 ⟨Nat.le_refl 0, Nat.le_refl 0⟩) X2982 (fun t3004 H lc q3002 X3003 => ?_)
              unfold po_X10_perform_3 at q3002
              obtain ⟨q3005, q3006⟩ := q3002
              have F3007 : Fr [(30, 4), (30, 5), (30, 6), (30, 10), (30, 8), (30, 9), (30, 7)] [33, 34, 32, 31, 130] τ t3004 := Fr_call F2752 q3006 (by decide)
              refine r_iinc (k := 8) S dX11_liveLog_111 hl rfl (by decide) (by decide) (fun v3008 d3009 ls z3010 z3011 hl => ?_)
              obtain ⟨e3012, r3013⟩ := i_add (lo := 1) (hi := 40) z3010 r2810 (R_eq z3011) rfl
              have hl : lv_has ls 9 [(3, .int v3008), (8, .int v2984), (7, .int v2867), (6, .int v2864), (5, .int v2861), (4, .int v2858), (0, .ref (G.2.2.2.1 0)), (1, .int v1), (2, .int i2746)] := hl
              refine r_goto (tgt := 126) S dX11_liveLog_114 (by decide) ?_
              refine r_goto (tgt := 15) S dX11_liveLog_126 (by decide) ?_
              exact ih2757 t3004 _ _ _ i2746 v3008 X3003 q3005 F3007 (LR_eq hLR2754 (fun j => ((q3006 12 j (by simp [fz])).trans rfl)) (fun j => ((q3006 13 j (by simp [fz])).trans rfl)) (fun j => ((q3006 14 j (by simp [fz])).trans rfl))) (WI_eq hWI2753 ((q3006 23 2 (by decide)).trans rfl) ((q3006 30 8 (by decide)).trans rfl)) (R_of r2857 rfl) (R_of r3013 rfl) (lv_sub hl [6, 7, 8, 0] rfl) (by omega)
          ·
            have r3014 : R (4) (4) v2858 := ⟨by omega, by omega⟩
            have r3015 : R (0) (9) v2861 := ⟨by omega, by omega⟩
            have r3016 : R (0) (8) v2864 := ⟨by omega, by omega⟩
            refine r_aload_n S dX11_liveLog_74 rfl (lv_at hl 4 rfl) ?_
            refine r_get (K := 0) (v := .ref (G.2.2.2.1 22)) S X2755 (Nat.le_of_ble_eq_true rfl) rfl lk11_42_9 (fun _ => ⟨_, rfl, rfl⟩) dX11_liveLog_75 ?_
            refine r_iload S dX11_liveLog_78 (lv_at hl 3 rfl) ?_
            refine r_iload S dX11_liveLog_80 (lv_at hl 2 rfl) ?_
            refine r_iload S dX11_liveLog_82 (lv_at hl 1 rfl) ?_
            refine r_iload S dX11_liveLog_84 (lv_at hl 0 rfl) ?_
            refine r_ki (q_V (As := [.int v2858, .int v2861, .int v2864, .int v2867]) (rest := []) (K := 22) (ci := 8) S X2755 (c_X10_whyNot_4 l G t2750 I2751 v2858 v2861 v2864 v2867 r3014 r3015 r3016 r2869 hWI2753) ck11_316 (Nat.le_of_ble_eq_true rfl) rfl (fun _ => ⟨_, rfl⟩) ⟨_, _, rfl⟩ ⟨Nat.le_of_ble_eq_true rfl, Nat.le_of_ble_eq_true rfl⟩ rfl hl.1 rfl (Nat.le_of_ble_eq_true rfl) dX11_liveLog_86 ⟨Nat.le_refl 0, Nat.le_refl 0⟩) X2755 (fun v3020 t3019 H lc q3017 X3018 => ?_)
            unfold po_X10_whyNot_4 at q3017
            obtain ⟨q3021, q3022⟩ := q3017
            rw [q3021] at X3018
            refine r_istore (lv' := [(8, .int v3020), (7, .int v2867), (6, .int v2864), (5, .int v2861), (4, .int v2858), (0, .ref (G.2.2.2.1 0)), (1, .int v1), (2, .int i2746), (3, .int i2748)]) S dX11_liveLog_89 hl (by decide) rfl (fun ls hl => ?_)
            refine r_iload S dX11_liveLog_91 (lv_at hl 0 rfl) ?_
            refine r_if_ne (tgt := 117) S dX11_liveLog_93 (by decide) (fun c3023 => ?_) (fun c3023 => ?_)
            ·
              have r3024 : R (1) (4) v3020 := ⟨by omega, by omega⟩
              refine r_bipush S dX11_liveLog_117 (by decide) (fun v3025 z3026 => ?_)
              have r3027 := R_eq z3026
              refine r_iload S dX11_liveLog_119 (lv_at hl 4 rfl) ?_
              refine r_imul S dX11_liveLog_121 (fun v3028 z3029 => ?_)
              obtain ⟨e3030, r3031⟩ := i_mul (lo := 40) (hi := 40) z3029 r3027 r3014 rfl rfl
              have e3032 : v3028.toInt = 10 * v2858.toInt := by rw [e3030, show v3025.toInt = 10 by omega]
              refine r_iload S dX11_liveLog_122 (lv_at hl 0 rfl) ?_
              refine r_iadd S dX11_liveLog_124 (fun v3033 z3034 => ?_)
              obtain ⟨e3035, r3036⟩ := i_add (lo := 41) (hi := 44) z3034 r3031 r3024 rfl
              refine r_istore_n (lv' := [(2, .int v3033), (8, .int v3020), (7, .int v2867), (6, .int v2864), (5, .int v2861), (4, .int v2858), (0, .ref (G.2.2.2.1 0)), (1, .int v1), (3, .int i2748)]) S dX11_liveLog_125 rfl hl (by decide) rfl (fun ls hl => ?_)
              refine r_goto (tgt := 15) S dX11_liveLog_126 (by decide) ?_
              exact ih2757 t2750 _ _ _ v3033 i2748 X3018 I2751 F2752 hLR2754 hWI2753 (R_of r3036 rfl) (R_of r2810 rfl) (lv_sub hl [6, 7, 0, 8] rfl) (by omega)
            ·
              have r3037 : R (0) (0) v3020 := ⟨by omega, by omega⟩
              refine r_aload_n S dX11_liveLog_96 rfl (lv_at hl 5 rfl) ?_
              refine r_get (K := 0) (v := .ref (G.2.2.2.1 22)) S X3018 (Nat.le_of_ble_eq_true rfl) rfl lk11_42_9 (fun _ => ⟨_, rfl, rfl⟩) dX11_liveLog_97 ?_
              refine r_iload S dX11_liveLog_100 (lv_at hl 4 rfl) ?_
              refine r_iload S dX11_liveLog_102 (lv_at hl 3 rfl) ?_
              refine r_iload S dX11_liveLog_104 (lv_at hl 2 rfl) ?_
              refine r_iload S dX11_liveLog_106 (lv_at hl 1 rfl) ?_
              refine r_kv (q_V (As := [.int v2858, .int v2861, .int v2864, .int v2867]) (rest := []) (K := 22) (ci := 8) S X3018 (c_X10_perform_4 l G t2750 I2751 v2858 v2861 v2864 v2867 r3014 r3015 r3016 r2869) ck11_319 (Nat.le_of_ble_eq_true rfl) rfl (fun _ => ⟨_, rfl⟩) ⟨_, _, rfl⟩ ⟨Nat.le_of_ble_eq_true rfl, Nat.le_of_ble_eq_true rfl⟩ rfl hl.1 rfl (Nat.le_of_ble_eq_true rfl) dX11_liveLog_108 ⟨Nat.le_refl 0, Nat.le_refl 0⟩) X3018 (fun t3040 H lc q3038 X3039 => ?_)
              unfold po_X10_perform_4 at q3038
              obtain ⟨q3041, q3042⟩ := q3038
              have F3043 : Fr [(30, 4), (30, 5), (30, 6), (30, 10), (30, 8), (30, 9), (30, 7)] [33, 34, 32, 31, 130] τ t3040 := Fr_call F2752 q3042 (by decide)
              refine r_iinc (k := 8) S dX11_liveLog_111 hl rfl (by decide) (by decide) (fun v3044 d3045 ls z3046 z3047 hl => ?_)
              obtain ⟨e3048, r3049⟩ := i_add (lo := 1) (hi := 40) z3046 r2810 (R_eq z3047) rfl
              have hl : lv_has ls 9 [(3, .int v3044), (8, .int v3020), (7, .int v2867), (6, .int v2864), (5, .int v2861), (4, .int v2858), (0, .ref (G.2.2.2.1 0)), (1, .int v1), (2, .int i2746)] := hl
              refine r_goto (tgt := 126) S dX11_liveLog_114 (by decide) ?_
              refine r_goto (tgt := 15) S dX11_liveLog_126 (by decide) ?_
              exact ih2757 t3040 _ _ _ i2746 v3044 X3039 q3041 F3043 (LR_eq hLR2754 (fun j => ((q3042 12 j (by simp [fz])).trans rfl)) (fun j => ((q3042 13 j (by simp [fz])).trans rfl)) (fun j => ((q3042 14 j (by simp [fz])).trans rfl))) (WI_eq hWI2753 ((q3042 23 2 (by decide)).trans rfl) ((q3042 30 8 (by decide)).trans rfl)) (R_of r2857 rfl) (R_of r3049 rfl) (lv_sub hl [6, 7, 8, 0] rfl) (by omega)
  exact L2756 _ τ _ _ _ v5 v8 X hI Fr_rfl hLR hWI (R_of r7 rfl) (R_of r10 rfl) (lv_sub hl [3, 2, 1, 0] rfl) (Nat.lt_succ_self _)
def po_X11_log (τ : Tau)  (a0 : Int32)   (r : Int32) (u : Tau) : Prop := Inv u ∧ Fr [(11, 1), (11, 2), (1, 3), (1, 4), (1, 5), (1, 7), (1, 8), (11, 3), (1, 2), (1, 1), (0, 12), (0, 8), (0, 9), (30, 4), (30, 5), (30, 6), (30, 10), (30, 8), (30, 9), (30, 7), (40, 4), (40, 5), (40, 6), (40, 7), (40, 8), (40, 9), (40, 10)] [12, 13, 14, 15, 52, 53, 54, 55, 56, 57, 58, 59, 60, 61, 62, 63, 64, 65, 66, 67, 68, 69, 70, 71, 72, 73, 74, 75, 76, 77, 78, 79, 80, 81, 82, 83, 84, 85, 86, 87, 88, 89, 90, 91, 31, 32, 33, 34, 130, 41, 42, 43, 44, 201] τ u ∧ WI u ∧ HI u ∧ LR u ∧ (0 ≤ a0.toInt ∧ a0.toInt ≤ 1 → (u 1 1).toInt = 0) ∧ (a0.toInt < 0 ∨ 1 < a0.toInt → (u 1 1).toInt = (τ 1 1).toInt)
set_option maxHeartbeats 4000000 in
set_option maxRecDepth 100000 in
theorem c_X11_log (l : Launch) (G : Gx) (τ : Tau) (hI : Inv τ) (a0 : Int32) (h_a0 : R (-2147483648) (2147483647) a0) (hWI : WI τ) (hHI : HI τ) (hLR : LR τ) : Ci l G yX11_log cX11_log 4 (some .int) 7 170 [.ref (G.2.2.2.1 0), .int a0] τ (po_X11_log τ  a0  ) := by
  unfold Ci
  refine C_of (own := RX11) (by decide) rfl (Nat.le_of_ble_eq_true rfl) ?_
  intro p e s m below meth c ls S hr hlk X hl
  have hl : lv_has ls 4 [(0, .ref (G.2.2.2.1 0)), (1, .int a0)] := hl
  obtain ⟨v1, z2⟩ : ∃ x, τ 23 2 = x := ⟨_, rfl⟩
  have r3 : R (0) (9) v1 := rd hI rfl z2
  obtain ⟨v4, z5⟩ : ∃ x, τ 30 8 = x := ⟨_, rfl⟩
  have r6 : R (-1) (8) v4 := rd hI rfl z5
  have hab : 0 < v1.toInt → 0 ≤ v4.toInt := by have h := hWI; unfold WI at h; rw [z2, z5] at h; exact h
  refine r_iload_n S dX11_log_0 rfl (lv_at hl 1 rfl) ?_
  refine r_if_eq (tgt := 13) S dX11_log_1 (by decide) (fun c7 => ?_) (fun c7 => ?_)
  ·
    have r8 : R (0) (0) a0 := ⟨by omega, by omega⟩
    refine r_aload_n S dX11_log_13 rfl (lv_at hl 0 rfl) ?_
    refine r_get (K := 0) (v := .ref (G.2.2.2.1 11)) S X (Nat.le_of_ble_eq_true rfl) rfl lk11_28_9 (fun _ => ⟨_, rfl, rfl⟩) dX11_log_14 ?_
    refine r_aload_n S dX11_log_17 rfl (lv_at hl 0 rfl) ?_
    refine r_get (K := 0) (v := .ref (G.2.2.2.1 22)) S X (Nat.le_of_ble_eq_true rfl) rfl lk11_42_9 (fun _ => ⟨_, rfl, rfl⟩) dX11_log_18 ?_
    refine r_get (K := 22) (v := .ref (G.2.2.2.1 23)) S X (Nat.le_of_ble_eq_true rfl) rfl lk11_139_8 (fun _ => ⟨_, rfl, rfl⟩) dX11_log_21 ?_
    refine r_ki (q_V (As := [.ref (G.2.2.2.1 23)]) (rest := []) (K := 11) (ci := 1) S X (c_X1_read l G τ hI hLR) ck11_272 (Nat.le_of_ble_eq_true rfl) rfl (fun _ => ⟨_, rfl⟩) ⟨_, _, rfl⟩ ⟨Nat.le_of_ble_eq_true rfl, Nat.le_of_ble_eq_true rfl⟩ rfl hl.1 rfl (Nat.le_of_ble_eq_true rfl) dX11_log_24 ⟨Nat.le_refl 0, Nat.le_refl 0⟩) X (fun v12 t11 H lc q9 X10 => ?_)
    unfold po_X1_read at q9
    obtain ⟨q13, q14, q15, q16⟩ := q9
    have F17 : Fr [(11, 1), (11, 2), (1, 3), (1, 4), (1, 5), (1, 7), (1, 8), (11, 3), (1, 2), (1, 1), (0, 12), (0, 8), (0, 9), (30, 4), (30, 5), (30, 6), (30, 10), (30, 8), (30, 9), (30, 7), (40, 4), (40, 5), (40, 6), (40, 7), (40, 8), (40, 9), (40, 10)] [12, 13, 14, 15, 52, 53, 54, 55, 56, 57, 58, 59, 60, 61, 62, 63, 64, 65, 66, 67, 68, 69, 70, 71, 72, 73, 74, 75, 76, 77, 78, 79, 80, 81, 82, 83, 84, 85, 86, 87, 88, 89, 90, 91, 31, 32, 33, 34, 130, 41, 42, 43, 44, 201] τ t11 := Fr_call Fr_rfl q14 (by decide)
    refine r_istore_n (lv' := [(2, .int v12), (0, .ref (G.2.2.2.1 0)), (1, .int a0)]) S dX11_log_27 rfl hl (by decide) rfl (fun ls hl => ?_)
    refine r_aload_n S dX11_log_28 rfl (lv_at hl 1 rfl) ?_
    refine r_aload_n S dX11_log_29 rfl (lv_at hl 1 rfl) ?_
    refine r_get (K := 0) (v := .ref (G.2.2.2.1 11)) S X10 (Nat.le_of_ble_eq_true rfl) rfl lk11_28_9 (fun _ => ⟨_, rfl, rfl⟩) dX11_log_30 ?_
    refine r_getn (K := 11) S X10 (Nat.le_of_ble_eq_true rfl) rfl lk11_275_1 (fun _ => ⟨_, rfl, rfl⟩) dX11_log_33 (fun v18 z19 => ?_)
    have r21 := R_any v18
    refine r_put (K := 0) (ty := .int) S X10 (Nat.le_of_ble_eq_true rfl) rfl lk11_102_9 (fun _ => ⟨_, rfl, Nat.le_of_ble_eq_true rfl, rfl⟩) (fun _ _ _ h => by cases h; exact ⟨rfl, rfl⟩) rfl rfl dX11_log_36 (fun t22 H lc M23 X24 => ?_)
    have I25 := Inv_mu q13 M23 (R_any v18)
    have F26 : Fr [(11, 1), (11, 2), (1, 3), (1, 4), (1, 5), (1, 7), (1, 8), (11, 3), (1, 2), (1, 1), (0, 12), (0, 8), (0, 9), (30, 4), (30, 5), (30, 6), (30, 10), (30, 8), (30, 9), (30, 7), (40, 4), (40, 5), (40, 6), (40, 7), (40, 8), (40, 9), (40, 10)] [12, 13, 14, 15, 52, 53, 54, 55, 56, 57, 58, 59, 60, 61, 62, 63, 64, 65, 66, 67, 68, 69, 70, 71, 72, 73, 74, 75, 76, 77, 78, 79, 80, 81, 82, 83, 84, 85, 86, 87, 88, 89, 90, 91, 31, 32, 33, 34, 130, 41, 42, 43, 44, 201] τ t22 := Fr_mu F17 M23 (by decide)
    refine r_aload_n S dX11_log_39 rfl (lv_at hl 1 rfl) ?_
    refine r_get (K := 0) (v := .ref (G.2.2.2.1 1)) S X24 (Nat.le_of_ble_eq_true rfl) rfl lk11_12_9 (fun _ => ⟨_, rfl, rfl⟩) dX11_log_40 ?_
    refine r_iconst S dX11_log_43 (by decide) (fun v27 z28 => ?_)
    have r29 := R_eq z28
    refine r_put (K := 1) (ty := .int) S X24 (Nat.le_of_ble_eq_true rfl) rfl lk11_88_7 (fun _ => ⟨_, rfl, Nat.le_of_ble_eq_true rfl, rfl⟩) (fun _ _ _ h => by cases h; exact ⟨rfl, rfl⟩) rfl rfl dX11_log_44 (fun t30 H lc M31 X32 => ?_)
    have I33 := Inv_mu I25 M31 (show Rg (kd 1) 1 v27 from (R_of (lo := 0) (hi := 940) r29 rfl))
    have F34 : Fr [(11, 1), (11, 2), (1, 3), (1, 4), (1, 5), (1, 7), (1, 8), (11, 3), (1, 2), (1, 1), (0, 12), (0, 8), (0, 9), (30, 4), (30, 5), (30, 6), (30, 10), (30, 8), (30, 9), (30, 7), (40, 4), (40, 5), (40, 6), (40, 7), (40, 8), (40, 9), (40, 10)] [12, 13, 14, 15, 52, 53, 54, 55, 56, 57, 58, 59, 60, 61, 62, 63, 64, 65, 66, 67, 68, 69, 70, 71, 72, 73, 74, 75, 76, 77, 78, 79, 80, 81, 82, 83, 84, 85, 86, 87, 88, 89, 90, 91, 31, 32, 33, 34, 130, 41, 42, 43, 44, 201] τ t30 := Fr_mu F26 M31 (by decide)
    refine r_iload_n S dX11_log_47 rfl (lv_at hl 0 rfl) ?_
    refine r_if_ne (tgt := 62) S dX11_log_48 (by decide) (fun c35 => ?_) (fun c35 => ?_)
    ·
      have r36 : R (1) (1) v12 := ⟨by omega, by omega⟩
      refine r_iload_n S dX11_log_62 rfl (lv_at hl 2 rfl) ?_
      refine r_iconst S dX11_log_63 (by decide) (fun v37 z38 => ?_)
      have r39 := R_eq z38
      refine r_icmp_ne (tgt := 74) S dX11_log_64 (by decide) (fun c40 => ?_) (fun c40 => ?_)
      ·
        refine r_aload_n S dX11_log_74 rfl (lv_at hl 1 rfl) ?_
        refine r_get (K := 0) (v := .ref (G.2.2.2.1 40)) S X32 (Nat.le_of_ble_eq_true rfl) rfl lk11_49_9 (fun _ => ⟨_, rfl, rfl⟩) dX11_log_75 ?_
        refine r_aload_n S dX11_log_78 rfl (lv_at hl 1 rfl) ?_
        refine r_get (K := 0) (v := .ref (G.2.2.2.1 22)) S X32 (Nat.le_of_ble_eq_true rfl) rfl lk11_42_9 (fun _ => ⟨_, rfl, rfl⟩) dX11_log_79 ?_
        refine r_get (K := 22) (v := .ref (G.2.2.2.1 30)) S X32 (Nat.le_of_ble_eq_true rfl) rfl lk11_129_8 (fun _ => ⟨_, rfl, rfl⟩) dX11_log_82 ?_
        refine r_kv (q_V (As := [.ref (G.2.2.2.1 30)]) (rest := []) (K := 23) (ci := 3) S X32 (c_scopy_40_30 l G t30 I33 ) ck11_206 (Nat.le_of_ble_eq_true rfl) rfl (fun _ => ⟨_, rfl⟩) ⟨_, _, rfl⟩ ⟨Nat.le_of_ble_eq_true rfl, Nat.le_of_ble_eq_true rfl⟩ rfl hl.1 rfl (Nat.le_of_ble_eq_true rfl) dX11_log_85 ⟨Nat.le_refl 0, Nat.le_refl 0⟩) X32 (fun t43 H lc q41 X42 => ?_)
        unfold po_scopy_40_30 at q41
        obtain ⟨q44, q45, q46⟩ := q41
        have F47 : Fr [(11, 1), (11, 2), (1, 3), (1, 4), (1, 5), (1, 7), (1, 8), (11, 3), (1, 2), (1, 1), (0, 12), (0, 8), (0, 9), (30, 4), (30, 5), (30, 6), (30, 10), (30, 8), (30, 9), (30, 7), (40, 4), (40, 5), (40, 6), (40, 7), (40, 8), (40, 9), (40, 10)] [12, 13, 14, 15, 52, 53, 54, 55, 56, 57, 58, 59, 60, 61, 62, 63, 64, 65, 66, 67, 68, 69, 70, 71, 72, 73, 74, 75, 76, 77, 78, 79, 80, 81, 82, 83, 84, 85, 86, 87, 88, 89, 90, 91, 31, 32, 33, 34, 130, 41, 42, 43, 44, 201] τ t43 := Fr_call F34 q45 (by decide)
        refine r_aload_n S dX11_log_88 rfl (lv_at hl 1 rfl) ?_
        refine r_ki (q_V (As := []) (rest := []) (K := 0) (ci := 9) S X42 (c_X11_liveLog l G t43 q44 (WI_eq hWI ((q45 23 2 (by decide)).trans ((M31.2 23 2 (Or.inl (by decide))).trans ((M23.2 23 2 (Or.inl (by decide))).trans ((q14 23 2 (by decide)).trans rfl)))) ((q45 30 8 (by decide)).trans ((M31.2 30 8 (Or.inl (by decide))).trans ((M23.2 30 8 (Or.inl (by decide))).trans ((q14 30 8 (by decide)).trans rfl))))) (LR_eq q15 (fun j => ((q45 12 j (by simp [fz])).trans ((M31.2 12 j (Or.inl (by decide))).trans ((M23.2 12 j (Or.inl (by decide))).trans rfl)))) (fun j => ((q45 13 j (by simp [fz])).trans ((M31.2 13 j (Or.inl (by decide))).trans ((M23.2 13 j (Or.inl (by decide))).trans rfl)))) (fun j => ((q45 14 j (by simp [fz])).trans ((M31.2 14 j (Or.inl (by decide))).trans ((M23.2 14 j (Or.inl (by decide))).trans rfl)))))) ck11_276 (Nat.le_of_ble_eq_true rfl) rfl (fun _ => ⟨_, rfl⟩) ⟨_, _, rfl⟩ ⟨Nat.le_of_ble_eq_true rfl, Nat.le_of_ble_eq_true rfl⟩ rfl hl.1 rfl (Nat.le_of_ble_eq_true rfl) dX11_log_89 ⟨Nat.le_refl 0, Nat.le_refl 0⟩) X42 (fun v51 t50 H lc q48 X49 => ?_)
        unfold po_X11_liveLog at q48
        obtain ⟨q52, q53, q54⟩ := q48
        have F55 : Fr [(11, 1), (11, 2), (1, 3), (1, 4), (1, 5), (1, 7), (1, 8), (11, 3), (1, 2), (1, 1), (0, 12), (0, 8), (0, 9), (30, 4), (30, 5), (30, 6), (30, 10), (30, 8), (30, 9), (30, 7), (40, 4), (40, 5), (40, 6), (40, 7), (40, 8), (40, 9), (40, 10)] [12, 13, 14, 15, 52, 53, 54, 55, 56, 57, 58, 59, 60, 61, 62, 63, 64, 65, 66, 67, 68, 69, 70, 71, 72, 73, 74, 75, 76, 77, 78, 79, 80, 81, 82, 83, 84, 85, 86, 87, 88, 89, 90, 91, 31, 32, 33, 34, 130, 41, 42, 43, 44, 201] τ t50 := Fr_call F47 q53 (by decide)
        have r56 := R_any v51
        refine r_istore_n (lv' := [(3, .int v51), (2, .int v12), (0, .ref (G.2.2.2.1 0)), (1, .int a0)]) S dX11_log_92 rfl hl (by decide) rfl (fun ls hl => ?_)
        refine r_iload_n S dX11_log_93 rfl (lv_at hl 3 rfl) ?_
        refine r_if_ne (tgt := 111) S dX11_log_94 (by decide) (fun c57 => ?_) (fun c57 => ?_)
        ·
          exfalso; omega
        ·
          refine r_aload_n S dX11_log_97 rfl (lv_at hl 2 rfl) ?_
          refine r_get (K := 0) (v := .ref (G.2.2.2.1 22)) S X49 (Nat.le_of_ble_eq_true rfl) rfl lk11_42_9 (fun _ => ⟨_, rfl, rfl⟩) dX11_log_98 ?_
          refine r_get (K := 22) (v := .ref (G.2.2.2.1 30)) S X49 (Nat.le_of_ble_eq_true rfl) rfl lk11_129_8 (fun _ => ⟨_, rfl, rfl⟩) dX11_log_101 ?_
          refine r_aload_n S dX11_log_104 rfl (lv_at hl 2 rfl) ?_
          refine r_get (K := 0) (v := .ref (G.2.2.2.1 40)) S X49 (Nat.le_of_ble_eq_true rfl) rfl lk11_49_9 (fun _ => ⟨_, rfl, rfl⟩) dX11_log_105 ?_
          refine r_kv (q_V (As := [.ref (G.2.2.2.1 40)]) (rest := []) (K := 23) (ci := 3) S X49 (c_scopy_30_40 l G t50 q52 ) ck11_206 (Nat.le_of_ble_eq_true rfl) rfl (fun _ => ⟨_, rfl⟩) ⟨_, _, rfl⟩ ⟨Nat.le_of_ble_eq_true rfl, Nat.le_of_ble_eq_true rfl⟩ rfl hl.1 rfl (Nat.le_of_ble_eq_true rfl) dX11_log_108 ⟨Nat.le_refl 0, Nat.le_refl 0⟩) X49 (fun t60 H lc q58 X59 => ?_)
          unfold po_scopy_30_40 at q58
          obtain ⟨q61, q62, q63⟩ := q58
          have F64 : Fr [(11, 1), (11, 2), (1, 3), (1, 4), (1, 5), (1, 7), (1, 8), (11, 3), (1, 2), (1, 1), (0, 12), (0, 8), (0, 9), (30, 4), (30, 5), (30, 6), (30, 10), (30, 8), (30, 9), (30, 7), (40, 4), (40, 5), (40, 6), (40, 7), (40, 8), (40, 9), (40, 10)] [12, 13, 14, 15, 52, 53, 54, 55, 56, 57, 58, 59, 60, 61, 62, 63, 64, 65, 66, 67, 68, 69, 70, 71, 72, 73, 74, 75, 76, 77, 78, 79, 80, 81, 82, 83, 84, 85, 86, 87, 88, 89, 90, 91, 31, 32, 33, 34, 130, 41, 42, 43, 44, 201] τ t60 := Fr_call F55 q62 (by decide)
          have hW65 : WI t60 := WI_mk ((q62 23 2 (by decide)).trans ((q53 23 2 (by decide)).trans ((q45 23 2 (by decide)).trans ((M31.2 23 2 (Or.inl (by decide))).trans ((M23.2 23 2 (Or.inl (by decide))).trans ((q14 23 2 (by decide)).trans z2)))))) (q63.trans ((q53 40 8 (by decide)).trans (q46.trans ((M31.2 30 8 (Or.inl (by decide))).trans ((M23.2 30 8 (Or.inl (by decide))).trans ((q14 30 8 (by decide)).trans z5)))))) hab
          refine r_iload_n S dX11_log_111 rfl (lv_at hl 0 rfl) ?_
          exact r_ret S hr hlk X59 ⟨q61, F64, hW65, (HI_eq hHI ((q62 23 2 (by decide)).trans ((q53 23 2 (by decide)).trans ((q45 23 2 (by decide)).trans ((M31.2 23 2 (Or.inl (by decide))).trans ((M23.2 23 2 (Or.inl (by decide))).trans ((q14 23 2 (by decide)).trans rfl)))))) ((q62 0 8 (by decide)).trans ((q53 0 8 (by decide)).trans ((q45 0 8 (by decide)).trans ((M31.2 0 8 (Or.inl (by decide))).trans ((M23.2 0 8 (Or.inr (by decide))).trans ((q14 0 8 (by decide)).trans rfl)))))) ((q62 0 9 (by decide)).trans ((q53 0 9 (by decide)).trans ((q45 0 9 (by decide)).trans ((M31.2 0 9 (Or.inl (by decide))).trans ((M23.2 0 9 (Or.inr (by decide))).trans ((q14 0 9 (by decide)).trans rfl)))))) ((q62 52 8 (by decide)).trans ((q53 52 8 (by decide)).trans ((q45 52 8 (by decide)).trans ((M31.2 52 8 (Or.inl (by decide))).trans ((M23.2 52 8 (Or.inl (by decide))).trans ((q14 52 8 (by decide)).trans rfl)))))) ((q62 57 8 (by decide)).trans ((q53 57 8 (by decide)).trans ((q45 57 8 (by decide)).trans ((M31.2 57 8 (Or.inl (by decide))).trans ((M23.2 57 8 (Or.inl (by decide))).trans ((q14 57 8 (by decide)).trans rfl)))))) ((q62 62 8 (by decide)).trans ((q53 62 8 (by decide)).trans ((q45 62 8 (by decide)).trans ((M31.2 62 8 (Or.inl (by decide))).trans ((M23.2 62 8 (Or.inl (by decide))).trans ((q14 62 8 (by decide)).trans rfl)))))) ((q62 67 8 (by decide)).trans ((q53 67 8 (by decide)).trans ((q45 67 8 (by decide)).trans ((M31.2 67 8 (Or.inl (by decide))).trans ((M23.2 67 8 (Or.inl (by decide))).trans ((q14 67 8 (by decide)).trans rfl)))))) ((q62 72 8 (by decide)).trans ((q53 72 8 (by decide)).trans ((q45 72 8 (by decide)).trans ((M31.2 72 8 (Or.inl (by decide))).trans ((M23.2 72 8 (Or.inl (by decide))).trans ((q14 72 8 (by decide)).trans rfl)))))) ((q62 77 8 (by decide)).trans ((q53 77 8 (by decide)).trans ((q45 77 8 (by decide)).trans ((M31.2 77 8 (Or.inl (by decide))).trans ((M23.2 77 8 (Or.inl (by decide))).trans ((q14 77 8 (by decide)).trans rfl)))))) ((q62 82 8 (by decide)).trans ((q53 82 8 (by decide)).trans ((q45 82 8 (by decide)).trans ((M31.2 82 8 (Or.inl (by decide))).trans ((M23.2 82 8 (Or.inl (by decide))).trans ((q14 82 8 (by decide)).trans rfl)))))) ((q62 87 8 (by decide)).trans ((q53 87 8 (by decide)).trans ((q45 87 8 (by decide)).trans ((M31.2 87 8 (Or.inl (by decide))).trans ((M23.2 87 8 (Or.inl (by decide))).trans ((q14 87 8 (by decide)).trans rfl))))))), (LR_eq q15 (fun j => ((q62 12 j (by simp [fz])).trans ((q53 12 j (by simp [fz])).trans ((q45 12 j (by simp [fz])).trans ((M31.2 12 j (Or.inl (by decide))).trans ((M23.2 12 j (Or.inl (by decide))).trans rfl)))))) (fun j => ((q62 13 j (by simp [fz])).trans ((q53 13 j (by simp [fz])).trans ((q45 13 j (by simp [fz])).trans ((M31.2 13 j (Or.inl (by decide))).trans ((M23.2 13 j (Or.inl (by decide))).trans rfl)))))) (fun j => ((q62 14 j (by simp [fz])).trans ((q53 14 j (by simp [fz])).trans ((q45 14 j (by simp [fz])).trans ((M31.2 14 j (Or.inl (by decide))).trans ((M23.2 14 j (Or.inl (by decide))).trans rfl))))))), (by have h1_0 := congrArg Int32.toInt ((q62 1 1 (by decide)).trans ((q53 1 1 (by decide)).trans ((q45 1 1 (by decide)).trans M31.1))); omega), (by have h1_0 := congrArg Int32.toInt ((q62 1 1 (by decide)).trans ((q53 1 1 (by decide)).trans ((q45 1 1 (by decide)).trans M31.1))); omega)⟩ rfl dX11_log_112
      ·
        exfalso; omega
    ·
      have r66 : R (0) (0) v12 := ⟨by omega, by omega⟩
      refine r_bipush S dX11_log_51 (by decide) (fun v67 z68 => ?_)
      have r69 := R_eq z68
      refine r_aload_n S dX11_log_53 rfl (lv_at hl 1 rfl) ?_
      refine r_get (K := 0) (v := .ref (G.2.2.2.1 1)) S X32 (Nat.le_of_ble_eq_true rfl) rfl lk11_12_9 (fun _ => ⟨_, rfl, rfl⟩) dX11_log_54 ?_
      refine r_getn (K := 1) S X32 (Nat.le_of_ble_eq_true rfl) rfl lk11_105_7 (fun _ => ⟨_, rfl, rfl⟩) dX11_log_57 (fun v70 z71 => ?_)
      have r72 : R (0) (940) v70 := rd I33 rfl z71
      refine r_isub S dX11_log_60 (fun v73 z74 => ?_)
      obtain ⟨e75, r76⟩ := i_sub (lo := -942) (hi := -2) z74 r69 r72 rfl
      exact r_ret S hr hlk X32 ⟨I33, F34, (WI_eq hWI ((M31.2 23 2 (Or.inl (by decide))).trans ((M23.2 23 2 (Or.inl (by decide))).trans ((q14 23 2 (by decide)).trans rfl))) ((M31.2 30 8 (Or.inl (by decide))).trans ((M23.2 30 8 (Or.inl (by decide))).trans ((q14 30 8 (by decide)).trans rfl)))), (HI_eq hHI ((M31.2 23 2 (Or.inl (by decide))).trans ((M23.2 23 2 (Or.inl (by decide))).trans ((q14 23 2 (by decide)).trans rfl))) ((M31.2 0 8 (Or.inl (by decide))).trans ((M23.2 0 8 (Or.inr (by decide))).trans ((q14 0 8 (by decide)).trans rfl))) ((M31.2 0 9 (Or.inl (by decide))).trans ((M23.2 0 9 (Or.inr (by decide))).trans ((q14 0 9 (by decide)).trans rfl))) ((M31.2 52 8 (Or.inl (by decide))).trans ((M23.2 52 8 (Or.inl (by decide))).trans ((q14 52 8 (by decide)).trans rfl))) ((M31.2 57 8 (Or.inl (by decide))).trans ((M23.2 57 8 (Or.inl (by decide))).trans ((q14 57 8 (by decide)).trans rfl))) ((M31.2 62 8 (Or.inl (by decide))).trans ((M23.2 62 8 (Or.inl (by decide))).trans ((q14 62 8 (by decide)).trans rfl))) ((M31.2 67 8 (Or.inl (by decide))).trans ((M23.2 67 8 (Or.inl (by decide))).trans ((q14 67 8 (by decide)).trans rfl))) ((M31.2 72 8 (Or.inl (by decide))).trans ((M23.2 72 8 (Or.inl (by decide))).trans ((q14 72 8 (by decide)).trans rfl))) ((M31.2 77 8 (Or.inl (by decide))).trans ((M23.2 77 8 (Or.inl (by decide))).trans ((q14 77 8 (by decide)).trans rfl))) ((M31.2 82 8 (Or.inl (by decide))).trans ((M23.2 82 8 (Or.inl (by decide))).trans ((q14 82 8 (by decide)).trans rfl))) ((M31.2 87 8 (Or.inl (by decide))).trans ((M23.2 87 8 (Or.inl (by decide))).trans ((q14 87 8 (by decide)).trans rfl)))), (LR_eq q15 (fun j => ((M31.2 12 j (Or.inl (by decide))).trans ((M23.2 12 j (Or.inl (by decide))).trans rfl))) (fun j => ((M31.2 13 j (Or.inl (by decide))).trans ((M23.2 13 j (Or.inl (by decide))).trans rfl))) (fun j => ((M31.2 14 j (Or.inl (by decide))).trans ((M23.2 14 j (Or.inl (by decide))).trans rfl)))), (by have h1_0 := congrArg Int32.toInt M31.1; omega), (by have h1_0 := congrArg Int32.toInt M31.1; omega)⟩ rfl dX11_log_61
  ·
    refine r_iload_n S dX11_log_4 rfl (lv_at hl 1 rfl) ?_
    refine r_iconst S dX11_log_5 (by decide) (fun v77 z78 => ?_)
    have r79 := R_eq z78
    refine r_icmp_eq (tgt := 13) S dX11_log_6 (by decide) (fun c80 => ?_) (fun c80 => ?_)
    ·
      have r81 : R (1) (1) a0 := ⟨by omega, by omega⟩
      refine r_aload_n S dX11_log_13 rfl (lv_at hl 0 rfl) ?_
      refine r_get (K := 0) (v := .ref (G.2.2.2.1 11)) S X (Nat.le_of_ble_eq_true rfl) rfl lk11_28_9 (fun _ => ⟨_, rfl, rfl⟩) dX11_log_14 ?_
      refine r_aload_n S dX11_log_17 rfl (lv_at hl 0 rfl) ?_
      refine r_get (K := 0) (v := .ref (G.2.2.2.1 22)) S X (Nat.le_of_ble_eq_true rfl) rfl lk11_42_9 (fun _ => ⟨_, rfl, rfl⟩) dX11_log_18 ?_
      refine r_get (K := 22) (v := .ref (G.2.2.2.1 23)) S X (Nat.le_of_ble_eq_true rfl) rfl lk11_139_8 (fun _ => ⟨_, rfl, rfl⟩) dX11_log_21 ?_
      refine r_ki (q_V (As := [.ref (G.2.2.2.1 23)]) (rest := []) (K := 11) (ci := 1) S X (c_X1_read l G τ hI hLR) ck11_272 (Nat.le_of_ble_eq_true rfl) rfl (fun _ => ⟨_, rfl⟩) ⟨_, _, rfl⟩ ⟨Nat.le_of_ble_eq_true rfl, Nat.le_of_ble_eq_true rfl⟩ rfl hl.1 rfl (Nat.le_of_ble_eq_true rfl) dX11_log_24 ⟨Nat.le_refl 0, Nat.le_refl 0⟩) X (fun v85 t84 H lc q82 X83 => ?_)
      unfold po_X1_read at q82
      obtain ⟨q86, q87, q88, q89⟩ := q82
      have F90 : Fr [(11, 1), (11, 2), (1, 3), (1, 4), (1, 5), (1, 7), (1, 8), (11, 3), (1, 2), (1, 1), (0, 12), (0, 8), (0, 9), (30, 4), (30, 5), (30, 6), (30, 10), (30, 8), (30, 9), (30, 7), (40, 4), (40, 5), (40, 6), (40, 7), (40, 8), (40, 9), (40, 10)] [12, 13, 14, 15, 52, 53, 54, 55, 56, 57, 58, 59, 60, 61, 62, 63, 64, 65, 66, 67, 68, 69, 70, 71, 72, 73, 74, 75, 76, 77, 78, 79, 80, 81, 82, 83, 84, 85, 86, 87, 88, 89, 90, 91, 31, 32, 33, 34, 130, 41, 42, 43, 44, 201] τ t84 := Fr_call Fr_rfl q87 (by decide)
      refine r_istore_n (lv' := [(2, .int v85), (0, .ref (G.2.2.2.1 0)), (1, .int a0)]) S dX11_log_27 rfl hl (by decide) rfl (fun ls hl => ?_)
      refine r_aload_n S dX11_log_28 rfl (lv_at hl 1 rfl) ?_
      refine r_aload_n S dX11_log_29 rfl (lv_at hl 1 rfl) ?_
      refine r_get (K := 0) (v := .ref (G.2.2.2.1 11)) S X83 (Nat.le_of_ble_eq_true rfl) rfl lk11_28_9 (fun _ => ⟨_, rfl, rfl⟩) dX11_log_30 ?_
      refine r_getn (K := 11) S X83 (Nat.le_of_ble_eq_true rfl) rfl lk11_275_1 (fun _ => ⟨_, rfl, rfl⟩) dX11_log_33 (fun v91 z92 => ?_)
      have r94 := R_any v91
      refine r_put (K := 0) (ty := .int) S X83 (Nat.le_of_ble_eq_true rfl) rfl lk11_102_9 (fun _ => ⟨_, rfl, Nat.le_of_ble_eq_true rfl, rfl⟩) (fun _ _ _ h => by cases h; exact ⟨rfl, rfl⟩) rfl rfl dX11_log_36 (fun t95 H lc M96 X97 => ?_)
      have I98 := Inv_mu q86 M96 (R_any v91)
      have F99 : Fr [(11, 1), (11, 2), (1, 3), (1, 4), (1, 5), (1, 7), (1, 8), (11, 3), (1, 2), (1, 1), (0, 12), (0, 8), (0, 9), (30, 4), (30, 5), (30, 6), (30, 10), (30, 8), (30, 9), (30, 7), (40, 4), (40, 5), (40, 6), (40, 7), (40, 8), (40, 9), (40, 10)] [12, 13, 14, 15, 52, 53, 54, 55, 56, 57, 58, 59, 60, 61, 62, 63, 64, 65, 66, 67, 68, 69, 70, 71, 72, 73, 74, 75, 76, 77, 78, 79, 80, 81, 82, 83, 84, 85, 86, 87, 88, 89, 90, 91, 31, 32, 33, 34, 130, 41, 42, 43, 44, 201] τ t95 := Fr_mu F90 M96 (by decide)
      refine r_aload_n S dX11_log_39 rfl (lv_at hl 1 rfl) ?_
      refine r_get (K := 0) (v := .ref (G.2.2.2.1 1)) S X97 (Nat.le_of_ble_eq_true rfl) rfl lk11_12_9 (fun _ => ⟨_, rfl, rfl⟩) dX11_log_40 ?_
      refine r_iconst S dX11_log_43 (by decide) (fun v100 z101 => ?_)
      have r102 := R_eq z101
      refine r_put (K := 1) (ty := .int) S X97 (Nat.le_of_ble_eq_true rfl) rfl lk11_88_7 (fun _ => ⟨_, rfl, Nat.le_of_ble_eq_true rfl, rfl⟩) (fun _ _ _ h => by cases h; exact ⟨rfl, rfl⟩) rfl rfl dX11_log_44 (fun t103 H lc M104 X105 => ?_)
      have I106 := Inv_mu I98 M104 (show Rg (kd 1) 1 v100 from (R_of (lo := 0) (hi := 940) r102 rfl))
      have F107 : Fr [(11, 1), (11, 2), (1, 3), (1, 4), (1, 5), (1, 7), (1, 8), (11, 3), (1, 2), (1, 1), (0, 12), (0, 8), (0, 9), (30, 4), (30, 5), (30, 6), (30, 10), (30, 8), (30, 9), (30, 7), (40, 4), (40, 5), (40, 6), (40, 7), (40, 8), (40, 9), (40, 10)] [12, 13, 14, 15, 52, 53, 54, 55, 56, 57, 58, 59, 60, 61, 62, 63, 64, 65, 66, 67, 68, 69, 70, 71, 72, 73, 74, 75, 76, 77, 78, 79, 80, 81, 82, 83, 84, 85, 86, 87, 88, 89, 90, 91, 31, 32, 33, 34, 130, 41, 42, 43, 44, 201] τ t103 := Fr_mu F99 M104 (by decide)
      refine r_iload_n S dX11_log_47 rfl (lv_at hl 0 rfl) ?_
      refine r_if_ne (tgt := 62) S dX11_log_48 (by decide) (fun c108 => ?_) (fun c108 => ?_)
      ·
        have r109 : R (1) (1) v85 := ⟨by omega, by omega⟩
        refine r_iload_n S dX11_log_62 rfl (lv_at hl 2 rfl) ?_
        refine r_iconst S dX11_log_63 (by decide) (fun v110 z111 => ?_)
        have r112 := R_eq z111
        refine r_icmp_ne (tgt := 74) S dX11_log_64 (by decide) (fun c113 => ?_) (fun c113 => ?_)
        ·
          exfalso; omega
        ·
          refine r_aload_n S dX11_log_67 rfl (lv_at hl 1 rfl) ?_
          refine r_kv (q_V (As := []) (rest := []) (K := 0) (ci := 9) S X105 (c_X11_remember l G t103 I106 (WI_eq hWI ((M104.2 23 2 (Or.inl (by decide))).trans ((M96.2 23 2 (Or.inl (by decide))).trans ((q87 23 2 (by decide)).trans rfl))) ((M104.2 30 8 (Or.inl (by decide))).trans ((M96.2 30 8 (Or.inl (by decide))).trans ((q87 30 8 (by decide)).trans rfl)))) (HI_eq hHI ((M104.2 23 2 (Or.inl (by decide))).trans ((M96.2 23 2 (Or.inl (by decide))).trans ((q87 23 2 (by decide)).trans rfl))) ((M104.2 0 8 (Or.inl (by decide))).trans ((M96.2 0 8 (Or.inr (by decide))).trans ((q87 0 8 (by decide)).trans rfl))) ((M104.2 0 9 (Or.inl (by decide))).trans ((M96.2 0 9 (Or.inr (by decide))).trans ((q87 0 9 (by decide)).trans rfl))) ((M104.2 52 8 (Or.inl (by decide))).trans ((M96.2 52 8 (Or.inl (by decide))).trans ((q87 52 8 (by decide)).trans rfl))) ((M104.2 57 8 (Or.inl (by decide))).trans ((M96.2 57 8 (Or.inl (by decide))).trans ((q87 57 8 (by decide)).trans rfl))) ((M104.2 62 8 (Or.inl (by decide))).trans ((M96.2 62 8 (Or.inl (by decide))).trans ((q87 62 8 (by decide)).trans rfl))) ((M104.2 67 8 (Or.inl (by decide))).trans ((M96.2 67 8 (Or.inl (by decide))).trans ((q87 67 8 (by decide)).trans rfl))) ((M104.2 72 8 (Or.inl (by decide))).trans ((M96.2 72 8 (Or.inl (by decide))).trans ((q87 72 8 (by decide)).trans rfl))) ((M104.2 77 8 (Or.inl (by decide))).trans ((M96.2 77 8 (Or.inl (by decide))).trans ((q87 77 8 (by decide)).trans rfl))) ((M104.2 82 8 (Or.inl (by decide))).trans ((M96.2 82 8 (Or.inl (by decide))).trans ((q87 82 8 (by decide)).trans rfl))) ((M104.2 87 8 (Or.inl (by decide))).trans ((M96.2 87 8 (Or.inl (by decide))).trans ((q87 87 8 (by decide)).trans rfl))))) ck11_266 (Nat.le_of_ble_eq_true rfl) rfl (fun _ => ⟨_, rfl⟩) ⟨_, _, rfl⟩ ⟨Nat.le_of_ble_eq_true rfl, Nat.le_of_ble_eq_true rfl⟩ rfl hl.1 rfl (Nat.le_of_ble_eq_true rfl) dX11_log_68 ⟨Nat.le_refl 0, Nat.le_refl 0⟩) X105 (fun t116 H lc q114 X115 => ?_)
          unfold po_X11_remember at q114
          obtain ⟨q117, q118, q119⟩ := q114
          have F120 : Fr [(11, 1), (11, 2), (1, 3), (1, 4), (1, 5), (1, 7), (1, 8), (11, 3), (1, 2), (1, 1), (0, 12), (0, 8), (0, 9), (30, 4), (30, 5), (30, 6), (30, 10), (30, 8), (30, 9), (30, 7), (40, 4), (40, 5), (40, 6), (40, 7), (40, 8), (40, 9), (40, 10)] [12, 13, 14, 15, 52, 53, 54, 55, 56, 57, 58, 59, 60, 61, 62, 63, 64, 65, 66, 67, 68, 69, 70, 71, 72, 73, 74, 75, 76, 77, 78, 79, 80, 81, 82, 83, 84, 85, 86, 87, 88, 89, 90, 91, 31, 32, 33, 34, 130, 41, 42, 43, 44, 201] τ t116 := Fr_call F107 q118 (by decide)
          refine r_goto (tgt := 88) S dX11_log_71 (by decide) ?_
          refine r_aload_n S dX11_log_88 rfl (lv_at hl 1 rfl) ?_
          refine r_ki (q_V (As := []) (rest := []) (K := 0) (ci := 9) S X115 (c_X11_liveLog l G t116 q117 (WI_eq hWI ((q118 23 2 (by decide)).trans ((M104.2 23 2 (Or.inl (by decide))).trans ((M96.2 23 2 (Or.inl (by decide))).trans ((q87 23 2 (by decide)).trans rfl)))) ((q118 30 8 (by decide)).trans ((M104.2 30 8 (Or.inl (by decide))).trans ((M96.2 30 8 (Or.inl (by decide))).trans ((q87 30 8 (by decide)).trans rfl))))) (LR_eq q88 (fun j => ((q118 12 j (by simp [fz])).trans ((M104.2 12 j (Or.inl (by decide))).trans ((M96.2 12 j (Or.inl (by decide))).trans rfl)))) (fun j => ((q118 13 j (by simp [fz])).trans ((M104.2 13 j (Or.inl (by decide))).trans ((M96.2 13 j (Or.inl (by decide))).trans rfl)))) (fun j => ((q118 14 j (by simp [fz])).trans ((M104.2 14 j (Or.inl (by decide))).trans ((M96.2 14 j (Or.inl (by decide))).trans rfl)))))) ck11_276 (Nat.le_of_ble_eq_true rfl) rfl (fun _ => ⟨_, rfl⟩) ⟨_, _, rfl⟩ ⟨Nat.le_of_ble_eq_true rfl, Nat.le_of_ble_eq_true rfl⟩ rfl hl.1 rfl (Nat.le_of_ble_eq_true rfl) dX11_log_89 ⟨Nat.le_refl 0, Nat.le_refl 0⟩) X115 (fun v124 t123 H lc q121 X122 => ?_)
          unfold po_X11_liveLog at q121
          obtain ⟨q125, q126, q127⟩ := q121
          have F128 : Fr [(11, 1), (11, 2), (1, 3), (1, 4), (1, 5), (1, 7), (1, 8), (11, 3), (1, 2), (1, 1), (0, 12), (0, 8), (0, 9), (30, 4), (30, 5), (30, 6), (30, 10), (30, 8), (30, 9), (30, 7), (40, 4), (40, 5), (40, 6), (40, 7), (40, 8), (40, 9), (40, 10)] [12, 13, 14, 15, 52, 53, 54, 55, 56, 57, 58, 59, 60, 61, 62, 63, 64, 65, 66, 67, 68, 69, 70, 71, 72, 73, 74, 75, 76, 77, 78, 79, 80, 81, 82, 83, 84, 85, 86, 87, 88, 89, 90, 91, 31, 32, 33, 34, 130, 41, 42, 43, 44, 201] τ t123 := Fr_call F120 q126 (by decide)
          have r129 := R_any v124
          refine r_istore_n (lv' := [(3, .int v124), (2, .int v85), (0, .ref (G.2.2.2.1 0)), (1, .int a0)]) S dX11_log_92 rfl hl (by decide) rfl (fun ls hl => ?_)
          refine r_iload_n S dX11_log_93 rfl (lv_at hl 3 rfl) ?_
          refine r_if_ne (tgt := 111) S dX11_log_94 (by decide) (fun c130 => ?_) (fun c130 => ?_)
          ·
            refine r_iload_n S dX11_log_111 rfl (lv_at hl 0 rfl) ?_
            exact r_ret S hr hlk X122 ⟨q125, F128, q127, (HI_eq q119 ((q126 23 2 (by decide)).trans rfl) ((q126 0 8 (by decide)).trans rfl) ((q126 0 9 (by decide)).trans rfl) ((q126 52 8 (by decide)).trans rfl) ((q126 57 8 (by decide)).trans rfl) ((q126 62 8 (by decide)).trans rfl) ((q126 67 8 (by decide)).trans rfl) ((q126 72 8 (by decide)).trans rfl) ((q126 77 8 (by decide)).trans rfl) ((q126 82 8 (by decide)).trans rfl) ((q126 87 8 (by decide)).trans rfl)), (LR_eq q88 (fun j => ((q126 12 j (by simp [fz])).trans ((q118 12 j (by simp [fz])).trans ((M104.2 12 j (Or.inl (by decide))).trans ((M96.2 12 j (Or.inl (by decide))).trans rfl))))) (fun j => ((q126 13 j (by simp [fz])).trans ((q118 13 j (by simp [fz])).trans ((M104.2 13 j (Or.inl (by decide))).trans ((M96.2 13 j (Or.inl (by decide))).trans rfl))))) (fun j => ((q126 14 j (by simp [fz])).trans ((q118 14 j (by simp [fz])).trans ((M104.2 14 j (Or.inl (by decide))).trans ((M96.2 14 j (Or.inl (by decide))).trans rfl)))))), (by have h1_0 := congrArg Int32.toInt ((q126 1 1 (by decide)).trans ((q118 1 1 (by decide)).trans M104.1)); omega), (by have h1_0 := congrArg Int32.toInt ((q126 1 1 (by decide)).trans ((q118 1 1 (by decide)).trans M104.1)); omega)⟩ rfl dX11_log_112
          ·
            exfalso; omega
      ·
        have r131 : R (0) (0) v85 := ⟨by omega, by omega⟩
        refine r_bipush S dX11_log_51 (by decide) (fun v132 z133 => ?_)
        have r134 := R_eq z133
        refine r_aload_n S dX11_log_53 rfl (lv_at hl 1 rfl) ?_
        refine r_get (K := 0) (v := .ref (G.2.2.2.1 1)) S X105 (Nat.le_of_ble_eq_true rfl) rfl lk11_12_9 (fun _ => ⟨_, rfl, rfl⟩) dX11_log_54 ?_
        refine r_getn (K := 1) S X105 (Nat.le_of_ble_eq_true rfl) rfl lk11_105_7 (fun _ => ⟨_, rfl, rfl⟩) dX11_log_57 (fun v135 z136 => ?_)
        have r137 : R (0) (940) v135 := rd I106 rfl z136
        refine r_isub S dX11_log_60 (fun v138 z139 => ?_)
        obtain ⟨e140, r141⟩ := i_sub (lo := -942) (hi := -2) z139 r134 r137 rfl
        exact r_ret S hr hlk X105 ⟨I106, F107, (WI_eq hWI ((M104.2 23 2 (Or.inl (by decide))).trans ((M96.2 23 2 (Or.inl (by decide))).trans ((q87 23 2 (by decide)).trans rfl))) ((M104.2 30 8 (Or.inl (by decide))).trans ((M96.2 30 8 (Or.inl (by decide))).trans ((q87 30 8 (by decide)).trans rfl)))), (HI_eq hHI ((M104.2 23 2 (Or.inl (by decide))).trans ((M96.2 23 2 (Or.inl (by decide))).trans ((q87 23 2 (by decide)).trans rfl))) ((M104.2 0 8 (Or.inl (by decide))).trans ((M96.2 0 8 (Or.inr (by decide))).trans ((q87 0 8 (by decide)).trans rfl))) ((M104.2 0 9 (Or.inl (by decide))).trans ((M96.2 0 9 (Or.inr (by decide))).trans ((q87 0 9 (by decide)).trans rfl))) ((M104.2 52 8 (Or.inl (by decide))).trans ((M96.2 52 8 (Or.inl (by decide))).trans ((q87 52 8 (by decide)).trans rfl))) ((M104.2 57 8 (Or.inl (by decide))).trans ((M96.2 57 8 (Or.inl (by decide))).trans ((q87 57 8 (by decide)).trans rfl))) ((M104.2 62 8 (Or.inl (by decide))).trans ((M96.2 62 8 (Or.inl (by decide))).trans ((q87 62 8 (by decide)).trans rfl))) ((M104.2 67 8 (Or.inl (by decide))).trans ((M96.2 67 8 (Or.inl (by decide))).trans ((q87 67 8 (by decide)).trans rfl))) ((M104.2 72 8 (Or.inl (by decide))).trans ((M96.2 72 8 (Or.inl (by decide))).trans ((q87 72 8 (by decide)).trans rfl))) ((M104.2 77 8 (Or.inl (by decide))).trans ((M96.2 77 8 (Or.inl (by decide))).trans ((q87 77 8 (by decide)).trans rfl))) ((M104.2 82 8 (Or.inl (by decide))).trans ((M96.2 82 8 (Or.inl (by decide))).trans ((q87 82 8 (by decide)).trans rfl))) ((M104.2 87 8 (Or.inl (by decide))).trans ((M96.2 87 8 (Or.inl (by decide))).trans ((q87 87 8 (by decide)).trans rfl)))), (LR_eq q88 (fun j => ((M104.2 12 j (Or.inl (by decide))).trans ((M96.2 12 j (Or.inl (by decide))).trans rfl))) (fun j => ((M104.2 13 j (Or.inl (by decide))).trans ((M96.2 13 j (Or.inl (by decide))).trans rfl))) (fun j => ((M104.2 14 j (Or.inl (by decide))).trans ((M96.2 14 j (Or.inl (by decide))).trans rfl)))), (by have h1_0 := congrArg Int32.toInt M104.1; omega), (by have h1_0 := congrArg Int32.toInt M104.1; omega)⟩ rfl dX11_log_61
    ·
      refine r_sipush S dX11_log_9 (by decide) (fun v142 z143 => ?_)
      have r144 := R_eq z143
      exact r_ret S hr hlk X ⟨hI, Fr_rfl, hWI, hHI, hLR, (by omega), (by omega)⟩ rfl dX11_log_12
