def po_X12_bitOf_q (τ : Tau)  (a0 a1 : Int32)   (r : Int32) (u : Tau) : Prop := u = τ ∧ R (0) (1) r ∧ (r.toInt = 1 ↔ kb a0 a1.toInt.toNat)
set_option maxHeartbeats 4000000 in
set_option maxRecDepth 100000 in
theorem c_X12_bitOf_q (l : Launch) (G : Gx) (τ : Tau) (hI : Inv τ) (a0 : Int32) (a1 : Int32) (h_a0 : R (-2147483648) (2147483647) a0) (h_a1 : R (0) (9) a1) : Ci l G yX12_bitOf cX12_bitOf 2 (some .boolean) 0 0 [.int a0, .int a1] τ (po_X12_bitOf_q τ  a0 a1  ) := by
  unfold Ci
  refine C_of (own := RX12) (by decide) rfl (Nat.le_of_ble_eq_true rfl) ?_
  intro p e s m below meth c ls S hr hlk X hl
  have hl : lv_has ls 2 [(0, .int a0), (1, .int a1)] := hl
  refine r_iload_n S dX12_bitOf_0 rfl (lv_at hl 0 rfl) ?_
  refine r_iload_n S dX12_bitOf_1 rfl (lv_at hl 1 rfl) ?_
  refine r_ishr S dX12_bitOf_2 (fun v1 z2 => ?_)
  have r3 := R_any v1
  refine r_iconst S dX12_bitOf_3 (by decide) (fun v4 z5 => ?_)
  have r6 := R_eq z5
  refine r_iand S dX12_bitOf_4 (fun v7 z8 => ?_)
  have r10 : R (0) (1) v7 := i_and2 z8 r3 r6 rfl
  refine r_iconst S dX12_bitOf_5 (by decide) (fun v11 z12 => ?_)
  have r13 := R_eq z12
  refine r_icmp_ne (tgt := 13) S dX12_bitOf_6 (by decide) (fun c14 => ?_) (fun c14 => ?_)
  ·
    have r15 : R (0) (0) v7 := ⟨by omega, by omega⟩
    refine r_iconst S dX12_bitOf_13 (by decide) (fun v16 z17 => ?_)
    have r18 := R_eq z17
    exact r_ret S hr hlk X ⟨rfl, (R_of r18 rfl), ⟨fun h => by exfalso; omega, fun h => absurd ((bof z2 (by omega) z8 h_a1).mpr h) (by omega)⟩⟩ (nr_bool (R_of (lo := 0) (hi := 1) r18 rfl)) dX12_bitOf_14
  ·
    have r19 : R (1) (1) v7 := ⟨by omega, by omega⟩
    refine r_iconst S dX12_bitOf_9 (by decide) (fun v20 z21 => ?_)
    have r22 := R_eq z21
    refine r_goto (tgt := 14) S dX12_bitOf_10 (by decide) ?_
    exact r_ret S hr hlk X ⟨rfl, (R_of r22 rfl), ⟨fun _ => (bof z2 (by omega) z8 h_a1).mp (by omega), fun _ => by omega⟩⟩ (nr_bool (R_of (lo := 0) (hi := 1) r22 rfl)) dX12_bitOf_14
def po_X12_sign_q (τ : Tau)  (a0 : Int32)  (bb : Nat → Int) (nb : Nat) (fs : FS) (r : Int32) (u : Tau) : Prop := Inv u ∧ Fr [(131, 15), (131, 16), (131, 4), (131, 11), (131, 12), (131, 13), (131, 14)] [331] τ u ∧ R (0) (1) r ∧ R (0) (940) (u 131 4) ∧ R (0) (4) (u 131 11) ∧ (τ 131 4).toInt ≤ (u 131 4).toInt ∧ (r.toInt = 1 → (τ 131 11).toInt = 3) ∧ QM (sSgn bb nb 59 fs) r u (fun g => RM bb nb u g)
set_option maxHeartbeats 4000000 in
set_option maxRecDepth 100000 in
theorem c_X12_sign_q (l : Launch) (G : Gx) (τ : Tau) (hI : Inv τ) (a0 : Int32) (h_a0 : R (59) (59) a0) (bb : Nat → Int) (nb : Nat) (fs : FS) (hR : RM bb nb τ fs) : Ci l G yX12_sign cX12_sign 2 (some .boolean) 2 43 [.ref (G.2.2.2.1 131), .int a0] τ (po_X12_sign_q τ  a0  bb nb fs) := by
  unfold Ci
  refine C_of (own := RX12) (by decide) rfl (Nat.le_of_ble_eq_true rfl) ?_
  intro p e s m below meth c ls S hr hlk X hl
  have hl : lv_has ls 2 [(0, .ref (G.2.2.2.1 131)), (1, .int a0)] := hl
  obtain ⟨v1, z2⟩ : ∃ x, τ 131 4 = x := ⟨_, rfl⟩
  have r3 : R (0) (940) v1 := rd hI rfl z2
  obtain ⟨v4, z5⟩ : ∃ x, τ 131 11 = x := ⟨_, rfl⟩
  have r6 : R (0) (4) v4 := rd hI rfl z5
  refine r_aload_n S dX12_sign_0 rfl (lv_at hl 0 rfl) ?_
  refine r_iload_n S dX12_sign_1 rfl (lv_at hl 1 rfl) ?_
  refine r_ki (q_V (As := [.int a0]) (rest := []) (K := 38) (ci := 10) S X (c_X12_isSign_q l G τ hI a0 (R_of (lo := -2147483648) (hi := 2147483647) h_a0 rfl) bb nb 900 fs.1 hR.1) ck12_180 (Nat.le_of_ble_eq_true rfl) rfl (fun _ => ⟨_, rfl⟩) ⟨_, _, rfl⟩ ⟨Nat.le_of_ble_eq_true rfl, Nat.le_of_ble_eq_true rfl⟩ rfl hl.1 rfl (Nat.le_of_ble_eq_true rfl) dX12_sign_2 ⟨Nat.le_refl 0, Nat.le_refl 0⟩) X (fun v10 t9 H lc q7 X8 => ?_)
  unfold po_X12_isSign_q at q7
  obtain ⟨q11, q12, q13⟩ := q7
  rw [q11] at X8
  refine r_if_ne (tgt := 14) S dX12_sign_5 (by decide) (fun c14 => ?_) (fun c14 => ?_)
  ·
    have r15 : R (1) (1) v10 := ⟨by omega, by omega⟩
    have p16 := (q13).mp (by omega)
    refine r_aload_n S dX12_sign_14 rfl (lv_at hl 0 rfl) ?_
    refine r_kv (q_V (As := []) (rest := []) (K := 38) (ci := 10) S X8 (c_X12_skip_q l G τ hI bb nb 900 fs.1.2.2 (MT_st hR.1 (Or.inr (Or.inr p16.1))).1 (MT_st hR.1 (Or.inr (Or.inr p16.1))).2.1 (MT_st hR.1 (Or.inr (Or.inr p16.1))).2.2) ck12_186 (Nat.le_of_ble_eq_true rfl) rfl (fun _ => ⟨_, rfl⟩) ⟨_, _, rfl⟩ ⟨Nat.le_of_ble_eq_true rfl, Nat.le_of_ble_eq_true rfl⟩ rfl hl.1 rfl (Nat.le_of_ble_eq_true rfl) dX12_sign_15 ⟨Nat.le_refl 0, Nat.le_refl 0⟩) X8 (fun t19 H lc q17 X18 => ?_)
    unfold po_X12_skip_q at q17
    obtain ⟨q20, q21, q22, q23, q24, q25, q26⟩ := q17
    have F27 : Fr [(131, 15), (131, 16), (131, 4), (131, 11), (131, 12), (131, 13), (131, 14)] [331] τ t19 := Fr_call Fr_rfl q21 (by decide)
    obtain ⟨v28, z29⟩ : ∃ x, t19 131 4 = x := ⟨_, rfl⟩
    rw [z29] at q22
    obtain ⟨v30, z31⟩ : ∃ x, t19 131 11 = x := ⟨_, rfl⟩
    rw [z31] at q23
    have e32 := congrArg Int32.toInt z2
    have e33 := congrArg Int32.toInt z29
    have e34 := congrArg Int32.toInt z2
    have e35 := congrArg Int32.toInt z29
    have e36 := congrArg Int32.toInt z5
    have e37 := congrArg Int32.toInt z31
    have hR38 : RM bb nb t19 (stp bb nb fs) := ⟨q26, RH_fr hR.2.1 ((q21 131 20 (by decide)).trans rfl) (fun j _ => ((q21 134 j (by simp [fz])).trans rfl)) (fun j => ((q21 336 j (by simp [fz])).trans rfl)), RS_fr hR.2.2 (fun j => ((q21 337 j (by simp [fz])).trans rfl))⟩
    refine r_iconst S dX12_sign_18 (by decide) (fun v39 z40 => ?_)
    have r41 := R_eq z40
    exact r_ret S hr hlk X18 ⟨q20, F27, (R_of r41 rfl), (by rw [z29]; exact R_of q22 rfl), (by rw [z31]; exact R_of q23 rfl), (by have h1_0 := congrArg Int32.toInt z29; have h2_0 := congrArg Int32.toInt z2; omega), (fun _ => by rw [MT_k hR.1, (p16).1]; rfl), (QM_r (sSgn_g ⟨p16.1, by have q := p16.2; omega⟩) (by omega) hR38)⟩ (nr_bool (R_of (lo := 0) (hi := 1) r41 rfl)) dX12_sign_19
  ·
    have r42 : R (0) (0) v10 := ⟨by omega, by omega⟩
    have p43 := (iff_n q13) (by omega)
    refine r_aload_n S dX12_sign_8 rfl (lv_at hl 0 rfl) ?_
    refine r_iconst S dX12_sign_9 (by decide) (fun v44 z45 => ?_)
    have r46 := R_eq z45
    refine r_ki (q_V (As := [.int v44]) (rest := []) (K := 38) (ci := 10) S X8 (c_X12_bad_q l G τ hI v44 (R_of (lo := -2147483648) (hi := 2147483647) r46 rfl)) ck12_183 (Nat.le_of_ble_eq_true rfl) rfl (fun _ => ⟨_, rfl⟩) ⟨_, _, rfl⟩ ⟨Nat.le_of_ble_eq_true rfl, Nat.le_of_ble_eq_true rfl⟩ rfl hl.1 rfl (Nat.le_of_ble_eq_true rfl) dX12_sign_10 ⟨Nat.le_refl 0, Nat.le_refl 0⟩) X8 (fun v50 t49 H lc q47 X48 => ?_)
    unfold po_X12_bad_q at q47
    obtain ⟨q51, q52, q53, q54⟩ := q47
    have F55 : Fr [(131, 15), (131, 16), (131, 4), (131, 11), (131, 12), (131, 13), (131, 14)] [331] τ t49 := Fr_call Fr_rfl q52 (by decide)
    exact r_ret S hr hlk X48 ⟨q51, F55, (R_of q53 rfl), (by rw [((q52 131 4 (by decide)).trans z2)]; exact R_of r3 rfl), (by rw [((q52 131 11 (by decide)).trans z5)]; exact R_of r6 rfl), (by have h1_0 := congrArg Int32.toInt ((q52 131 4 (by decide)).trans z2); have h2_0 := congrArg Int32.toInt z2; omega), (fun h => by exfalso; omega), (QM_b (sSgn_b (fun h => p43 ⟨h.1, by have q := h.2; omega⟩)) (by omega) (by rw [q54.1]; omega) (by rw [q54.2]; exact RM_at hR))⟩ (nr_bool (R_of (lo := 0) (hi := 1) q53 rfl)) dX12_sign_13
def po_X12_takes_q_1_8 (τ : Tau)  (a0 a1 : Int32)  (bb : Nat → Int) (nb : Nat) (fs : FS) (r : Int32) (u : Tau) : Prop := Inv u ∧ Fr [(131, 15), (131, 16), (131, 4), (131, 11), (131, 12), (131, 13), (131, 14), (131, 18)] [331] τ u ∧ R (0) (1) r ∧ (r.toInt = 1 → R (1) (8) (u 131 18)) ∧ R (0) (940) (u 131 4) ∧ R (0) (4) (u 131 11) ∧ (τ 131 4).toInt ≤ (u 131 4).toInt ∧ (r.toInt = 1 → (τ 131 11).toInt = 2) ∧ QM (sNum bb nb 1 8 fs) r u (fun g => (u 131 18).toInt = g.1 ∧ RM bb nb u g.2)
set_option maxHeartbeats 4000000 in
set_option maxRecDepth 100000 in
theorem c_X12_takes_q_1_8 (l : Launch) (G : Gx) (τ : Tau) (hI : Inv τ) (a0 : Int32) (a1 : Int32) (h_a0 : R (1) (1) a0) (h_a1 : R (8) (8) a1) (bb : Nat → Int) (nb : Nat) (fs : FS) (hR : RM bb nb τ fs) : Ci l G yX12_takes cX12_takes 3 (some .boolean) 2 43 [.ref (G.2.2.2.1 131), .int a0, .int a1] τ (po_X12_takes_q_1_8 τ  a0 a1  bb nb fs) := by
  unfold Ci
  refine C_of (own := RX12) (by decide) rfl (Nat.le_of_ble_eq_true rfl) ?_
  intro p e s m below meth c ls S hr hlk X hl
  have hl : lv_has ls 3 [(0, .ref (G.2.2.2.1 131)), (1, .int a0), (2, .int a1)] := hl
  obtain ⟨v1, z2⟩ : ∃ x, τ 131 4 = x := ⟨_, rfl⟩
  have r3 : R (0) (940) v1 := rd hI rfl z2
  obtain ⟨v4, z5⟩ : ∃ x, τ 131 11 = x := ⟨_, rfl⟩
  have r6 : R (0) (4) v4 := rd hI rfl z5
  refine r_aload_n S dX12_takes_0 rfl (lv_at hl 0 rfl) ?_
  refine r_geti (K := 38) S X (Nat.le_of_ble_eq_true rfl) rfl lk12_157_10 (fun _ => ⟨_, rfl, rfl⟩) z5 dX12_takes_1 ?_
  refine r_iconst S dX12_takes_4 (by decide) (fun v7 z8 => ?_)
  have r9 := R_eq z8
  refine r_icmp_eq (tgt := 14) S dX12_takes_5 (by decide) (fun c10 => ?_) (fun c10 => ?_)
  ·
    have r11 : R (2) (2) v4 := ⟨by omega, by omega⟩
    refine r_aload_n S dX12_takes_14 rfl (lv_at hl 0 rfl) ?_
    refine r_getn (K := 38) S X (Nat.le_of_ble_eq_true rfl) rfl lk12_167_10 (fun _ => ⟨_, rfl, rfl⟩) dX12_takes_15 (fun v12 z13 => ?_)
    have r15 := R_any v12
    refine r_iload_n S dX12_takes_18 rfl (lv_at hl 1 rfl) ?_
    refine r_iload_n S dX12_takes_19 rfl (lv_at hl 2 rfl) ?_
    refine r_ki (q_S (As := [.int v12, .int a0, .int a1]) (rest := []) S X (c_X12_isIn_q l G τ hI v12 a0 a1 r15 (R_of (lo := -2147483648) (hi := 2147483647) h_a0 rfl) (R_of (lo := -2147483648) (hi := 2147483647) h_a1 rfl)) ck12_189 ⟨Nat.le_of_ble_eq_true rfl, Nat.le_of_ble_eq_true rfl⟩ rfl hl.1 rfl (Nat.le_of_ble_eq_true rfl) dX12_takes_20 ⟨Nat.le_refl 0, Nat.le_refl 0⟩) X (fun v19 t18 H lc q16 X17 => ?_)
    unfold po_X12_isIn_q at q16
    obtain ⟨q20, q21, q22⟩ := q16
    rw [q20] at X17
    refine r_if_ne (tgt := 32) S dX12_takes_23 (by decide) (fun c23 => ?_) (fun c23 => ?_)
    ·
      have r24 : R (1) (1) v19 := ⟨by omega, by omega⟩
      refine r_aload_n S dX12_takes_32 rfl (lv_at hl 0 rfl) ?_
      refine r_aload_n S dX12_takes_33 rfl (lv_at hl 0 rfl) ?_
      refine r_geti (K := 38) S X17 (Nat.le_of_ble_eq_true rfl) rfl lk12_167_10 (fun _ => ⟨_, rfl, rfl⟩) z13 dX12_takes_34 ?_
      refine r_put (K := 38) (ty := .int) S X17 (Nat.le_of_ble_eq_true rfl) rfl lk12_193_10 (fun _ => ⟨_, rfl, Nat.le_of_ble_eq_true rfl, rfl⟩) (fun _ _ _ h => by cases h; exact ⟨rfl, rfl⟩) rfl rfl dX12_takes_37 (fun t25 H lc M26 X27 => ?_)
      have I28 := Inv_mu hI M26 (R_any v12)
      have F29 : Fr [(131, 15), (131, 16), (131, 4), (131, 11), (131, 12), (131, 13), (131, 14), (131, 18)] [331] τ t25 := Fr_mu Fr_rfl M26 (by decide)
      refine r_aload_n S dX12_takes_40 rfl (lv_at hl 0 rfl) ?_
      refine r_kv (q_V (As := []) (rest := []) (K := 38) (ci := 10) S X27 (c_X12_skip_q l G t25 I28 bb nb 900 fs.1.2.2 (MT_st (RM_fr hR ((M26.2 131 3 (Or.inr (by decide))).trans rfl) ((M26.2 131 4 (Or.inr (by decide))).trans rfl) ((M26.2 131 5 (Or.inr (by decide))).trans rfl) ((M26.2 131 11 (Or.inr (by decide))).trans rfl) ((M26.2 131 12 (Or.inr (by decide))).trans rfl) ((M26.2 131 14 (Or.inr (by decide))).trans rfl) (fun j => ((M26.2 132 j (Or.inl (by decide))).trans rfl)) (fun j => ((M26.2 331 j (Or.inl (by decide))).trans rfl)) ((M26.2 131 20 (Or.inr (by decide))).trans rfl) (fun j => ((M26.2 134 j (Or.inl (by decide))).trans rfl)) (fun j => ((M26.2 336 j (Or.inl (by decide))).trans rfl)) (fun j => ((M26.2 337 j (Or.inl (by decide))).trans rfl))).1 (Or.inr (Or.inl (show fs.1.1 = 2 by have q := MT_k hR.1; rw [z5] at q; omega)))).1 (MT_st (RM_fr hR ((M26.2 131 3 (Or.inr (by decide))).trans rfl) ((M26.2 131 4 (Or.inr (by decide))).trans rfl) ((M26.2 131 5 (Or.inr (by decide))).trans rfl) ((M26.2 131 11 (Or.inr (by decide))).trans rfl) ((M26.2 131 12 (Or.inr (by decide))).trans rfl) ((M26.2 131 14 (Or.inr (by decide))).trans rfl) (fun j => ((M26.2 132 j (Or.inl (by decide))).trans rfl)) (fun j => ((M26.2 331 j (Or.inl (by decide))).trans rfl)) ((M26.2 131 20 (Or.inr (by decide))).trans rfl) (fun j => ((M26.2 134 j (Or.inl (by decide))).trans rfl)) (fun j => ((M26.2 336 j (Or.inl (by decide))).trans rfl)) (fun j => ((M26.2 337 j (Or.inl (by decide))).trans rfl))).1 (Or.inr (Or.inl (show fs.1.1 = 2 by have q := MT_k hR.1; rw [z5] at q; omega)))).2.1 (MT_st (RM_fr hR ((M26.2 131 3 (Or.inr (by decide))).trans rfl) ((M26.2 131 4 (Or.inr (by decide))).trans rfl) ((M26.2 131 5 (Or.inr (by decide))).trans rfl) ((M26.2 131 11 (Or.inr (by decide))).trans rfl) ((M26.2 131 12 (Or.inr (by decide))).trans rfl) ((M26.2 131 14 (Or.inr (by decide))).trans rfl) (fun j => ((M26.2 132 j (Or.inl (by decide))).trans rfl)) (fun j => ((M26.2 331 j (Or.inl (by decide))).trans rfl)) ((M26.2 131 20 (Or.inr (by decide))).trans rfl) (fun j => ((M26.2 134 j (Or.inl (by decide))).trans rfl)) (fun j => ((M26.2 336 j (Or.inl (by decide))).trans rfl)) (fun j => ((M26.2 337 j (Or.inl (by decide))).trans rfl))).1 (Or.inr (Or.inl (show fs.1.1 = 2 by have q := MT_k hR.1; rw [z5] at q; omega)))).2.2) ck12_186 (Nat.le_of_ble_eq_true rfl) rfl (fun _ => ⟨_, rfl⟩) ⟨_, _, rfl⟩ ⟨Nat.le_of_ble_eq_true rfl, Nat.le_of_ble_eq_true rfl⟩ rfl hl.1 rfl (Nat.le_of_ble_eq_true rfl) dX12_takes_41 ⟨Nat.le_refl 0, Nat.le_refl 0⟩) X27 (fun t32 H lc q30 X31 => ?_)
      unfold po_X12_skip_q at q30
      obtain ⟨q33, q34, q35, q36, q37, q38, q39⟩ := q30
      have F40 : Fr [(131, 15), (131, 16), (131, 4), (131, 11), (131, 12), (131, 13), (131, 14), (131, 18)] [331] τ t32 := Fr_call F29 q34 (by decide)
      obtain ⟨v41, z42⟩ : ∃ x, t32 131 4 = x := ⟨_, rfl⟩
      rw [z42] at q35
      obtain ⟨v43, z44⟩ : ∃ x, t32 131 11 = x := ⟨_, rfl⟩
      rw [z44] at q36
      have e45 := congrArg Int32.toInt ((M26.2 131 4 (Or.inr (by decide))).trans z2)
      have e46 := congrArg Int32.toInt z42
      have e47 := congrArg Int32.toInt ((M26.2 131 4 (Or.inr (by decide))).trans z2)
      have e48 := congrArg Int32.toInt z42
      have e49 := congrArg Int32.toInt ((M26.2 131 11 (Or.inr (by decide))).trans z5)
      have e50 := congrArg Int32.toInt z44
      have hR51 : RM bb nb t32 (stp bb nb fs) := ⟨q39, RH_fr hR.2.1 ((q34 131 20 (by decide)).trans ((M26.2 131 20 (Or.inr (by decide))).trans rfl)) (fun j _ => ((q34 134 j (by simp [fz])).trans ((M26.2 134 j (Or.inl (by decide))).trans rfl))) (fun j => ((q34 336 j (by simp [fz])).trans ((M26.2 336 j (Or.inl (by decide))).trans rfl))), RS_fr hR.2.2 (fun j => ((q34 337 j (by simp [fz])).trans ((M26.2 337 j (Or.inl (by decide))).trans rfl)))⟩
      refine r_iconst S dX12_takes_44 (by decide) (fun v52 z53 => ?_)
      have r54 := R_eq z53
      exact r_ret S hr hlk X31 ⟨q33, F40, (R_of r54 rfl), (fun h => (by rw [((q34 131 18 (by decide)).trans M26.1)]; exact ⟨by omega, by omega⟩)), (by rw [z42]; exact R_of q35 rfl), (by rw [z44]; exact R_of q36 rfl), (by have h1_0 := congrArg Int32.toInt z42; have h2_0 := congrArg Int32.toInt z2; omega), (by have h1_0 := congrArg Int32.toInt z44; have h2_0 := congrArg Int32.toInt z5; omega), (QM_r (sNum_g (show fs.1.1 = 2 by have q := MT_k hR.1; rw [z5] at q; omega) (by rw [← MT_nm hR.1 (show fs.1.1 = 2 by have q := MT_k hR.1; rw [z5] at q; omega), z13]; omega)) (by omega) ⟨show (t32 131 18).toInt = nbr bb fs.1 by rw [((q34 131 18 (by decide)).trans M26.1), ← MT_nm hR.1 (show fs.1.1 = 2 by have q := MT_k hR.1; rw [z5] at q; omega), z13], hR51⟩)⟩ (nr_bool (R_of (lo := 0) (hi := 1) r54 rfl)) dX12_takes_45
    ·
      have r55 : R (0) (0) v19 := ⟨by omega, by omega⟩
      refine r_aload_n S dX12_takes_26 rfl (lv_at hl 0 rfl) ?_
      refine r_iconst S dX12_takes_27 (by decide) (fun v56 z57 => ?_)
      have r58 := R_eq z57
      refine r_ki (q_V (As := [.int v56]) (rest := []) (K := 38) (ci := 10) S X17 (c_X12_bad_q l G τ hI v56 (R_of (lo := -2147483648) (hi := 2147483647) r58 rfl)) ck12_183 (Nat.le_of_ble_eq_true rfl) rfl (fun _ => ⟨_, rfl⟩) ⟨_, _, rfl⟩ ⟨Nat.le_of_ble_eq_true rfl, Nat.le_of_ble_eq_true rfl⟩ rfl hl.1 rfl (Nat.le_of_ble_eq_true rfl) dX12_takes_28 ⟨Nat.le_refl 0, Nat.le_refl 0⟩) X17 (fun v62 t61 H lc q59 X60 => ?_)
      unfold po_X12_bad_q at q59
      obtain ⟨q63, q64, q65, q66⟩ := q59
      have F67 : Fr [(131, 15), (131, 16), (131, 4), (131, 11), (131, 12), (131, 13), (131, 14), (131, 18)] [331] τ t61 := Fr_call Fr_rfl q64 (by decide)
      exact r_ret S hr hlk X60 ⟨q63, F67, (R_of q65 rfl), (fun h => by exfalso; omega), (by rw [((q64 131 4 (by decide)).trans z2)]; exact R_of r3 rfl), (by rw [((q64 131 11 (by decide)).trans z5)]; exact R_of r11 rfl), (by have h1_0 := congrArg Int32.toInt ((q64 131 4 (by decide)).trans z2); have h2_0 := congrArg Int32.toInt z2; omega), (by have h1_0 := congrArg Int32.toInt ((q64 131 11 (by decide)).trans z5); have h2_0 := congrArg Int32.toInt z5; omega), (QM_b (sNum_b2 (show fs.1.1 = 2 by have q := MT_k hR.1; rw [z5] at q; omega) (by rw [← MT_nm hR.1 (show fs.1.1 = 2 by have q := MT_k hR.1; rw [z5] at q; omega), z13]; omega)) (by omega) (by rw [q66.1]; omega) (by rw [q66.2]; exact RM_at hR))⟩ (nr_bool (R_of (lo := 0) (hi := 1) q65 rfl)) dX12_takes_31
  ·
    refine r_aload_n S dX12_takes_8 rfl (lv_at hl 0 rfl) ?_
    refine r_iconst S dX12_takes_9 (by decide) (fun v68 z69 => ?_)
    have r70 := R_eq z69
    refine r_ki (q_V (As := [.int v68]) (rest := []) (K := 38) (ci := 10) S X (c_X12_bad_q l G τ hI v68 (R_of (lo := -2147483648) (hi := 2147483647) r70 rfl)) ck12_183 (Nat.le_of_ble_eq_true rfl) rfl (fun _ => ⟨_, rfl⟩) ⟨_, _, rfl⟩ ⟨Nat.le_of_ble_eq_true rfl, Nat.le_of_ble_eq_true rfl⟩ rfl hl.1 rfl (Nat.le_of_ble_eq_true rfl) dX12_takes_10 ⟨Nat.le_refl 0, Nat.le_refl 0⟩) X (fun v74 t73 H lc q71 X72 => ?_)
    unfold po_X12_bad_q at q71
    obtain ⟨q75, q76, q77, q78⟩ := q71
    have F79 : Fr [(131, 15), (131, 16), (131, 4), (131, 11), (131, 12), (131, 13), (131, 14), (131, 18)] [331] τ t73 := Fr_call Fr_rfl q76 (by decide)
    exact r_ret S hr hlk X72 ⟨q75, F79, (R_of q77 rfl), (fun h => by exfalso; omega), (by rw [((q76 131 4 (by decide)).trans z2)]; exact R_of r3 rfl), (by rw [((q76 131 11 (by decide)).trans z5)]; exact R_of r6 rfl), (by have h1_0 := congrArg Int32.toInt ((q76 131 4 (by decide)).trans z2); have h2_0 := congrArg Int32.toInt z2; omega), (by have h1_0 := congrArg Int32.toInt ((q76 131 11 (by decide)).trans z5); have h2_0 := congrArg Int32.toInt z5; omega), (QM_b (sNum_b1 (by have q := MT_k hR.1; rw [z5] at q; omega)) (by omega) (by rw [q78.1]; omega) (by rw [q78.2]; exact RM_at hR))⟩ (nr_bool (R_of (lo := 0) (hi := 1) q77 rfl)) dX12_takes_13
def po_X12_takes_q_0_9 (τ : Tau)  (a0 a1 : Int32)  (bb : Nat → Int) (nb : Nat) (fs : FS) (r : Int32) (u : Tau) : Prop := Inv u ∧ Fr [(131, 15), (131, 16), (131, 4), (131, 11), (131, 12), (131, 13), (131, 14), (131, 18)] [331] τ u ∧ R (0) (1) r ∧ (r.toInt = 1 → R (0) (9) (u 131 18)) ∧ R (0) (940) (u 131 4) ∧ R (0) (4) (u 131 11) ∧ (τ 131 4).toInt ≤ (u 131 4).toInt ∧ (r.toInt = 1 → (τ 131 11).toInt = 2) ∧ QM (sNum bb nb 0 9 fs) r u (fun g => (u 131 18).toInt = g.1 ∧ RM bb nb u g.2)
set_option maxHeartbeats 4000000 in
set_option maxRecDepth 100000 in
theorem c_X12_takes_q_0_9 (l : Launch) (G : Gx) (τ : Tau) (hI : Inv τ) (a0 : Int32) (a1 : Int32) (h_a0 : R (0) (0) a0) (h_a1 : R (9) (9) a1) (bb : Nat → Int) (nb : Nat) (fs : FS) (hR : RM bb nb τ fs) : Ci l G yX12_takes cX12_takes 3 (some .boolean) 2 43 [.ref (G.2.2.2.1 131), .int a0, .int a1] τ (po_X12_takes_q_0_9 τ  a0 a1  bb nb fs) := by
  unfold Ci
  refine C_of (own := RX12) (by decide) rfl (Nat.le_of_ble_eq_true rfl) ?_
  intro p e s m below meth c ls S hr hlk X hl
  have hl : lv_has ls 3 [(0, .ref (G.2.2.2.1 131)), (1, .int a0), (2, .int a1)] := hl
  obtain ⟨v1, z2⟩ : ∃ x, τ 131 4 = x := ⟨_, rfl⟩
  have r3 : R (0) (940) v1 := rd hI rfl z2
  obtain ⟨v4, z5⟩ : ∃ x, τ 131 11 = x := ⟨_, rfl⟩
  have r6 : R (0) (4) v4 := rd hI rfl z5
  refine r_aload_n S dX12_takes_0 rfl (lv_at hl 0 rfl) ?_
  refine r_geti (K := 38) S X (Nat.le_of_ble_eq_true rfl) rfl lk12_157_10 (fun _ => ⟨_, rfl, rfl⟩) z5 dX12_takes_1 ?_
  refine r_iconst S dX12_takes_4 (by decide) (fun v7 z8 => ?_)
  have r9 := R_eq z8
  refine r_icmp_eq (tgt := 14) S dX12_takes_5 (by decide) (fun c10 => ?_) (fun c10 => ?_)
  ·
    have r11 : R (2) (2) v4 := ⟨by omega, by omega⟩
    refine r_aload_n S dX12_takes_14 rfl (lv_at hl 0 rfl) ?_
    refine r_getn (K := 38) S X (Nat.le_of_ble_eq_true rfl) rfl lk12_167_10 (fun _ => ⟨_, rfl, rfl⟩) dX12_takes_15 (fun v12 z13 => ?_)
    have r15 := R_any v12
    refine r_iload_n S dX12_takes_18 rfl (lv_at hl 1 rfl) ?_
    refine r_iload_n S dX12_takes_19 rfl (lv_at hl 2 rfl) ?_
    refine r_ki (q_S (As := [.int v12, .int a0, .int a1]) (rest := []) S X (c_X12_isIn_q l G τ hI v12 a0 a1 r15 (R_of (lo := -2147483648) (hi := 2147483647) h_a0 rfl) (R_of (lo := -2147483648) (hi := 2147483647) h_a1 rfl)) ck12_189 ⟨Nat.le_of_ble_eq_true rfl, Nat.le_of_ble_eq_true rfl⟩ rfl hl.1 rfl (Nat.le_of_ble_eq_true rfl) dX12_takes_20 ⟨Nat.le_refl 0, Nat.le_refl 0⟩) X (fun v19 t18 H lc q16 X17 => ?_)
    unfold po_X12_isIn_q at q16
    obtain ⟨q20, q21, q22⟩ := q16
    rw [q20] at X17
    refine r_if_ne (tgt := 32) S dX12_takes_23 (by decide) (fun c23 => ?_) (fun c23 => ?_)
    ·
      have r24 : R (1) (1) v19 := ⟨by omega, by omega⟩
      refine r_aload_n S dX12_takes_32 rfl (lv_at hl 0 rfl) ?_
      refine r_aload_n S dX12_takes_33 rfl (lv_at hl 0 rfl) ?_
      refine r_geti (K := 38) S X17 (Nat.le_of_ble_eq_true rfl) rfl lk12_167_10 (fun _ => ⟨_, rfl, rfl⟩) z13 dX12_takes_34 ?_
      refine r_put (K := 38) (ty := .int) S X17 (Nat.le_of_ble_eq_true rfl) rfl lk12_193_10 (fun _ => ⟨_, rfl, Nat.le_of_ble_eq_true rfl, rfl⟩) (fun _ _ _ h => by cases h; exact ⟨rfl, rfl⟩) rfl rfl dX12_takes_37 (fun t25 H lc M26 X27 => ?_)
      have I28 := Inv_mu hI M26 (R_any v12)
      have F29 : Fr [(131, 15), (131, 16), (131, 4), (131, 11), (131, 12), (131, 13), (131, 14), (131, 18)] [331] τ t25 := Fr_mu Fr_rfl M26 (by decide)
      refine r_aload_n S dX12_takes_40 rfl (lv_at hl 0 rfl) ?_
      refine r_kv (q_V (As := []) (rest := []) (K := 38) (ci := 10) S X27 (c_X12_skip_q l G t25 I28 bb nb 900 fs.1.2.2 (MT_st (RM_fr hR ((M26.2 131 3 (Or.inr (by decide))).trans rfl) ((M26.2 131 4 (Or.inr (by decide))).trans rfl) ((M26.2 131 5 (Or.inr (by decide))).trans rfl) ((M26.2 131 11 (Or.inr (by decide))).trans rfl) ((M26.2 131 12 (Or.inr (by decide))).trans rfl) ((M26.2 131 14 (Or.inr (by decide))).trans rfl) (fun j => ((M26.2 132 j (Or.inl (by decide))).trans rfl)) (fun j => ((M26.2 331 j (Or.inl (by decide))).trans rfl)) ((M26.2 131 20 (Or.inr (by decide))).trans rfl) (fun j => ((M26.2 134 j (Or.inl (by decide))).trans rfl)) (fun j => ((M26.2 336 j (Or.inl (by decide))).trans rfl)) (fun j => ((M26.2 337 j (Or.inl (by decide))).trans rfl))).1 (Or.inr (Or.inl (show fs.1.1 = 2 by have q := MT_k hR.1; rw [z5] at q; omega)))).1 (MT_st (RM_fr hR ((M26.2 131 3 (Or.inr (by decide))).trans rfl) ((M26.2 131 4 (Or.inr (by decide))).trans rfl) ((M26.2 131 5 (Or.inr (by decide))).trans rfl) ((M26.2 131 11 (Or.inr (by decide))).trans rfl) ((M26.2 131 12 (Or.inr (by decide))).trans rfl) ((M26.2 131 14 (Or.inr (by decide))).trans rfl) (fun j => ((M26.2 132 j (Or.inl (by decide))).trans rfl)) (fun j => ((M26.2 331 j (Or.inl (by decide))).trans rfl)) ((M26.2 131 20 (Or.inr (by decide))).trans rfl) (fun j => ((M26.2 134 j (Or.inl (by decide))).trans rfl)) (fun j => ((M26.2 336 j (Or.inl (by decide))).trans rfl)) (fun j => ((M26.2 337 j (Or.inl (by decide))).trans rfl))).1 (Or.inr (Or.inl (show fs.1.1 = 2 by have q := MT_k hR.1; rw [z5] at q; omega)))).2.1 (MT_st (RM_fr hR ((M26.2 131 3 (Or.inr (by decide))).trans rfl) ((M26.2 131 4 (Or.inr (by decide))).trans rfl) ((M26.2 131 5 (Or.inr (by decide))).trans rfl) ((M26.2 131 11 (Or.inr (by decide))).trans rfl) ((M26.2 131 12 (Or.inr (by decide))).trans rfl) ((M26.2 131 14 (Or.inr (by decide))).trans rfl) (fun j => ((M26.2 132 j (Or.inl (by decide))).trans rfl)) (fun j => ((M26.2 331 j (Or.inl (by decide))).trans rfl)) ((M26.2 131 20 (Or.inr (by decide))).trans rfl) (fun j => ((M26.2 134 j (Or.inl (by decide))).trans rfl)) (fun j => ((M26.2 336 j (Or.inl (by decide))).trans rfl)) (fun j => ((M26.2 337 j (Or.inl (by decide))).trans rfl))).1 (Or.inr (Or.inl (show fs.1.1 = 2 by have q := MT_k hR.1; rw [z5] at q; omega)))).2.2) ck12_186 (Nat.le_of_ble_eq_true rfl) rfl (fun _ => ⟨_, rfl⟩) ⟨_, _, rfl⟩ ⟨Nat.le_of_ble_eq_true rfl, Nat.le_of_ble_eq_true rfl⟩ rfl hl.1 rfl (Nat.le_of_ble_eq_true rfl) dX12_takes_41 ⟨Nat.le_refl 0, Nat.le_refl 0⟩) X27 (fun t32 H lc q30 X31 => ?_)
      unfold po_X12_skip_q at q30
      obtain ⟨q33, q34, q35, q36, q37, q38, q39⟩ := q30
      have F40 : Fr [(131, 15), (131, 16), (131, 4), (131, 11), (131, 12), (131, 13), (131, 14), (131, 18)] [331] τ t32 := Fr_call F29 q34 (by decide)
      obtain ⟨v41, z42⟩ : ∃ x, t32 131 4 = x := ⟨_, rfl⟩
      rw [z42] at q35
      obtain ⟨v43, z44⟩ : ∃ x, t32 131 11 = x := ⟨_, rfl⟩
      rw [z44] at q36
      have e45 := congrArg Int32.toInt ((M26.2 131 4 (Or.inr (by decide))).trans z2)
      have e46 := congrArg Int32.toInt z42
      have e47 := congrArg Int32.toInt ((M26.2 131 4 (Or.inr (by decide))).trans z2)
      have e48 := congrArg Int32.toInt z42
      have e49 := congrArg Int32.toInt ((M26.2 131 11 (Or.inr (by decide))).trans z5)
      have e50 := congrArg Int32.toInt z44
      have hR51 : RM bb nb t32 (stp bb nb fs) := ⟨q39, RH_fr hR.2.1 ((q34 131 20 (by decide)).trans ((M26.2 131 20 (Or.inr (by decide))).trans rfl)) (fun j _ => ((q34 134 j (by simp [fz])).trans ((M26.2 134 j (Or.inl (by decide))).trans rfl))) (fun j => ((q34 336 j (by simp [fz])).trans ((M26.2 336 j (Or.inl (by decide))).trans rfl))), RS_fr hR.2.2 (fun j => ((q34 337 j (by simp [fz])).trans ((M26.2 337 j (Or.inl (by decide))).trans rfl)))⟩
      refine r_iconst S dX12_takes_44 (by decide) (fun v52 z53 => ?_)
      have r54 := R_eq z53
      exact r_ret S hr hlk X31 ⟨q33, F40, (R_of r54 rfl), (fun h => (by rw [((q34 131 18 (by decide)).trans M26.1)]; exact ⟨by omega, by omega⟩)), (by rw [z42]; exact R_of q35 rfl), (by rw [z44]; exact R_of q36 rfl), (by have h1_0 := congrArg Int32.toInt z42; have h2_0 := congrArg Int32.toInt z2; omega), (by have h1_0 := congrArg Int32.toInt z44; have h2_0 := congrArg Int32.toInt z5; omega), (QM_r (sNum_g (show fs.1.1 = 2 by have q := MT_k hR.1; rw [z5] at q; omega) (by rw [← MT_nm hR.1 (show fs.1.1 = 2 by have q := MT_k hR.1; rw [z5] at q; omega), z13]; omega)) (by omega) ⟨show (t32 131 18).toInt = nbr bb fs.1 by rw [((q34 131 18 (by decide)).trans M26.1), ← MT_nm hR.1 (show fs.1.1 = 2 by have q := MT_k hR.1; rw [z5] at q; omega), z13], hR51⟩)⟩ (nr_bool (R_of (lo := 0) (hi := 1) r54 rfl)) dX12_takes_45
    ·
      have r55 : R (0) (0) v19 := ⟨by omega, by omega⟩
      refine r_aload_n S dX12_takes_26 rfl (lv_at hl 0 rfl) ?_
      refine r_iconst S dX12_takes_27 (by decide) (fun v56 z57 => ?_)
      have r58 := R_eq z57
      refine r_ki (q_V (As := [.int v56]) (rest := []) (K := 38) (ci := 10) S X17 (c_X12_bad_q l G τ hI v56 (R_of (lo := -2147483648) (hi := 2147483647) r58 rfl)) ck12_183 (Nat.le_of_ble_eq_true rfl) rfl (fun _ => ⟨_, rfl⟩) ⟨_, _, rfl⟩ ⟨Nat.le_of_ble_eq_true rfl, Nat.le_of_ble_eq_true rfl⟩ rfl hl.1 rfl (Nat.le_of_ble_eq_true rfl) dX12_takes_28 ⟨Nat.le_refl 0, Nat.le_refl 0⟩) X17 (fun v62 t61 H lc q59 X60 => ?_)
      unfold po_X12_bad_q at q59
      obtain ⟨q63, q64, q65, q66⟩ := q59
      have F67 : Fr [(131, 15), (131, 16), (131, 4), (131, 11), (131, 12), (131, 13), (131, 14), (131, 18)] [331] τ t61 := Fr_call Fr_rfl q64 (by decide)
      exact r_ret S hr hlk X60 ⟨q63, F67, (R_of q65 rfl), (fun h => by exfalso; omega), (by rw [((q64 131 4 (by decide)).trans z2)]; exact R_of r3 rfl), (by rw [((q64 131 11 (by decide)).trans z5)]; exact R_of r11 rfl), (by have h1_0 := congrArg Int32.toInt ((q64 131 4 (by decide)).trans z2); have h2_0 := congrArg Int32.toInt z2; omega), (by have h1_0 := congrArg Int32.toInt ((q64 131 11 (by decide)).trans z5); have h2_0 := congrArg Int32.toInt z5; omega), (QM_b (sNum_b2 (show fs.1.1 = 2 by have q := MT_k hR.1; rw [z5] at q; omega) (by rw [← MT_nm hR.1 (show fs.1.1 = 2 by have q := MT_k hR.1; rw [z5] at q; omega), z13]; omega)) (by omega) (by rw [q66.1]; omega) (by rw [q66.2]; exact RM_at hR))⟩ (nr_bool (R_of (lo := 0) (hi := 1) q65 rfl)) dX12_takes_31
  ·
    refine r_aload_n S dX12_takes_8 rfl (lv_at hl 0 rfl) ?_
    refine r_iconst S dX12_takes_9 (by decide) (fun v68 z69 => ?_)
    have r70 := R_eq z69
    refine r_ki (q_V (As := [.int v68]) (rest := []) (K := 38) (ci := 10) S X (c_X12_bad_q l G τ hI v68 (R_of (lo := -2147483648) (hi := 2147483647) r70 rfl)) ck12_183 (Nat.le_of_ble_eq_true rfl) rfl (fun _ => ⟨_, rfl⟩) ⟨_, _, rfl⟩ ⟨Nat.le_of_ble_eq_true rfl, Nat.le_of_ble_eq_true rfl⟩ rfl hl.1 rfl (Nat.le_of_ble_eq_true rfl) dX12_takes_10 ⟨Nat.le_refl 0, Nat.le_refl 0⟩) X (fun v74 t73 H lc q71 X72 => ?_)
    unfold po_X12_bad_q at q71
    obtain ⟨q75, q76, q77, q78⟩ := q71
    have F79 : Fr [(131, 15), (131, 16), (131, 4), (131, 11), (131, 12), (131, 13), (131, 14), (131, 18)] [331] τ t73 := Fr_call Fr_rfl q76 (by decide)
    exact r_ret S hr hlk X72 ⟨q75, F79, (R_of q77 rfl), (fun h => by exfalso; omega), (by rw [((q76 131 4 (by decide)).trans z2)]; exact R_of r3 rfl), (by rw [((q76 131 11 (by decide)).trans z5)]; exact R_of r6 rfl), (by have h1_0 := congrArg Int32.toInt ((q76 131 4 (by decide)).trans z2); have h2_0 := congrArg Int32.toInt z2; omega), (by have h1_0 := congrArg Int32.toInt ((q76 131 11 (by decide)).trans z5); have h2_0 := congrArg Int32.toInt z5; omega), (QM_b (sNum_b1 (by have q := MT_k hR.1; rw [z5] at q; omega)) (by omega) (by rw [q78.1]; omega) (by rw [q78.2]; exact RM_at hR))⟩ (nr_bool (R_of (lo := 0) (hi := 1) q77 rfl)) dX12_takes_13
def po_X12_takes_q_0_20 (τ : Tau)  (a0 a1 : Int32)  (bb : Nat → Int) (nb : Nat) (fs : FS) (r : Int32) (u : Tau) : Prop := Inv u ∧ Fr [(131, 15), (131, 16), (131, 4), (131, 11), (131, 12), (131, 13), (131, 14), (131, 18)] [331] τ u ∧ R (0) (1) r ∧ (r.toInt = 1 → R (0) (20) (u 131 18)) ∧ R (0) (940) (u 131 4) ∧ R (0) (4) (u 131 11) ∧ (τ 131 4).toInt ≤ (u 131 4).toInt ∧ (r.toInt = 1 → (τ 131 11).toInt = 2) ∧ QM (sNum bb nb 0 20 fs) r u (fun g => (u 131 18).toInt = g.1 ∧ RM bb nb u g.2)
set_option maxHeartbeats 4000000 in
set_option maxRecDepth 100000 in
theorem c_X12_takes_q_0_20 (l : Launch) (G : Gx) (τ : Tau) (hI : Inv τ) (a0 : Int32) (a1 : Int32) (h_a0 : R (0) (0) a0) (h_a1 : R (20) (20) a1) (bb : Nat → Int) (nb : Nat) (fs : FS) (hR : RM bb nb τ fs) : Ci l G yX12_takes cX12_takes 3 (some .boolean) 2 43 [.ref (G.2.2.2.1 131), .int a0, .int a1] τ (po_X12_takes_q_0_20 τ  a0 a1  bb nb fs) := by
  unfold Ci
  refine C_of (own := RX12) (by decide) rfl (Nat.le_of_ble_eq_true rfl) ?_
  intro p e s m below meth c ls S hr hlk X hl
  have hl : lv_has ls 3 [(0, .ref (G.2.2.2.1 131)), (1, .int a0), (2, .int a1)] := hl
  obtain ⟨v1, z2⟩ : ∃ x, τ 131 4 = x := ⟨_, rfl⟩
  have r3 : R (0) (940) v1 := rd hI rfl z2
  obtain ⟨v4, z5⟩ : ∃ x, τ 131 11 = x := ⟨_, rfl⟩
  have r6 : R (0) (4) v4 := rd hI rfl z5
  refine r_aload_n S dX12_takes_0 rfl (lv_at hl 0 rfl) ?_
  refine r_geti (K := 38) S X (Nat.le_of_ble_eq_true rfl) rfl lk12_157_10 (fun _ => ⟨_, rfl, rfl⟩) z5 dX12_takes_1 ?_
  refine r_iconst S dX12_takes_4 (by decide) (fun v7 z8 => ?_)
  have r9 := R_eq z8
  refine r_icmp_eq (tgt := 14) S dX12_takes_5 (by decide) (fun c10 => ?_) (fun c10 => ?_)
  ·
    have r11 : R (2) (2) v4 := ⟨by omega, by omega⟩
    refine r_aload_n S dX12_takes_14 rfl (lv_at hl 0 rfl) ?_
    refine r_getn (K := 38) S X (Nat.le_of_ble_eq_true rfl) rfl lk12_167_10 (fun _ => ⟨_, rfl, rfl⟩) dX12_takes_15 (fun v12 z13 => ?_)
    have r15 := R_any v12
    refine r_iload_n S dX12_takes_18 rfl (lv_at hl 1 rfl) ?_
    refine r_iload_n S dX12_takes_19 rfl (lv_at hl 2 rfl) ?_
    refine r_ki (q_S (As := [.int v12, .int a0, .int a1]) (rest := []) S X (c_X12_isIn_q l G τ hI v12 a0 a1 r15 (R_of (lo := -2147483648) (hi := 2147483647) h_a0 rfl) (R_of (lo := -2147483648) (hi := 2147483647) h_a1 rfl)) ck12_189 ⟨Nat.le_of_ble_eq_true rfl, Nat.le_of_ble_eq_true rfl⟩ rfl hl.1 rfl (Nat.le_of_ble_eq_true rfl) dX12_takes_20 ⟨Nat.le_refl 0, Nat.le_refl 0⟩) X (fun v19 t18 H lc q16 X17 => ?_)
    unfold po_X12_isIn_q at q16
    obtain ⟨q20, q21, q22⟩ := q16
    rw [q20] at X17
    refine r_if_ne (tgt := 32) S dX12_takes_23 (by decide) (fun c23 => ?_) (fun c23 => ?_)
    ·
      have r24 : R (1) (1) v19 := ⟨by omega, by omega⟩
      refine r_aload_n S dX12_takes_32 rfl (lv_at hl 0 rfl) ?_
      refine r_aload_n S dX12_takes_33 rfl (lv_at hl 0 rfl) ?_
      refine r_geti (K := 38) S X17 (Nat.le_of_ble_eq_true rfl) rfl lk12_167_10 (fun _ => ⟨_, rfl, rfl⟩) z13 dX12_takes_34 ?_
      refine r_put (K := 38) (ty := .int) S X17 (Nat.le_of_ble_eq_true rfl) rfl lk12_193_10 (fun _ => ⟨_, rfl, Nat.le_of_ble_eq_true rfl, rfl⟩) (fun _ _ _ h => by cases h; exact ⟨rfl, rfl⟩) rfl rfl dX12_takes_37 (fun t25 H lc M26 X27 => ?_)
      have I28 := Inv_mu hI M26 (R_any v12)
      have F29 : Fr [(131, 15), (131, 16), (131, 4), (131, 11), (131, 12), (131, 13), (131, 14), (131, 18)] [331] τ t25 := Fr_mu Fr_rfl M26 (by decide)
      refine r_aload_n S dX12_takes_40 rfl (lv_at hl 0 rfl) ?_
      refine r_kv (q_V (As := []) (rest := []) (K := 38) (ci := 10) S X27 (c_X12_skip_q l G t25 I28 bb nb 900 fs.1.2.2 (MT_st (RM_fr hR ((M26.2 131 3 (Or.inr (by decide))).trans rfl) ((M26.2 131 4 (Or.inr (by decide))).trans rfl) ((M26.2 131 5 (Or.inr (by decide))).trans rfl) ((M26.2 131 11 (Or.inr (by decide))).trans rfl) ((M26.2 131 12 (Or.inr (by decide))).trans rfl) ((M26.2 131 14 (Or.inr (by decide))).trans rfl) (fun j => ((M26.2 132 j (Or.inl (by decide))).trans rfl)) (fun j => ((M26.2 331 j (Or.inl (by decide))).trans rfl)) ((M26.2 131 20 (Or.inr (by decide))).trans rfl) (fun j => ((M26.2 134 j (Or.inl (by decide))).trans rfl)) (fun j => ((M26.2 336 j (Or.inl (by decide))).trans rfl)) (fun j => ((M26.2 337 j (Or.inl (by decide))).trans rfl))).1 (Or.inr (Or.inl (show fs.1.1 = 2 by have q := MT_k hR.1; rw [z5] at q; omega)))).1 (MT_st (RM_fr hR ((M26.2 131 3 (Or.inr (by decide))).trans rfl) ((M26.2 131 4 (Or.inr (by decide))).trans rfl) ((M26.2 131 5 (Or.inr (by decide))).trans rfl) ((M26.2 131 11 (Or.inr (by decide))).trans rfl) ((M26.2 131 12 (Or.inr (by decide))).trans rfl) ((M26.2 131 14 (Or.inr (by decide))).trans rfl) (fun j => ((M26.2 132 j (Or.inl (by decide))).trans rfl)) (fun j => ((M26.2 331 j (Or.inl (by decide))).trans rfl)) ((M26.2 131 20 (Or.inr (by decide))).trans rfl) (fun j => ((M26.2 134 j (Or.inl (by decide))).trans rfl)) (fun j => ((M26.2 336 j (Or.inl (by decide))).trans rfl)) (fun j => ((M26.2 337 j (Or.inl (by decide))).trans rfl))).1 (Or.inr (Or.inl (show fs.1.1 = 2 by have q := MT_k hR.1; rw [z5] at q; omega)))).2.1 (MT_st (RM_fr hR ((M26.2 131 3 (Or.inr (by decide))).trans rfl) ((M26.2 131 4 (Or.inr (by decide))).trans rfl) ((M26.2 131 5 (Or.inr (by decide))).trans rfl) ((M26.2 131 11 (Or.inr (by decide))).trans rfl) ((M26.2 131 12 (Or.inr (by decide))).trans rfl) ((M26.2 131 14 (Or.inr (by decide))).trans rfl) (fun j => ((M26.2 132 j (Or.inl (by decide))).trans rfl)) (fun j => ((M26.2 331 j (Or.inl (by decide))).trans rfl)) ((M26.2 131 20 (Or.inr (by decide))).trans rfl) (fun j => ((M26.2 134 j (Or.inl (by decide))).trans rfl)) (fun j => ((M26.2 336 j (Or.inl (by decide))).trans rfl)) (fun j => ((M26.2 337 j (Or.inl (by decide))).trans rfl))).1 (Or.inr (Or.inl (show fs.1.1 = 2 by have q := MT_k hR.1; rw [z5] at q; omega)))).2.2) ck12_186 (Nat.le_of_ble_eq_true rfl) rfl (fun _ => ⟨_, rfl⟩) ⟨_, _, rfl⟩ ⟨Nat.le_of_ble_eq_true rfl, Nat.le_of_ble_eq_true rfl⟩ rfl hl.1 rfl (Nat.le_of_ble_eq_true rfl) dX12_takes_41 ⟨Nat.le_refl 0, Nat.le_refl 0⟩) X27 (fun t32 H lc q30 X31 => ?_)
      unfold po_X12_skip_q at q30
      obtain ⟨q33, q34, q35, q36, q37, q38, q39⟩ := q30
      have F40 : Fr [(131, 15), (131, 16), (131, 4), (131, 11), (131, 12), (131, 13), (131, 14), (131, 18)] [331] τ t32 := Fr_call F29 q34 (by decide)
      obtain ⟨v41, z42⟩ : ∃ x, t32 131 4 = x := ⟨_, rfl⟩
      rw [z42] at q35
      obtain ⟨v43, z44⟩ : ∃ x, t32 131 11 = x := ⟨_, rfl⟩
      rw [z44] at q36
      have e45 := congrArg Int32.toInt ((M26.2 131 4 (Or.inr (by decide))).trans z2)
      have e46 := congrArg Int32.toInt z42
      have e47 := congrArg Int32.toInt ((M26.2 131 4 (Or.inr (by decide))).trans z2)
      have e48 := congrArg Int32.toInt z42
      have e49 := congrArg Int32.toInt ((M26.2 131 11 (Or.inr (by decide))).trans z5)
      have e50 := congrArg Int32.toInt z44
      have hR51 : RM bb nb t32 (stp bb nb fs) := ⟨q39, RH_fr hR.2.1 ((q34 131 20 (by decide)).trans ((M26.2 131 20 (Or.inr (by decide))).trans rfl)) (fun j _ => ((q34 134 j (by simp [fz])).trans ((M26.2 134 j (Or.inl (by decide))).trans rfl))) (fun j => ((q34 336 j (by simp [fz])).trans ((M26.2 336 j (Or.inl (by decide))).trans rfl))), RS_fr hR.2.2 (fun j => ((q34 337 j (by simp [fz])).trans ((M26.2 337 j (Or.inl (by decide))).trans rfl)))⟩
      refine r_iconst S dX12_takes_44 (by decide) (fun v52 z53 => ?_)
      have r54 := R_eq z53
      exact r_ret S hr hlk X31 ⟨q33, F40, (R_of r54 rfl), (fun h => (by rw [((q34 131 18 (by decide)).trans M26.1)]; exact ⟨by omega, by omega⟩)), (by rw [z42]; exact R_of q35 rfl), (by rw [z44]; exact R_of q36 rfl), (by have h1_0 := congrArg Int32.toInt z42; have h2_0 := congrArg Int32.toInt z2; omega), (by have h1_0 := congrArg Int32.toInt z44; have h2_0 := congrArg Int32.toInt z5; omega), (QM_r (sNum_g (show fs.1.1 = 2 by have q := MT_k hR.1; rw [z5] at q; omega) (by rw [← MT_nm hR.1 (show fs.1.1 = 2 by have q := MT_k hR.1; rw [z5] at q; omega), z13]; omega)) (by omega) ⟨show (t32 131 18).toInt = nbr bb fs.1 by rw [((q34 131 18 (by decide)).trans M26.1), ← MT_nm hR.1 (show fs.1.1 = 2 by have q := MT_k hR.1; rw [z5] at q; omega), z13], hR51⟩)⟩ (nr_bool (R_of (lo := 0) (hi := 1) r54 rfl)) dX12_takes_45
    ·
      have r55 : R (0) (0) v19 := ⟨by omega, by omega⟩
      refine r_aload_n S dX12_takes_26 rfl (lv_at hl 0 rfl) ?_
      refine r_iconst S dX12_takes_27 (by decide) (fun v56 z57 => ?_)
      have r58 := R_eq z57
      refine r_ki (q_V (As := [.int v56]) (rest := []) (K := 38) (ci := 10) S X17 (c_X12_bad_q l G τ hI v56 (R_of (lo := -2147483648) (hi := 2147483647) r58 rfl)) ck12_183 (Nat.le_of_ble_eq_true rfl) rfl (fun _ => ⟨_, rfl⟩) ⟨_, _, rfl⟩ ⟨Nat.le_of_ble_eq_true rfl, Nat.le_of_ble_eq_true rfl⟩ rfl hl.1 rfl (Nat.le_of_ble_eq_true rfl) dX12_takes_28 ⟨Nat.le_refl 0, Nat.le_refl 0⟩) X17 (fun v62 t61 H lc q59 X60 => ?_)
      unfold po_X12_bad_q at q59
      obtain ⟨q63, q64, q65, q66⟩ := q59
      have F67 : Fr [(131, 15), (131, 16), (131, 4), (131, 11), (131, 12), (131, 13), (131, 14), (131, 18)] [331] τ t61 := Fr_call Fr_rfl q64 (by decide)
      exact r_ret S hr hlk X60 ⟨q63, F67, (R_of q65 rfl), (fun h => by exfalso; omega), (by rw [((q64 131 4 (by decide)).trans z2)]; exact R_of r3 rfl), (by rw [((q64 131 11 (by decide)).trans z5)]; exact R_of r11 rfl), (by have h1_0 := congrArg Int32.toInt ((q64 131 4 (by decide)).trans z2); have h2_0 := congrArg Int32.toInt z2; omega), (by have h1_0 := congrArg Int32.toInt ((q64 131 11 (by decide)).trans z5); have h2_0 := congrArg Int32.toInt z5; omega), (QM_b (sNum_b2 (show fs.1.1 = 2 by have q := MT_k hR.1; rw [z5] at q; omega) (by rw [← MT_nm hR.1 (show fs.1.1 = 2 by have q := MT_k hR.1; rw [z5] at q; omega), z13]; omega)) (by omega) (by rw [q66.1]; omega) (by rw [q66.2]; exact RM_at hR))⟩ (nr_bool (R_of (lo := 0) (hi := 1) q65 rfl)) dX12_takes_31
  ·
    refine r_aload_n S dX12_takes_8 rfl (lv_at hl 0 rfl) ?_
    refine r_iconst S dX12_takes_9 (by decide) (fun v68 z69 => ?_)
    have r70 := R_eq z69
    refine r_ki (q_V (As := [.int v68]) (rest := []) (K := 38) (ci := 10) S X (c_X12_bad_q l G τ hI v68 (R_of (lo := -2147483648) (hi := 2147483647) r70 rfl)) ck12_183 (Nat.le_of_ble_eq_true rfl) rfl (fun _ => ⟨_, rfl⟩) ⟨_, _, rfl⟩ ⟨Nat.le_of_ble_eq_true rfl, Nat.le_of_ble_eq_true rfl⟩ rfl hl.1 rfl (Nat.le_of_ble_eq_true rfl) dX12_takes_10 ⟨Nat.le_refl 0, Nat.le_refl 0⟩) X (fun v74 t73 H lc q71 X72 => ?_)
    unfold po_X12_bad_q at q71
    obtain ⟨q75, q76, q77, q78⟩ := q71
    have F79 : Fr [(131, 15), (131, 16), (131, 4), (131, 11), (131, 12), (131, 13), (131, 14), (131, 18)] [331] τ t73 := Fr_call Fr_rfl q76 (by decide)
    exact r_ret S hr hlk X72 ⟨q75, F79, (R_of q77 rfl), (fun h => by exfalso; omega), (by rw [((q76 131 4 (by decide)).trans z2)]; exact R_of r3 rfl), (by rw [((q76 131 11 (by decide)).trans z5)]; exact R_of r6 rfl), (by have h1_0 := congrArg Int32.toInt ((q76 131 4 (by decide)).trans z2); have h2_0 := congrArg Int32.toInt z2; omega), (by have h1_0 := congrArg Int32.toInt ((q76 131 11 (by decide)).trans z5); have h2_0 := congrArg Int32.toInt z5; omega), (QM_b (sNum_b1 (by have q := MT_k hR.1; rw [z5] at q; omega)) (by omega) (by rw [q78.1]; omega) (by rw [q78.2]; exact RM_at hR))⟩ (nr_bool (R_of (lo := 0) (hi := 1) q77 rfl)) dX12_takes_13
def po_X12_takes_q_1_9 (τ : Tau)  (a0 a1 : Int32)  (bb : Nat → Int) (nb : Nat) (fs : FS) (r : Int32) (u : Tau) : Prop := Inv u ∧ Fr [(131, 15), (131, 16), (131, 4), (131, 11), (131, 12), (131, 13), (131, 14), (131, 18)] [331] τ u ∧ R (0) (1) r ∧ (r.toInt = 1 → R (1) (9) (u 131 18)) ∧ R (0) (940) (u 131 4) ∧ R (0) (4) (u 131 11) ∧ (τ 131 4).toInt ≤ (u 131 4).toInt ∧ (r.toInt = 1 → (τ 131 11).toInt = 2) ∧ QM (sNum bb nb 1 9 fs) r u (fun g => (u 131 18).toInt = g.1 ∧ RM bb nb u g.2)
set_option maxHeartbeats 4000000 in
set_option maxRecDepth 100000 in
theorem c_X12_takes_q_1_9 (l : Launch) (G : Gx) (τ : Tau) (hI : Inv τ) (a0 : Int32) (a1 : Int32) (h_a0 : R (1) (1) a0) (h_a1 : R (9) (9) a1) (bb : Nat → Int) (nb : Nat) (fs : FS) (hR : RM bb nb τ fs) : Ci l G yX12_takes cX12_takes 3 (some .boolean) 2 43 [.ref (G.2.2.2.1 131), .int a0, .int a1] τ (po_X12_takes_q_1_9 τ  a0 a1  bb nb fs) := by
  unfold Ci
  refine C_of (own := RX12) (by decide) rfl (Nat.le_of_ble_eq_true rfl) ?_
  intro p e s m below meth c ls S hr hlk X hl
  have hl : lv_has ls 3 [(0, .ref (G.2.2.2.1 131)), (1, .int a0), (2, .int a1)] := hl
  obtain ⟨v1, z2⟩ : ∃ x, τ 131 4 = x := ⟨_, rfl⟩
  have r3 : R (0) (940) v1 := rd hI rfl z2
  obtain ⟨v4, z5⟩ : ∃ x, τ 131 11 = x := ⟨_, rfl⟩
  have r6 : R (0) (4) v4 := rd hI rfl z5
  refine r_aload_n S dX12_takes_0 rfl (lv_at hl 0 rfl) ?_
  refine r_geti (K := 38) S X (Nat.le_of_ble_eq_true rfl) rfl lk12_157_10 (fun _ => ⟨_, rfl, rfl⟩) z5 dX12_takes_1 ?_
  refine r_iconst S dX12_takes_4 (by decide) (fun v7 z8 => ?_)
  have r9 := R_eq z8
  refine r_icmp_eq (tgt := 14) S dX12_takes_5 (by decide) (fun c10 => ?_) (fun c10 => ?_)
  ·
    have r11 : R (2) (2) v4 := ⟨by omega, by omega⟩
    refine r_aload_n S dX12_takes_14 rfl (lv_at hl 0 rfl) ?_
    refine r_getn (K := 38) S X (Nat.le_of_ble_eq_true rfl) rfl lk12_167_10 (fun _ => ⟨_, rfl, rfl⟩) dX12_takes_15 (fun v12 z13 => ?_)
    have r15 := R_any v12
    refine r_iload_n S dX12_takes_18 rfl (lv_at hl 1 rfl) ?_
    refine r_iload_n S dX12_takes_19 rfl (lv_at hl 2 rfl) ?_
    refine r_ki (q_S (As := [.int v12, .int a0, .int a1]) (rest := []) S X (c_X12_isIn_q l G τ hI v12 a0 a1 r15 (R_of (lo := -2147483648) (hi := 2147483647) h_a0 rfl) (R_of (lo := -2147483648) (hi := 2147483647) h_a1 rfl)) ck12_189 ⟨Nat.le_of_ble_eq_true rfl, Nat.le_of_ble_eq_true rfl⟩ rfl hl.1 rfl (Nat.le_of_ble_eq_true rfl) dX12_takes_20 ⟨Nat.le_refl 0, Nat.le_refl 0⟩) X (fun v19 t18 H lc q16 X17 => ?_)
    unfold po_X12_isIn_q at q16
    obtain ⟨q20, q21, q22⟩ := q16
    rw [q20] at X17
    refine r_if_ne (tgt := 32) S dX12_takes_23 (by decide) (fun c23 => ?_) (fun c23 => ?_)
    ·
      have r24 : R (1) (1) v19 := ⟨by omega, by omega⟩
      refine r_aload_n S dX12_takes_32 rfl (lv_at hl 0 rfl) ?_
      refine r_aload_n S dX12_takes_33 rfl (lv_at hl 0 rfl) ?_
      refine r_geti (K := 38) S X17 (Nat.le_of_ble_eq_true rfl) rfl lk12_167_10 (fun _ => ⟨_, rfl, rfl⟩) z13 dX12_takes_34 ?_
      refine r_put (K := 38) (ty := .int) S X17 (Nat.le_of_ble_eq_true rfl) rfl lk12_193_10 (fun _ => ⟨_, rfl, Nat.le_of_ble_eq_true rfl, rfl⟩) (fun _ _ _ h => by cases h; exact ⟨rfl, rfl⟩) rfl rfl dX12_takes_37 (fun t25 H lc M26 X27 => ?_)
      have I28 := Inv_mu hI M26 (R_any v12)
      have F29 : Fr [(131, 15), (131, 16), (131, 4), (131, 11), (131, 12), (131, 13), (131, 14), (131, 18)] [331] τ t25 := Fr_mu Fr_rfl M26 (by decide)
      refine r_aload_n S dX12_takes_40 rfl (lv_at hl 0 rfl) ?_
      refine r_kv (q_V (As := []) (rest := []) (K := 38) (ci := 10) S X27 (c_X12_skip_q l G t25 I28 bb nb 900 fs.1.2.2 (MT_st (RM_fr hR ((M26.2 131 3 (Or.inr (by decide))).trans rfl) ((M26.2 131 4 (Or.inr (by decide))).trans rfl) ((M26.2 131 5 (Or.inr (by decide))).trans rfl) ((M26.2 131 11 (Or.inr (by decide))).trans rfl) ((M26.2 131 12 (Or.inr (by decide))).trans rfl) ((M26.2 131 14 (Or.inr (by decide))).trans rfl) (fun j => ((M26.2 132 j (Or.inl (by decide))).trans rfl)) (fun j => ((M26.2 331 j (Or.inl (by decide))).trans rfl)) ((M26.2 131 20 (Or.inr (by decide))).trans rfl) (fun j => ((M26.2 134 j (Or.inl (by decide))).trans rfl)) (fun j => ((M26.2 336 j (Or.inl (by decide))).trans rfl)) (fun j => ((M26.2 337 j (Or.inl (by decide))).trans rfl))).1 (Or.inr (Or.inl (show fs.1.1 = 2 by have q := MT_k hR.1; rw [z5] at q; omega)))).1 (MT_st (RM_fr hR ((M26.2 131 3 (Or.inr (by decide))).trans rfl) ((M26.2 131 4 (Or.inr (by decide))).trans rfl) ((M26.2 131 5 (Or.inr (by decide))).trans rfl) ((M26.2 131 11 (Or.inr (by decide))).trans rfl) ((M26.2 131 12 (Or.inr (by decide))).trans rfl) ((M26.2 131 14 (Or.inr (by decide))).trans rfl) (fun j => ((M26.2 132 j (Or.inl (by decide))).trans rfl)) (fun j => ((M26.2 331 j (Or.inl (by decide))).trans rfl)) ((M26.2 131 20 (Or.inr (by decide))).trans rfl) (fun j => ((M26.2 134 j (Or.inl (by decide))).trans rfl)) (fun j => ((M26.2 336 j (Or.inl (by decide))).trans rfl)) (fun j => ((M26.2 337 j (Or.inl (by decide))).trans rfl))).1 (Or.inr (Or.inl (show fs.1.1 = 2 by have q := MT_k hR.1; rw [z5] at q; omega)))).2.1 (MT_st (RM_fr hR ((M26.2 131 3 (Or.inr (by decide))).trans rfl) ((M26.2 131 4 (Or.inr (by decide))).trans rfl) ((M26.2 131 5 (Or.inr (by decide))).trans rfl) ((M26.2 131 11 (Or.inr (by decide))).trans rfl) ((M26.2 131 12 (Or.inr (by decide))).trans rfl) ((M26.2 131 14 (Or.inr (by decide))).trans rfl) (fun j => ((M26.2 132 j (Or.inl (by decide))).trans rfl)) (fun j => ((M26.2 331 j (Or.inl (by decide))).trans rfl)) ((M26.2 131 20 (Or.inr (by decide))).trans rfl) (fun j => ((M26.2 134 j (Or.inl (by decide))).trans rfl)) (fun j => ((M26.2 336 j (Or.inl (by decide))).trans rfl)) (fun j => ((M26.2 337 j (Or.inl (by decide))).trans rfl))).1 (Or.inr (Or.inl (show fs.1.1 = 2 by have q := MT_k hR.1; rw [z5] at q; omega)))).2.2) ck12_186 (Nat.le_of_ble_eq_true rfl) rfl (fun _ => ⟨_, rfl⟩) ⟨_, _, rfl⟩ ⟨Nat.le_of_ble_eq_true rfl, Nat.le_of_ble_eq_true rfl⟩ rfl hl.1 rfl (Nat.le_of_ble_eq_true rfl) dX12_takes_41 ⟨Nat.le_refl 0, Nat.le_refl 0⟩) X27 (fun t32 H lc q30 X31 => ?_)
      unfold po_X12_skip_q at q30
      obtain ⟨q33, q34, q35, q36, q37, q38, q39⟩ := q30
      have F40 : Fr [(131, 15), (131, 16), (131, 4), (131, 11), (131, 12), (131, 13), (131, 14), (131, 18)] [331] τ t32 := Fr_call F29 q34 (by decide)
      obtain ⟨v41, z42⟩ : ∃ x, t32 131 4 = x := ⟨_, rfl⟩
      rw [z42] at q35
      obtain ⟨v43, z44⟩ : ∃ x, t32 131 11 = x := ⟨_, rfl⟩
      rw [z44] at q36
      have e45 := congrArg Int32.toInt ((M26.2 131 4 (Or.inr (by decide))).trans z2)
      have e46 := congrArg Int32.toInt z42
      have e47 := congrArg Int32.toInt ((M26.2 131 4 (Or.inr (by decide))).trans z2)
      have e48 := congrArg Int32.toInt z42
      have e49 := congrArg Int32.toInt ((M26.2 131 11 (Or.inr (by decide))).trans z5)
      have e50 := congrArg Int32.toInt z44
      have hR51 : RM bb nb t32 (stp bb nb fs) := ⟨q39, RH_fr hR.2.1 ((q34 131 20 (by decide)).trans ((M26.2 131 20 (Or.inr (by decide))).trans rfl)) (fun j _ => ((q34 134 j (by simp [fz])).trans ((M26.2 134 j (Or.inl (by decide))).trans rfl))) (fun j => ((q34 336 j (by simp [fz])).trans ((M26.2 336 j (Or.inl (by decide))).trans rfl))), RS_fr hR.2.2 (fun j => ((q34 337 j (by simp [fz])).trans ((M26.2 337 j (Or.inl (by decide))).trans rfl)))⟩
      refine r_iconst S dX12_takes_44 (by decide) (fun v52 z53 => ?_)
      have r54 := R_eq z53
      exact r_ret S hr hlk X31 ⟨q33, F40, (R_of r54 rfl), (fun h => (by rw [((q34 131 18 (by decide)).trans M26.1)]; exact ⟨by omega, by omega⟩)), (by rw [z42]; exact R_of q35 rfl), (by rw [z44]; exact R_of q36 rfl), (by have h1_0 := congrArg Int32.toInt z42; have h2_0 := congrArg Int32.toInt z2; omega), (by have h1_0 := congrArg Int32.toInt z44; have h2_0 := congrArg Int32.toInt z5; omega), (QM_r (sNum_g (show fs.1.1 = 2 by have q := MT_k hR.1; rw [z5] at q; omega) (by rw [← MT_nm hR.1 (show fs.1.1 = 2 by have q := MT_k hR.1; rw [z5] at q; omega), z13]; omega)) (by omega) ⟨show (t32 131 18).toInt = nbr bb fs.1 by rw [((q34 131 18 (by decide)).trans M26.1), ← MT_nm hR.1 (show fs.1.1 = 2 by have q := MT_k hR.1; rw [z5] at q; omega), z13], hR51⟩)⟩ (nr_bool (R_of (lo := 0) (hi := 1) r54 rfl)) dX12_takes_45
    ·
      have r55 : R (0) (0) v19 := ⟨by omega, by omega⟩
      refine r_aload_n S dX12_takes_26 rfl (lv_at hl 0 rfl) ?_
      refine r_iconst S dX12_takes_27 (by decide) (fun v56 z57 => ?_)
      have r58 := R_eq z57
      refine r_ki (q_V (As := [.int v56]) (rest := []) (K := 38) (ci := 10) S X17 (c_X12_bad_q l G τ hI v56 (R_of (lo := -2147483648) (hi := 2147483647) r58 rfl)) ck12_183 (Nat.le_of_ble_eq_true rfl) rfl (fun _ => ⟨_, rfl⟩) ⟨_, _, rfl⟩ ⟨Nat.le_of_ble_eq_true rfl, Nat.le_of_ble_eq_true rfl⟩ rfl hl.1 rfl (Nat.le_of_ble_eq_true rfl) dX12_takes_28 ⟨Nat.le_refl 0, Nat.le_refl 0⟩) X17 (fun v62 t61 H lc q59 X60 => ?_)
      unfold po_X12_bad_q at q59
      obtain ⟨q63, q64, q65, q66⟩ := q59
      have F67 : Fr [(131, 15), (131, 16), (131, 4), (131, 11), (131, 12), (131, 13), (131, 14), (131, 18)] [331] τ t61 := Fr_call Fr_rfl q64 (by decide)
      exact r_ret S hr hlk X60 ⟨q63, F67, (R_of q65 rfl), (fun h => by exfalso; omega), (by rw [((q64 131 4 (by decide)).trans z2)]; exact R_of r3 rfl), (by rw [((q64 131 11 (by decide)).trans z5)]; exact R_of r11 rfl), (by have h1_0 := congrArg Int32.toInt ((q64 131 4 (by decide)).trans z2); have h2_0 := congrArg Int32.toInt z2; omega), (by have h1_0 := congrArg Int32.toInt ((q64 131 11 (by decide)).trans z5); have h2_0 := congrArg Int32.toInt z5; omega), (QM_b (sNum_b2 (show fs.1.1 = 2 by have q := MT_k hR.1; rw [z5] at q; omega) (by rw [← MT_nm hR.1 (show fs.1.1 = 2 by have q := MT_k hR.1; rw [z5] at q; omega), z13]; omega)) (by omega) (by rw [q66.1]; omega) (by rw [q66.2]; exact RM_at hR))⟩ (nr_bool (R_of (lo := 0) (hi := 1) q65 rfl)) dX12_takes_31
  ·
    refine r_aload_n S dX12_takes_8 rfl (lv_at hl 0 rfl) ?_
    refine r_iconst S dX12_takes_9 (by decide) (fun v68 z69 => ?_)
    have r70 := R_eq z69
    refine r_ki (q_V (As := [.int v68]) (rest := []) (K := 38) (ci := 10) S X (c_X12_bad_q l G τ hI v68 (R_of (lo := -2147483648) (hi := 2147483647) r70 rfl)) ck12_183 (Nat.le_of_ble_eq_true rfl) rfl (fun _ => ⟨_, rfl⟩) ⟨_, _, rfl⟩ ⟨Nat.le_of_ble_eq_true rfl, Nat.le_of_ble_eq_true rfl⟩ rfl hl.1 rfl (Nat.le_of_ble_eq_true rfl) dX12_takes_10 ⟨Nat.le_refl 0, Nat.le_refl 0⟩) X (fun v74 t73 H lc q71 X72 => ?_)
    unfold po_X12_bad_q at q71
    obtain ⟨q75, q76, q77, q78⟩ := q71
    have F79 : Fr [(131, 15), (131, 16), (131, 4), (131, 11), (131, 12), (131, 13), (131, 14), (131, 18)] [331] τ t73 := Fr_call Fr_rfl q76 (by decide)
    exact r_ret S hr hlk X72 ⟨q75, F79, (R_of q77 rfl), (fun h => by exfalso; omega), (by rw [((q76 131 4 (by decide)).trans z2)]; exact R_of r3 rfl), (by rw [((q76 131 11 (by decide)).trans z5)]; exact R_of r6 rfl), (by have h1_0 := congrArg Int32.toInt ((q76 131 4 (by decide)).trans z2); have h2_0 := congrArg Int32.toInt z2; omega), (by have h1_0 := congrArg Int32.toInt ((q76 131 11 (by decide)).trans z5); have h2_0 := congrArg Int32.toInt z5; omega), (QM_b (sNum_b1 (by have q := MT_k hR.1; rw [z5] at q; omega)) (by omega) (by rw [q78.1]; omega) (by rw [q78.2]; exact RM_at hR))⟩ (nr_bool (R_of (lo := 0) (hi := 1) q77 rfl)) dX12_takes_13
def po_X12_fresh_q (τ : Tau)  (a0 : Int32)  (bb : Nat → Int) (nb : Nat) (fs : FS) (r : Int32) (u : Tau) : Prop := Inv u ∧ Fr [(131, 15), (131, 16), (131, 4), (131, 11), (131, 12), (131, 13), (131, 14)] [336, 331] τ u ∧ R (0) (1) r ∧ R (0) (940) (u 131 4) ∧ R (0) (4) (u 131 11) ∧ (τ 131 4).toInt ≤ (u 131 4).toInt ∧ (r.toInt = 1 → (τ 131 11).toInt = 1) ∧ QM (sNew bb fs) r u (fun _ => RM bb nb u (stp bb nb fs) ∧ (qof u 136 a0.toInt.toNat).toInt = e256 (wrd bb fs.1) ∧ isN bb fs.1)
set_option maxHeartbeats 4000000 in
set_option maxRecDepth 100000 in
theorem c_X12_fresh_q (l : Launch) (G : Gx) (τ : Tau) (hI : Inv τ) (a0 : Int32) (h_a0 : R (19) (37) a0) (bb : Nat → Int) (nb : Nat) (fs : FS) (hR : RM bb nb τ fs) (hto : (∀ i, i < (gan fs.2).length → 19 + i ≠ a0.toNatClampNeg) ∧ ∀ i, i < (gmn fs.2).length → 28 + i ≠ a0.toNatClampNeg) : Ci l G yX12_fresh cX12_fresh 2 (some .boolean) 2 43 [.ref (G.2.2.2.1 131), .int a0] τ (po_X12_fresh_q τ  a0  bb nb fs) := by
  unfold Ci
  refine C_of (own := RX12) (by decide) rfl (Nat.le_of_ble_eq_true rfl) ?_
  intro p e s m below meth c ls S hr hlk X hl
  have hl : lv_has ls 2 [(0, .ref (G.2.2.2.1 131)), (1, .int a0)] := hl
  obtain ⟨v1, z2⟩ : ∃ x, τ 131 4 = x := ⟨_, rfl⟩
  have r3 : R (0) (940) v1 := rd hI rfl z2
  obtain ⟨v4, z5⟩ : ∃ x, τ 131 11 = x := ⟨_, rfl⟩
  have r6 : R (0) (4) v4 := rd hI rfl z5
  refine r_aload_n S dX12_fresh_0 rfl (lv_at hl 0 rfl) ?_
  refine r_ki (q_V (As := []) (rest := []) (K := 38) (ci := 10) S X (c_X12_isName_q l G τ hI bb nb 900 fs.1 hR.1 hR.2.2) ck12_196 (Nat.le_of_ble_eq_true rfl) rfl (fun _ => ⟨_, rfl⟩) ⟨_, _, rfl⟩ ⟨Nat.le_of_ble_eq_true rfl, Nat.le_of_ble_eq_true rfl⟩ rfl hl.1 rfl (Nat.le_of_ble_eq_true rfl) dX12_fresh_1 ⟨Nat.le_refl 0, Nat.le_refl 0⟩) X (fun v10 t9 H lc q7 X8 => ?_)
  unfold po_X12_isName_q at q7
  obtain ⟨q11, q12, q13⟩ := q7
  rw [q11] at X8
  refine r_if_ne (tgt := 13) S dX12_fresh_4 (by decide) (fun c14 => ?_) (fun c14 => ?_)
  ·
    have r15 : R (1) (1) v10 := ⟨by omega, by omega⟩
    have p16 := (q13).mp (by omega)
    refine r_aload_n S dX12_fresh_13 rfl (lv_at hl 0 rfl) ?_
    refine r_bipush S dX12_fresh_14 (by decide) (fun v17 z18 => ?_)
    have r19 := R_eq z18
    refine r_aload_n S dX12_fresh_16 rfl (lv_at hl 0 rfl) ?_
    refine r_get (K := 38) (v := .ref (G.2.2.2.1 134)) S X8 (Nat.le_of_ble_eq_true rfl) rfl lk12_37_10 (fun _ => ⟨_, rfl, rfl⟩) dX12_fresh_17 ?_
    refine r_iconst S dX12_fresh_20 (by decide) (fun v20 z21 => ?_)
    have r22 := R_eq z21
    refine r_aldn (n := 125) (K := 41) S X8 (Nat.le_of_ble_eq_true rfl) rfl (fun _ => rfl) (ix_of r22 rfl) dX12_fresh_21 (fun v23 z24 => ?_)
    have r25 : R (0) (9) v23 := rds (K := 41) (a := 0) (n := 1) hI rfl z24 (R_of r22 rfl) (by decide +kernel)
    refine r_ki (q_V (As := [.int v17, .int v23]) (rest := []) (K := 38) (ci := 10) S X8 (c_X12_find_qa l G τ hI v17 v23 r19 r25 (gan fs.2) (wrd bb fs.1) (by have q := hR.2.1.2.2.2.2.2.1.1; rw [(zc (n := 0) (by omega) z24)] at q; exact q) hR.2.1.2.2.2.2.2.1.2.1 hR.2.1.2.2.2.2.2.1.2.2 (MT_low hR.1 (p16).1).2 (MT_low hR.1 (p16).1).1) ck12_200 (Nat.le_of_ble_eq_true rfl) rfl (fun _ => ⟨_, rfl⟩) ⟨_, _, rfl⟩ ⟨Nat.le_of_ble_eq_true rfl, Nat.le_of_ble_eq_true rfl⟩ rfl hl.1 rfl (Nat.le_of_ble_eq_true rfl) dX12_fresh_22 ⟨Nat.le_refl 0, Nat.le_refl 0⟩) X8 (fun v29 t28 H lc q26 X27 => ?_)
    unfold po_X12_find_qa at q26
    obtain ⟨q30, q31, q32⟩ := q26
    rw [q30] at X27
    refine r_if_ge (tgt := 43) S dX12_fresh_25 (by decide) (fun c33 => ?_) (fun c33 => ?_)
    ·
      have r34 : R (0) (8) v29 := ⟨by omega, by omega⟩
      refine r_aload_n S dX12_fresh_43 rfl (lv_at hl 0 rfl) ?_
      refine r_iconst S dX12_fresh_44 (by decide) (fun v35 z36 => ?_)
      have r37 := R_eq z36
      refine r_ki (q_V (As := [.int v35]) (rest := []) (K := 38) (ci := 10) S X27 (c_X12_bad_q l G τ hI v35 (R_of (lo := -2147483648) (hi := 2147483647) r37 rfl)) ck12_183 (Nat.le_of_ble_eq_true rfl) rfl (fun _ => ⟨_, rfl⟩) ⟨_, _, rfl⟩ ⟨Nat.le_of_ble_eq_true rfl, Nat.le_of_ble_eq_true rfl⟩ rfl hl.1 rfl (Nat.le_of_ble_eq_true rfl) dX12_fresh_45 ⟨Nat.le_refl 0, Nat.le_refl 0⟩) X27 (fun v41 t40 H lc q38 X39 => ?_)
      unfold po_X12_bad_q at q38
      obtain ⟨q42, q43, q44, q45⟩ := q38
      have F46 : Fr [(131, 15), (131, 16), (131, 4), (131, 11), (131, 12), (131, 13), (131, 14)] [336, 331] τ t40 := Fr_call Fr_rfl q43 (by decide)
      exact r_ret S hr hlk X39 ⟨q42, F46, (R_of q44 rfl), (by rw [((q43 131 4 (by decide)).trans z2)]; exact R_of r3 rfl), (by rw [((q43 131 11 (by decide)).trans z5)]; exact R_of r6 rfl), (by have h1_0 := congrArg Int32.toInt ((q43 131 4 (by decide)).trans z2); have h2_0 := congrArg Int32.toInt z2; omega), (fun h => by exfalso; omega), (QM_b (sNew_b3 p16 (Or.inl (by rw [← q32]; omega))) (by omega) (by rw [q45.1]; omega) (by rw [q45.2]; exact RM_at hR))⟩ (nr_bool (R_of (lo := 0) (hi := 1) q44 rfl)) dX12_fresh_48
    ·
      have r47 : R (-1) (-1) v29 := ⟨by omega, by omega⟩
      refine r_aload_n S dX12_fresh_28 rfl (lv_at hl 0 rfl) ?_
      refine r_bipush S dX12_fresh_29 (by decide) (fun v48 z49 => ?_)
      have r50 := R_eq z49
      refine r_aload_n S dX12_fresh_31 rfl (lv_at hl 0 rfl) ?_
      refine r_get (K := 38) (v := .ref (G.2.2.2.1 134)) S X27 (Nat.le_of_ble_eq_true rfl) rfl lk12_37_10 (fun _ => ⟨_, rfl, rfl⟩) dX12_fresh_32 ?_
      refine r_iconst S dX12_fresh_35 (by decide) (fun v51 z52 => ?_)
      have r53 := R_eq z52
      refine r_aldn (n := 125) (K := 41) S X27 (Nat.le_of_ble_eq_true rfl) rfl (fun _ => rfl) (ix_of r53 rfl) dX12_fresh_36 (fun v54 z55 => ?_)
      have r56 : R (0) (10) v54 := rds (K := 41) (a := 1) (n := 1) hI rfl z55 (R_of r53 rfl) (by decide +kernel)
      refine r_ki (q_V (As := [.int v48, .int v54]) (rest := []) (K := 38) (ci := 10) S X27 (c_X12_find_qm l G τ hI v48 v54 r50 r56 (gmn fs.2) (wrd bb fs.1) (by have q := hR.2.1.2.2.2.2.2.2.1.1; rw [(zc (n := 1) (by omega) z55)] at q; exact q) hR.2.1.2.2.2.2.2.2.1.2.1 hR.2.1.2.2.2.2.2.2.1.2.2 (MT_low hR.1 (p16).1).2 (MT_low hR.1 (p16).1).1) ck12_200 (Nat.le_of_ble_eq_true rfl) rfl (fun _ => ⟨_, rfl⟩) ⟨_, _, rfl⟩ ⟨Nat.le_of_ble_eq_true rfl, Nat.le_of_ble_eq_true rfl⟩ rfl hl.1 rfl (Nat.le_of_ble_eq_true rfl) dX12_fresh_37 ⟨Nat.le_refl 0, Nat.le_refl 0⟩) X27 (fun v60 t59 H lc q57 X58 => ?_)
      unfold po_X12_find_qm at q57
      obtain ⟨q61, q62, q63⟩ := q57
      rw [q61] at X58
      refine r_if_lt (tgt := 49) S dX12_fresh_40 (by decide) (fun c64 => ?_) (fun c64 => ?_)
      ·
        have r65 : R (-1) (-1) v60 := ⟨by omega, by omega⟩
        refine r_aload_n S dX12_fresh_49 rfl (lv_at hl 0 rfl) ?_
        refine r_get (K := 38) (v := .ref (G.2.2.2.1 136)) S X58 (Nat.le_of_ble_eq_true rfl) rfl lk12_43_10 (fun _ => ⟨_, rfl, rfl⟩) dX12_fresh_50 ?_
        refine r_iload_n S dX12_fresh_53 rfl (lv_at hl 1 rfl) ?_
        refine r_aload_n S dX12_fresh_54 rfl (lv_at hl 0 rfl) ?_
        refine r_getJ (K := 38) S X58 (Nat.le_of_ble_eq_true rfl) rfl lk12_170_10 (fun _ => ⟨_, rfl, rfl⟩) dX12_fresh_55 (fun j66 z67 => ?_)
        refine r_last (n := 38) (K := 43) S X58 (Nat.le_of_ble_eq_true rfl) rfl (fun _ => rfl) (ix_of h_a0 rfl) dX12_fresh_58 (fun t69 H lc M70 X68 => ?_)
        have I71 := Inv_ml hI M70
        have F72 : Fr [(131, 15), (131, 16), (131, 4), (131, 11), (131, 12), (131, 13), (131, 14)] [336, 331] τ t69 := Fr_ml Fr_rfl M70 (by decide)
        have hR73 : RM bb nb t69 fs := ⟨MT_fr hR.1 ((M70.1 131 (by decide) 3).trans rfl) ((M70.1 131 (by decide) 4).trans rfl) ((M70.1 131 (by decide) 5).trans rfl) ((M70.1 131 (by decide) 11).trans rfl) ((M70.1 131 (by decide) 12).trans rfl) ((M70.1 131 (by decide) 14).trans rfl) (fun j => ((M70.1 132 (by decide) j).trans rfl)) (fun j => ((M70.1 331 (by decide) j).trans rfl)), RH_ml hR.2.1 M70 hto, RS_fr hR.2.2 (fun j => ((M70.1 337 (by decide) j).trans rfl))⟩
        have hq74 : (qof t69 136 a0.toInt.toNat).toInt = e256 (wrd bb fs.1) := by rw [show qof t69 136 a0.toInt.toNat = j66 from Ml_upd M70, ← z67]; exact (MT_low hR.1 (p16).1).2
        refine r_aload_n S dX12_fresh_59 rfl (lv_at hl 0 rfl) ?_
        refine r_kv (q_V (As := []) (rest := []) (K := 38) (ci := 10) S X68 (c_X12_skip_q l G t69 I71 bb nb 900 fs.1.2.2 (MT_st hR73.1 (Or.inl (p16).1)).1 (MT_st hR73.1 (Or.inl (p16).1)).2.1 (MT_st hR73.1 (Or.inl (p16).1)).2.2) ck12_186 (Nat.le_of_ble_eq_true rfl) rfl (fun _ => ⟨_, rfl⟩) ⟨_, _, rfl⟩ ⟨Nat.le_of_ble_eq_true rfl, Nat.le_of_ble_eq_true rfl⟩ rfl hl.1 rfl (Nat.le_of_ble_eq_true rfl) dX12_fresh_60 ⟨Nat.le_refl 0, Nat.le_refl 0⟩) X68 (fun t77 H lc q75 X76 => ?_)
        unfold po_X12_skip_q at q75
        obtain ⟨q78, q79, q80, q81, q82, q83, q84⟩ := q75
        have F85 : Fr [(131, 15), (131, 16), (131, 4), (131, 11), (131, 12), (131, 13), (131, 14)] [336, 331] τ t77 := Fr_call F72 q79 (by decide)
        obtain ⟨v86, z87⟩ : ∃ x, t77 131 4 = x := ⟨_, rfl⟩
        rw [z87] at q80
        obtain ⟨v88, z89⟩ : ∃ x, t77 131 11 = x := ⟨_, rfl⟩
        rw [z89] at q81
        have e90 := congrArg Int32.toInt ((M70.1 131 (by decide) 4).trans z2)
        have e91 := congrArg Int32.toInt z87
        have e92 := congrArg Int32.toInt ((M70.1 131 (by decide) 4).trans z2)
        have e93 := congrArg Int32.toInt z87
        have e94 := congrArg Int32.toInt ((M70.1 131 (by decide) 11).trans z5)
        have e95 := congrArg Int32.toInt z89
        have hR96 : RM bb nb t77 (stp bb nb fs) := ⟨q84, RH_fr hR73.2.1 ((q79 131 20 (by decide)).trans rfl) (fun j _ => ((q79 134 j (by simp [fz])).trans rfl)) (fun j => ((q79 336 j (by simp [fz])).trans rfl)), RS_fr hR73.2.2 (fun j => ((q79 337 j (by simp [fz])).trans rfl))⟩
        refine r_iconst S dX12_fresh_63 (by decide) (fun v97 z98 => ?_)
        have r99 := R_eq z98
        exact r_ret S hr hlk X76 ⟨q78, F85, (R_of r99 rfl), (by rw [z87]; exact R_of q80 rfl), (by rw [z89]; exact R_of q81 rfl), (by have h1_0 := congrArg Int32.toInt z87; have h2_0 := congrArg Int32.toInt z2; omega), (fun _ => by rw [MT_k hR.1, (p16).1]; rfl), (QM_r (sNew_g p16 (fun h => by rw [← q32, ← q63] at h; omega)) (by omega) ⟨hR96, by rw [(qof_of (k := 136) (fun j => ((q79 336 j (by simp [fz])).trans rfl)) a0.toInt.toNat)]; exact hq74, p16⟩)⟩ (nr_bool (R_of (lo := 0) (hi := 1) r99 rfl)) dX12_fresh_64
      ·
        have r100 : R (0) (9) v60 := ⟨by omega, by omega⟩
        refine r_aload_n S dX12_fresh_43 rfl (lv_at hl 0 rfl) ?_
        refine r_iconst S dX12_fresh_44 (by decide) (fun v101 z102 => ?_)
        have r103 := R_eq z102
        refine r_ki (q_V (As := [.int v101]) (rest := []) (K := 38) (ci := 10) S X58 (c_X12_bad_q l G τ hI v101 (R_of (lo := -2147483648) (hi := 2147483647) r103 rfl)) ck12_183 (Nat.le_of_ble_eq_true rfl) rfl (fun _ => ⟨_, rfl⟩) ⟨_, _, rfl⟩ ⟨Nat.le_of_ble_eq_true rfl, Nat.le_of_ble_eq_true rfl⟩ rfl hl.1 rfl (Nat.le_of_ble_eq_true rfl) dX12_fresh_45 ⟨Nat.le_refl 0, Nat.le_refl 0⟩) X58 (fun v107 t106 H lc q104 X105 => ?_)
        unfold po_X12_bad_q at q104
        obtain ⟨q108, q109, q110, q111⟩ := q104
        have F112 : Fr [(131, 15), (131, 16), (131, 4), (131, 11), (131, 12), (131, 13), (131, 14)] [336, 331] τ t106 := Fr_call Fr_rfl q109 (by decide)
        exact r_ret S hr hlk X105 ⟨q108, F112, (R_of q110 rfl), (by rw [((q109 131 4 (by decide)).trans z2)]; exact R_of r3 rfl), (by rw [((q109 131 11 (by decide)).trans z5)]; exact R_of r6 rfl), (by have h1_0 := congrArg Int32.toInt ((q109 131 4 (by decide)).trans z2); have h2_0 := congrArg Int32.toInt z2; omega), (fun h => by exfalso; omega), (QM_b (sNew_b3 p16 (Or.inr (by rw [← q63]; omega))) (by omega) (by rw [q111.1]; omega) (by rw [q111.2]; exact RM_at hR))⟩ (nr_bool (R_of (lo := 0) (hi := 1) q110 rfl)) dX12_fresh_48
  ·
    have r113 : R (0) (0) v10 := ⟨by omega, by omega⟩
    have p114 := (iff_n q13) (by omega)
    refine r_aload_n S dX12_fresh_7 rfl (lv_at hl 0 rfl) ?_
    refine r_iconst S dX12_fresh_8 (by decide) (fun v115 z116 => ?_)
    have r117 := R_eq z116
    refine r_ki (q_V (As := [.int v115]) (rest := []) (K := 38) (ci := 10) S X8 (c_X12_bad_q l G τ hI v115 (R_of (lo := -2147483648) (hi := 2147483647) r117 rfl)) ck12_183 (Nat.le_of_ble_eq_true rfl) rfl (fun _ => ⟨_, rfl⟩) ⟨_, _, rfl⟩ ⟨Nat.le_of_ble_eq_true rfl, Nat.le_of_ble_eq_true rfl⟩ rfl hl.1 rfl (Nat.le_of_ble_eq_true rfl) dX12_fresh_9 ⟨Nat.le_refl 0, Nat.le_refl 0⟩) X8 (fun v121 t120 H lc q118 X119 => ?_)
    unfold po_X12_bad_q at q118
    obtain ⟨q122, q123, q124, q125⟩ := q118
    have F126 : Fr [(131, 15), (131, 16), (131, 4), (131, 11), (131, 12), (131, 13), (131, 14)] [336, 331] τ t120 := Fr_call Fr_rfl q123 (by decide)
    exact r_ret S hr hlk X119 ⟨q122, F126, (R_of q124 rfl), (by rw [((q123 131 4 (by decide)).trans z2)]; exact R_of r3 rfl), (by rw [((q123 131 11 (by decide)).trans z5)]; exact R_of r6 rfl), (by have h1_0 := congrArg Int32.toInt ((q123 131 4 (by decide)).trans z2); have h2_0 := congrArg Int32.toInt z2; omega), (fun h => by exfalso; omega), (QM_b (sNew_b1 p114) (by omega) (by rw [q125.1]; omega) (by rw [q125.2]; exact RM_at hR))⟩ (nr_bool (R_of (lo := 0) (hi := 1) q124 rfl)) dX12_fresh_12
def po_X12_looksAt_qa (τ : Tau)  (a0 a1 : Int32)  (bb : Nat → Int) (nb : Nat) (fs : FS) (r : Int32) (u : Tau) : Prop := Inv u ∧ Fr [(131, 15), (131, 16), (131, 18)] [] τ u ∧ R (0) (1) r ∧ (r.toInt = 1 → R (0) (8) (u 131 18)) ∧ (r.toInt = 1 → (τ 131 11).toInt = 1) ∧ QM (sLook bb (gan fs.2) fs.1) r u (fun i => (u 131 18).toInt = i ∧ RM bb nb u fs)
set_option maxHeartbeats 4000000 in
set_option maxRecDepth 100000 in
theorem c_X12_looksAt_qa (l : Launch) (G : Gx) (τ : Tau) (hI : Inv τ) (a0 : Int32) (a1 : Int32) (h_a0 : R (19) (19) a0) (h_a1 : R (0) (9) a1) (bb : Nat → Int) (nb : Nat) (fs : FS) (hR : RM bb nb τ fs) (hA : a1.toInt = (gan fs.2).length) : Ci l G yX12_looksAt cX12_looksAt 3 (some .boolean) 1 23 [.ref (G.2.2.2.1 131), .int a0, .int a1] τ (po_X12_looksAt_qa τ  a0 a1  bb nb fs) := by
  unfold Ci
  refine C_of (own := RX12) (by decide) rfl (Nat.le_of_ble_eq_true rfl) ?_
  intro p e s m below meth c ls S hr hlk X hl
  have hl : lv_has ls 3 [(0, .ref (G.2.2.2.1 131)), (1, .int a0), (2, .int a1)] := hl
  obtain ⟨v1, z2⟩ : ∃ x, τ 131 11 = x := ⟨_, rfl⟩
  have r3 : R (0) (4) v1 := rd hI rfl z2
  refine r_aload_n S dX12_looksAt_0 rfl (lv_at hl 0 rfl) ?_
  refine r_ki (q_V (As := []) (rest := []) (K := 38) (ci := 10) S X (c_X12_isName_q l G τ hI bb nb 900 fs.1 hR.1 hR.2.2) ck12_196 (Nat.le_of_ble_eq_true rfl) rfl (fun _ => ⟨_, rfl⟩) ⟨_, _, rfl⟩ ⟨Nat.le_of_ble_eq_true rfl, Nat.le_of_ble_eq_true rfl⟩ rfl hl.1 rfl (Nat.le_of_ble_eq_true rfl) dX12_looksAt_1 ⟨Nat.le_refl 0, Nat.le_refl 0⟩) X (fun v7 t6 H lc q4 X5 => ?_)
  unfold po_X12_isName_q at q4
  obtain ⟨q8, q9, q10⟩ := q4
  rw [q8] at X5
  refine r_if_ne (tgt := 13) S dX12_looksAt_4 (by decide) (fun c11 => ?_) (fun c11 => ?_)
  ·
    have r12 : R (1) (1) v7 := ⟨by omega, by omega⟩
    have p13 := (q10).mp (by omega)
    refine r_aload_n S dX12_looksAt_13 rfl (lv_at hl 0 rfl) ?_
    refine r_aload_n S dX12_looksAt_14 rfl (lv_at hl 0 rfl) ?_
    refine r_iload_n S dX12_looksAt_15 rfl (lv_at hl 1 rfl) ?_
    refine r_iload_n S dX12_looksAt_16 rfl (lv_at hl 2 rfl) ?_
    refine r_ki (q_V (As := [.int a0, .int a1]) (rest := [.ref (G.2.2.2.1 131)]) (K := 38) (ci := 10) S X5 (c_X12_find_qa l G τ hI a0 a1 h_a0 h_a1 (gan fs.2) (wrd bb fs.1) hA hR.2.1.2.2.2.2.2.1.2.1 hR.2.1.2.2.2.2.2.1.2.2 (MT_low hR.1 (p13).1).2 (MT_low hR.1 (p13).1).1) ck12_200 (Nat.le_of_ble_eq_true rfl) rfl (fun _ => ⟨_, rfl⟩) ⟨_, _, rfl⟩ ⟨Nat.le_of_ble_eq_true rfl, Nat.le_of_ble_eq_true rfl⟩ rfl hl.1 rfl (Nat.le_of_ble_eq_true rfl) dX12_looksAt_17 ⟨Nat.le_refl 0, Nat.le_refl 0⟩) X5 (fun v17 t16 H lc q14 X15 => ?_)
    unfold po_X12_find_qa at q14
    obtain ⟨q18, q19, q20⟩ := q14
    rw [q18] at X15
    refine r_put (K := 38) (ty := .int) S X15 (Nat.le_of_ble_eq_true rfl) rfl lk12_193_10 (fun _ => ⟨_, rfl, Nat.le_of_ble_eq_true rfl, rfl⟩) (fun _ _ _ h => by cases h; exact ⟨rfl, rfl⟩) rfl rfl dX12_looksAt_20 (fun t21 H lc M22 X23 => ?_)
    have I24 := Inv_mu hI M22 (R_any v17)
    have F25 : Fr [(131, 15), (131, 16), (131, 18)] [] τ t21 := Fr_mu Fr_rfl M22 (by decide)
    refine r_aload_n S dX12_looksAt_23 rfl (lv_at hl 0 rfl) ?_
    refine r_geti (K := 38) S X23 (Nat.le_of_ble_eq_true rfl) rfl lk12_193_10 (fun _ => ⟨_, rfl, rfl⟩) M22.1 dX12_looksAt_24 ?_
    refine r_if_ge (tgt := 38) S dX12_looksAt_27 (by decide) (fun c26 => ?_) (fun c26 => ?_)
    ·
      have r27 : R (0) (8) v17 := ⟨by omega, by omega⟩
      refine r_iconst S dX12_looksAt_38 (by decide) (fun v28 z29 => ?_)
      have r30 := R_eq z29
      refine r_goto (tgt := 43) S dX12_looksAt_39 (by decide) ?_
      exact r_ret S hr hlk X23 ⟨I24, F25, (R_of r30 rfl), (fun h => (by rw [M22.1]; exact R_of r27 rfl)), (fun _ => by rw [MT_k hR.1, (p13).1]; rfl), (QM_r (sLook_g p13 (by rw [← q20]; omega)) (by omega) ⟨show (t21 131 18).toInt = (((fnd (gan fs.2) (wrd bb fs.1)).toNat : Nat) : Int) by rw [M22.1, ← q20]; omega, (RM_fr hR ((M22.2 131 3 (Or.inr (by decide))).trans rfl) ((M22.2 131 4 (Or.inr (by decide))).trans rfl) ((M22.2 131 5 (Or.inr (by decide))).trans rfl) ((M22.2 131 11 (Or.inr (by decide))).trans rfl) ((M22.2 131 12 (Or.inr (by decide))).trans rfl) ((M22.2 131 14 (Or.inr (by decide))).trans rfl) (fun j => ((M22.2 132 j (Or.inl (by decide))).trans rfl)) (fun j => ((M22.2 331 j (Or.inl (by decide))).trans rfl)) ((M22.2 131 20 (Or.inr (by decide))).trans rfl) (fun j => ((M22.2 134 j (Or.inl (by decide))).trans rfl)) (fun j => ((M22.2 336 j (Or.inl (by decide))).trans rfl)) (fun j => ((M22.2 337 j (Or.inl (by decide))).trans rfl)))⟩)⟩ (nr_bool (R_of (lo := 0) (hi := 1) r30 rfl)) dX12_looksAt_43
    ·
      have r31 : R (-1) (-1) v17 := ⟨by omega, by omega⟩
      refine r_aload_n S dX12_looksAt_30 rfl (lv_at hl 0 rfl) ?_
      refine r_iconst S dX12_looksAt_31 (by decide) (fun v32 z33 => ?_)
      have r34 := R_eq z33
      refine r_ki (q_V (As := [.int v32]) (rest := []) (K := 38) (ci := 10) S X23 (c_X12_bad_q l G t21 I24 v32 (R_of (lo := -2147483648) (hi := 2147483647) r34 rfl)) ck12_183 (Nat.le_of_ble_eq_true rfl) rfl (fun _ => ⟨_, rfl⟩) ⟨_, _, rfl⟩ ⟨Nat.le_of_ble_eq_true rfl, Nat.le_of_ble_eq_true rfl⟩ rfl hl.1 rfl (Nat.le_of_ble_eq_true rfl) dX12_looksAt_32 ⟨Nat.le_refl 0, Nat.le_refl 0⟩) X23 (fun v38 t37 H lc q35 X36 => ?_)
      unfold po_X12_bad_q at q35
      obtain ⟨q39, q40, q41, q42⟩ := q35
      have F43 : Fr [(131, 15), (131, 16), (131, 18)] [] τ t37 := Fr_call F25 q40 (by decide)
      refine r_if_eq (tgt := 42) S dX12_looksAt_35 (by decide) (fun c44 => ?_) (fun c44 => ?_)
      ·
        refine r_iconst S dX12_looksAt_42 (by decide) (fun v45 z46 => ?_)
        have r47 := R_eq z46
        exact r_ret S hr hlk X36 ⟨q39, F43, (R_of r47 rfl), (fun h => by exfalso; omega), (fun h => by exfalso; omega), (QM_b (sLook_b3 p13 (by rw [← q20]; omega)) (by omega) (by rw [q42.1]; omega) (by rw [q42.2]; exact RM_at (RM_fr hR ((M22.2 131 3 (Or.inr (by decide))).trans rfl) ((M22.2 131 4 (Or.inr (by decide))).trans rfl) ((M22.2 131 5 (Or.inr (by decide))).trans rfl) ((M22.2 131 11 (Or.inr (by decide))).trans rfl) ((M22.2 131 12 (Or.inr (by decide))).trans rfl) ((M22.2 131 14 (Or.inr (by decide))).trans rfl) (fun j => ((M22.2 132 j (Or.inl (by decide))).trans rfl)) (fun j => ((M22.2 331 j (Or.inl (by decide))).trans rfl)) ((M22.2 131 20 (Or.inr (by decide))).trans rfl) (fun j => ((M22.2 134 j (Or.inl (by decide))).trans rfl)) (fun j => ((M22.2 336 j (Or.inl (by decide))).trans rfl)) (fun j => ((M22.2 337 j (Or.inl (by decide))).trans rfl)))))⟩ (nr_bool (R_of (lo := 0) (hi := 1) r47 rfl)) dX12_looksAt_43
      ·
        exfalso; omega
  ·
    have r48 : R (0) (0) v7 := ⟨by omega, by omega⟩
    have p49 := (iff_n q10) (by omega)
    refine r_aload_n S dX12_looksAt_7 rfl (lv_at hl 0 rfl) ?_
    refine r_iconst S dX12_looksAt_8 (by decide) (fun v50 z51 => ?_)
    have r52 := R_eq z51
    refine r_ki (q_V (As := [.int v50]) (rest := []) (K := 38) (ci := 10) S X5 (c_X12_bad_q l G τ hI v50 (R_of (lo := -2147483648) (hi := 2147483647) r52 rfl)) ck12_183 (Nat.le_of_ble_eq_true rfl) rfl (fun _ => ⟨_, rfl⟩) ⟨_, _, rfl⟩ ⟨Nat.le_of_ble_eq_true rfl, Nat.le_of_ble_eq_true rfl⟩ rfl hl.1 rfl (Nat.le_of_ble_eq_true rfl) dX12_looksAt_9 ⟨Nat.le_refl 0, Nat.le_refl 0⟩) X5 (fun v56 t55 H lc q53 X54 => ?_)
    unfold po_X12_bad_q at q53
    obtain ⟨q57, q58, q59, q60⟩ := q53
    have F61 : Fr [(131, 15), (131, 16), (131, 18)] [] τ t55 := Fr_call Fr_rfl q58 (by decide)
    exact r_ret S hr hlk X54 ⟨q57, F61, (R_of q59 rfl), (fun h => by exfalso; omega), (fun h => by exfalso; omega), (QM_b (sLook_b1 p49) (by omega) (by rw [q60.1]; omega) (by rw [q60.2]; exact RM_at hR))⟩ (nr_bool (R_of (lo := 0) (hi := 1) q59 rfl)) dX12_looksAt_12
def po_X12_looksAt_qm (τ : Tau)  (a0 a1 : Int32)  (bb : Nat → Int) (nb : Nat) (fs : FS) (r : Int32) (u : Tau) : Prop := Inv u ∧ Fr [(131, 15), (131, 16), (131, 18)] [] τ u ∧ R (0) (1) r ∧ (r.toInt = 1 → R (0) (9) (u 131 18)) ∧ (r.toInt = 1 → (τ 131 11).toInt = 1) ∧ QM (sLook bb (gmn fs.2) fs.1) r u (fun i => (u 131 18).toInt = i ∧ RM bb nb u fs)
set_option maxHeartbeats 4000000 in
set_option maxRecDepth 100000 in
theorem c_X12_looksAt_qm (l : Launch) (G : Gx) (τ : Tau) (hI : Inv τ) (a0 : Int32) (a1 : Int32) (h_a0 : R (28) (28) a0) (h_a1 : R (0) (10) a1) (bb : Nat → Int) (nb : Nat) (fs : FS) (hR : RM bb nb τ fs) (hA : a1.toInt = (gmn fs.2).length) : Ci l G yX12_looksAt cX12_looksAt 3 (some .boolean) 1 23 [.ref (G.2.2.2.1 131), .int a0, .int a1] τ (po_X12_looksAt_qm τ  a0 a1  bb nb fs) := by
  unfold Ci
  refine C_of (own := RX12) (by decide) rfl (Nat.le_of_ble_eq_true rfl) ?_
  intro p e s m below meth c ls S hr hlk X hl
  have hl : lv_has ls 3 [(0, .ref (G.2.2.2.1 131)), (1, .int a0), (2, .int a1)] := hl
  obtain ⟨v1, z2⟩ : ∃ x, τ 131 11 = x := ⟨_, rfl⟩
  have r3 : R (0) (4) v1 := rd hI rfl z2
  refine r_aload_n S dX12_looksAt_0 rfl (lv_at hl 0 rfl) ?_
  refine r_ki (q_V (As := []) (rest := []) (K := 38) (ci := 10) S X (c_X12_isName_q l G τ hI bb nb 900 fs.1 hR.1 hR.2.2) ck12_196 (Nat.le_of_ble_eq_true rfl) rfl (fun _ => ⟨_, rfl⟩) ⟨_, _, rfl⟩ ⟨Nat.le_of_ble_eq_true rfl, Nat.le_of_ble_eq_true rfl⟩ rfl hl.1 rfl (Nat.le_of_ble_eq_true rfl) dX12_looksAt_1 ⟨Nat.le_refl 0, Nat.le_refl 0⟩) X (fun v7 t6 H lc q4 X5 => ?_)
  unfold po_X12_isName_q at q4
  obtain ⟨q8, q9, q10⟩ := q4
  rw [q8] at X5
  refine r_if_ne (tgt := 13) S dX12_looksAt_4 (by decide) (fun c11 => ?_) (fun c11 => ?_)
  ·
    have r12 : R (1) (1) v7 := ⟨by omega, by omega⟩
    have p13 := (q10).mp (by omega)
    refine r_aload_n S dX12_looksAt_13 rfl (lv_at hl 0 rfl) ?_
    refine r_aload_n S dX12_looksAt_14 rfl (lv_at hl 0 rfl) ?_
    refine r_iload_n S dX12_looksAt_15 rfl (lv_at hl 1 rfl) ?_
    refine r_iload_n S dX12_looksAt_16 rfl (lv_at hl 2 rfl) ?_
    refine r_ki (q_V (As := [.int a0, .int a1]) (rest := [.ref (G.2.2.2.1 131)]) (K := 38) (ci := 10) S X5 (c_X12_find_qm l G τ hI a0 a1 h_a0 h_a1 (gmn fs.2) (wrd bb fs.1) hA hR.2.1.2.2.2.2.2.2.1.2.1 hR.2.1.2.2.2.2.2.2.1.2.2 (MT_low hR.1 (p13).1).2 (MT_low hR.1 (p13).1).1) ck12_200 (Nat.le_of_ble_eq_true rfl) rfl (fun _ => ⟨_, rfl⟩) ⟨_, _, rfl⟩ ⟨Nat.le_of_ble_eq_true rfl, Nat.le_of_ble_eq_true rfl⟩ rfl hl.1 rfl (Nat.le_of_ble_eq_true rfl) dX12_looksAt_17 ⟨Nat.le_refl 0, Nat.le_refl 0⟩) X5 (fun v17 t16 H lc q14 X15 => ?_)
    unfold po_X12_find_qm at q14
    obtain ⟨q18, q19, q20⟩ := q14
    rw [q18] at X15
    refine r_put (K := 38) (ty := .int) S X15 (Nat.le_of_ble_eq_true rfl) rfl lk12_193_10 (fun _ => ⟨_, rfl, Nat.le_of_ble_eq_true rfl, rfl⟩) (fun _ _ _ h => by cases h; exact ⟨rfl, rfl⟩) rfl rfl dX12_looksAt_20 (fun t21 H lc M22 X23 => ?_)
    have I24 := Inv_mu hI M22 (R_any v17)
    have F25 : Fr [(131, 15), (131, 16), (131, 18)] [] τ t21 := Fr_mu Fr_rfl M22 (by decide)
    refine r_aload_n S dX12_looksAt_23 rfl (lv_at hl 0 rfl) ?_
    refine r_geti (K := 38) S X23 (Nat.le_of_ble_eq_true rfl) rfl lk12_193_10 (fun _ => ⟨_, rfl, rfl⟩) M22.1 dX12_looksAt_24 ?_
    refine r_if_ge (tgt := 38) S dX12_looksAt_27 (by decide) (fun c26 => ?_) (fun c26 => ?_)
    ·
      have r27 : R (0) (9) v17 := ⟨by omega, by omega⟩
      refine r_iconst S dX12_looksAt_38 (by decide) (fun v28 z29 => ?_)
      have r30 := R_eq z29
      refine r_goto (tgt := 43) S dX12_looksAt_39 (by decide) ?_
      exact r_ret S hr hlk X23 ⟨I24, F25, (R_of r30 rfl), (fun h => (by rw [M22.1]; exact R_of r27 rfl)), (fun _ => by rw [MT_k hR.1, (p13).1]; rfl), (QM_r (sLook_g p13 (by rw [← q20]; omega)) (by omega) ⟨show (t21 131 18).toInt = (((fnd (gmn fs.2) (wrd bb fs.1)).toNat : Nat) : Int) by rw [M22.1, ← q20]; omega, (RM_fr hR ((M22.2 131 3 (Or.inr (by decide))).trans rfl) ((M22.2 131 4 (Or.inr (by decide))).trans rfl) ((M22.2 131 5 (Or.inr (by decide))).trans rfl) ((M22.2 131 11 (Or.inr (by decide))).trans rfl) ((M22.2 131 12 (Or.inr (by decide))).trans rfl) ((M22.2 131 14 (Or.inr (by decide))).trans rfl) (fun j => ((M22.2 132 j (Or.inl (by decide))).trans rfl)) (fun j => ((M22.2 331 j (Or.inl (by decide))).trans rfl)) ((M22.2 131 20 (Or.inr (by decide))).trans rfl) (fun j => ((M22.2 134 j (Or.inl (by decide))).trans rfl)) (fun j => ((M22.2 336 j (Or.inl (by decide))).trans rfl)) (fun j => ((M22.2 337 j (Or.inl (by decide))).trans rfl)))⟩)⟩ (nr_bool (R_of (lo := 0) (hi := 1) r30 rfl)) dX12_looksAt_43
    ·
      have r31 : R (-1) (-1) v17 := ⟨by omega, by omega⟩
      refine r_aload_n S dX12_looksAt_30 rfl (lv_at hl 0 rfl) ?_
      refine r_iconst S dX12_looksAt_31 (by decide) (fun v32 z33 => ?_)
      have r34 := R_eq z33
      refine r_ki (q_V (As := [.int v32]) (rest := []) (K := 38) (ci := 10) S X23 (c_X12_bad_q l G t21 I24 v32 (R_of (lo := -2147483648) (hi := 2147483647) r34 rfl)) ck12_183 (Nat.le_of_ble_eq_true rfl) rfl (fun _ => ⟨_, rfl⟩) ⟨_, _, rfl⟩ ⟨Nat.le_of_ble_eq_true rfl, Nat.le_of_ble_eq_true rfl⟩ rfl hl.1 rfl (Nat.le_of_ble_eq_true rfl) dX12_looksAt_32 ⟨Nat.le_refl 0, Nat.le_refl 0⟩) X23 (fun v38 t37 H lc q35 X36 => ?_)
      unfold po_X12_bad_q at q35
      obtain ⟨q39, q40, q41, q42⟩ := q35
      have F43 : Fr [(131, 15), (131, 16), (131, 18)] [] τ t37 := Fr_call F25 q40 (by decide)
      refine r_if_eq (tgt := 42) S dX12_looksAt_35 (by decide) (fun c44 => ?_) (fun c44 => ?_)
      ·
        refine r_iconst S dX12_looksAt_42 (by decide) (fun v45 z46 => ?_)
        have r47 := R_eq z46
        exact r_ret S hr hlk X36 ⟨q39, F43, (R_of r47 rfl), (fun h => by exfalso; omega), (fun h => by exfalso; omega), (QM_b (sLook_b3 p13 (by rw [← q20]; omega)) (by omega) (by rw [q42.1]; omega) (by rw [q42.2]; exact RM_at (RM_fr hR ((M22.2 131 3 (Or.inr (by decide))).trans rfl) ((M22.2 131 4 (Or.inr (by decide))).trans rfl) ((M22.2 131 5 (Or.inr (by decide))).trans rfl) ((M22.2 131 11 (Or.inr (by decide))).trans rfl) ((M22.2 131 12 (Or.inr (by decide))).trans rfl) ((M22.2 131 14 (Or.inr (by decide))).trans rfl) (fun j => ((M22.2 132 j (Or.inl (by decide))).trans rfl)) (fun j => ((M22.2 331 j (Or.inl (by decide))).trans rfl)) ((M22.2 131 20 (Or.inr (by decide))).trans rfl) (fun j => ((M22.2 134 j (Or.inl (by decide))).trans rfl)) (fun j => ((M22.2 336 j (Or.inl (by decide))).trans rfl)) (fun j => ((M22.2 337 j (Or.inl (by decide))).trans rfl)))))⟩ (nr_bool (R_of (lo := 0) (hi := 1) r47 rfl)) dX12_looksAt_43
      ·
        exfalso; omega
  ·
    have r48 : R (0) (0) v7 := ⟨by omega, by omega⟩
    have p49 := (iff_n q10) (by omega)
    refine r_aload_n S dX12_looksAt_7 rfl (lv_at hl 0 rfl) ?_
    refine r_iconst S dX12_looksAt_8 (by decide) (fun v50 z51 => ?_)
    have r52 := R_eq z51
    refine r_ki (q_V (As := [.int v50]) (rest := []) (K := 38) (ci := 10) S X5 (c_X12_bad_q l G τ hI v50 (R_of (lo := -2147483648) (hi := 2147483647) r52 rfl)) ck12_183 (Nat.le_of_ble_eq_true rfl) rfl (fun _ => ⟨_, rfl⟩) ⟨_, _, rfl⟩ ⟨Nat.le_of_ble_eq_true rfl, Nat.le_of_ble_eq_true rfl⟩ rfl hl.1 rfl (Nat.le_of_ble_eq_true rfl) dX12_looksAt_9 ⟨Nat.le_refl 0, Nat.le_refl 0⟩) X5 (fun v56 t55 H lc q53 X54 => ?_)
    unfold po_X12_bad_q at q53
    obtain ⟨q57, q58, q59, q60⟩ := q53
    have F61 : Fr [(131, 15), (131, 16), (131, 18)] [] τ t55 := Fr_call Fr_rfl q58 (by decide)
    exact r_ret S hr hlk X54 ⟨q57, F61, (R_of q59 rfl), (fun h => by exfalso; omega), (fun h => by exfalso; omega), (QM_b (sLook_b1 p49) (by omega) (by rw [q60.1]; omega) (by rw [q60.2]; exact RM_at hR))⟩ (nr_bool (R_of (lo := 0) (hi := 1) q59 rfl)) dX12_looksAt_12
def po_X12_takesMind_q (τ : Tau)  (a0 : Int32)  (bb : Nat → Int) (nb : Nat) (fs : FS) (r : Int32) (u : Tau) : Prop := Inv u ∧ Fr [(131, 15), (131, 16), (131, 4), (131, 11), (131, 12), (131, 13), (131, 14), (131, 18), (131, 21)] [331] τ u ∧ R (0) (1) r ∧ R (0) (940) (u 131 4) ∧ R (0) (4) (u 131 11) ∧ (τ 131 4).toInt ≤ (u 131 4).toInt ∧ (r.toInt = 1 → (τ 131 4).toInt < (u 131 4).toInt) ∧ QM (sMd bb nb fs) r u (fun g => (u 131 21).toInt ≠ 0 ∧ RM bb nb u g.2)
set_option maxHeartbeats 4000000 in
set_option maxRecDepth 100000 in
theorem c_X12_takesMind_q (l : Launch) (G : Gx) (τ : Tau) (hI : Inv τ) (a0 : Int32) (h_a0 : R (1) (1) a0) (bb : Nat → Int) (nb : Nat) (fs : FS) (hR : RM bb nb τ fs) : Ci l G yX12_takesMind cX12_takesMind 3 (some .boolean) 3 65 [.ref (G.2.2.2.1 131), .int a0] τ (po_X12_takesMind_q τ  a0  bb nb fs) := by
  unfold Ci
  refine C_of (own := RX12) (by decide) rfl (Nat.le_of_ble_eq_true rfl) ?_
  intro p e s m below meth c ls S hr hlk X hl
  have hl : lv_has ls 3 [(0, .ref (G.2.2.2.1 131)), (1, .int a0)] := hl
  obtain ⟨v1, z2⟩ : ∃ x, τ 131 4 = x := ⟨_, rfl⟩
  have r3 : R (0) (940) v1 := rd hI rfl z2
  obtain ⟨v4, z5⟩ : ∃ x, τ 131 11 = x := ⟨_, rfl⟩
  have r6 : R (0) (4) v4 := rd hI rfl z5
  refine r_aload_n S dX12_takesMind_0 rfl (lv_at hl 0 rfl) ?_
  refine lv_ldc2 S.1.1 S.1.2.1 S.1.2.2.2.1 (S.1.2.2.2.2 _ kw27) dX12_takesMind_1 ?_
  refine lv_topl (fun j7 z8 => ?_)
  refine r_ki (q_V (As := [.long j7]) (rest := []) (K := 38) (ci := 10) S X (c_X12_isWord_q l G τ hI j7 bb nb 900 fs.1 (kwl.getD 5 []) hR.1 (by rw [z8]; decide +kernel) (kwl_at (by decide))) ck12_208 (Nat.le_of_ble_eq_true rfl) rfl (fun _ => ⟨_, rfl⟩) ⟨_, _, rfl⟩ ⟨Nat.le_of_ble_eq_true rfl, Nat.le_of_ble_eq_true rfl⟩ rfl hl.1 rfl (Nat.le_of_ble_eq_true rfl) dX12_takesMind_4 ⟨Nat.le_refl 0, Nat.le_refl 0⟩) X (fun v12 t11 H lc q9 X10 => ?_)
  unfold po_X12_isWord_q at q9
  obtain ⟨q13, q14, q15⟩ := q9
  rw [q13] at X10
  refine r_istore_n (lv' := [(2, .int v12), (0, .ref (G.2.2.2.1 131)), (1, .int a0)]) S dX12_takesMind_7 rfl hl (by decide) rfl (fun ls hl => ?_)
  refine r_iload_n S dX12_takesMind_8 rfl (lv_at hl 0 rfl) ?_
  refine r_if_ne (tgt := 28) S dX12_takesMind_9 (by decide) (fun c16 => ?_) (fun c16 => ?_)
  ·
    have r17 : R (1) (1) v12 := ⟨by omega, by omega⟩
    have p18 := (q15).mp (by omega)
    refine r_aload_n S dX12_takesMind_28 rfl (lv_at hl 1 rfl) ?_
    refine r_kv (q_V (As := []) (rest := []) (K := 38) (ci := 10) S X10 (c_X12_skip_q l G τ hI bb nb 900 fs.1.2.2 (MT_st hR.1 (Or.inl p18.1)).1 (MT_st hR.1 (Or.inl p18.1)).2.1 (MT_st hR.1 (Or.inl p18.1)).2.2) ck12_186 (Nat.le_of_ble_eq_true rfl) rfl (fun _ => ⟨_, rfl⟩) ⟨_, _, rfl⟩ ⟨Nat.le_of_ble_eq_true rfl, Nat.le_of_ble_eq_true rfl⟩ rfl hl.1 rfl (Nat.le_of_ble_eq_true rfl) dX12_takesMind_29 ⟨Nat.le_refl 0, Nat.le_refl 0⟩) X10 (fun t21 H lc q19 X20 => ?_)
    unfold po_X12_skip_q at q19
    obtain ⟨q22, q23, q24, q25, q26, q27, q28⟩ := q19
    have F29 : Fr [(131, 15), (131, 16), (131, 4), (131, 11), (131, 12), (131, 13), (131, 14), (131, 18), (131, 21)] [331] τ t21 := Fr_call Fr_rfl q23 (by decide)
    obtain ⟨v30, z31⟩ : ∃ x, t21 131 4 = x := ⟨_, rfl⟩
    rw [z31] at q24
    obtain ⟨v32, z33⟩ : ∃ x, t21 131 11 = x := ⟨_, rfl⟩
    rw [z33] at q25
    have e34 := congrArg Int32.toInt z2
    have e35 := congrArg Int32.toInt z31
    have e36 := congrArg Int32.toInt z2
    have e37 := congrArg Int32.toInt z31
    have e38 := congrArg Int32.toInt z5
    have e39 := congrArg Int32.toInt z33
    have hR40 : RM bb nb t21 (stp bb nb fs) := ⟨q28, RH_fr hR.2.1 ((q23 131 20 (by decide)).trans rfl) (fun j _ => ((q23 134 j (by simp [fz])).trans rfl)) (fun j => ((q23 336 j (by simp [fz])).trans rfl)), RS_fr hR.2.2 (fun j => ((q23 337 j (by simp [fz])).trans rfl))⟩
    refine r_aload_n S dX12_takesMind_32 rfl (lv_at hl 1 rfl) ?_
    refine r_iload_n S dX12_takesMind_33 rfl (lv_at hl 2 rfl) ?_
    refine r_bipush S dX12_takesMind_34 (by decide) (fun v41 z42 => ?_)
    have r43 := R_eq z42
    refine r_ki (q_V (As := [.int a0, .int v41]) (rest := []) (K := 38) (ci := 10) S X20 (c_X12_takes_q_1_9 l G t21 q22 a0 v41 h_a0 r43 bb nb (stp bb nb fs) hR40 ) ck12_212 (Nat.le_of_ble_eq_true rfl) rfl (fun _ => ⟨_, rfl⟩) ⟨_, _, rfl⟩ ⟨Nat.le_of_ble_eq_true rfl, Nat.le_of_ble_eq_true rfl⟩ rfl hl.1 rfl (Nat.le_of_ble_eq_true rfl) dX12_takesMind_36 ⟨Nat.le_refl 0, Nat.le_refl 0⟩) X20 (fun v47 t46 H lc q44 X45 => ?_)
    unfold po_X12_takes_q_1_9 at q44
    obtain ⟨q48, q49, q50, q51, q52, q53, q54, q55, q56⟩ := q44
    have F57 : Fr [(131, 15), (131, 16), (131, 4), (131, 11), (131, 12), (131, 13), (131, 14), (131, 18), (131, 21)] [331] τ t46 := Fr_call F29 q49 (by decide)
    obtain ⟨v58, z59⟩ : ∃ x, t46 131 4 = x := ⟨_, rfl⟩
    rw [z59] at q52
    obtain ⟨v60, z61⟩ : ∃ x, t46 131 11 = x := ⟨_, rfl⟩
    rw [z61] at q53
    have e62 := congrArg Int32.toInt z31
    have e63 := congrArg Int32.toInt z59
    have e64 := congrArg Int32.toInt z33
    have e65 := congrArg Int32.toInt z61
    refine r_if_ne (tgt := 44) S dX12_takesMind_39 (by decide) (fun c66 => ?_) (fun c66 => ?_)
    ·
      have r67 : R (1) (1) v47 := ⟨by omega, by omega⟩
      have p68 := q51 (by omega)
      obtain ⟨v69, z70⟩ : ∃ x, t46 131 18 = x := ⟨_, rfl⟩
      rw [z70] at p68
      have p71 := (QM_1 q56) (by omega)
      obtain ⟨g72, e73, hP74⟩ := p71
      refine r_aload_n S dX12_takesMind_44 rfl (lv_at hl 1 rfl) ?_
      refine r_iload_n S dX12_takesMind_45 rfl (lv_at hl 0 rfl) ?_
      refine r_if_eq (tgt := 57) S dX12_takesMind_46 (by decide) (fun c75 => ?_) (fun c75 => ?_)
      ·
        exfalso; omega
      ·
        refine r_aload_n S dX12_takesMind_49 rfl (lv_at hl 1 rfl) ?_
        refine r_geti (K := 38) S X45 (Nat.le_of_ble_eq_true rfl) rfl lk12_193_10 (fun _ => ⟨_, rfl, rfl⟩) z70 dX12_takesMind_50 ?_
        refine r_ineg S dX12_takesMind_53 (fun v76 z77 => ?_)
        obtain ⟨e78, r79⟩ := i_neg (lo := -9) (hi := -1) z77 p68 rfl
        refine r_goto (tgt := 61) S dX12_takesMind_54 (by decide) ?_
        refine r_put (K := 38) (ty := .int) S X45 (Nat.le_of_ble_eq_true rfl) rfl lk12_215_10 (fun _ => ⟨_, rfl, Nat.le_of_ble_eq_true rfl, rfl⟩) (fun _ _ _ h => by cases h; exact ⟨rfl, rfl⟩) rfl rfl dX12_takesMind_61 (fun t80 H lc M81 X82 => ?_)
        have I83 := Inv_mu q48 M81 (show Rg (kd 131) 21 v76 from (R_of (lo := -9) (hi := 9) r79 rfl))
        have F84 : Fr [(131, 15), (131, 16), (131, 4), (131, 11), (131, 12), (131, 13), (131, 14), (131, 18), (131, 21)] [331] τ t80 := Fr_mu F57 M81 (by decide)
        refine r_iconst S dX12_takesMind_64 (by decide) (fun v85 z86 => ?_)
        have r87 := R_eq z86
        exact r_ret S hr hlk X82 ⟨I83, F84, (R_of r87 rfl), (by rw [((M81.2 131 4 (Or.inr (by decide))).trans z59)]; exact R_of q52 rfl), (by rw [((M81.2 131 11 (Or.inr (by decide))).trans z61)]; exact R_of q53 rfl), (by have h1_0 := congrArg Int32.toInt ((M81.2 131 4 (Or.inr (by decide))).trans z59); have h2_0 := congrArg Int32.toInt z2; omega), (by have h1_0 := congrArg Int32.toInt ((M81.2 131 4 (Or.inr (by decide))).trans z59); have h2_0 := congrArg Int32.toInt z2; omega), (QM_r ((thn_r (sYN_g (Or.inr p18))).trans e73) (by omega) ⟨by rw [M81.1]; omega, (RM_fr hP74.2 ((M81.2 131 3 (Or.inr (by decide))).trans rfl) ((M81.2 131 4 (Or.inr (by decide))).trans rfl) ((M81.2 131 5 (Or.inr (by decide))).trans rfl) ((M81.2 131 11 (Or.inr (by decide))).trans rfl) ((M81.2 131 12 (Or.inr (by decide))).trans rfl) ((M81.2 131 14 (Or.inr (by decide))).trans rfl) (fun j => ((M81.2 132 j (Or.inl (by decide))).trans rfl)) (fun j => ((M81.2 331 j (Or.inl (by decide))).trans rfl)) ((M81.2 131 20 (Or.inr (by decide))).trans rfl) (fun j => ((M81.2 134 j (Or.inl (by decide))).trans rfl)) (fun j => ((M81.2 336 j (Or.inl (by decide))).trans rfl)) (fun j => ((M81.2 337 j (Or.inl (by decide))).trans rfl)))⟩)⟩ (nr_bool (R_of (lo := 0) (hi := 1) r87 rfl)) dX12_takesMind_65
    ·
      have r88 : R (0) (0) v47 := ⟨by omega, by omega⟩
      have p89 := (QM_0 q56) (by omega)
      obtain ⟨q90, e91, h92, h93⟩ := p89
      refine r_iconst S dX12_takesMind_42 (by decide) (fun v94 z95 => ?_)
      have r96 := R_eq z95
      exact r_ret S hr hlk X45 ⟨q48, F57, (R_of r96 rfl), (by rw [z59]; exact R_of q52 rfl), (by rw [z61]; exact R_of q53 rfl), (by have h1_0 := congrArg Int32.toInt z59; have h2_0 := congrArg Int32.toInt z2; omega), (by have h1_0 := congrArg Int32.toInt z59; have h2_0 := congrArg Int32.toInt z2; omega), (QM_l ((thn_r (sYN_g (Or.inr p18))).trans e91) (by omega) h92 h93)⟩ (nr_bool (R_of (lo := 0) (hi := 1) r96 rfl)) dX12_takesMind_43
  ·
    have r97 : R (0) (0) v12 := ⟨by omega, by omega⟩
    have p98 := (iff_n q15) (by omega)
    refine r_aload_n S dX12_takesMind_12 rfl (lv_at hl 1 rfl) ?_
    refine lv_ldc2 S.1.1 S.1.2.1 S.1.2.2.2.1 (S.1.2.2.2.2 _ kw28) dX12_takesMind_13 ?_
    refine lv_topl (fun j99 z100 => ?_)
    refine r_ki (q_V (As := [.long j99]) (rest := []) (K := 38) (ci := 10) S X10 (c_X12_isWord_q l G τ hI j99 bb nb 900 fs.1 (kwl.getD 4 []) hR.1 (by rw [z100]; decide +kernel) (kwl_at (by decide))) ck12_208 (Nat.le_of_ble_eq_true rfl) rfl (fun _ => ⟨_, rfl⟩) ⟨_, _, rfl⟩ ⟨Nat.le_of_ble_eq_true rfl, Nat.le_of_ble_eq_true rfl⟩ rfl hl.1 rfl (Nat.le_of_ble_eq_true rfl) dX12_takesMind_16 ⟨Nat.le_refl 0, Nat.le_refl 0⟩) X10 (fun v104 t103 H lc q101 X102 => ?_)
    unfold po_X12_isWord_q at q101
    obtain ⟨q105, q106, q107⟩ := q101
    rw [q105] at X102
    refine r_if_ne (tgt := 28) S dX12_takesMind_19 (by decide) (fun c108 => ?_) (fun c108 => ?_)
    ·
      have r109 : R (1) (1) v104 := ⟨by omega, by omega⟩
      have p110 := (q107).mp (by omega)
      refine r_aload_n S dX12_takesMind_28 rfl (lv_at hl 1 rfl) ?_
      refine r_kv (q_V (As := []) (rest := []) (K := 38) (ci := 10) S X102 (c_X12_skip_q l G τ hI bb nb 900 fs.1.2.2 (MT_st hR.1 (Or.inl p110.1)).1 (MT_st hR.1 (Or.inl p110.1)).2.1 (MT_st hR.1 (Or.inl p110.1)).2.2) ck12_186 (Nat.le_of_ble_eq_true rfl) rfl (fun _ => ⟨_, rfl⟩) ⟨_, _, rfl⟩ ⟨Nat.le_of_ble_eq_true rfl, Nat.le_of_ble_eq_true rfl⟩ rfl hl.1 rfl (Nat.le_of_ble_eq_true rfl) dX12_takesMind_29 ⟨Nat.le_refl 0, Nat.le_refl 0⟩) X102 (fun t113 H lc q111 X112 => ?_)
      unfold po_X12_skip_q at q111
      obtain ⟨q114, q115, q116, q117, q118, q119, q120⟩ := q111
      have F121 : Fr [(131, 15), (131, 16), (131, 4), (131, 11), (131, 12), (131, 13), (131, 14), (131, 18), (131, 21)] [331] τ t113 := Fr_call Fr_rfl q115 (by decide)
      obtain ⟨v122, z123⟩ : ∃ x, t113 131 4 = x := ⟨_, rfl⟩
      rw [z123] at q116
      obtain ⟨v124, z125⟩ : ∃ x, t113 131 11 = x := ⟨_, rfl⟩
      rw [z125] at q117
      have e126 := congrArg Int32.toInt z2
      have e127 := congrArg Int32.toInt z123
      have e128 := congrArg Int32.toInt z2
      have e129 := congrArg Int32.toInt z123
      have e130 := congrArg Int32.toInt z5
      have e131 := congrArg Int32.toInt z125
      have hR132 : RM bb nb t113 (stp bb nb fs) := ⟨q120, RH_fr hR.2.1 ((q115 131 20 (by decide)).trans rfl) (fun j _ => ((q115 134 j (by simp [fz])).trans rfl)) (fun j => ((q115 336 j (by simp [fz])).trans rfl)), RS_fr hR.2.2 (fun j => ((q115 337 j (by simp [fz])).trans rfl))⟩
      refine r_aload_n S dX12_takesMind_32 rfl (lv_at hl 1 rfl) ?_
      refine r_iload_n S dX12_takesMind_33 rfl (lv_at hl 2 rfl) ?_
      refine r_bipush S dX12_takesMind_34 (by decide) (fun v133 z134 => ?_)
      have r135 := R_eq z134
      refine r_ki (q_V (As := [.int a0, .int v133]) (rest := []) (K := 38) (ci := 10) S X112 (c_X12_takes_q_1_9 l G t113 q114 a0 v133 h_a0 r135 bb nb (stp bb nb fs) hR132 ) ck12_212 (Nat.le_of_ble_eq_true rfl) rfl (fun _ => ⟨_, rfl⟩) ⟨_, _, rfl⟩ ⟨Nat.le_of_ble_eq_true rfl, Nat.le_of_ble_eq_true rfl⟩ rfl hl.1 rfl (Nat.le_of_ble_eq_true rfl) dX12_takesMind_36 ⟨Nat.le_refl 0, Nat.le_refl 0⟩) X112 (fun v139 t138 H lc q136 X137 => ?_)
      unfold po_X12_takes_q_1_9 at q136
      obtain ⟨q140, q141, q142, q143, q144, q145, q146, q147, q148⟩ := q136
      have F149 : Fr [(131, 15), (131, 16), (131, 4), (131, 11), (131, 12), (131, 13), (131, 14), (131, 18), (131, 21)] [331] τ t138 := Fr_call F121 q141 (by decide)
      obtain ⟨v150, z151⟩ : ∃ x, t138 131 4 = x := ⟨_, rfl⟩
      rw [z151] at q144
      obtain ⟨v152, z153⟩ : ∃ x, t138 131 11 = x := ⟨_, rfl⟩
      rw [z153] at q145
      have e154 := congrArg Int32.toInt z123
      have e155 := congrArg Int32.toInt z151
      have e156 := congrArg Int32.toInt z125
      have e157 := congrArg Int32.toInt z153
      refine r_if_ne (tgt := 44) S dX12_takesMind_39 (by decide) (fun c158 => ?_) (fun c158 => ?_)
      ·
        have r159 : R (1) (1) v139 := ⟨by omega, by omega⟩
        have p160 := q143 (by omega)
        obtain ⟨v161, z162⟩ : ∃ x, t138 131 18 = x := ⟨_, rfl⟩
        rw [z162] at p160
        have p163 := (QM_1 q148) (by omega)
        obtain ⟨g164, e165, hP166⟩ := p163
        refine r_aload_n S dX12_takesMind_44 rfl (lv_at hl 1 rfl) ?_
        refine r_iload_n S dX12_takesMind_45 rfl (lv_at hl 0 rfl) ?_
        refine r_if_eq (tgt := 57) S dX12_takesMind_46 (by decide) (fun c167 => ?_) (fun c167 => ?_)
        ·
          refine r_aload_n S dX12_takesMind_57 rfl (lv_at hl 1 rfl) ?_
          refine r_geti (K := 38) S X137 (Nat.le_of_ble_eq_true rfl) rfl lk12_193_10 (fun _ => ⟨_, rfl, rfl⟩) z162 dX12_takesMind_58 ?_
          refine r_put (K := 38) (ty := .int) S X137 (Nat.le_of_ble_eq_true rfl) rfl lk12_215_10 (fun _ => ⟨_, rfl, Nat.le_of_ble_eq_true rfl, rfl⟩) (fun _ _ _ h => by cases h; exact ⟨rfl, rfl⟩) rfl rfl dX12_takesMind_61 (fun t168 H lc M169 X170 => ?_)
          have I171 := Inv_mu q140 M169 (show Rg (kd 131) 21 v161 from (R_of (lo := -9) (hi := 9) p160 rfl))
          have F172 : Fr [(131, 15), (131, 16), (131, 4), (131, 11), (131, 12), (131, 13), (131, 14), (131, 18), (131, 21)] [331] τ t168 := Fr_mu F149 M169 (by decide)
          refine r_iconst S dX12_takesMind_64 (by decide) (fun v173 z174 => ?_)
          have r175 := R_eq z174
          exact r_ret S hr hlk X170 ⟨I171, F172, (R_of r175 rfl), (by rw [((M169.2 131 4 (Or.inr (by decide))).trans z151)]; exact R_of q144 rfl), (by rw [((M169.2 131 11 (Or.inr (by decide))).trans z153)]; exact R_of q145 rfl), (by have h1_0 := congrArg Int32.toInt ((M169.2 131 4 (Or.inr (by decide))).trans z151); have h2_0 := congrArg Int32.toInt z2; omega), (by have h1_0 := congrArg Int32.toInt ((M169.2 131 4 (Or.inr (by decide))).trans z151); have h2_0 := congrArg Int32.toInt z2; omega), (QM_r ((thn_r (sYN_g (Or.inl p110))).trans e165) (by omega) ⟨by rw [M169.1]; omega, (RM_fr hP166.2 ((M169.2 131 3 (Or.inr (by decide))).trans rfl) ((M169.2 131 4 (Or.inr (by decide))).trans rfl) ((M169.2 131 5 (Or.inr (by decide))).trans rfl) ((M169.2 131 11 (Or.inr (by decide))).trans rfl) ((M169.2 131 12 (Or.inr (by decide))).trans rfl) ((M169.2 131 14 (Or.inr (by decide))).trans rfl) (fun j => ((M169.2 132 j (Or.inl (by decide))).trans rfl)) (fun j => ((M169.2 331 j (Or.inl (by decide))).trans rfl)) ((M169.2 131 20 (Or.inr (by decide))).trans rfl) (fun j => ((M169.2 134 j (Or.inl (by decide))).trans rfl)) (fun j => ((M169.2 336 j (Or.inl (by decide))).trans rfl)) (fun j => ((M169.2 337 j (Or.inl (by decide))).trans rfl)))⟩)⟩ (nr_bool (R_of (lo := 0) (hi := 1) r175 rfl)) dX12_takesMind_65
        ·
          exfalso; omega
      ·
        have r176 : R (0) (0) v139 := ⟨by omega, by omega⟩
        have p177 := (QM_0 q148) (by omega)
        obtain ⟨q178, e179, h180, h181⟩ := p177
        refine r_iconst S dX12_takesMind_42 (by decide) (fun v182 z183 => ?_)
        have r184 := R_eq z183
        exact r_ret S hr hlk X137 ⟨q140, F149, (R_of r184 rfl), (by rw [z151]; exact R_of q144 rfl), (by rw [z153]; exact R_of q145 rfl), (by have h1_0 := congrArg Int32.toInt z151; have h2_0 := congrArg Int32.toInt z2; omega), (by have h1_0 := congrArg Int32.toInt z151; have h2_0 := congrArg Int32.toInt z2; omega), (QM_l ((thn_r (sYN_g (Or.inl p110))).trans e179) (by omega) h180 h181)⟩ (nr_bool (R_of (lo := 0) (hi := 1) r184 rfl)) dX12_takesMind_43
    ·
      have r185 : R (0) (0) v104 := ⟨by omega, by omega⟩
      have p186 := (iff_n q107) (by omega)
      refine r_aload_n S dX12_takesMind_22 rfl (lv_at hl 1 rfl) ?_
      refine r_iconst S dX12_takesMind_23 (by decide) (fun v187 z188 => ?_)
      have r189 := R_eq z188
      refine r_ki (q_V (As := [.int v187]) (rest := []) (K := 38) (ci := 10) S X102 (c_X12_bad_q l G τ hI v187 (R_of (lo := -2147483648) (hi := 2147483647) r189 rfl)) ck12_183 (Nat.le_of_ble_eq_true rfl) rfl (fun _ => ⟨_, rfl⟩) ⟨_, _, rfl⟩ ⟨Nat.le_of_ble_eq_true rfl, Nat.le_of_ble_eq_true rfl⟩ rfl hl.1 rfl (Nat.le_of_ble_eq_true rfl) dX12_takesMind_24 ⟨Nat.le_refl 0, Nat.le_refl 0⟩) X102 (fun v193 t192 H lc q190 X191 => ?_)
      unfold po_X12_bad_q at q190
      obtain ⟨q194, q195, q196, q197⟩ := q190
      have F198 : Fr [(131, 15), (131, 16), (131, 4), (131, 11), (131, 12), (131, 13), (131, 14), (131, 18), (131, 21)] [331] τ t192 := Fr_call Fr_rfl q195 (by decide)
      exact r_ret S hr hlk X191 ⟨q194, F198, (R_of q196 rfl), (by rw [((q195 131 4 (by decide)).trans z2)]; exact R_of r3 rfl), (by rw [((q195 131 11 (by decide)).trans z5)]; exact R_of r6 rfl), (by have h1_0 := congrArg Int32.toInt ((q195 131 4 (by decide)).trans z2); have h2_0 := congrArg Int32.toInt z2; omega), (by have h1_0 := congrArg Int32.toInt ((q195 131 4 (by decide)).trans z2); have h2_0 := congrArg Int32.toInt z2; omega), (QM_b (thn_l (sYN_b (fun h => h.elim p186 p98))) (by omega) (by rw [q197.1]; omega) (by rw [q197.2]; exact RM_at hR))⟩ (nr_bool (R_of (lo := 0) (hi := 1) q196 rfl)) dX12_takesMind_27
def po_X12_once_q0 (τ : Tau)  (a0 a1 a2 a3 : Int32)  (bb : Nat → Int) (nb : Nat) (fs : FS) (r : Int32) (u : Tau) : Prop := Inv u ∧ Fr [(131, 15), (131, 16), (131, 4), (131, 11), (131, 12), (131, 13), (131, 14), (131, 18), (131, 20)] [134, 331] τ u ∧ R (0) (1) r ∧ R (0) (940) (u 131 4) ∧ R (0) (4) (u 131 11) ∧ (τ 131 4).toInt ≤ (u 131 4).toInt ∧ (r.toInt = 1 → (τ 131 4).toInt < (u 131 4).toInt) ∧ QM (sSeats bb nb fs) r u (fun g => RM bb nb u g)
set_option maxHeartbeats 4000000 in
set_option maxRecDepth 100000 in
theorem c_X12_once_q0 (l : Launch) (G : Gx) (τ : Tau) (hI : Inv τ) (a0 : Int32) (a1 : Int32) (a2 : Int32) (a3 : Int32) (h_a0 : R (0) (0) a0) (h_a1 : R (2) (2) a1) (h_a2 : R (1) (1) a2) (h_a3 : R (8) (8) a3) (bb : Nat → Int) (nb : Nat) (fs : FS) (hR : RM bb nb τ fs) (hW : isW bb 0 fs.1) : Ci l G yX12_once cX12_once 5 (some .boolean) 3 65 [.ref (G.2.2.2.1 131), .int a0, .int a1, .int a2, .int a3] τ (po_X12_once_q0 τ  a0 a1 a2 a3  bb nb fs) := by
  unfold Ci
  refine C_of (own := RX12) (by decide) rfl (Nat.le_of_ble_eq_true rfl) ?_
  intro p e s m below meth c ls S hr hlk X hl
  have hl : lv_has ls 5 [(0, .ref (G.2.2.2.1 131)), (1, .int a0), (2, .int a1), (3, .int a2), (4, .int a3)] := hl
  obtain ⟨v1, z2⟩ : ∃ x, τ 131 4 = x := ⟨_, rfl⟩
  have r3 : R (0) (940) v1 := rd hI rfl z2
  obtain ⟨v4, z5⟩ : ∃ x, τ 131 11 = x := ⟨_, rfl⟩
  have r6 : R (0) (4) v4 := rd hI rfl z5
  refine r_aload_n S dX12_once_0 rfl (lv_at hl 0 rfl) ?_
  refine r_getn (K := 38) S X (Nat.le_of_ble_eq_true rfl) rfl lk12_218_10 (fun _ => ⟨_, rfl, rfl⟩) dX12_once_1 (fun v7 z8 => ?_)
  have r10 := R_any v7
  refine r_iload_n S dX12_once_4 rfl (lv_at hl 1 rfl) ?_
  refine r_ki (q_S (As := [.int v7, .int a0]) (rest := []) S X (c_X12_bitOf_q l G τ hI v7 a0 r10 (R_of (lo := 0) (hi := 9) h_a0 rfl)) ck12_221 ⟨Nat.le_of_ble_eq_true rfl, Nat.le_of_ble_eq_true rfl⟩ rfl hl.1 rfl (Nat.le_of_ble_eq_true rfl) dX12_once_5 ⟨Nat.le_refl 0, Nat.le_refl 0⟩) X (fun v14 t13 H lc q11 X12 => ?_)
  unfold po_X12_bitOf_q at q11
  obtain ⟨q15, q16, q17⟩ := q11
  rw [q15] at X12
  refine r_if_eq (tgt := 17) S dX12_once_8 (by decide) (fun c18 => ?_) (fun c18 => ?_)
  ·
    have r19 : R (0) (0) v14 := ⟨by omega, by omega⟩
    have p20 := (iff_n q17) (by omega)
    refine r_aload_n S dX12_once_17 rfl (lv_at hl 0 rfl) ?_
    refine r_dup S dX12_once_18 rfl ?_
    refine r_geti (K := 38) S X12 (Nat.le_of_ble_eq_true rfl) rfl lk12_218_10 (fun _ => ⟨_, rfl, rfl⟩) z8 dX12_once_19 ?_
    refine r_iconst S dX12_once_22 (by decide) (fun v21 z22 => ?_)
    have r23 := R_eq z22
    refine r_iload_n S dX12_once_23 rfl (lv_at hl 1 rfl) ?_
    refine r_ishl S dX12_once_24 (fun v24 z25 => ?_)
    have r27 : R (1) (1) v24 := i_shl z25 r23 h_a0 rfl
    refine r_ior S dX12_once_25 (fun v28 z29 => ?_)
    have r30 := R_any v28
    refine r_put (K := 38) (ty := .int) S X12 (Nat.le_of_ble_eq_true rfl) rfl lk12_218_10 (fun _ => ⟨_, rfl, Nat.le_of_ble_eq_true rfl, rfl⟩) (fun _ _ _ h => by cases h; exact ⟨rfl, rfl⟩) rfl rfl dX12_once_26 (fun t31 H lc M32 X33 => ?_)
    have I34 := Inv_mu hI M32 (R_any v28)
    have F35 : Fr [(131, 15), (131, 16), (131, 4), (131, 11), (131, 12), (131, 13), (131, 14), (131, 18), (131, 20)] [134, 331] τ t31 := Fr_mu Fr_rfl M32 (by decide)
    have hR36 : RM bb nb t31 (fs.1, usT fs.2 true) := ⟨MT_fr hR.1 ((M32.2 131 3 (Or.inr (by decide))).trans rfl) ((M32.2 131 4 (Or.inr (by decide))).trans rfl) ((M32.2 131 5 (Or.inr (by decide))).trans rfl) ((M32.2 131 11 (Or.inr (by decide))).trans rfl) ((M32.2 131 12 (Or.inr (by decide))).trans rfl) ((M32.2 131 14 (Or.inr (by decide))).trans rfl) (fun j => ((M32.2 132 j (Or.inl (by decide))).trans rfl)) (fun j => ((M32.2 331 j (Or.inl (by decide))).trans rfl)), RH_sT hR.2.1 M32 z8 (by rw [z29, z25, show v21 = 1 from Int32.toInt_inj.mp (by show v21.toInt = 1; omega)]) (by omega), RS_fr hR.2.2 (fun j => ((M32.2 337 j (Or.inl (by decide))).trans rfl))⟩
    refine r_aload_n S dX12_once_29 rfl (lv_at hl 0 rfl) ?_
    refine r_kv (q_V (As := []) (rest := []) (K := 38) (ci := 10) S X33 (c_X12_skip_q l G t31 I34 bb nb 900 (fs.1, usT fs.2 true).1.2.2 (MT_st hR36.1 (Or.inl hW.1)).1 (MT_st hR36.1 (Or.inl hW.1)).2.1 (MT_st hR36.1 (Or.inl hW.1)).2.2) ck12_186 (Nat.le_of_ble_eq_true rfl) rfl (fun _ => ⟨_, rfl⟩) ⟨_, _, rfl⟩ ⟨Nat.le_of_ble_eq_true rfl, Nat.le_of_ble_eq_true rfl⟩ rfl hl.1 rfl (Nat.le_of_ble_eq_true rfl) dX12_once_30 ⟨Nat.le_refl 0, Nat.le_refl 0⟩) X33 (fun t39 H lc q37 X38 => ?_)
    unfold po_X12_skip_q at q37
    obtain ⟨q40, q41, q42, q43, q44, q45, q46⟩ := q37
    have F47 : Fr [(131, 15), (131, 16), (131, 4), (131, 11), (131, 12), (131, 13), (131, 14), (131, 18), (131, 20)] [134, 331] τ t39 := Fr_call F35 q41 (by decide)
    obtain ⟨v48, z49⟩ : ∃ x, t39 131 4 = x := ⟨_, rfl⟩
    rw [z49] at q42
    obtain ⟨v50, z51⟩ : ∃ x, t39 131 11 = x := ⟨_, rfl⟩
    rw [z51] at q43
    have e52 := congrArg Int32.toInt ((M32.2 131 4 (Or.inr (by decide))).trans z2)
    have e53 := congrArg Int32.toInt z49
    have e54 := congrArg Int32.toInt ((M32.2 131 4 (Or.inr (by decide))).trans z2)
    have e55 := congrArg Int32.toInt z49
    have e56 := congrArg Int32.toInt ((M32.2 131 11 (Or.inr (by decide))).trans z5)
    have e57 := congrArg Int32.toInt z51
    have hR58 : RM bb nb t39 (stp bb nb (fs.1, usT fs.2 true)) := ⟨q46, RH_fr hR36.2.1 ((q41 131 20 (by decide)).trans rfl) (fun j _ => ((q41 134 j (by simp [fz])).trans rfl)) (fun j => ((q41 336 j (by simp [fz])).trans rfl)), RS_fr hR36.2.2 (fun j => ((q41 337 j (by simp [fz])).trans rfl))⟩
    refine r_aload_n S dX12_once_33 rfl (lv_at hl 0 rfl) ?_
    refine r_iload_n S dX12_once_34 rfl (lv_at hl 3 rfl) ?_
    refine r_iload S dX12_once_35 (lv_at hl 4 rfl) ?_
    refine r_ki (q_V (As := [.int a2, .int a3]) (rest := []) (K := 38) (ci := 10) S X38 (c_X12_takes_q_1_8 l G t39 q40 a2 a3 h_a2 h_a3 bb nb (stp bb nb (fs.1, usT fs.2 true)) hR58 ) ck12_212 (Nat.le_of_ble_eq_true rfl) rfl (fun _ => ⟨_, rfl⟩) ⟨_, _, rfl⟩ ⟨Nat.le_of_ble_eq_true rfl, Nat.le_of_ble_eq_true rfl⟩ rfl hl.1 rfl (Nat.le_of_ble_eq_true rfl) dX12_once_37 ⟨Nat.le_refl 0, Nat.le_refl 0⟩) X38 (fun v62 t61 H lc q59 X60 => ?_)
    unfold po_X12_takes_q_1_8 at q59
    obtain ⟨q63, q64, q65, q66, q67, q68, q69, q70, q71⟩ := q59
    have F72 : Fr [(131, 15), (131, 16), (131, 4), (131, 11), (131, 12), (131, 13), (131, 14), (131, 18), (131, 20)] [134, 331] τ t61 := Fr_call F47 q64 (by decide)
    obtain ⟨v73, z74⟩ : ∃ x, t61 131 4 = x := ⟨_, rfl⟩
    rw [z74] at q67
    obtain ⟨v75, z76⟩ : ∃ x, t61 131 11 = x := ⟨_, rfl⟩
    rw [z76] at q68
    have e77 := congrArg Int32.toInt z49
    have e78 := congrArg Int32.toInt z74
    have e79 := congrArg Int32.toInt z51
    have e80 := congrArg Int32.toInt z76
    refine r_if_ne (tgt := 45) S dX12_once_40 (by decide) (fun c81 => ?_) (fun c81 => ?_)
    ·
      have r82 : R (1) (1) v62 := ⟨by omega, by omega⟩
      have p83 := q66 (by omega)
      obtain ⟨v84, z85⟩ : ∃ x, t61 131 18 = x := ⟨_, rfl⟩
      rw [z85] at p83
      have p86 := (QM_1 q71) (by omega)
      obtain ⟨g87, e88, hP89⟩ := p86
      refine r_aload_n S dX12_once_45 rfl (lv_at hl 0 rfl) ?_
      refine r_get (K := 38) (v := .ref (G.2.2.2.1 134)) S X60 (Nat.le_of_ble_eq_true rfl) rfl lk12_37_10 (fun _ => ⟨_, rfl, rfl⟩) dX12_once_46 ?_
      refine r_iload_n S dX12_once_49 rfl (lv_at hl 2 rfl) ?_
      refine r_aload_n S dX12_once_50 rfl (lv_at hl 0 rfl) ?_
      refine r_geti (K := 38) S X60 (Nat.le_of_ble_eq_true rfl) rfl lk12_193_10 (fun _ => ⟨_, rfl, rfl⟩) z85 dX12_once_51 ?_
      refine r_ast (n := 125) (K := 41) S X60 (Nat.le_of_ble_eq_true rfl) rfl (fun _ _ => rfl) (ix_of h_a1 rfl) dX12_once_54 (fun t90 H lc M91 X92 => ?_)
      have I93 := Inv_mu q63 M91 (show Rg (kd 134) _ v84 from wrs (K := 41) (a := 2) (n := 1) (R_of h_a1 rfl) (R_of (lo := 0) (hi := 8) p83 rfl) (by decide +kernel))
      have F94 : Fr [(131, 15), (131, 16), (131, 4), (131, 11), (131, 12), (131, 13), (131, 14), (131, 18), (131, 20)] [134, 331] τ t90 := Fr_cell F72 M91 (by decide)
      have hR95 : RM bb nb t90 (g87.2.1, use g87.2.2 g87.1) := ⟨MT_fr hP89.2.1 ((M91.2 131 3 (Or.inl (by decide))).trans rfl) ((M91.2 131 4 (Or.inl (by decide))).trans rfl) ((M91.2 131 5 (Or.inl (by decide))).trans rfl) ((M91.2 131 11 (Or.inl (by decide))).trans rfl) ((M91.2 131 12 (Or.inl (by decide))).trans rfl) ((M91.2 131 14 (Or.inl (by decide))).trans rfl) (fun j => ((M91.2 132 j (Or.inl (by decide))).trans rfl)) (fun j => ((M91.2 331 j (Or.inl (by decide))).trans rfl)), RH_se hP89.2.2.1 M91 (by have c : a1.toNatClampNeg = a1.toInt.toNat := rfl; omega) (by rw [← z85]; exact hP89.1), RS_fr hP89.2.2.2 (fun j => ((M91.2 337 j (Or.inl (by decide))).trans rfl))⟩
      refine r_iconst S dX12_once_55 (by decide) (fun v96 z97 => ?_)
      have r98 := R_eq z97
      exact r_ret S hr hlk X92 ⟨I93, F94, (R_of r98 rfl), (by rw [((M91.2 131 4 (Or.inl (by decide))).trans z74)]; exact R_of q67 rfl), (by rw [((M91.2 131 11 (Or.inl (by decide))).trans z76)]; exact R_of q68 rfl), (by have h1_0 := congrArg Int32.toInt ((M91.2 131 4 (Or.inl (by decide))).trans z74); have h2_0 := congrArg Int32.toInt z2; omega), (by have h1_0 := congrArg Int32.toInt ((M91.2 131 4 (Or.inl (by decide))).trans z74); have h2_0 := congrArg Int32.toInt z2; omega), (QM_r (sSeats_r (fun h => p20 (by rw [show a0.toInt.toNat = 0 by omega, ← z8]; exact hR.2.1.1.mpr h)) e88) (by omega) hR95)⟩ (nr_bool (R_of (lo := 0) (hi := 1) r98 rfl)) dX12_once_56
    ·
      have r99 : R (0) (0) v62 := ⟨by omega, by omega⟩
      have p100 := (QM_0 q71) (by omega)
      obtain ⟨q101, e102, h103, h104⟩ := p100
      refine r_iconst S dX12_once_43 (by decide) (fun v105 z106 => ?_)
      have r107 := R_eq z106
      exact r_ret S hr hlk X60 ⟨q63, F72, (R_of r107 rfl), (by rw [z74]; exact R_of q67 rfl), (by rw [z76]; exact R_of q68 rfl), (by have h1_0 := congrArg Int32.toInt z74; have h2_0 := congrArg Int32.toInt z2; omega), (by have h1_0 := congrArg Int32.toInt z74; have h2_0 := congrArg Int32.toInt z2; omega), (QM_l (sSeats_l (fun h => p20 (by rw [show a0.toInt.toNat = 0 by omega, ← z8]; exact hR.2.1.1.mpr h)) e102) (by omega) h103 h104)⟩ (nr_bool (R_of (lo := 0) (hi := 1) r107 rfl)) dX12_once_44
  ·
    have r108 : R (1) (1) v14 := ⟨by omega, by omega⟩
    have p109 := (q17).mp (by omega)
    refine r_aload_n S dX12_once_11 rfl (lv_at hl 0 rfl) ?_
    refine r_iconst S dX12_once_12 (by decide) (fun v110 z111 => ?_)
    have r112 := R_eq z111
    refine r_ki (q_V (As := [.int v110]) (rest := []) (K := 38) (ci := 10) S X12 (c_X12_bad_q l G τ hI v110 (R_of (lo := -2147483648) (hi := 2147483647) r112 rfl)) ck12_183 (Nat.le_of_ble_eq_true rfl) rfl (fun _ => ⟨_, rfl⟩) ⟨_, _, rfl⟩ ⟨Nat.le_of_ble_eq_true rfl, Nat.le_of_ble_eq_true rfl⟩ rfl hl.1 rfl (Nat.le_of_ble_eq_true rfl) dX12_once_13 ⟨Nat.le_refl 0, Nat.le_refl 0⟩) X12 (fun v116 t115 H lc q113 X114 => ?_)
    unfold po_X12_bad_q at q113
    obtain ⟨q117, q118, q119, q120⟩ := q113
    have F121 : Fr [(131, 15), (131, 16), (131, 4), (131, 11), (131, 12), (131, 13), (131, 14), (131, 18), (131, 20)] [134, 331] τ t115 := Fr_call Fr_rfl q118 (by decide)
    exact r_ret S hr hlk X114 ⟨q117, F121, (R_of q119 rfl), (by rw [((q118 131 4 (by decide)).trans z2)]; exact R_of r3 rfl), (by rw [((q118 131 11 (by decide)).trans z5)]; exact R_of r6 rfl), (by have h1_0 := congrArg Int32.toInt ((q118 131 4 (by decide)).trans z2); have h2_0 := congrArg Int32.toInt z2; omega), (by have h1_0 := congrArg Int32.toInt ((q118 131 4 (by decide)).trans z2); have h2_0 := congrArg Int32.toInt z2; omega), (QM_b (sSeats_b (hR.2.1.1.mp (by rw [z8]; have q := p109; rw [show a0.toInt.toNat = 0 by omega] at q; exact q))) (by omega) (by rw [q120.1]; omega) (by rw [q120.2]; exact RM_at hR))⟩ (nr_bool (R_of (lo := 0) (hi := 1) q119 rfl)) dX12_once_16
def po_X12_once_q1 (τ : Tau)  (a0 a1 a2 a3 : Int32)  (bb : Nat → Int) (nb : Nat) (fs : FS) (r : Int32) (u : Tau) : Prop := Inv u ∧ Fr [(131, 15), (131, 16), (131, 4), (131, 11), (131, 12), (131, 13), (131, 14), (131, 18), (131, 20)] [134, 331] τ u ∧ R (0) (1) r ∧ R (0) (940) (u 131 4) ∧ R (0) (4) (u 131 11) ∧ (τ 131 4).toInt ≤ (u 131 4).toInt ∧ (r.toInt = 1 → (τ 131 4).toInt < (u 131 4).toInt) ∧ QM (sSlack bb nb fs) r u (fun g => RM bb nb u g)
set_option maxHeartbeats 4000000 in
set_option maxRecDepth 100000 in
theorem c_X12_once_q1 (l : Launch) (G : Gx) (τ : Tau) (hI : Inv τ) (a0 : Int32) (a1 : Int32) (a2 : Int32) (a3 : Int32) (h_a0 : R (1) (1) a0) (h_a1 : R (3) (3) a1) (h_a2 : R (0) (0) a2) (h_a3 : R (9) (9) a3) (bb : Nat → Int) (nb : Nat) (fs : FS) (hR : RM bb nb τ fs) (hW : isW bb 1 fs.1) : Ci l G yX12_once cX12_once 5 (some .boolean) 3 65 [.ref (G.2.2.2.1 131), .int a0, .int a1, .int a2, .int a3] τ (po_X12_once_q1 τ  a0 a1 a2 a3  bb nb fs) := by
  unfold Ci
  refine C_of (own := RX12) (by decide) rfl (Nat.le_of_ble_eq_true rfl) ?_
  intro p e s m below meth c ls S hr hlk X hl
  have hl : lv_has ls 5 [(0, .ref (G.2.2.2.1 131)), (1, .int a0), (2, .int a1), (3, .int a2), (4, .int a3)] := hl
  obtain ⟨v1, z2⟩ : ∃ x, τ 131 4 = x := ⟨_, rfl⟩
  have r3 : R (0) (940) v1 := rd hI rfl z2
  obtain ⟨v4, z5⟩ : ∃ x, τ 131 11 = x := ⟨_, rfl⟩
  have r6 : R (0) (4) v4 := rd hI rfl z5
  refine r_aload_n S dX12_once_0 rfl (lv_at hl 0 rfl) ?_
  refine r_getn (K := 38) S X (Nat.le_of_ble_eq_true rfl) rfl lk12_218_10 (fun _ => ⟨_, rfl, rfl⟩) dX12_once_1 (fun v7 z8 => ?_)
  have r10 := R_any v7
  refine r_iload_n S dX12_once_4 rfl (lv_at hl 1 rfl) ?_
  refine r_ki (q_S (As := [.int v7, .int a0]) (rest := []) S X (c_X12_bitOf_q l G τ hI v7 a0 r10 (R_of (lo := 0) (hi := 9) h_a0 rfl)) ck12_221 ⟨Nat.le_of_ble_eq_true rfl, Nat.le_of_ble_eq_true rfl⟩ rfl hl.1 rfl (Nat.le_of_ble_eq_true rfl) dX12_once_5 ⟨Nat.le_refl 0, Nat.le_refl 0⟩) X (fun v14 t13 H lc q11 X12 => ?_)
  unfold po_X12_bitOf_q at q11
  obtain ⟨q15, q16, q17⟩ := q11
  rw [q15] at X12
  refine r_if_eq (tgt := 17) S dX12_once_8 (by decide) (fun c18 => ?_) (fun c18 => ?_)
  ·
    have r19 : R (0) (0) v14 := ⟨by omega, by omega⟩
    have p20 := (iff_n q17) (by omega)
    refine r_aload_n S dX12_once_17 rfl (lv_at hl 0 rfl) ?_
    refine r_dup S dX12_once_18 rfl ?_
    refine r_geti (K := 38) S X12 (Nat.le_of_ble_eq_true rfl) rfl lk12_218_10 (fun _ => ⟨_, rfl, rfl⟩) z8 dX12_once_19 ?_
    refine r_iconst S dX12_once_22 (by decide) (fun v21 z22 => ?_)
    have r23 := R_eq z22
    refine r_iload_n S dX12_once_23 rfl (lv_at hl 1 rfl) ?_
    refine r_ishl S dX12_once_24 (fun v24 z25 => ?_)
    have r27 : R (2) (2) v24 := i_shl z25 r23 h_a0 rfl
    refine r_ior S dX12_once_25 (fun v28 z29 => ?_)
    have r30 := R_any v28
    refine r_put (K := 38) (ty := .int) S X12 (Nat.le_of_ble_eq_true rfl) rfl lk12_218_10 (fun _ => ⟨_, rfl, Nat.le_of_ble_eq_true rfl, rfl⟩) (fun _ _ _ h => by cases h; exact ⟨rfl, rfl⟩) rfl rfl dX12_once_26 (fun t31 H lc M32 X33 => ?_)
    have I34 := Inv_mu hI M32 (R_any v28)
    have F35 : Fr [(131, 15), (131, 16), (131, 4), (131, 11), (131, 12), (131, 13), (131, 14), (131, 18), (131, 20)] [134, 331] τ t31 := Fr_mu Fr_rfl M32 (by decide)
    have hR36 : RM bb nb t31 (fs.1, ukT fs.2 true) := ⟨MT_fr hR.1 ((M32.2 131 3 (Or.inr (by decide))).trans rfl) ((M32.2 131 4 (Or.inr (by decide))).trans rfl) ((M32.2 131 5 (Or.inr (by decide))).trans rfl) ((M32.2 131 11 (Or.inr (by decide))).trans rfl) ((M32.2 131 12 (Or.inr (by decide))).trans rfl) ((M32.2 131 14 (Or.inr (by decide))).trans rfl) (fun j => ((M32.2 132 j (Or.inl (by decide))).trans rfl)) (fun j => ((M32.2 331 j (Or.inl (by decide))).trans rfl)), RH_kT hR.2.1 M32 z8 (by rw [z29, z25, show v21 = 1 from Int32.toInt_inj.mp (by show v21.toInt = 1; omega)]) (by omega), RS_fr hR.2.2 (fun j => ((M32.2 337 j (Or.inl (by decide))).trans rfl))⟩
    refine r_aload_n S dX12_once_29 rfl (lv_at hl 0 rfl) ?_
    refine r_kv (q_V (As := []) (rest := []) (K := 38) (ci := 10) S X33 (c_X12_skip_q l G t31 I34 bb nb 900 (fs.1, ukT fs.2 true).1.2.2 (MT_st hR36.1 (Or.inl hW.1)).1 (MT_st hR36.1 (Or.inl hW.1)).2.1 (MT_st hR36.1 (Or.inl hW.1)).2.2) ck12_186 (Nat.le_of_ble_eq_true rfl) rfl (fun _ => ⟨_, rfl⟩) ⟨_, _, rfl⟩ ⟨Nat.le_of_ble_eq_true rfl, Nat.le_of_ble_eq_true rfl⟩ rfl hl.1 rfl (Nat.le_of_ble_eq_true rfl) dX12_once_30 ⟨Nat.le_refl 0, Nat.le_refl 0⟩) X33 (fun t39 H lc q37 X38 => ?_)
    unfold po_X12_skip_q at q37
    obtain ⟨q40, q41, q42, q43, q44, q45, q46⟩ := q37
    have F47 : Fr [(131, 15), (131, 16), (131, 4), (131, 11), (131, 12), (131, 13), (131, 14), (131, 18), (131, 20)] [134, 331] τ t39 := Fr_call F35 q41 (by decide)
    obtain ⟨v48, z49⟩ : ∃ x, t39 131 4 = x := ⟨_, rfl⟩
    rw [z49] at q42
    obtain ⟨v50, z51⟩ : ∃ x, t39 131 11 = x := ⟨_, rfl⟩
    rw [z51] at q43
    have e52 := congrArg Int32.toInt ((M32.2 131 4 (Or.inr (by decide))).trans z2)
    have e53 := congrArg Int32.toInt z49
    have e54 := congrArg Int32.toInt ((M32.2 131 4 (Or.inr (by decide))).trans z2)
    have e55 := congrArg Int32.toInt z49
    have e56 := congrArg Int32.toInt ((M32.2 131 11 (Or.inr (by decide))).trans z5)
    have e57 := congrArg Int32.toInt z51
    have hR58 : RM bb nb t39 (stp bb nb (fs.1, ukT fs.2 true)) := ⟨q46, RH_fr hR36.2.1 ((q41 131 20 (by decide)).trans rfl) (fun j _ => ((q41 134 j (by simp [fz])).trans rfl)) (fun j => ((q41 336 j (by simp [fz])).trans rfl)), RS_fr hR36.2.2 (fun j => ((q41 337 j (by simp [fz])).trans rfl))⟩
    refine r_aload_n S dX12_once_33 rfl (lv_at hl 0 rfl) ?_
    refine r_iload_n S dX12_once_34 rfl (lv_at hl 3 rfl) ?_
    refine r_iload S dX12_once_35 (lv_at hl 4 rfl) ?_
    refine r_ki (q_V (As := [.int a2, .int a3]) (rest := []) (K := 38) (ci := 10) S X38 (c_X12_takes_q_0_9 l G t39 q40 a2 a3 h_a2 h_a3 bb nb (stp bb nb (fs.1, ukT fs.2 true)) hR58 ) ck12_212 (Nat.le_of_ble_eq_true rfl) rfl (fun _ => ⟨_, rfl⟩) ⟨_, _, rfl⟩ ⟨Nat.le_of_ble_eq_true rfl, Nat.le_of_ble_eq_true rfl⟩ rfl hl.1 rfl (Nat.le_of_ble_eq_true rfl) dX12_once_37 ⟨Nat.le_refl 0, Nat.le_refl 0⟩) X38 (fun v62 t61 H lc q59 X60 => ?_)
    unfold po_X12_takes_q_0_9 at q59
    obtain ⟨q63, q64, q65, q66, q67, q68, q69, q70, q71⟩ := q59
    have F72 : Fr [(131, 15), (131, 16), (131, 4), (131, 11), (131, 12), (131, 13), (131, 14), (131, 18), (131, 20)] [134, 331] τ t61 := Fr_call F47 q64 (by decide)
    obtain ⟨v73, z74⟩ : ∃ x, t61 131 4 = x := ⟨_, rfl⟩
    rw [z74] at q67
    obtain ⟨v75, z76⟩ : ∃ x, t61 131 11 = x := ⟨_, rfl⟩
    rw [z76] at q68
    have e77 := congrArg Int32.toInt z49
    have e78 := congrArg Int32.toInt z74
    have e79 := congrArg Int32.toInt z51
    have e80 := congrArg Int32.toInt z76
    refine r_if_ne (tgt := 45) S dX12_once_40 (by decide) (fun c81 => ?_) (fun c81 => ?_)
    ·
      have r82 : R (1) (1) v62 := ⟨by omega, by omega⟩
      have p83 := q66 (by omega)
      obtain ⟨v84, z85⟩ : ∃ x, t61 131 18 = x := ⟨_, rfl⟩
      rw [z85] at p83
      have p86 := (QM_1 q71) (by omega)
      obtain ⟨g87, e88, hP89⟩ := p86
      refine r_aload_n S dX12_once_45 rfl (lv_at hl 0 rfl) ?_
      refine r_get (K := 38) (v := .ref (G.2.2.2.1 134)) S X60 (Nat.le_of_ble_eq_true rfl) rfl lk12_37_10 (fun _ => ⟨_, rfl, rfl⟩) dX12_once_46 ?_
      refine r_iload_n S dX12_once_49 rfl (lv_at hl 2 rfl) ?_
      refine r_aload_n S dX12_once_50 rfl (lv_at hl 0 rfl) ?_
      refine r_geti (K := 38) S X60 (Nat.le_of_ble_eq_true rfl) rfl lk12_193_10 (fun _ => ⟨_, rfl, rfl⟩) z85 dX12_once_51 ?_
      refine r_ast (n := 125) (K := 41) S X60 (Nat.le_of_ble_eq_true rfl) rfl (fun _ _ => rfl) (ix_of h_a1 rfl) dX12_once_54 (fun t90 H lc M91 X92 => ?_)
      have I93 := Inv_mu q63 M91 (show Rg (kd 134) _ v84 from wrs (K := 41) (a := 3) (n := 1) (R_of h_a1 rfl) (R_of (lo := 0) (hi := 9) p83 rfl) (by decide +kernel))
      have F94 : Fr [(131, 15), (131, 16), (131, 4), (131, 11), (131, 12), (131, 13), (131, 14), (131, 18), (131, 20)] [134, 331] τ t90 := Fr_cell F72 M91 (by decide)
      have hR95 : RM bb nb t90 (g87.2.1, usl g87.2.2 g87.1) := ⟨MT_fr hP89.2.1 ((M91.2 131 3 (Or.inl (by decide))).trans rfl) ((M91.2 131 4 (Or.inl (by decide))).trans rfl) ((M91.2 131 5 (Or.inl (by decide))).trans rfl) ((M91.2 131 11 (Or.inl (by decide))).trans rfl) ((M91.2 131 12 (Or.inl (by decide))).trans rfl) ((M91.2 131 14 (Or.inl (by decide))).trans rfl) (fun j => ((M91.2 132 j (Or.inl (by decide))).trans rfl)) (fun j => ((M91.2 331 j (Or.inl (by decide))).trans rfl)), RH_sl hP89.2.2.1 M91 (by have c : a1.toNatClampNeg = a1.toInt.toNat := rfl; omega) (by rw [← z85]; exact hP89.1), RS_fr hP89.2.2.2 (fun j => ((M91.2 337 j (Or.inl (by decide))).trans rfl))⟩
      refine r_iconst S dX12_once_55 (by decide) (fun v96 z97 => ?_)
      have r98 := R_eq z97
      exact r_ret S hr hlk X92 ⟨I93, F94, (R_of r98 rfl), (by rw [((M91.2 131 4 (Or.inl (by decide))).trans z74)]; exact R_of q67 rfl), (by rw [((M91.2 131 11 (Or.inl (by decide))).trans z76)]; exact R_of q68 rfl), (by have h1_0 := congrArg Int32.toInt ((M91.2 131 4 (Or.inl (by decide))).trans z74); have h2_0 := congrArg Int32.toInt z2; omega), (by have h1_0 := congrArg Int32.toInt ((M91.2 131 4 (Or.inl (by decide))).trans z74); have h2_0 := congrArg Int32.toInt z2; omega), (QM_r (sSlack_r (fun h => p20 (by rw [show a0.toInt.toNat = 1 by omega, ← z8]; exact hR.2.1.2.1.mpr h)) e88) (by omega) hR95)⟩ (nr_bool (R_of (lo := 0) (hi := 1) r98 rfl)) dX12_once_56
    ·
      have r99 : R (0) (0) v62 := ⟨by omega, by omega⟩
      have p100 := (QM_0 q71) (by omega)
      obtain ⟨q101, e102, h103, h104⟩ := p100
      refine r_iconst S dX12_once_43 (by decide) (fun v105 z106 => ?_)
      have r107 := R_eq z106
      exact r_ret S hr hlk X60 ⟨q63, F72, (R_of r107 rfl), (by rw [z74]; exact R_of q67 rfl), (by rw [z76]; exact R_of q68 rfl), (by have h1_0 := congrArg Int32.toInt z74; have h2_0 := congrArg Int32.toInt z2; omega), (by have h1_0 := congrArg Int32.toInt z74; have h2_0 := congrArg Int32.toInt z2; omega), (QM_l (sSlack_l (fun h => p20 (by rw [show a0.toInt.toNat = 1 by omega, ← z8]; exact hR.2.1.2.1.mpr h)) e102) (by omega) h103 h104)⟩ (nr_bool (R_of (lo := 0) (hi := 1) r107 rfl)) dX12_once_44
  ·
    have r108 : R (1) (1) v14 := ⟨by omega, by omega⟩
    have p109 := (q17).mp (by omega)
    refine r_aload_n S dX12_once_11 rfl (lv_at hl 0 rfl) ?_
    refine r_iconst S dX12_once_12 (by decide) (fun v110 z111 => ?_)
    have r112 := R_eq z111
    refine r_ki (q_V (As := [.int v110]) (rest := []) (K := 38) (ci := 10) S X12 (c_X12_bad_q l G τ hI v110 (R_of (lo := -2147483648) (hi := 2147483647) r112 rfl)) ck12_183 (Nat.le_of_ble_eq_true rfl) rfl (fun _ => ⟨_, rfl⟩) ⟨_, _, rfl⟩ ⟨Nat.le_of_ble_eq_true rfl, Nat.le_of_ble_eq_true rfl⟩ rfl hl.1 rfl (Nat.le_of_ble_eq_true rfl) dX12_once_13 ⟨Nat.le_refl 0, Nat.le_refl 0⟩) X12 (fun v116 t115 H lc q113 X114 => ?_)
    unfold po_X12_bad_q at q113
    obtain ⟨q117, q118, q119, q120⟩ := q113
    have F121 : Fr [(131, 15), (131, 16), (131, 4), (131, 11), (131, 12), (131, 13), (131, 14), (131, 18), (131, 20)] [134, 331] τ t115 := Fr_call Fr_rfl q118 (by decide)
    exact r_ret S hr hlk X114 ⟨q117, F121, (R_of q119 rfl), (by rw [((q118 131 4 (by decide)).trans z2)]; exact R_of r3 rfl), (by rw [((q118 131 11 (by decide)).trans z5)]; exact R_of r6 rfl), (by have h1_0 := congrArg Int32.toInt ((q118 131 4 (by decide)).trans z2); have h2_0 := congrArg Int32.toInt z2; omega), (by have h1_0 := congrArg Int32.toInt ((q118 131 4 (by decide)).trans z2); have h2_0 := congrArg Int32.toInt z2; omega), (QM_b (sSlack_b (hR.2.1.2.1.mp (by rw [z8]; have q := p109; rw [show a0.toInt.toNat = 1 by omega] at q; exact q))) (by omega) (by rw [q120.1]; omega) (by rw [q120.2]; exact RM_at hR))⟩ (nr_bool (R_of (lo := 0) (hi := 1) q119 rfl)) dX12_once_16
