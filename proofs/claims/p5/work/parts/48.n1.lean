def po_X12_bitOf_q (τ : Tau)  (a0 a1 : Int32)   (r : Int32) (u : Tau) : Prop := u = τ ∧ R (0) (1) r ∧ (r.toInt = 1 ↔ kb a0 a1.toInt.toNat)
set_option maxHeartbeats 4000000 in
set_option maxRecDepth 100000 in
theorem c_X12_bitOf_q (l : Launch) (G : Gx) (τ : Tau) (hI : Inv τ) (a0 : Int32) (a1 : Int32) (h_a0 : R (-2147483648) (2147483647) a0) (h_a1 : R (0) (9) a1) : Ci l G yX12_bitOf cX12_bitOf 2 (some .boolean) 0 0 [.int a0, .int a1] τ (po_X12_bitOf_q τ  a0 a1  ) := by
  unfold Ci
  refine C_of (own := RX12) (by decide) rfl (Nat.le_of_ble_eq_true rfl) ?_
  intro p e s m below meth c ls S hr hlk X hl
  have hl : lv_has ls 2 [(0, .int a0), (1, .int a1)] := hl
  refine r_iload_n S dX12_bitOf_0 rfl (lv_at hl 0 rfl) ?_
  refine r_iload_n S dX12_bitOf_1 rfl (lv_at hl 1 rfl) ?_
  refine r_ishr S dX12_bitOf_2 (fun v1 z2 => ?_)
  have r3 := R_any v1
  refine r_iconst S dX12_bitOf_3 (by decide) (fun v4 z5 => ?_)
  have r6 := R_eq z5
  refine r_iand S dX12_bitOf_4 (fun v7 z8 => ?_)
  have r10 : R (0) (1) v7 := i_and2 z8 r3 r6 rfl
  refine r_iconst S dX12_bitOf_5 (by decide) (fun v11 z12 => ?_)
  have r13 := R_eq z12
  refine r_icmp_ne (tgt := 13) S dX12_bitOf_6 (by decide) (fun c14 => ?_) (fun c14 => ?_)
  ·
    have r15 : R (0) (0) v7 := ⟨by omega, by omega⟩
    refine r_iconst S dX12_bitOf_13 (by decide) (fun v16 z17 => ?_)
    have r18 := R_eq z17
    exact r_ret S hr hlk X ⟨rfl, (R_of r18 rfl), ⟨fun h => by exfalso; omega, fun h => absurd ((bof z2 (by omega) z8 h_a1).mpr h) (by omega)⟩⟩ (nr_bool (R_of (lo := 0) (hi := 1) r18 rfl)) dX12_bitOf_14
  ·
    have r19 : R (1) (1) v7 := ⟨by omega, by omega⟩
    refine r_iconst S dX12_bitOf_9 (by decide) (fun v20 z21 => ?_)
    have r22 := R_eq z21
    refine r_goto (tgt := 14) S dX12_bitOf_10 (by decide) ?_
    exact r_ret S hr hlk X ⟨rfl, (R_of r22 rfl), ⟨fun _ => (bof z2 (by omega) z8 h_a1).mp (by omega), fun _ => by omega⟩⟩ (nr_bool (R_of (lo := 0) (hi := 1) r22 rfl)) dX12_bitOf_14
def po_X12_sign_q (τ : Tau)  (a0 : Int32)  (bb : Nat → Int) (nb : Nat) (fs : FS) (r : Int32) (u : Tau) : Prop := Inv u ∧ Fr [(131, 15), (131, 16), (131, 4), (131, 11), (131, 12), (131, 13), (131, 14)] [331] τ u ∧ R (0) (1) r ∧ (r.toInt = 1 → R (0) (0) (u 131 15)) ∧ R (0) (940) (u 131 4) ∧ R (0) (4) (u 131 11) ∧ (τ 131 4).toInt ≤ (u 131 4).toInt ∧ (r.toInt = 1 → (τ 131 11).toInt = 3) ∧ QM (sSgn bb nb 59 fs) r u (fun g => RM bb nb u g)
set_option maxHeartbeats 4000000 in
set_option maxRecDepth 100000 in
theorem c_X12_sign_q (l : Launch) (G : Gx) (τ : Tau) (hI : Inv τ) (a0 : Int32) (h_a0 : R (59) (59) a0) (hf_0 : R (0) (0) (τ 131 15)) (bb : Nat → Int) (nb : Nat) (fs : FS) (hR : RM bb nb τ fs) : Ci l G yX12_sign cX12_sign 2 (some .boolean) 2 43 [.ref (G.2.2.2.1 131), .int a0] τ (po_X12_sign_q τ  a0  bb nb fs) := by
  unfold Ci
  refine C_of (own := RX12) (by decide) rfl (Nat.le_of_ble_eq_true rfl) ?_
  intro p e s m below meth c ls S hr hlk X hl
  have hl : lv_has ls 2 [(0, .ref (G.2.2.2.1 131)), (1, .int a0)] := hl
  obtain ⟨v1, z2⟩ : ∃ x, τ 131 15 = x := ⟨_, rfl⟩
  rw [z2] at hf_0
  obtain ⟨v3, z4⟩ : ∃ x, τ 131 4 = x := ⟨_, rfl⟩
  have r5 : R (0) (940) v3 := rd hI rfl z4
  obtain ⟨v6, z7⟩ : ∃ x, τ 131 11 = x := ⟨_, rfl⟩
  have r8 : R (0) (4) v6 := rd hI rfl z7
  refine r_aload_n S dX12_sign_0 rfl (lv_at hl 0 rfl) ?_
  refine r_iload_n S dX12_sign_1 rfl (lv_at hl 1 rfl) ?_
  refine r_ki (q_V (As := [.int a0]) (rest := []) (K := 38) (ci := 10) S X (c_X12_isSign_q l G τ hI a0 (R_of (lo := -2147483648) (hi := 2147483647) h_a0 rfl) bb nb 900 fs.1 hR.1) ck12_180 (Nat.le_of_ble_eq_true rfl) rfl (fun _ => ⟨_, rfl⟩) ⟨_, _, rfl⟩ ⟨Nat.le_of_ble_eq_true rfl, Nat.le_of_ble_eq_true rfl⟩ rfl hl.1 rfl (Nat.le_of_ble_eq_true rfl) dX12_sign_2 ⟨Nat.le_refl 0, Nat.le_refl 0⟩) X (fun v12 t11 H lc q9 X10 => ?_)
  unfold po_X12_isSign_q at q9
  obtain ⟨q13, q14, q15⟩ := q9
  rw [q13] at X10
  refine r_if_ne (tgt := 14) S dX12_sign_5 (by decide) (fun c16 => ?_) (fun c16 => ?_)
  ·
    have r17 : R (1) (1) v12 := ⟨by omega, by omega⟩
    have p18 := (q15).mp (by omega)
    refine r_aload_n S dX12_sign_14 rfl (lv_at hl 0 rfl) ?_
    refine r_kv (q_V (As := []) (rest := []) (K := 38) (ci := 10) S X10 (c_X12_skip_q l G τ hI bb nb 900 fs.1.2.2 (MT_st hR.1 (Or.inr (Or.inr p18.1))).1 (MT_st hR.1 (Or.inr (Or.inr p18.1))).2.1 (MT_st hR.1 (Or.inr (Or.inr p18.1))).2.2) ck12_186 (Nat.le_of_ble_eq_true rfl) rfl (fun _ => ⟨_, rfl⟩) ⟨_, _, rfl⟩ ⟨Nat.le_of_ble_eq_true rfl, Nat.le_of_ble_eq_true rfl⟩ rfl hl.1 rfl (Nat.le_of_ble_eq_true rfl) dX12_sign_15 ⟨Nat.le_refl 0, Nat.le_refl 0⟩) X10 (fun t21 H lc q19 X20 => ?_)
    unfold po_X12_skip_q at q19
    obtain ⟨q22, q23, q24, q25, q26, q27, q28⟩ := q19
    have F29 : Fr [(131, 15), (131, 16), (131, 4), (131, 11), (131, 12), (131, 13), (131, 14)] [331] τ t21 := Fr_call Fr_rfl q23 (by decide)
    obtain ⟨v30, z31⟩ : ∃ x, t21 131 4 = x := ⟨_, rfl⟩
    rw [z31] at q24
    obtain ⟨v32, z33⟩ : ∃ x, t21 131 11 = x := ⟨_, rfl⟩
    rw [z33] at q25
    have e34 := congrArg Int32.toInt z4
    have e35 := congrArg Int32.toInt z31
    have e36 := congrArg Int32.toInt z4
    have e37 := congrArg Int32.toInt z31
    have e38 := congrArg Int32.toInt z7
    have e39 := congrArg Int32.toInt z33
    have hR40 : RM bb nb t21 (stp bb nb fs) := ⟨q28, RH_fr hR.2.1 ((q23 131 20 (by decide)).trans rfl) (fun j _ => ((q23 134 j (by simp [fz])).trans rfl)) (fun j => ((q23 336 j (by simp [fz])).trans rfl)), RS2_fr hR.2.2 (fun j => ((q23 337 j (by simp [fz])).trans rfl)) (fun j => ((q23 336 j (by simp [fz])).trans rfl))⟩
    refine r_iconst S dX12_sign_18 (by decide) (fun v41 z42 => ?_)
    have r43 := R_eq z42
    exact r_ret S hr hlk X20 ⟨q22, F29, (R_of r43 rfl), (fun h => (by rw [((q23 131 15 (by decide)).trans z2)]; exact R_of hf_0 rfl)), (by rw [z31]; exact R_of q24 rfl), (by rw [z33]; exact R_of q25 rfl), (by have h1_0 := congrArg Int32.toInt z31; have h2_0 := congrArg Int32.toInt z4; omega), (fun _ => by rw [MT_k hR.1, (p18).1]; rfl), (QM_r (sSgn_g ⟨p18.1, by have q := p18.2; omega⟩) (by omega) hR40)⟩ (nr_bool (R_of (lo := 0) (hi := 1) r43 rfl)) dX12_sign_19
  ·
    have r44 : R (0) (0) v12 := ⟨by omega, by omega⟩
    have p45 := (iff_n q15) (by omega)
    refine r_aload_n S dX12_sign_8 rfl (lv_at hl 0 rfl) ?_
    refine r_iconst S dX12_sign_9 (by decide) (fun v46 z47 => ?_)
    have r48 := R_eq z47
    refine r_ki (q_V (As := [.int v46]) (rest := []) (K := 38) (ci := 10) S X10 (c_X12_bad_q l G τ hI v46 (R_of (lo := -2147483648) (hi := 2147483647) r48 rfl)) ck12_183 (Nat.le_of_ble_eq_true rfl) rfl (fun _ => ⟨_, rfl⟩) ⟨_, _, rfl⟩ ⟨Nat.le_of_ble_eq_true rfl, Nat.le_of_ble_eq_true rfl⟩ rfl hl.1 rfl (Nat.le_of_ble_eq_true rfl) dX12_sign_10 ⟨Nat.le_refl 0, Nat.le_refl 0⟩) X10 (fun v52 t51 H lc q49 X50 => ?_)
    unfold po_X12_bad_q at q49
    obtain ⟨q53, q54, q55, q56⟩ := q49
    have F57 : Fr [(131, 15), (131, 16), (131, 4), (131, 11), (131, 12), (131, 13), (131, 14)] [331] τ t51 := Fr_call Fr_rfl q54 (by decide)
    exact r_ret S hr hlk X50 ⟨q53, F57, (R_of q55 rfl), (fun h => by exfalso; omega), (by rw [((q54 131 4 (by decide)).trans z4)]; exact R_of r5 rfl), (by rw [((q54 131 11 (by decide)).trans z7)]; exact R_of r8 rfl), (by have h1_0 := congrArg Int32.toInt ((q54 131 4 (by decide)).trans z4); have h2_0 := congrArg Int32.toInt z4; omega), (fun h => by exfalso; omega), (QM_b (sSgn_b (fun h => p45 ⟨h.1, by have q := h.2; omega⟩)) (by omega) (by rw [q56.1]; omega) (by rw [q56.2]; exact RM_at hR))⟩ (nr_bool (R_of (lo := 0) (hi := 1) q55 rfl)) dX12_sign_13
def po_X12_takes_q_1_8 (τ : Tau)  (a0 a1 : Int32)  (bb : Nat → Int) (nb : Nat) (fs : FS) (r : Int32) (u : Tau) : Prop := Inv u ∧ Fr [(131, 15), (131, 16), (131, 4), (131, 11), (131, 12), (131, 13), (131, 14), (131, 18)] [331] τ u ∧ R (0) (1) r ∧ (r.toInt = 1 → R (1) (8) (u 131 18) ∧ R (0) (0) (u 131 15)) ∧ R (0) (940) (u 131 4) ∧ R (0) (4) (u 131 11) ∧ (τ 131 4).toInt ≤ (u 131 4).toInt ∧ (r.toInt = 1 → (τ 131 11).toInt = 2) ∧ QM (sNum bb nb 1 8 fs) r u (fun g => (u 131 18).toInt = g.1 ∧ RM bb nb u g.2)
set_option maxHeartbeats 4000000 in
set_option maxRecDepth 100000 in
theorem c_X12_takes_q_1_8 (l : Launch) (G : Gx) (τ : Tau) (hI : Inv τ) (a0 : Int32) (a1 : Int32) (h_a0 : R (1) (1) a0) (h_a1 : R (8) (8) a1) (hf_0 : R (0) (0) (τ 131 15)) (bb : Nat → Int) (nb : Nat) (fs : FS) (hR : RM bb nb τ fs) : Ci l G yX12_takes cX12_takes 3 (some .boolean) 2 43 [.ref (G.2.2.2.1 131), .int a0, .int a1] τ (po_X12_takes_q_1_8 τ  a0 a1  bb nb fs) := by
  unfold Ci
  refine C_of (own := RX12) (by decide) rfl (Nat.le_of_ble_eq_true rfl) ?_
  intro p e s m below meth c ls S hr hlk X hl
  have hl : lv_has ls 3 [(0, .ref (G.2.2.2.1 131)), (1, .int a0), (2, .int a1)] := hl
  obtain ⟨v1, z2⟩ : ∃ x, τ 131 15 = x := ⟨_, rfl⟩
  rw [z2] at hf_0
  obtain ⟨v3, z4⟩ : ∃ x, τ 131 4 = x := ⟨_, rfl⟩
  have r5 : R (0) (940) v3 := rd hI rfl z4
  obtain ⟨v6, z7⟩ : ∃ x, τ 131 11 = x := ⟨_, rfl⟩
  have r8 : R (0) (4) v6 := rd hI rfl z7
  refine r_aload_n S dX12_takes_0 rfl (lv_at hl 0 rfl) ?_
  refine r_geti (K := 38) S X (Nat.le_of_ble_eq_true rfl) rfl lk12_157_10 (fun _ => ⟨_, rfl, rfl⟩) z7 dX12_takes_1 ?_
  refine r_iconst S dX12_takes_4 (by decide) (fun v9 z10 => ?_)
  have r11 := R_eq z10
  refine r_icmp_eq (tgt := 14) S dX12_takes_5 (by decide) (fun c12 => ?_) (fun c12 => ?_)
  ·
    have r13 : R (2) (2) v6 := ⟨by omega, by omega⟩
    refine r_aload_n S dX12_takes_14 rfl (lv_at hl 0 rfl) ?_
    refine r_getn (K := 38) S X (Nat.le_of_ble_eq_true rfl) rfl lk12_167_10 (fun _ => ⟨_, rfl, rfl⟩) dX12_takes_15 (fun v14 z15 => ?_)
    have r17 := R_any v14
    refine r_iload_n S dX12_takes_18 rfl (lv_at hl 1 rfl) ?_
    refine r_iload_n S dX12_takes_19 rfl (lv_at hl 2 rfl) ?_
    refine r_ki (q_S (As := [.int v14, .int a0, .int a1]) (rest := []) S X (c_X12_isIn_q l G τ hI v14 a0 a1 r17 (R_of (lo := -2147483648) (hi := 2147483647) h_a0 rfl) (R_of (lo := -2147483648) (hi := 2147483647) h_a1 rfl)) ck12_189 ⟨Nat.le_of_ble_eq_true rfl, Nat.le_of_ble_eq_true rfl⟩ rfl hl.1 rfl (Nat.le_of_ble_eq_true rfl) dX12_takes_20 ⟨Nat.le_refl 0, Nat.le_refl 0⟩) X (fun v21 t20 H lc q18 X19 => ?_)
    unfold po_X12_isIn_q at q18
    obtain ⟨q22, q23, q24⟩ := q18
    rw [q22] at X19
    refine r_if_ne (tgt := 32) S dX12_takes_23 (by decide) (fun c25 => ?_) (fun c25 => ?_)
    ·
      have r26 : R (1) (1) v21 := ⟨by omega, by omega⟩
      refine r_aload_n S dX12_takes_32 rfl (lv_at hl 0 rfl) ?_
      refine r_aload_n S dX12_takes_33 rfl (lv_at hl 0 rfl) ?_
      refine r_geti (K := 38) S X19 (Nat.le_of_ble_eq_true rfl) rfl lk12_167_10 (fun _ => ⟨_, rfl, rfl⟩) z15 dX12_takes_34 ?_
      refine r_put (K := 38) (ty := .int) S X19 (Nat.le_of_ble_eq_true rfl) rfl lk12_193_10 (fun _ => ⟨_, rfl, Nat.le_of_ble_eq_true rfl, rfl⟩) (fun _ _ _ h => by cases h; exact ⟨rfl, rfl⟩) rfl rfl dX12_takes_37 (fun t27 H lc M28 X29 => ?_)
      have I30 := Inv_mu hI M28 (R_any v14)
      have F31 : Fr [(131, 15), (131, 16), (131, 4), (131, 11), (131, 12), (131, 13), (131, 14), (131, 18)] [331] τ t27 := Fr_mu Fr_rfl M28 (by decide)
      refine r_aload_n S dX12_takes_40 rfl (lv_at hl 0 rfl) ?_
      refine r_kv (q_V (As := []) (rest := []) (K := 38) (ci := 10) S X29 (c_X12_skip_q l G t27 I30 bb nb 900 fs.1.2.2 (MT_st (RM_fr hR ((M28.2 131 3 (Or.inr (by decide))).trans rfl) ((M28.2 131 4 (Or.inr (by decide))).trans rfl) ((M28.2 131 5 (Or.inr (by decide))).trans rfl) ((M28.2 131 11 (Or.inr (by decide))).trans rfl) ((M28.2 131 12 (Or.inr (by decide))).trans rfl) ((M28.2 131 14 (Or.inr (by decide))).trans rfl) (fun j => ((M28.2 132 j (Or.inl (by decide))).trans rfl)) (fun j => ((M28.2 331 j (Or.inl (by decide))).trans rfl)) ((M28.2 131 20 (Or.inr (by decide))).trans rfl) (fun j => ((M28.2 134 j (Or.inl (by decide))).trans rfl)) (fun j => ((M28.2 336 j (Or.inl (by decide))).trans rfl)) (fun j => ((M28.2 337 j (Or.inl (by decide))).trans rfl))).1 (Or.inr (Or.inl (show fs.1.1 = 2 by have q := MT_k hR.1; rw [z7] at q; omega)))).1 (MT_st (RM_fr hR ((M28.2 131 3 (Or.inr (by decide))).trans rfl) ((M28.2 131 4 (Or.inr (by decide))).trans rfl) ((M28.2 131 5 (Or.inr (by decide))).trans rfl) ((M28.2 131 11 (Or.inr (by decide))).trans rfl) ((M28.2 131 12 (Or.inr (by decide))).trans rfl) ((M28.2 131 14 (Or.inr (by decide))).trans rfl) (fun j => ((M28.2 132 j (Or.inl (by decide))).trans rfl)) (fun j => ((M28.2 331 j (Or.inl (by decide))).trans rfl)) ((M28.2 131 20 (Or.inr (by decide))).trans rfl) (fun j => ((M28.2 134 j (Or.inl (by decide))).trans rfl)) (fun j => ((M28.2 336 j (Or.inl (by decide))).trans rfl)) (fun j => ((M28.2 337 j (Or.inl (by decide))).trans rfl))).1 (Or.inr (Or.inl (show fs.1.1 = 2 by have q := MT_k hR.1; rw [z7] at q; omega)))).2.1 (MT_st (RM_fr hR ((M28.2 131 3 (Or.inr (by decide))).trans rfl) ((M28.2 131 4 (Or.inr (by decide))).trans rfl) ((M28.2 131 5 (Or.inr (by decide))).trans rfl) ((M28.2 131 11 (Or.inr (by decide))).trans rfl) ((M28.2 131 12 (Or.inr (by decide))).trans rfl) ((M28.2 131 14 (Or.inr (by decide))).trans rfl) (fun j => ((M28.2 132 j (Or.inl (by decide))).trans rfl)) (fun j => ((M28.2 331 j (Or.inl (by decide))).trans rfl)) ((M28.2 131 20 (Or.inr (by decide))).trans rfl) (fun j => ((M28.2 134 j (Or.inl (by decide))).trans rfl)) (fun j => ((M28.2 336 j (Or.inl (by decide))).trans rfl)) (fun j => ((M28.2 337 j (Or.inl (by decide))).trans rfl))).1 (Or.inr (Or.inl (show fs.1.1 = 2 by have q := MT_k hR.1; rw [z7] at q; omega)))).2.2) ck12_186 (Nat.le_of_ble_eq_true rfl) rfl (fun _ => ⟨_, rfl⟩) ⟨_, _, rfl⟩ ⟨Nat.le_of_ble_eq_true rfl, Nat.le_of_ble_eq_true rfl⟩ rfl hl.1 rfl (Nat.le_of_ble_eq_true rfl) dX12_takes_41 ⟨Nat.le_refl 0, Nat.le_refl 0⟩) X29 (fun t34 H lc q32 X33 => ?_)
      unfold po_X12_skip_q at q32
      obtain ⟨q35, q36, q37, q38, q39, q40, q41⟩ := q32
      have F42 : Fr [(131, 15), (131, 16), (131, 4), (131, 11), (131, 12), (131, 13), (131, 14), (131, 18)] [331] τ t34 := Fr_call F31 q36 (by decide)
      obtain ⟨v43, z44⟩ : ∃ x, t34 131 4 = x := ⟨_, rfl⟩
      rw [z44] at q37
      obtain ⟨v45, z46⟩ : ∃ x, t34 131 11 = x := ⟨_, rfl⟩
      rw [z46] at q38
      have e47 := congrArg Int32.toInt ((M28.2 131 4 (Or.inr (by decide))).trans z4)
      have e48 := congrArg Int32.toInt z44
      have e49 := congrArg Int32.toInt ((M28.2 131 4 (Or.inr (by decide))).trans z4)
      have e50 := congrArg Int32.toInt z44
      have e51 := congrArg Int32.toInt ((M28.2 131 11 (Or.inr (by decide))).trans z7)
      have e52 := congrArg Int32.toInt z46
      have hR53 : RM bb nb t34 (stp bb nb fs) := ⟨q41, RH_fr hR.2.1 ((q36 131 20 (by decide)).trans ((M28.2 131 20 (Or.inr (by decide))).trans rfl)) (fun j _ => ((q36 134 j (by simp [fz])).trans ((M28.2 134 j (Or.inl (by decide))).trans rfl))) (fun j => ((q36 336 j (by simp [fz])).trans ((M28.2 336 j (Or.inl (by decide))).trans rfl))), RS2_fr hR.2.2 (fun j => ((q36 337 j (by simp [fz])).trans ((M28.2 337 j (Or.inl (by decide))).trans rfl))) (fun j => ((q36 336 j (by simp [fz])).trans ((M28.2 336 j (Or.inl (by decide))).trans rfl)))⟩
      refine r_iconst S dX12_takes_44 (by decide) (fun v54 z55 => ?_)
      have r56 := R_eq z55
      exact r_ret S hr hlk X33 ⟨q35, F42, (R_of r56 rfl), (fun h => ⟨(by rw [((q36 131 18 (by decide)).trans M28.1)]; exact ⟨by omega, by omega⟩), (by rw [((q36 131 15 (by decide)).trans ((M28.2 131 15 (Or.inr (by decide))).trans z2))]; exact R_of hf_0 rfl)⟩), (by rw [z44]; exact R_of q37 rfl), (by rw [z46]; exact R_of q38 rfl), (by have h1_0 := congrArg Int32.toInt z44; have h2_0 := congrArg Int32.toInt z4; omega), (by have h1_0 := congrArg Int32.toInt z46; have h2_0 := congrArg Int32.toInt z7; omega), (QM_r (sNum_g (show fs.1.1 = 2 by have q := MT_k hR.1; rw [z7] at q; omega) (by rw [← MT_nm hR.1 (show fs.1.1 = 2 by have q := MT_k hR.1; rw [z7] at q; omega), z15]; omega)) (by omega) ⟨show (t34 131 18).toInt = nbr bb fs.1 by rw [((q36 131 18 (by decide)).trans M28.1), ← MT_nm hR.1 (show fs.1.1 = 2 by have q := MT_k hR.1; rw [z7] at q; omega), z15], hR53⟩)⟩ (nr_bool (R_of (lo := 0) (hi := 1) r56 rfl)) dX12_takes_45
    ·
      have r57 : R (0) (0) v21 := ⟨by omega, by omega⟩
      refine r_aload_n S dX12_takes_26 rfl (lv_at hl 0 rfl) ?_
      refine r_iconst S dX12_takes_27 (by decide) (fun v58 z59 => ?_)
      have r60 := R_eq z59
      refine r_ki (q_V (As := [.int v58]) (rest := []) (K := 38) (ci := 10) S X19 (c_X12_bad_q l G τ hI v58 (R_of (lo := -2147483648) (hi := 2147483647) r60 rfl)) ck12_183 (Nat.le_of_ble_eq_true rfl) rfl (fun _ => ⟨_, rfl⟩) ⟨_, _, rfl⟩ ⟨Nat.le_of_ble_eq_true rfl, Nat.le_of_ble_eq_true rfl⟩ rfl hl.1 rfl (Nat.le_of_ble_eq_true rfl) dX12_takes_28 ⟨Nat.le_refl 0, Nat.le_refl 0⟩) X19 (fun v64 t63 H lc q61 X62 => ?_)
      unfold po_X12_bad_q at q61
      obtain ⟨q65, q66, q67, q68⟩ := q61
      have F69 : Fr [(131, 15), (131, 16), (131, 4), (131, 11), (131, 12), (131, 13), (131, 14), (131, 18)] [331] τ t63 := Fr_call Fr_rfl q66 (by decide)
      exact r_ret S hr hlk X62 ⟨q65, F69, (R_of q67 rfl), (fun h => by exfalso; omega), (by rw [((q66 131 4 (by decide)).trans z4)]; exact R_of r5 rfl), (by rw [((q66 131 11 (by decide)).trans z7)]; exact R_of r13 rfl), (by have h1_0 := congrArg Int32.toInt ((q66 131 4 (by decide)).trans z4); have h2_0 := congrArg Int32.toInt z4; omega), (by have h1_0 := congrArg Int32.toInt ((q66 131 11 (by decide)).trans z7); have h2_0 := congrArg Int32.toInt z7; omega), (QM_b (sNum_b2 (show fs.1.1 = 2 by have q := MT_k hR.1; rw [z7] at q; omega) (by rw [← MT_nm hR.1 (show fs.1.1 = 2 by have q := MT_k hR.1; rw [z7] at q; omega), z15]; omega)) (by omega) (by rw [q68.1]; omega) (by rw [q68.2]; exact RM_at hR))⟩ (nr_bool (R_of (lo := 0) (hi := 1) q67 rfl)) dX12_takes_31
  ·
    refine r_aload_n S dX12_takes_8 rfl (lv_at hl 0 rfl) ?_
    refine r_iconst S dX12_takes_9 (by decide) (fun v70 z71 => ?_)
    have r72 := R_eq z71
    refine r_ki (q_V (As := [.int v70]) (rest := []) (K := 38) (ci := 10) S X (c_X12_bad_q l G τ hI v70 (R_of (lo := -2147483648) (hi := 2147483647) r72 rfl)) ck12_183 (Nat.le_of_ble_eq_true rfl) rfl (fun _ => ⟨_, rfl⟩) ⟨_, _, rfl⟩ ⟨Nat.le_of_ble_eq_true rfl, Nat.le_of_ble_eq_true rfl⟩ rfl hl.1 rfl (Nat.le_of_ble_eq_true rfl) dX12_takes_10 ⟨Nat.le_refl 0, Nat.le_refl 0⟩) X (fun v76 t75 H lc q73 X74 => ?_)
    unfold po_X12_bad_q at q73
    obtain ⟨q77, q78, q79, q80⟩ := q73
    have F81 : Fr [(131, 15), (131, 16), (131, 4), (131, 11), (131, 12), (131, 13), (131, 14), (131, 18)] [331] τ t75 := Fr_call Fr_rfl q78 (by decide)
    exact r_ret S hr hlk X74 ⟨q77, F81, (R_of q79 rfl), (fun h => by exfalso; omega), (by rw [((q78 131 4 (by decide)).trans z4)]; exact R_of r5 rfl), (by rw [((q78 131 11 (by decide)).trans z7)]; exact R_of r8 rfl), (by have h1_0 := congrArg Int32.toInt ((q78 131 4 (by decide)).trans z4); have h2_0 := congrArg Int32.toInt z4; omega), (by have h1_0 := congrArg Int32.toInt ((q78 131 11 (by decide)).trans z7); have h2_0 := congrArg Int32.toInt z7; omega), (QM_b (sNum_b1 (by have q := MT_k hR.1; rw [z7] at q; omega)) (by omega) (by rw [q80.1]; omega) (by rw [q80.2]; exact RM_at hR))⟩ (nr_bool (R_of (lo := 0) (hi := 1) q79 rfl)) dX12_takes_13
def po_X12_takes_q_0_9 (τ : Tau)  (a0 a1 : Int32)  (bb : Nat → Int) (nb : Nat) (fs : FS) (r : Int32) (u : Tau) : Prop := Inv u ∧ Fr [(131, 15), (131, 16), (131, 4), (131, 11), (131, 12), (131, 13), (131, 14), (131, 18)] [331] τ u ∧ R (0) (1) r ∧ (r.toInt = 1 → R (0) (9) (u 131 18) ∧ R (0) (0) (u 131 15)) ∧ R (0) (940) (u 131 4) ∧ R (0) (4) (u 131 11) ∧ (τ 131 4).toInt ≤ (u 131 4).toInt ∧ (r.toInt = 1 → (τ 131 11).toInt = 2) ∧ QM (sNum bb nb 0 9 fs) r u (fun g => (u 131 18).toInt = g.1 ∧ RM bb nb u g.2)
set_option maxHeartbeats 4000000 in
set_option maxRecDepth 100000 in
theorem c_X12_takes_q_0_9 (l : Launch) (G : Gx) (τ : Tau) (hI : Inv τ) (a0 : Int32) (a1 : Int32) (h_a0 : R (0) (0) a0) (h_a1 : R (9) (9) a1) (hf_0 : R (0) (0) (τ 131 15)) (bb : Nat → Int) (nb : Nat) (fs : FS) (hR : RM bb nb τ fs) : Ci l G yX12_takes cX12_takes 3 (some .boolean) 2 43 [.ref (G.2.2.2.1 131), .int a0, .int a1] τ (po_X12_takes_q_0_9 τ  a0 a1  bb nb fs) := by
  unfold Ci
  refine C_of (own := RX12) (by decide) rfl (Nat.le_of_ble_eq_true rfl) ?_
  intro p e s m below meth c ls S hr hlk X hl
  have hl : lv_has ls 3 [(0, .ref (G.2.2.2.1 131)), (1, .int a0), (2, .int a1)] := hl
  obtain ⟨v1, z2⟩ : ∃ x, τ 131 15 = x := ⟨_, rfl⟩
  rw [z2] at hf_0
  obtain ⟨v3, z4⟩ : ∃ x, τ 131 4 = x := ⟨_, rfl⟩
  have r5 : R (0) (940) v3 := rd hI rfl z4
  obtain ⟨v6, z7⟩ : ∃ x, τ 131 11 = x := ⟨_, rfl⟩
  have r8 : R (0) (4) v6 := rd hI rfl z7
  refine r_aload_n S dX12_takes_0 rfl (lv_at hl 0 rfl) ?_
  refine r_geti (K := 38) S X (Nat.le_of_ble_eq_true rfl) rfl lk12_157_10 (fun _ => ⟨_, rfl, rfl⟩) z7 dX12_takes_1 ?_
  refine r_iconst S dX12_takes_4 (by decide) (fun v9 z10 => ?_)
  have r11 := R_eq z10
  refine r_icmp_eq (tgt := 14) S dX12_takes_5 (by decide) (fun c12 => ?_) (fun c12 => ?_)
  ·
    have r13 : R (2) (2) v6 := ⟨by omega, by omega⟩
    refine r_aload_n S dX12_takes_14 rfl (lv_at hl 0 rfl) ?_
    refine r_getn (K := 38) S X (Nat.le_of_ble_eq_true rfl) rfl lk12_167_10 (fun _ => ⟨_, rfl, rfl⟩) dX12_takes_15 (fun v14 z15 => ?_)
    have r17 := R_any v14
    refine r_iload_n S dX12_takes_18 rfl (lv_at hl 1 rfl) ?_
    refine r_iload_n S dX12_takes_19 rfl (lv_at hl 2 rfl) ?_
    refine r_ki (q_S (As := [.int v14, .int a0, .int a1]) (rest := []) S X (c_X12_isIn_q l G τ hI v14 a0 a1 r17 (R_of (lo := -2147483648) (hi := 2147483647) h_a0 rfl) (R_of (lo := -2147483648) (hi := 2147483647) h_a1 rfl)) ck12_189 ⟨Nat.le_of_ble_eq_true rfl, Nat.le_of_ble_eq_true rfl⟩ rfl hl.1 rfl (Nat.le_of_ble_eq_true rfl) dX12_takes_20 ⟨Nat.le_refl 0, Nat.le_refl 0⟩) X (fun v21 t20 H lc q18 X19 => ?_)
    unfold po_X12_isIn_q at q18
    obtain ⟨q22, q23, q24⟩ := q18
    rw [q22] at X19
    refine r_if_ne (tgt := 32) S dX12_takes_23 (by decide) (fun c25 => ?_) (fun c25 => ?_)
    ·
      have r26 : R (1) (1) v21 := ⟨by omega, by omega⟩
      refine r_aload_n S dX12_takes_32 rfl (lv_at hl 0 rfl) ?_
      refine r_aload_n S dX12_takes_33 rfl (lv_at hl 0 rfl) ?_
      refine r_geti (K := 38) S X19 (Nat.le_of_ble_eq_true rfl) rfl lk12_167_10 (fun _ => ⟨_, rfl, rfl⟩) z15 dX12_takes_34 ?_
      refine r_put (K := 38) (ty := .int) S X19 (Nat.le_of_ble_eq_true rfl) rfl lk12_193_10 (fun _ => ⟨_, rfl, Nat.le_of_ble_eq_true rfl, rfl⟩) (fun _ _ _ h => by cases h; exact ⟨rfl, rfl⟩) rfl rfl dX12_takes_37 (fun t27 H lc M28 X29 => ?_)
      have I30 := Inv_mu hI M28 (R_any v14)
      have F31 : Fr [(131, 15), (131, 16), (131, 4), (131, 11), (131, 12), (131, 13), (131, 14), (131, 18)] [331] τ t27 := Fr_mu Fr_rfl M28 (by decide)
      refine r_aload_n S dX12_takes_40 rfl (lv_at hl 0 rfl) ?_
      refine r_kv (q_V (As := []) (rest := []) (K := 38) (ci := 10) S X29 (c_X12_skip_q l G t27 I30 bb nb 900 fs.1.2.2 (MT_st (RM_fr hR ((M28.2 131 3 (Or.inr (by decide))).trans rfl) ((M28.2 131 4 (Or.inr (by decide))).trans rfl) ((M28.2 131 5 (Or.inr (by decide))).trans rfl) ((M28.2 131 11 (Or.inr (by decide))).trans rfl) ((M28.2 131 12 (Or.inr (by decide))).trans rfl) ((M28.2 131 14 (Or.inr (by decide))).trans rfl) (fun j => ((M28.2 132 j (Or.inl (by decide))).trans rfl)) (fun j => ((M28.2 331 j (Or.inl (by decide))).trans rfl)) ((M28.2 131 20 (Or.inr (by decide))).trans rfl) (fun j => ((M28.2 134 j (Or.inl (by decide))).trans rfl)) (fun j => ((M28.2 336 j (Or.inl (by decide))).trans rfl)) (fun j => ((M28.2 337 j (Or.inl (by decide))).trans rfl))).1 (Or.inr (Or.inl (show fs.1.1 = 2 by have q := MT_k hR.1; rw [z7] at q; omega)))).1 (MT_st (RM_fr hR ((M28.2 131 3 (Or.inr (by decide))).trans rfl) ((M28.2 131 4 (Or.inr (by decide))).trans rfl) ((M28.2 131 5 (Or.inr (by decide))).trans rfl) ((M28.2 131 11 (Or.inr (by decide))).trans rfl) ((M28.2 131 12 (Or.inr (by decide))).trans rfl) ((M28.2 131 14 (Or.inr (by decide))).trans rfl) (fun j => ((M28.2 132 j (Or.inl (by decide))).trans rfl)) (fun j => ((M28.2 331 j (Or.inl (by decide))).trans rfl)) ((M28.2 131 20 (Or.inr (by decide))).trans rfl) (fun j => ((M28.2 134 j (Or.inl (by decide))).trans rfl)) (fun j => ((M28.2 336 j (Or.inl (by decide))).trans rfl)) (fun j => ((M28.2 337 j (Or.inl (by decide))).trans rfl))).1 (Or.inr (Or.inl (show fs.1.1 = 2 by have q := MT_k hR.1; rw [z7] at q; omega)))).2.1 (MT_st (RM_fr hR ((M28.2 131 3 (Or.inr (by decide))).trans rfl) ((M28.2 131 4 (Or.inr (by decide))).trans rfl) ((M28.2 131 5 (Or.inr (by decide))).trans rfl) ((M28.2 131 11 (Or.inr (by decide))).trans rfl) ((M28.2 131 12 (Or.inr (by decide))).trans rfl) ((M28.2 131 14 (Or.inr (by decide))).trans rfl) (fun j => ((M28.2 132 j (Or.inl (by decide))).trans rfl)) (fun j => ((M28.2 331 j (Or.inl (by decide))).trans rfl)) ((M28.2 131 20 (Or.inr (by decide))).trans rfl) (fun j => ((M28.2 134 j (Or.inl (by decide))).trans rfl)) (fun j => ((M28.2 336 j (Or.inl (by decide))).trans rfl)) (fun j => ((M28.2 337 j (Or.inl (by decide))).trans rfl))).1 (Or.inr (Or.inl (show fs.1.1 = 2 by have q := MT_k hR.1; rw [z7] at q; omega)))).2.2) ck12_186 (Nat.le_of_ble_eq_true rfl) rfl (fun _ => ⟨_, rfl⟩) ⟨_, _, rfl⟩ ⟨Nat.le_of_ble_eq_true rfl, Nat.le_of_ble_eq_true rfl⟩ rfl hl.1 rfl (Nat.le_of_ble_eq_true rfl) dX12_takes_41 ⟨Nat.le_refl 0, Nat.le_refl 0⟩) X29 (fun t34 H lc q32 X33 => ?_)
      unfold po_X12_skip_q at q32
      obtain ⟨q35, q36, q37, q38, q39, q40, q41⟩ := q32
      have F42 : Fr [(131, 15), (131, 16), (131, 4), (131, 11), (131, 12), (131, 13), (131, 14), (131, 18)] [331] τ t34 := Fr_call F31 q36 (by decide)
      obtain ⟨v43, z44⟩ : ∃ x, t34 131 4 = x := ⟨_, rfl⟩
      rw [z44] at q37
      obtain ⟨v45, z46⟩ : ∃ x, t34 131 11 = x := ⟨_, rfl⟩
      rw [z46] at q38
      have e47 := congrArg Int32.toInt ((M28.2 131 4 (Or.inr (by decide))).trans z4)
      have e48 := congrArg Int32.toInt z44
      have e49 := congrArg Int32.toInt ((M28.2 131 4 (Or.inr (by decide))).trans z4)
      have e50 := congrArg Int32.toInt z44
      have e51 := congrArg Int32.toInt ((M28.2 131 11 (Or.inr (by decide))).trans z7)
      have e52 := congrArg Int32.toInt z46
      have hR53 : RM bb nb t34 (stp bb nb fs) := ⟨q41, RH_fr hR.2.1 ((q36 131 20 (by decide)).trans ((M28.2 131 20 (Or.inr (by decide))).trans rfl)) (fun j _ => ((q36 134 j (by simp [fz])).trans ((M28.2 134 j (Or.inl (by decide))).trans rfl))) (fun j => ((q36 336 j (by simp [fz])).trans ((M28.2 336 j (Or.inl (by decide))).trans rfl))), RS2_fr hR.2.2 (fun j => ((q36 337 j (by simp [fz])).trans ((M28.2 337 j (Or.inl (by decide))).trans rfl))) (fun j => ((q36 336 j (by simp [fz])).trans ((M28.2 336 j (Or.inl (by decide))).trans rfl)))⟩
      refine r_iconst S dX12_takes_44 (by decide) (fun v54 z55 => ?_)
      have r56 := R_eq z55
      exact r_ret S hr hlk X33 ⟨q35, F42, (R_of r56 rfl), (fun h => ⟨(by rw [((q36 131 18 (by decide)).trans M28.1)]; exact ⟨by omega, by omega⟩), (by rw [((q36 131 15 (by decide)).trans ((M28.2 131 15 (Or.inr (by decide))).trans z2))]; exact R_of hf_0 rfl)⟩), (by rw [z44]; exact R_of q37 rfl), (by rw [z46]; exact R_of q38 rfl), (by have h1_0 := congrArg Int32.toInt z44; have h2_0 := congrArg Int32.toInt z4; omega), (by have h1_0 := congrArg Int32.toInt z46; have h2_0 := congrArg Int32.toInt z7; omega), (QM_r (sNum_g (show fs.1.1 = 2 by have q := MT_k hR.1; rw [z7] at q; omega) (by rw [← MT_nm hR.1 (show fs.1.1 = 2 by have q := MT_k hR.1; rw [z7] at q; omega), z15]; omega)) (by omega) ⟨show (t34 131 18).toInt = nbr bb fs.1 by rw [((q36 131 18 (by decide)).trans M28.1), ← MT_nm hR.1 (show fs.1.1 = 2 by have q := MT_k hR.1; rw [z7] at q; omega), z15], hR53⟩)⟩ (nr_bool (R_of (lo := 0) (hi := 1) r56 rfl)) dX12_takes_45
    ·
      have r57 : R (0) (0) v21 := ⟨by omega, by omega⟩
      refine r_aload_n S dX12_takes_26 rfl (lv_at hl 0 rfl) ?_
      refine r_iconst S dX12_takes_27 (by decide) (fun v58 z59 => ?_)
      have r60 := R_eq z59
      refine r_ki (q_V (As := [.int v58]) (rest := []) (K := 38) (ci := 10) S X19 (c_X12_bad_q l G τ hI v58 (R_of (lo := -2147483648) (hi := 2147483647) r60 rfl)) ck12_183 (Nat.le_of_ble_eq_true rfl) rfl (fun _ => ⟨_, rfl⟩) ⟨_, _, rfl⟩ ⟨Nat.le_of_ble_eq_true rfl, Nat.le_of_ble_eq_true rfl⟩ rfl hl.1 rfl (Nat.le_of_ble_eq_true rfl) dX12_takes_28 ⟨Nat.le_refl 0, Nat.le_refl 0⟩) X19 (fun v64 t63 H lc q61 X62 => ?_)
      unfold po_X12_bad_q at q61
      obtain ⟨q65, q66, q67, q68⟩ := q61
      have F69 : Fr [(131, 15), (131, 16), (131, 4), (131, 11), (131, 12), (131, 13), (131, 14), (131, 18)] [331] τ t63 := Fr_call Fr_rfl q66 (by decide)
      exact r_ret S hr hlk X62 ⟨q65, F69, (R_of q67 rfl), (fun h => by exfalso; omega), (by rw [((q66 131 4 (by decide)).trans z4)]; exact R_of r5 rfl), (by rw [((q66 131 11 (by decide)).trans z7)]; exact R_of r13 rfl), (by have h1_0 := congrArg Int32.toInt ((q66 131 4 (by decide)).trans z4); have h2_0 := congrArg Int32.toInt z4; omega), (by have h1_0 := congrArg Int32.toInt ((q66 131 11 (by decide)).trans z7); have h2_0 := congrArg Int32.toInt z7; omega), (QM_b (sNum_b2 (show fs.1.1 = 2 by have q := MT_k hR.1; rw [z7] at q; omega) (by rw [← MT_nm hR.1 (show fs.1.1 = 2 by have q := MT_k hR.1; rw [z7] at q; omega), z15]; omega)) (by omega) (by rw [q68.1]; omega) (by rw [q68.2]; exact RM_at hR))⟩ (nr_bool (R_of (lo := 0) (hi := 1) q67 rfl)) dX12_takes_31
  ·
    refine r_aload_n S dX12_takes_8 rfl (lv_at hl 0 rfl) ?_
    refine r_iconst S dX12_takes_9 (by decide) (fun v70 z71 => ?_)
    have r72 := R_eq z71
    refine r_ki (q_V (As := [.int v70]) (rest := []) (K := 38) (ci := 10) S X (c_X12_bad_q l G τ hI v70 (R_of (lo := -2147483648) (hi := 2147483647) r72 rfl)) ck12_183 (Nat.le_of_ble_eq_true rfl) rfl (fun _ => ⟨_, rfl⟩) ⟨_, _, rfl⟩ ⟨Nat.le_of_ble_eq_true rfl, Nat.le_of_ble_eq_true rfl⟩ rfl hl.1 rfl (Nat.le_of_ble_eq_true rfl) dX12_takes_10 ⟨Nat.le_refl 0, Nat.le_refl 0⟩) X (fun v76 t75 H lc q73 X74 => ?_)
    unfold po_X12_bad_q at q73
    obtain ⟨q77, q78, q79, q80⟩ := q73
    have F81 : Fr [(131, 15), (131, 16), (131, 4), (131, 11), (131, 12), (131, 13), (131, 14), (131, 18)] [331] τ t75 := Fr_call Fr_rfl q78 (by decide)
    exact r_ret S hr hlk X74 ⟨q77, F81, (R_of q79 rfl), (fun h => by exfalso; omega), (by rw [((q78 131 4 (by decide)).trans z4)]; exact R_of r5 rfl), (by rw [((q78 131 11 (by decide)).trans z7)]; exact R_of r8 rfl), (by have h1_0 := congrArg Int32.toInt ((q78 131 4 (by decide)).trans z4); have h2_0 := congrArg Int32.toInt z4; omega), (by have h1_0 := congrArg Int32.toInt ((q78 131 11 (by decide)).trans z7); have h2_0 := congrArg Int32.toInt z7; omega), (QM_b (sNum_b1 (by have q := MT_k hR.1; rw [z7] at q; omega)) (by omega) (by rw [q80.1]; omega) (by rw [q80.2]; exact RM_at hR))⟩ (nr_bool (R_of (lo := 0) (hi := 1) q79 rfl)) dX12_takes_13
def po_X12_takes_q_0_20 (τ : Tau)  (a0 a1 : Int32)  (bb : Nat → Int) (nb : Nat) (fs : FS) (r : Int32) (u : Tau) : Prop := Inv u ∧ Fr [(131, 15), (131, 16), (131, 4), (131, 11), (131, 12), (131, 13), (131, 14), (131, 18)] [331] τ u ∧ R (0) (1) r ∧ (r.toInt = 1 → R (0) (20) (u 131 18) ∧ R (0) (0) (u 131 15)) ∧ R (0) (940) (u 131 4) ∧ R (0) (4) (u 131 11) ∧ (τ 131 4).toInt ≤ (u 131 4).toInt ∧ (r.toInt = 1 → (τ 131 11).toInt = 2) ∧ QM (sNum bb nb 0 20 fs) r u (fun g => (u 131 18).toInt = g.1 ∧ RM bb nb u g.2)
set_option maxHeartbeats 4000000 in
set_option maxRecDepth 100000 in
theorem c_X12_takes_q_0_20 (l : Launch) (G : Gx) (τ : Tau) (hI : Inv τ) (a0 : Int32) (a1 : Int32) (h_a0 : R (0) (0) a0) (h_a1 : R (20) (20) a1) (hf_0 : R (0) (0) (τ 131 15)) (bb : Nat → Int) (nb : Nat) (fs : FS) (hR : RM bb nb τ fs) : Ci l G yX12_takes cX12_takes 3 (some .boolean) 2 43 [.ref (G.2.2.2.1 131), .int a0, .int a1] τ (po_X12_takes_q_0_20 τ  a0 a1  bb nb fs) := by
  unfold Ci
  refine C_of (own := RX12) (by decide) rfl (Nat.le_of_ble_eq_true rfl) ?_
  intro p e s m below meth c ls S hr hlk X hl
  have hl : lv_has ls 3 [(0, .ref (G.2.2.2.1 131)), (1, .int a0), (2, .int a1)] := hl
  obtain ⟨v1, z2⟩ : ∃ x, τ 131 15 = x := ⟨_, rfl⟩
  rw [z2] at hf_0
  obtain ⟨v3, z4⟩ : ∃ x, τ 131 4 = x := ⟨_, rfl⟩
  have r5 : R (0) (940) v3 := rd hI rfl z4
  obtain ⟨v6, z7⟩ : ∃ x, τ 131 11 = x := ⟨_, rfl⟩
  have r8 : R (0) (4) v6 := rd hI rfl z7
  refine r_aload_n S dX12_takes_0 rfl (lv_at hl 0 rfl) ?_
  refine r_geti (K := 38) S X (Nat.le_of_ble_eq_true rfl) rfl lk12_157_10 (fun _ => ⟨_, rfl, rfl⟩) z7 dX12_takes_1 ?_
  refine r_iconst S dX12_takes_4 (by decide) (fun v9 z10 => ?_)
  have r11 := R_eq z10
  refine r_icmp_eq (tgt := 14) S dX12_takes_5 (by decide) (fun c12 => ?_) (fun c12 => ?_)
  ·
    have r13 : R (2) (2) v6 := ⟨by omega, by omega⟩
    refine r_aload_n S dX12_takes_14 rfl (lv_at hl 0 rfl) ?_
    refine r_getn (K := 38) S X (Nat.le_of_ble_eq_true rfl) rfl lk12_167_10 (fun _ => ⟨_, rfl, rfl⟩) dX12_takes_15 (fun v14 z15 => ?_)
    have r17 := R_any v14
    refine r_iload_n S dX12_takes_18 rfl (lv_at hl 1 rfl) ?_
    refine r_iload_n S dX12_takes_19 rfl (lv_at hl 2 rfl) ?_
    refine r_ki (q_S (As := [.int v14, .int a0, .int a1]) (rest := []) S X (c_X12_isIn_q l G τ hI v14 a0 a1 r17 (R_of (lo := -2147483648) (hi := 2147483647) h_a0 rfl) (R_of (lo := -2147483648) (hi := 2147483647) h_a1 rfl)) ck12_189 ⟨Nat.le_of_ble_eq_true rfl, Nat.le_of_ble_eq_true rfl⟩ rfl hl.1 rfl (Nat.le_of_ble_eq_true rfl) dX12_takes_20 ⟨Nat.le_refl 0, Nat.le_refl 0⟩) X (fun v21 t20 H lc q18 X19 => ?_)
    unfold po_X12_isIn_q at q18
    obtain ⟨q22, q23, q24⟩ := q18
    rw [q22] at X19
    refine r_if_ne (tgt := 32) S dX12_takes_23 (by decide) (fun c25 => ?_) (fun c25 => ?_)
    ·
      have r26 : R (1) (1) v21 := ⟨by omega, by omega⟩
      refine r_aload_n S dX12_takes_32 rfl (lv_at hl 0 rfl) ?_
      refine r_aload_n S dX12_takes_33 rfl (lv_at hl 0 rfl) ?_
      refine r_geti (K := 38) S X19 (Nat.le_of_ble_eq_true rfl) rfl lk12_167_10 (fun _ => ⟨_, rfl, rfl⟩) z15 dX12_takes_34 ?_
      refine r_put (K := 38) (ty := .int) S X19 (Nat.le_of_ble_eq_true rfl) rfl lk12_193_10 (fun _ => ⟨_, rfl, Nat.le_of_ble_eq_true rfl, rfl⟩) (fun _ _ _ h => by cases h; exact ⟨rfl, rfl⟩) rfl rfl dX12_takes_37 (fun t27 H lc M28 X29 => ?_)
      have I30 := Inv_mu hI M28 (R_any v14)
      have F31 : Fr [(131, 15), (131, 16), (131, 4), (131, 11), (131, 12), (131, 13), (131, 14), (131, 18)] [331] τ t27 := Fr_mu Fr_rfl M28 (by decide)
      refine r_aload_n S dX12_takes_40 rfl (lv_at hl 0 rfl) ?_
      refine r_kv (q_V (As := []) (rest := []) (K := 38) (ci := 10) S X29 (c_X12_skip_q l G t27 I30 bb nb 900 fs.1.2.2 (MT_st (RM_fr hR ((M28.2 131 3 (Or.inr (by decide))).trans rfl) ((M28.2 131 4 (Or.inr (by decide))).trans rfl) ((M28.2 131 5 (Or.inr (by decide))).trans rfl) ((M28.2 131 11 (Or.inr (by decide))).trans rfl) ((M28.2 131 12 (Or.inr (by decide))).trans rfl) ((M28.2 131 14 (Or.inr (by decide))).trans rfl) (fun j => ((M28.2 132 j (Or.inl (by decide))).trans rfl)) (fun j => ((M28.2 331 j (Or.inl (by decide))).trans rfl)) ((M28.2 131 20 (Or.inr (by decide))).trans rfl) (fun j => ((M28.2 134 j (Or.inl (by decide))).trans rfl)) (fun j => ((M28.2 336 j (Or.inl (by decide))).trans rfl)) (fun j => ((M28.2 337 j (Or.inl (by decide))).trans rfl))).1 (Or.inr (Or.inl (show fs.1.1 = 2 by have q := MT_k hR.1; rw [z7] at q; omega)))).1 (MT_st (RM_fr hR ((M28.2 131 3 (Or.inr (by decide))).trans rfl) ((M28.2 131 4 (Or.inr (by decide))).trans rfl) ((M28.2 131 5 (Or.inr (by decide))).trans rfl) ((M28.2 131 11 (Or.inr (by decide))).trans rfl) ((M28.2 131 12 (Or.inr (by decide))).trans rfl) ((M28.2 131 14 (Or.inr (by decide))).trans rfl) (fun j => ((M28.2 132 j (Or.inl (by decide))).trans rfl)) (fun j => ((M28.2 331 j (Or.inl (by decide))).trans rfl)) ((M28.2 131 20 (Or.inr (by decide))).trans rfl) (fun j => ((M28.2 134 j (Or.inl (by decide))).trans rfl)) (fun j => ((M28.2 336 j (Or.inl (by decide))).trans rfl)) (fun j => ((M28.2 337 j (Or.inl (by decide))).trans rfl))).1 (Or.inr (Or.inl (show fs.1.1 = 2 by have q := MT_k hR.1; rw [z7] at q; omega)))).2.1 (MT_st (RM_fr hR ((M28.2 131 3 (Or.inr (by decide))).trans rfl) ((M28.2 131 4 (Or.inr (by decide))).trans rfl) ((M28.2 131 5 (Or.inr (by decide))).trans rfl) ((M28.2 131 11 (Or.inr (by decide))).trans rfl) ((M28.2 131 12 (Or.inr (by decide))).trans rfl) ((M28.2 131 14 (Or.inr (by decide))).trans rfl) (fun j => ((M28.2 132 j (Or.inl (by decide))).trans rfl)) (fun j => ((M28.2 331 j (Or.inl (by decide))).trans rfl)) ((M28.2 131 20 (Or.inr (by decide))).trans rfl) (fun j => ((M28.2 134 j (Or.inl (by decide))).trans rfl)) (fun j => ((M28.2 336 j (Or.inl (by decide))).trans rfl)) (fun j => ((M28.2 337 j (Or.inl (by decide))).trans rfl))).1 (Or.inr (Or.inl (show fs.1.1 = 2 by have q := MT_k hR.1; rw [z7] at q; omega)))).2.2) ck12_186 (Nat.le_of_ble_eq_true rfl) rfl (fun _ => ⟨_, rfl⟩) ⟨_, _, rfl⟩ ⟨Nat.le_of_ble_eq_true rfl, Nat.le_of_ble_eq_true rfl⟩ rfl hl.1 rfl (Nat.le_of_ble_eq_true rfl) dX12_takes_41 ⟨Nat.le_refl 0, Nat.le_refl 0⟩) X29 (fun t34 H lc q32 X33 => ?_)
      unfold po_X12_skip_q at q32
      obtain ⟨q35, q36, q37, q38, q39, q40, q41⟩ := q32
      have F42 : Fr [(131, 15), (131, 16), (131, 4), (131, 11), (131, 12), (131, 13), (131, 14), (131, 18)] [331] τ t34 := Fr_call F31 q36 (by decide)
      obtain ⟨v43, z44⟩ : ∃ x, t34 131 4 = x := ⟨_, rfl⟩
      rw [z44] at q37
      obtain ⟨v45, z46⟩ : ∃ x, t34 131 11 = x := ⟨_, rfl⟩
      rw [z46] at q38
      have e47 := congrArg Int32.toInt ((M28.2 131 4 (Or.inr (by decide))).trans z4)
      have e48 := congrArg Int32.toInt z44
      have e49 := congrArg Int32.toInt ((M28.2 131 4 (Or.inr (by decide))).trans z4)
      have e50 := congrArg Int32.toInt z44
      have e51 := congrArg Int32.toInt ((M28.2 131 11 (Or.inr (by decide))).trans z7)
      have e52 := congrArg Int32.toInt z46
      have hR53 : RM bb nb t34 (stp bb nb fs) := ⟨q41, RH_fr hR.2.1 ((q36 131 20 (by decide)).trans ((M28.2 131 20 (Or.inr (by decide))).trans rfl)) (fun j _ => ((q36 134 j (by simp [fz])).trans ((M28.2 134 j (Or.inl (by decide))).trans rfl))) (fun j => ((q36 336 j (by simp [fz])).trans ((M28.2 336 j (Or.inl (by decide))).trans rfl))), RS2_fr hR.2.2 (fun j => ((q36 337 j (by simp [fz])).trans ((M28.2 337 j (Or.inl (by decide))).trans rfl))) (fun j => ((q36 336 j (by simp [fz])).trans ((M28.2 336 j (Or.inl (by decide))).trans rfl)))⟩
      refine r_iconst S dX12_takes_44 (by decide) (fun v54 z55 => ?_)
      have r56 := R_eq z55
      exact r_ret S hr hlk X33 ⟨q35, F42, (R_of r56 rfl), (fun h => ⟨(by rw [((q36 131 18 (by decide)).trans M28.1)]; exact ⟨by omega, by omega⟩), (by rw [((q36 131 15 (by decide)).trans ((M28.2 131 15 (Or.inr (by decide))).trans z2))]; exact R_of hf_0 rfl)⟩), (by rw [z44]; exact R_of q37 rfl), (by rw [z46]; exact R_of q38 rfl), (by have h1_0 := congrArg Int32.toInt z44; have h2_0 := congrArg Int32.toInt z4; omega), (by have h1_0 := congrArg Int32.toInt z46; have h2_0 := congrArg Int32.toInt z7; omega), (QM_r (sNum_g (show fs.1.1 = 2 by have q := MT_k hR.1; rw [z7] at q; omega) (by rw [← MT_nm hR.1 (show fs.1.1 = 2 by have q := MT_k hR.1; rw [z7] at q; omega), z15]; omega)) (by omega) ⟨show (t34 131 18).toInt = nbr bb fs.1 by rw [((q36 131 18 (by decide)).trans M28.1), ← MT_nm hR.1 (show fs.1.1 = 2 by have q := MT_k hR.1; rw [z7] at q; omega), z15], hR53⟩)⟩ (nr_bool (R_of (lo := 0) (hi := 1) r56 rfl)) dX12_takes_45
    ·
      have r57 : R (0) (0) v21 := ⟨by omega, by omega⟩
      refine r_aload_n S dX12_takes_26 rfl (lv_at hl 0 rfl) ?_
      refine r_iconst S dX12_takes_27 (by decide) (fun v58 z59 => ?_)
      have r60 := R_eq z59
      refine r_ki (q_V (As := [.int v58]) (rest := []) (K := 38) (ci := 10) S X19 (c_X12_bad_q l G τ hI v58 (R_of (lo := -2147483648) (hi := 2147483647) r60 rfl)) ck12_183 (Nat.le_of_ble_eq_true rfl) rfl (fun _ => ⟨_, rfl⟩) ⟨_, _, rfl⟩ ⟨Nat.le_of_ble_eq_true rfl, Nat.le_of_ble_eq_true rfl⟩ rfl hl.1 rfl (Nat.le_of_ble_eq_true rfl) dX12_takes_28 ⟨Nat.le_refl 0, Nat.le_refl 0⟩) X19 (fun v64 t63 H lc q61 X62 => ?_)
      unfold po_X12_bad_q at q61
      obtain ⟨q65, q66, q67, q68⟩ := q61
      have F69 : Fr [(131, 15), (131, 16), (131, 4), (131, 11), (131, 12), (131, 13), (131, 14), (131, 18)] [331] τ t63 := Fr_call Fr_rfl q66 (by decide)
      exact r_ret S hr hlk X62 ⟨q65, F69, (R_of q67 rfl), (fun h => by exfalso; omega), (by rw [((q66 131 4 (by decide)).trans z4)]; exact R_of r5 rfl), (by rw [((q66 131 11 (by decide)).trans z7)]; exact R_of r13 rfl), (by have h1_0 := congrArg Int32.toInt ((q66 131 4 (by decide)).trans z4); have h2_0 := congrArg Int32.toInt z4; omega), (by have h1_0 := congrArg Int32.toInt ((q66 131 11 (by decide)).trans z7); have h2_0 := congrArg Int32.toInt z7; omega), (QM_b (sNum_b2 (show fs.1.1 = 2 by have q := MT_k hR.1; rw [z7] at q; omega) (by rw [← MT_nm hR.1 (show fs.1.1 = 2 by have q := MT_k hR.1; rw [z7] at q; omega), z15]; omega)) (by omega) (by rw [q68.1]; omega) (by rw [q68.2]; exact RM_at hR))⟩ (nr_bool (R_of (lo := 0) (hi := 1) q67 rfl)) dX12_takes_31
  ·
    refine r_aload_n S dX12_takes_8 rfl (lv_at hl 0 rfl) ?_
    refine r_iconst S dX12_takes_9 (by decide) (fun v70 z71 => ?_)
    have r72 := R_eq z71
    refine r_ki (q_V (As := [.int v70]) (rest := []) (K := 38) (ci := 10) S X (c_X12_bad_q l G τ hI v70 (R_of (lo := -2147483648) (hi := 2147483647) r72 rfl)) ck12_183 (Nat.le_of_ble_eq_true rfl) rfl (fun _ => ⟨_, rfl⟩) ⟨_, _, rfl⟩ ⟨Nat.le_of_ble_eq_true rfl, Nat.le_of_ble_eq_true rfl⟩ rfl hl.1 rfl (Nat.le_of_ble_eq_true rfl) dX12_takes_10 ⟨Nat.le_refl 0, Nat.le_refl 0⟩) X (fun v76 t75 H lc q73 X74 => ?_)
    unfold po_X12_bad_q at q73
    obtain ⟨q77, q78, q79, q80⟩ := q73
    have F81 : Fr [(131, 15), (131, 16), (131, 4), (131, 11), (131, 12), (131, 13), (131, 14), (131, 18)] [331] τ t75 := Fr_call Fr_rfl q78 (by decide)
    exact r_ret S hr hlk X74 ⟨q77, F81, (R_of q79 rfl), (fun h => by exfalso; omega), (by rw [((q78 131 4 (by decide)).trans z4)]; exact R_of r5 rfl), (by rw [((q78 131 11 (by decide)).trans z7)]; exact R_of r8 rfl), (by have h1_0 := congrArg Int32.toInt ((q78 131 4 (by decide)).trans z4); have h2_0 := congrArg Int32.toInt z4; omega), (by have h1_0 := congrArg Int32.toInt ((q78 131 11 (by decide)).trans z7); have h2_0 := congrArg Int32.toInt z7; omega), (QM_b (sNum_b1 (by have q := MT_k hR.1; rw [z7] at q; omega)) (by omega) (by rw [q80.1]; omega) (by rw [q80.2]; exact RM_at hR))⟩ (nr_bool (R_of (lo := 0) (hi := 1) q79 rfl)) dX12_takes_13
def po_X12_takes_q_1_9 (τ : Tau)  (a0 a1 : Int32)  (bb : Nat → Int) (nb : Nat) (fs : FS) (r : Int32) (u : Tau) : Prop := Inv u ∧ Fr [(131, 15), (131, 16), (131, 4), (131, 11), (131, 12), (131, 13), (131, 14), (131, 18)] [331] τ u ∧ R (0) (1) r ∧ (r.toInt = 1 → R (1) (9) (u 131 18) ∧ R (0) (0) (u 131 15)) ∧ R (0) (940) (u 131 4) ∧ R (0) (4) (u 131 11) ∧ (τ 131 4).toInt ≤ (u 131 4).toInt ∧ (r.toInt = 1 → (τ 131 11).toInt = 2) ∧ QM (sNum bb nb 1 9 fs) r u (fun g => (u 131 18).toInt = g.1 ∧ RM bb nb u g.2)
set_option maxHeartbeats 4000000 in
set_option maxRecDepth 100000 in
theorem c_X12_takes_q_1_9 (l : Launch) (G : Gx) (τ : Tau) (hI : Inv τ) (a0 : Int32) (a1 : Int32) (h_a0 : R (1) (1) a0) (h_a1 : R (9) (9) a1) (hf_0 : R (0) (0) (τ 131 15)) (bb : Nat → Int) (nb : Nat) (fs : FS) (hR : RM bb nb τ fs) : Ci l G yX12_takes cX12_takes 3 (some .boolean) 2 43 [.ref (G.2.2.2.1 131), .int a0, .int a1] τ (po_X12_takes_q_1_9 τ  a0 a1  bb nb fs) := by
  unfold Ci
  refine C_of (own := RX12) (by decide) rfl (Nat.le_of_ble_eq_true rfl) ?_
  intro p e s m below meth c ls S hr hlk X hl
  have hl : lv_has ls 3 [(0, .ref (G.2.2.2.1 131)), (1, .int a0), (2, .int a1)] := hl
  obtain ⟨v1, z2⟩ : ∃ x, τ 131 15 = x := ⟨_, rfl⟩
  rw [z2] at hf_0
  obtain ⟨v3, z4⟩ : ∃ x, τ 131 4 = x := ⟨_, rfl⟩
  have r5 : R (0) (940) v3 := rd hI rfl z4
  obtain ⟨v6, z7⟩ : ∃ x, τ 131 11 = x := ⟨_, rfl⟩
  have r8 : R (0) (4) v6 := rd hI rfl z7
  refine r_aload_n S dX12_takes_0 rfl (lv_at hl 0 rfl) ?_
  refine r_geti (K := 38) S X (Nat.le_of_ble_eq_true rfl) rfl lk12_157_10 (fun _ => ⟨_, rfl, rfl⟩) z7 dX12_takes_1 ?_
  refine r_iconst S dX12_takes_4 (by decide) (fun v9 z10 => ?_)
  have r11 := R_eq z10
  refine r_icmp_eq (tgt := 14) S dX12_takes_5 (by decide) (fun c12 => ?_) (fun c12 => ?_)
  ·
    have r13 : R (2) (2) v6 := ⟨by omega, by omega⟩
    refine r_aload_n S dX12_takes_14 rfl (lv_at hl 0 rfl) ?_
    refine r_getn (K := 38) S X (Nat.le_of_ble_eq_true rfl) rfl lk12_167_10 (fun _ => ⟨_, rfl, rfl⟩) dX12_takes_15 (fun v14 z15 => ?_)
    have r17 := R_any v14
    refine r_iload_n S dX12_takes_18 rfl (lv_at hl 1 rfl) ?_
    refine r_iload_n S dX12_takes_19 rfl (lv_at hl 2 rfl) ?_
    refine r_ki (q_S (As := [.int v14, .int a0, .int a1]) (rest := []) S X (c_X12_isIn_q l G τ hI v14 a0 a1 r17 (R_of (lo := -2147483648) (hi := 2147483647) h_a0 rfl) (R_of (lo := -2147483648) (hi := 2147483647) h_a1 rfl)) ck12_189 ⟨Nat.le_of_ble_eq_true rfl, Nat.le_of_ble_eq_true rfl⟩ rfl hl.1 rfl (Nat.le_of_ble_eq_true rfl) dX12_takes_20 ⟨Nat.le_refl 0, Nat.le_refl 0⟩) X (fun v21 t20 H lc q18 X19 => ?_)
    unfold po_X12_isIn_q at q18
    obtain ⟨q22, q23, q24⟩ := q18
    rw [q22] at X19
    refine r_if_ne (tgt := 32) S dX12_takes_23 (by decide) (fun c25 => ?_) (fun c25 => ?_)
    ·
      have r26 : R (1) (1) v21 := ⟨by omega, by omega⟩
      refine r_aload_n S dX12_takes_32 rfl (lv_at hl 0 rfl) ?_
      refine r_aload_n S dX12_takes_33 rfl (lv_at hl 0 rfl) ?_
      refine r_geti (K := 38) S X19 (Nat.le_of_ble_eq_true rfl) rfl lk12_167_10 (fun _ => ⟨_, rfl, rfl⟩) z15 dX12_takes_34 ?_
      refine r_put (K := 38) (ty := .int) S X19 (Nat.le_of_ble_eq_true rfl) rfl lk12_193_10 (fun _ => ⟨_, rfl, Nat.le_of_ble_eq_true rfl, rfl⟩) (fun _ _ _ h => by cases h; exact ⟨rfl, rfl⟩) rfl rfl dX12_takes_37 (fun t27 H lc M28 X29 => ?_)
      have I30 := Inv_mu hI M28 (R_any v14)
      have F31 : Fr [(131, 15), (131, 16), (131, 4), (131, 11), (131, 12), (131, 13), (131, 14), (131, 18)] [331] τ t27 := Fr_mu Fr_rfl M28 (by decide)
      refine r_aload_n S dX12_takes_40 rfl (lv_at hl 0 rfl) ?_
      refine r_kv (q_V (As := []) (rest := []) (K := 38) (ci := 10) S X29 (c_X12_skip_q l G t27 I30 bb nb 900 fs.1.2.2 (MT_st (RM_fr hR ((M28.2 131 3 (Or.inr (by decide))).trans rfl) ((M28.2 131 4 (Or.inr (by decide))).trans rfl) ((M28.2 131 5 (Or.inr (by decide))).trans rfl) ((M28.2 131 11 (Or.inr (by decide))).trans rfl) ((M28.2 131 12 (Or.inr (by decide))).trans rfl) ((M28.2 131 14 (Or.inr (by decide))).trans rfl) (fun j => ((M28.2 132 j (Or.inl (by decide))).trans rfl)) (fun j => ((M28.2 331 j (Or.inl (by decide))).trans rfl)) ((M28.2 131 20 (Or.inr (by decide))).trans rfl) (fun j => ((M28.2 134 j (Or.inl (by decide))).trans rfl)) (fun j => ((M28.2 336 j (Or.inl (by decide))).trans rfl)) (fun j => ((M28.2 337 j (Or.inl (by decide))).trans rfl))).1 (Or.inr (Or.inl (show fs.1.1 = 2 by have q := MT_k hR.1; rw [z7] at q; omega)))).1 (MT_st (RM_fr hR ((M28.2 131 3 (Or.inr (by decide))).trans rfl) ((M28.2 131 4 (Or.inr (by decide))).trans rfl) ((M28.2 131 5 (Or.inr (by decide))).trans rfl) ((M28.2 131 11 (Or.inr (by decide))).trans rfl) ((M28.2 131 12 (Or.inr (by decide))).trans rfl) ((M28.2 131 14 (Or.inr (by decide))).trans rfl) (fun j => ((M28.2 132 j (Or.inl (by decide))).trans rfl)) (fun j => ((M28.2 331 j (Or.inl (by decide))).trans rfl)) ((M28.2 131 20 (Or.inr (by decide))).trans rfl) (fun j => ((M28.2 134 j (Or.inl (by decide))).trans rfl)) (fun j => ((M28.2 336 j (Or.inl (by decide))).trans rfl)) (fun j => ((M28.2 337 j (Or.inl (by decide))).trans rfl))).1 (Or.inr (Or.inl (show fs.1.1 = 2 by have q := MT_k hR.1; rw [z7] at q; omega)))).2.1 (MT_st (RM_fr hR ((M28.2 131 3 (Or.inr (by decide))).trans rfl) ((M28.2 131 4 (Or.inr (by decide))).trans rfl) ((M28.2 131 5 (Or.inr (by decide))).trans rfl) ((M28.2 131 11 (Or.inr (by decide))).trans rfl) ((M28.2 131 12 (Or.inr (by decide))).trans rfl) ((M28.2 131 14 (Or.inr (by decide))).trans rfl) (fun j => ((M28.2 132 j (Or.inl (by decide))).trans rfl)) (fun j => ((M28.2 331 j (Or.inl (by decide))).trans rfl)) ((M28.2 131 20 (Or.inr (by decide))).trans rfl) (fun j => ((M28.2 134 j (Or.inl (by decide))).trans rfl)) (fun j => ((M28.2 336 j (Or.inl (by decide))).trans rfl)) (fun j => ((M28.2 337 j (Or.inl (by decide))).trans rfl))).1 (Or.inr (Or.inl (show fs.1.1 = 2 by have q := MT_k hR.1; rw [z7] at q; omega)))).2.2) ck12_186 (Nat.le_of_ble_eq_true rfl) rfl (fun _ => ⟨_, rfl⟩) ⟨_, _, rfl⟩ ⟨Nat.le_of_ble_eq_true rfl, Nat.le_of_ble_eq_true rfl⟩ rfl hl.1 rfl (Nat.le_of_ble_eq_true rfl) dX12_takes_41 ⟨Nat.le_refl 0, Nat.le_refl 0⟩) X29 (fun t34 H lc q32 X33 => ?_)
      unfold po_X12_skip_q at q32
      obtain ⟨q35, q36, q37, q38, q39, q40, q41⟩ := q32
      have F42 : Fr [(131, 15), (131, 16), (131, 4), (131, 11), (131, 12), (131, 13), (131, 14), (131, 18)] [331] τ t34 := Fr_call F31 q36 (by decide)
      obtain ⟨v43, z44⟩ : ∃ x, t34 131 4 = x := ⟨_, rfl⟩
      rw [z44] at q37
      obtain ⟨v45, z46⟩ : ∃ x, t34 131 11 = x := ⟨_, rfl⟩
      rw [z46] at q38
      have e47 := congrArg Int32.toInt ((M28.2 131 4 (Or.inr (by decide))).trans z4)
      have e48 := congrArg Int32.toInt z44
      have e49 := congrArg Int32.toInt ((M28.2 131 4 (Or.inr (by decide))).trans z4)
      have e50 := congrArg Int32.toInt z44
      have e51 := congrArg Int32.toInt ((M28.2 131 11 (Or.inr (by decide))).trans z7)
      have e52 := congrArg Int32.toInt z46
      have hR53 : RM bb nb t34 (stp bb nb fs) := ⟨q41, RH_fr hR.2.1 ((q36 131 20 (by decide)).trans ((M28.2 131 20 (Or.inr (by decide))).trans rfl)) (fun j _ => ((q36 134 j (by simp [fz])).trans ((M28.2 134 j (Or.inl (by decide))).trans rfl))) (fun j => ((q36 336 j (by simp [fz])).trans ((M28.2 336 j (Or.inl (by decide))).trans rfl))), RS2_fr hR.2.2 (fun j => ((q36 337 j (by simp [fz])).trans ((M28.2 337 j (Or.inl (by decide))).trans rfl))) (fun j => ((q36 336 j (by simp [fz])).trans ((M28.2 336 j (Or.inl (by decide))).trans rfl)))⟩
      refine r_iconst S dX12_takes_44 (by decide) (fun v54 z55 => ?_)
      have r56 := R_eq z55
      exact r_ret S hr hlk X33 ⟨q35, F42, (R_of r56 rfl), (fun h => ⟨(by rw [((q36 131 18 (by decide)).trans M28.1)]; exact ⟨by omega, by omega⟩), (by rw [((q36 131 15 (by decide)).trans ((M28.2 131 15 (Or.inr (by decide))).trans z2))]; exact R_of hf_0 rfl)⟩), (by rw [z44]; exact R_of q37 rfl), (by rw [z46]; exact R_of q38 rfl), (by have h1_0 := congrArg Int32.toInt z44; have h2_0 := congrArg Int32.toInt z4; omega), (by have h1_0 := congrArg Int32.toInt z46; have h2_0 := congrArg Int32.toInt z7; omega), (QM_r (sNum_g (show fs.1.1 = 2 by have q := MT_k hR.1; rw [z7] at q; omega) (by rw [← MT_nm hR.1 (show fs.1.1 = 2 by have q := MT_k hR.1; rw [z7] at q; omega), z15]; omega)) (by omega) ⟨show (t34 131 18).toInt = nbr bb fs.1 by rw [((q36 131 18 (by decide)).trans M28.1), ← MT_nm hR.1 (show fs.1.1 = 2 by have q := MT_k hR.1; rw [z7] at q; omega), z15], hR53⟩)⟩ (nr_bool (R_of (lo := 0) (hi := 1) r56 rfl)) dX12_takes_45
    ·
      have r57 : R (0) (0) v21 := ⟨by omega, by omega⟩
      refine r_aload_n S dX12_takes_26 rfl (lv_at hl 0 rfl) ?_
      refine r_iconst S dX12_takes_27 (by decide) (fun v58 z59 => ?_)
      have r60 := R_eq z59
      refine r_ki (q_V (As := [.int v58]) (rest := []) (K := 38) (ci := 10) S X19 (c_X12_bad_q l G τ hI v58 (R_of (lo := -2147483648) (hi := 2147483647) r60 rfl)) ck12_183 (Nat.le_of_ble_eq_true rfl) rfl (fun _ => ⟨_, rfl⟩) ⟨_, _, rfl⟩ ⟨Nat.le_of_ble_eq_true rfl, Nat.le_of_ble_eq_true rfl⟩ rfl hl.1 rfl (Nat.le_of_ble_eq_true rfl) dX12_takes_28 ⟨Nat.le_refl 0, Nat.le_refl 0⟩) X19 (fun v64 t63 H lc q61 X62 => ?_)
      unfold po_X12_bad_q at q61
      obtain ⟨q65, q66, q67, q68⟩ := q61
      have F69 : Fr [(131, 15), (131, 16), (131, 4), (131, 11), (131, 12), (131, 13), (131, 14), (131, 18)] [331] τ t63 := Fr_call Fr_rfl q66 (by decide)
      exact r_ret S hr hlk X62 ⟨q65, F69, (R_of q67 rfl), (fun h => by exfalso; omega), (by rw [((q66 131 4 (by decide)).trans z4)]; exact R_of r5 rfl), (by rw [((q66 131 11 (by decide)).trans z7)]; exact R_of r13 rfl), (by have h1_0 := congrArg Int32.toInt ((q66 131 4 (by decide)).trans z4); have h2_0 := congrArg Int32.toInt z4; omega), (by have h1_0 := congrArg Int32.toInt ((q66 131 11 (by decide)).trans z7); have h2_0 := congrArg Int32.toInt z7; omega), (QM_b (sNum_b2 (show fs.1.1 = 2 by have q := MT_k hR.1; rw [z7] at q; omega) (by rw [← MT_nm hR.1 (show fs.1.1 = 2 by have q := MT_k hR.1; rw [z7] at q; omega), z15]; omega)) (by omega) (by rw [q68.1]; omega) (by rw [q68.2]; exact RM_at hR))⟩ (nr_bool (R_of (lo := 0) (hi := 1) q67 rfl)) dX12_takes_31
  ·
    refine r_aload_n S dX12_takes_8 rfl (lv_at hl 0 rfl) ?_
    refine r_iconst S dX12_takes_9 (by decide) (fun v70 z71 => ?_)
    have r72 := R_eq z71
    refine r_ki (q_V (As := [.int v70]) (rest := []) (K := 38) (ci := 10) S X (c_X12_bad_q l G τ hI v70 (R_of (lo := -2147483648) (hi := 2147483647) r72 rfl)) ck12_183 (Nat.le_of_ble_eq_true rfl) rfl (fun _ => ⟨_, rfl⟩) ⟨_, _, rfl⟩ ⟨Nat.le_of_ble_eq_true rfl, Nat.le_of_ble_eq_true rfl⟩ rfl hl.1 rfl (Nat.le_of_ble_eq_true rfl) dX12_takes_10 ⟨Nat.le_refl 0, Nat.le_refl 0⟩) X (fun v76 t75 H lc q73 X74 => ?_)
    unfold po_X12_bad_q at q73
    obtain ⟨q77, q78, q79, q80⟩ := q73
    have F81 : Fr [(131, 15), (131, 16), (131, 4), (131, 11), (131, 12), (131, 13), (131, 14), (131, 18)] [331] τ t75 := Fr_call Fr_rfl q78 (by decide)
    exact r_ret S hr hlk X74 ⟨q77, F81, (R_of q79 rfl), (fun h => by exfalso; omega), (by rw [((q78 131 4 (by decide)).trans z4)]; exact R_of r5 rfl), (by rw [((q78 131 11 (by decide)).trans z7)]; exact R_of r8 rfl), (by have h1_0 := congrArg Int32.toInt ((q78 131 4 (by decide)).trans z4); have h2_0 := congrArg Int32.toInt z4; omega), (by have h1_0 := congrArg Int32.toInt ((q78 131 11 (by decide)).trans z7); have h2_0 := congrArg Int32.toInt z7; omega), (QM_b (sNum_b1 (by have q := MT_k hR.1; rw [z7] at q; omega)) (by omega) (by rw [q80.1]; omega) (by rw [q80.2]; exact RM_at hR))⟩ (nr_bool (R_of (lo := 0) (hi := 1) q79 rfl)) dX12_takes_13
def po_X12_fresh_q (τ : Tau)  (a0 : Int32)  (bb : Nat → Int) (nb : Nat) (fs : FS) (r : Int32) (u : Tau) : Prop := Inv u ∧ Fr [(131, 15), (131, 16), (131, 4), (131, 11), (131, 12), (131, 13), (131, 14)] [336, 331] τ u ∧ R (0) (1) r ∧ (r.toInt = 1 → R (0) (0) (u 131 15)) ∧ R (0) (940) (u 131 4) ∧ R (0) (4) (u 131 11) ∧ (τ 131 4).toInt ≤ (u 131 4).toInt ∧ (r.toInt = 1 → (τ 131 11).toInt = 1) ∧ NB bb u ∧ QM (sNew bb fs) r u (fun _ => RM bb nb u (stp bb nb fs) ∧ (qof u 136 a0.toInt.toNat).toInt = e256 (wrd bb fs.1) ∧ isN bb fs.1)
set_option maxHeartbeats 4000000 in
set_option maxRecDepth 100000 in
theorem c_X12_fresh_q (l : Launch) (G : Gx) (τ : Tau) (hI : Inv τ) (a0 : Int32) (h_a0 : R (19) (37) a0) (hf_0 : R (0) (0) (τ 131 15)) (bb : Nat → Int) (nb : Nat) (fs : FS) (hR : RM bb nb τ fs) (hto : (∀ i, i < (gan fs.2).length → 19 + i ≠ a0.toNatClampNeg) ∧ ∀ i, i < (gmn fs.2).length → 28 + i ≠ a0.toNatClampNeg) : Ci l G yX12_fresh cX12_fresh 2 (some .boolean) 2 43 [.ref (G.2.2.2.1 131), .int a0] τ (po_X12_fresh_q τ  a0  bb nb fs) := by
  unfold Ci
  refine C_of (own := RX12) (by decide) rfl (Nat.le_of_ble_eq_true rfl) ?_
  intro p e s m below meth c ls S hr hlk X hl
  have hl : lv_has ls 2 [(0, .ref (G.2.2.2.1 131)), (1, .int a0)] := hl
  obtain ⟨v1, z2⟩ : ∃ x, τ 131 15 = x := ⟨_, rfl⟩
  rw [z2] at hf_0
  obtain ⟨v3, z4⟩ : ∃ x, τ 131 4 = x := ⟨_, rfl⟩
  have r5 : R (0) (940) v3 := rd hI rfl z4
  obtain ⟨v6, z7⟩ : ∃ x, τ 131 11 = x := ⟨_, rfl⟩
  have r8 : R (0) (4) v6 := rd hI rfl z7
  refine r_aload_n S dX12_fresh_0 rfl (lv_at hl 0 rfl) ?_
  refine r_ki (q_V (As := []) (rest := []) (K := 38) (ci := 10) S X (c_X12_isName_q l G τ hI bb nb 900 fs.1 hR.1 hR.2.2.1) ck12_196 (Nat.le_of_ble_eq_true rfl) rfl (fun _ => ⟨_, rfl⟩) ⟨_, _, rfl⟩ ⟨Nat.le_of_ble_eq_true rfl, Nat.le_of_ble_eq_true rfl⟩ rfl hl.1 rfl (Nat.le_of_ble_eq_true rfl) dX12_fresh_1 ⟨Nat.le_refl 0, Nat.le_refl 0⟩) X (fun v12 t11 H lc q9 X10 => ?_)
  unfold po_X12_isName_q at q9
  obtain ⟨q13, q14, q15⟩ := q9
  rw [q13] at X10
  refine r_if_ne (tgt := 13) S dX12_fresh_4 (by decide) (fun c16 => ?_) (fun c16 => ?_)
  ·
    have r17 : R (1) (1) v12 := ⟨by omega, by omega⟩
    have p18 := (q15).mp (by omega)
    refine r_aload_n S dX12_fresh_13 rfl (lv_at hl 0 rfl) ?_
    refine r_bipush S dX12_fresh_14 (by decide) (fun v19 z20 => ?_)
    have r21 := R_eq z20
    refine r_aload_n S dX12_fresh_16 rfl (lv_at hl 0 rfl) ?_
    refine r_get (K := 38) (v := .ref (G.2.2.2.1 134)) S X10 (Nat.le_of_ble_eq_true rfl) rfl lk12_37_10 (fun _ => ⟨_, rfl, rfl⟩) dX12_fresh_17 ?_
    refine r_iconst S dX12_fresh_20 (by decide) (fun v22 z23 => ?_)
    have r24 := R_eq z23
    refine r_aldn (n := 125) (K := 41) S X10 (Nat.le_of_ble_eq_true rfl) rfl (fun _ => rfl) (ix_of r24 rfl) dX12_fresh_21 (fun v25 z26 => ?_)
    have r27 : R (0) (9) v25 := rds (K := 41) (a := 0) (n := 1) hI rfl z26 (R_of r24 rfl) (by decide +kernel)
    refine r_ki (q_V (As := [.int v19, .int v25]) (rest := []) (K := 38) (ci := 10) S X10 (c_X12_find_qa l G τ hI v19 v25 r21 r27 (gan fs.2) (wrd bb fs.1) (by have q := hR.2.1.2.2.2.2.2.1.1; rw [(zc (n := 0) (by omega) z26)] at q; exact q) hR.2.1.2.2.2.2.2.1.2.1 hR.2.1.2.2.2.2.2.1.2.2 (MT_low hR.1 (p18).1).2 (MT_low hR.1 (p18).1).1) ck12_200 (Nat.le_of_ble_eq_true rfl) rfl (fun _ => ⟨_, rfl⟩) ⟨_, _, rfl⟩ ⟨Nat.le_of_ble_eq_true rfl, Nat.le_of_ble_eq_true rfl⟩ rfl hl.1 rfl (Nat.le_of_ble_eq_true rfl) dX12_fresh_22 ⟨Nat.le_refl 0, Nat.le_refl 0⟩) X10 (fun v31 t30 H lc q28 X29 => ?_)
    unfold po_X12_find_qa at q28
    obtain ⟨q32, q33, q34⟩ := q28
    rw [q32] at X29
    refine r_if_ge (tgt := 43) S dX12_fresh_25 (by decide) (fun c35 => ?_) (fun c35 => ?_)
    ·
      have r36 : R (0) (8) v31 := ⟨by omega, by omega⟩
      refine r_aload_n S dX12_fresh_43 rfl (lv_at hl 0 rfl) ?_
      refine r_iconst S dX12_fresh_44 (by decide) (fun v37 z38 => ?_)
      have r39 := R_eq z38
      refine r_ki (q_V (As := [.int v37]) (rest := []) (K := 38) (ci := 10) S X29 (c_X12_bad_q l G τ hI v37 (R_of (lo := -2147483648) (hi := 2147483647) r39 rfl)) ck12_183 (Nat.le_of_ble_eq_true rfl) rfl (fun _ => ⟨_, rfl⟩) ⟨_, _, rfl⟩ ⟨Nat.le_of_ble_eq_true rfl, Nat.le_of_ble_eq_true rfl⟩ rfl hl.1 rfl (Nat.le_of_ble_eq_true rfl) dX12_fresh_45 ⟨Nat.le_refl 0, Nat.le_refl 0⟩) X29 (fun v43 t42 H lc q40 X41 => ?_)
      unfold po_X12_bad_q at q40
      obtain ⟨q44, q45, q46, q47⟩ := q40
      have F48 : Fr [(131, 15), (131, 16), (131, 4), (131, 11), (131, 12), (131, 13), (131, 14)] [336, 331] τ t42 := Fr_call Fr_rfl q45 (by decide)
      exact r_ret S hr hlk X41 ⟨q44, F48, (R_of q46 rfl), (fun h => by exfalso; omega), (by rw [((q45 131 4 (by decide)).trans z4)]; exact R_of r5 rfl), (by rw [((q45 131 11 (by decide)).trans z7)]; exact R_of r8 rfl), (by have h1_0 := congrArg Int32.toInt ((q45 131 4 (by decide)).trans z4); have h2_0 := congrArg Int32.toInt z4; omega), (fun h => by exfalso; omega), (NB_fr hR.2.2.2 (fun j => ((q45 336 j (by simp [fz])).trans rfl))), (QM_b (sNew_b3 p18 (Or.inl (by rw [← q34]; omega))) (by omega) (by rw [q47.1]; omega) (by rw [q47.2]; exact RM_at hR))⟩ (nr_bool (R_of (lo := 0) (hi := 1) q46 rfl)) dX12_fresh_48
    ·
      have r49 : R (-1) (-1) v31 := ⟨by omega, by omega⟩
      refine r_aload_n S dX12_fresh_28 rfl (lv_at hl 0 rfl) ?_
      refine r_bipush S dX12_fresh_29 (by decide) (fun v50 z51 => ?_)
      have r52 := R_eq z51
      refine r_aload_n S dX12_fresh_31 rfl (lv_at hl 0 rfl) ?_
      refine r_get (K := 38) (v := .ref (G.2.2.2.1 134)) S X29 (Nat.le_of_ble_eq_true rfl) rfl lk12_37_10 (fun _ => ⟨_, rfl, rfl⟩) dX12_fresh_32 ?_
      refine r_iconst S dX12_fresh_35 (by decide) (fun v53 z54 => ?_)
      have r55 := R_eq z54
      refine r_aldn (n := 125) (K := 41) S X29 (Nat.le_of_ble_eq_true rfl) rfl (fun _ => rfl) (ix_of r55 rfl) dX12_fresh_36 (fun v56 z57 => ?_)
      have r58 : R (0) (10) v56 := rds (K := 41) (a := 1) (n := 1) hI rfl z57 (R_of r55 rfl) (by decide +kernel)
      refine r_ki (q_V (As := [.int v50, .int v56]) (rest := []) (K := 38) (ci := 10) S X29 (c_X12_find_qm l G τ hI v50 v56 r52 r58 (gmn fs.2) (wrd bb fs.1) (by have q := hR.2.1.2.2.2.2.2.2.1.1; rw [(zc (n := 1) (by omega) z57)] at q; exact q) hR.2.1.2.2.2.2.2.2.1.2.1 hR.2.1.2.2.2.2.2.2.1.2.2 (MT_low hR.1 (p18).1).2 (MT_low hR.1 (p18).1).1) ck12_200 (Nat.le_of_ble_eq_true rfl) rfl (fun _ => ⟨_, rfl⟩) ⟨_, _, rfl⟩ ⟨Nat.le_of_ble_eq_true rfl, Nat.le_of_ble_eq_true rfl⟩ rfl hl.1 rfl (Nat.le_of_ble_eq_true rfl) dX12_fresh_37 ⟨Nat.le_refl 0, Nat.le_refl 0⟩) X29 (fun v62 t61 H lc q59 X60 => ?_)
      unfold po_X12_find_qm at q59
      obtain ⟨q63, q64, q65⟩ := q59
      rw [q63] at X60
      refine r_if_lt (tgt := 49) S dX12_fresh_40 (by decide) (fun c66 => ?_) (fun c66 => ?_)
      ·
        have r67 : R (-1) (-1) v62 := ⟨by omega, by omega⟩
        refine r_aload_n S dX12_fresh_49 rfl (lv_at hl 0 rfl) ?_
        refine r_get (K := 38) (v := .ref (G.2.2.2.1 136)) S X60 (Nat.le_of_ble_eq_true rfl) rfl lk12_43_10 (fun _ => ⟨_, rfl, rfl⟩) dX12_fresh_50 ?_
        refine r_iload_n S dX12_fresh_53 rfl (lv_at hl 1 rfl) ?_
        refine r_aload_n S dX12_fresh_54 rfl (lv_at hl 0 rfl) ?_
        refine r_getJ (K := 38) S X60 (Nat.le_of_ble_eq_true rfl) rfl lk12_170_10 (fun _ => ⟨_, rfl, rfl⟩) dX12_fresh_55 (fun j68 z69 => ?_)
        refine r_last (n := 38) (K := 43) S X60 (Nat.le_of_ble_eq_true rfl) rfl (fun _ => rfl) (ix_of h_a0 rfl) dX12_fresh_58 (fun t71 H lc M72 X70 => ?_)
        have I73 := Inv_ml hI M72
        have F74 : Fr [(131, 15), (131, 16), (131, 4), (131, 11), (131, 12), (131, 13), (131, 14)] [336, 331] τ t71 := Fr_ml Fr_rfl M72 (by decide)
        have hR75 : RM bb nb t71 fs := ⟨MT_fr hR.1 ((M72.1 131 (by decide) 3).trans rfl) ((M72.1 131 (by decide) 4).trans rfl) ((M72.1 131 (by decide) 5).trans rfl) ((M72.1 131 (by decide) 11).trans rfl) ((M72.1 131 (by decide) 12).trans rfl) ((M72.1 131 (by decide) 14).trans rfl) (fun j => ((M72.1 132 (by decide) j).trans rfl)) (fun j => ((M72.1 331 (by decide) j).trans rfl)), RH_ml hR.2.1 M72 hto, RS2_ml hR.2.2 (fun j => ((M72.1 337 (by decide) j).trans rfl)) M72 (by have c : a0.toNatClampNeg = a0.toInt.toNat := rfl; omega)⟩
        have hq76 : (qof t71 136 a0.toInt.toNat).toInt = e256 (wrd bb fs.1) := by rw [show qof t71 136 a0.toInt.toNat = j68 from Ml_upd M72, ← z69]; exact (MT_low hR.1 (p18).1).2
        refine r_aload_n S dX12_fresh_59 rfl (lv_at hl 0 rfl) ?_
        refine r_kv (q_V (As := []) (rest := []) (K := 38) (ci := 10) S X70 (c_X12_skip_q l G t71 I73 bb nb 900 fs.1.2.2 (MT_st hR75.1 (Or.inl (p18).1)).1 (MT_st hR75.1 (Or.inl (p18).1)).2.1 (MT_st hR75.1 (Or.inl (p18).1)).2.2) ck12_186 (Nat.le_of_ble_eq_true rfl) rfl (fun _ => ⟨_, rfl⟩) ⟨_, _, rfl⟩ ⟨Nat.le_of_ble_eq_true rfl, Nat.le_of_ble_eq_true rfl⟩ rfl hl.1 rfl (Nat.le_of_ble_eq_true rfl) dX12_fresh_60 ⟨Nat.le_refl 0, Nat.le_refl 0⟩) X70 (fun t79 H lc q77 X78 => ?_)
        unfold po_X12_skip_q at q77
        obtain ⟨q80, q81, q82, q83, q84, q85, q86⟩ := q77
        have F87 : Fr [(131, 15), (131, 16), (131, 4), (131, 11), (131, 12), (131, 13), (131, 14)] [336, 331] τ t79 := Fr_call F74 q81 (by decide)
        obtain ⟨v88, z89⟩ : ∃ x, t79 131 4 = x := ⟨_, rfl⟩
        rw [z89] at q82
        obtain ⟨v90, z91⟩ : ∃ x, t79 131 11 = x := ⟨_, rfl⟩
        rw [z91] at q83
        have e92 := congrArg Int32.toInt ((M72.1 131 (by decide) 4).trans z4)
        have e93 := congrArg Int32.toInt z89
        have e94 := congrArg Int32.toInt ((M72.1 131 (by decide) 4).trans z4)
        have e95 := congrArg Int32.toInt z89
        have e96 := congrArg Int32.toInt ((M72.1 131 (by decide) 11).trans z7)
        have e97 := congrArg Int32.toInt z91
        have hR98 : RM bb nb t79 (stp bb nb fs) := ⟨q86, RH_fr hR75.2.1 ((q81 131 20 (by decide)).trans rfl) (fun j _ => ((q81 134 j (by simp [fz])).trans rfl)) (fun j => ((q81 336 j (by simp [fz])).trans rfl)), RS2_fr hR75.2.2 (fun j => ((q81 337 j (by simp [fz])).trans rfl)) (fun j => ((q81 336 j (by simp [fz])).trans rfl))⟩
        refine r_iconst S dX12_fresh_63 (by decide) (fun v99 z100 => ?_)
        have r101 := R_eq z100
        exact r_ret S hr hlk X78 ⟨q80, F87, (R_of r101 rfl), (fun h => (by rw [((q81 131 15 (by decide)).trans ((M72.1 131 (by decide) 15).trans z2))]; exact R_of hf_0 rfl)), (by rw [z89]; exact R_of q82 rfl), (by rw [z91]; exact R_of q83 rfl), (by have h1_0 := congrArg Int32.toInt z89; have h2_0 := congrArg Int32.toInt z4; omega), (fun _ => by rw [MT_k hR.1, (p18).1]; rfl), hR98.2.2.2, (QM_r (sNew_g p18 (fun h => by rw [← q34, ← q65] at h; omega)) (by omega) ⟨hR98, by rw [(qof_of (k := 136) (fun j => ((q81 336 j (by simp [fz])).trans rfl)) a0.toInt.toNat)]; exact hq76, p18⟩)⟩ (nr_bool (R_of (lo := 0) (hi := 1) r101 rfl)) dX12_fresh_64
      ·
        have r102 : R (0) (9) v62 := ⟨by omega, by omega⟩
        refine r_aload_n S dX12_fresh_43 rfl (lv_at hl 0 rfl) ?_
        refine r_iconst S dX12_fresh_44 (by decide) (fun v103 z104 => ?_)
        have r105 := R_eq z104
        refine r_ki (q_V (As := [.int v103]) (rest := []) (K := 38) (ci := 10) S X60 (c_X12_bad_q l G τ hI v103 (R_of (lo := -2147483648) (hi := 2147483647) r105 rfl)) ck12_183 (Nat.le_of_ble_eq_true rfl) rfl (fun _ => ⟨_, rfl⟩) ⟨_, _, rfl⟩ ⟨Nat.le_of_ble_eq_true rfl, Nat.le_of_ble_eq_true rfl⟩ rfl hl.1 rfl (Nat.le_of_ble_eq_true rfl) dX12_fresh_45 ⟨Nat.le_refl 0, Nat.le_refl 0⟩) X60 (fun v109 t108 H lc q106 X107 => ?_)
        unfold po_X12_bad_q at q106
        obtain ⟨q110, q111, q112, q113⟩ := q106
        have F114 : Fr [(131, 15), (131, 16), (131, 4), (131, 11), (131, 12), (131, 13), (131, 14)] [336, 331] τ t108 := Fr_call Fr_rfl q111 (by decide)
        exact r_ret S hr hlk X107 ⟨q110, F114, (R_of q112 rfl), (fun h => by exfalso; omega), (by rw [((q111 131 4 (by decide)).trans z4)]; exact R_of r5 rfl), (by rw [((q111 131 11 (by decide)).trans z7)]; exact R_of r8 rfl), (by have h1_0 := congrArg Int32.toInt ((q111 131 4 (by decide)).trans z4); have h2_0 := congrArg Int32.toInt z4; omega), (fun h => by exfalso; omega), (NB_fr hR.2.2.2 (fun j => ((q111 336 j (by simp [fz])).trans rfl))), (QM_b (sNew_b3 p18 (Or.inr (by rw [← q65]; omega))) (by omega) (by rw [q113.1]; omega) (by rw [q113.2]; exact RM_at hR))⟩ (nr_bool (R_of (lo := 0) (hi := 1) q112 rfl)) dX12_fresh_48
  ·
    have r115 : R (0) (0) v12 := ⟨by omega, by omega⟩
    have p116 := (iff_n q15) (by omega)
    refine r_aload_n S dX12_fresh_7 rfl (lv_at hl 0 rfl) ?_
    refine r_iconst S dX12_fresh_8 (by decide) (fun v117 z118 => ?_)
    have r119 := R_eq z118
    refine r_ki (q_V (As := [.int v117]) (rest := []) (K := 38) (ci := 10) S X10 (c_X12_bad_q l G τ hI v117 (R_of (lo := -2147483648) (hi := 2147483647) r119 rfl)) ck12_183 (Nat.le_of_ble_eq_true rfl) rfl (fun _ => ⟨_, rfl⟩) ⟨_, _, rfl⟩ ⟨Nat.le_of_ble_eq_true rfl, Nat.le_of_ble_eq_true rfl⟩ rfl hl.1 rfl (Nat.le_of_ble_eq_true rfl) dX12_fresh_9 ⟨Nat.le_refl 0, Nat.le_refl 0⟩) X10 (fun v123 t122 H lc q120 X121 => ?_)
    unfold po_X12_bad_q at q120
    obtain ⟨q124, q125, q126, q127⟩ := q120
    have F128 : Fr [(131, 15), (131, 16), (131, 4), (131, 11), (131, 12), (131, 13), (131, 14)] [336, 331] τ t122 := Fr_call Fr_rfl q125 (by decide)
    exact r_ret S hr hlk X121 ⟨q124, F128, (R_of q126 rfl), (fun h => by exfalso; omega), (by rw [((q125 131 4 (by decide)).trans z4)]; exact R_of r5 rfl), (by rw [((q125 131 11 (by decide)).trans z7)]; exact R_of r8 rfl), (by have h1_0 := congrArg Int32.toInt ((q125 131 4 (by decide)).trans z4); have h2_0 := congrArg Int32.toInt z4; omega), (fun h => by exfalso; omega), (NB_fr hR.2.2.2 (fun j => ((q125 336 j (by simp [fz])).trans rfl))), (QM_b (sNew_b1 p116) (by omega) (by rw [q127.1]; omega) (by rw [q127.2]; exact RM_at hR))⟩ (nr_bool (R_of (lo := 0) (hi := 1) q126 rfl)) dX12_fresh_12
def po_X12_looksAt_qa (τ : Tau)  (a0 a1 : Int32)  (bb : Nat → Int) (nb : Nat) (fs : FS) (r : Int32) (u : Tau) : Prop := Inv u ∧ Fr [(131, 15), (131, 16), (131, 18)] [] τ u ∧ R (0) (1) r ∧ (r.toInt = 1 → R (0) (8) (u 131 18) ∧ R (0) (0) (u 131 15)) ∧ (r.toInt = 1 → (τ 131 11).toInt = 1) ∧ QM (sLook bb (gan fs.2) fs.1) r u (fun i => (u 131 18).toInt = i ∧ RM bb nb u fs)
set_option maxHeartbeats 4000000 in
set_option maxRecDepth 100000 in
theorem c_X12_looksAt_qa (l : Launch) (G : Gx) (τ : Tau) (hI : Inv τ) (a0 : Int32) (a1 : Int32) (h_a0 : R (19) (19) a0) (h_a1 : R (0) (9) a1) (hf_0 : R (0) (0) (τ 131 15)) (bb : Nat → Int) (nb : Nat) (fs : FS) (hR : RM bb nb τ fs) (hA : a1.toInt = (gan fs.2).length) : Ci l G yX12_looksAt cX12_looksAt 3 (some .boolean) 1 23 [.ref (G.2.2.2.1 131), .int a0, .int a1] τ (po_X12_looksAt_qa τ  a0 a1  bb nb fs) := by
  unfold Ci
  refine C_of (own := RX12) (by decide) rfl (Nat.le_of_ble_eq_true rfl) ?_
  intro p e s m below meth c ls S hr hlk X hl
  have hl : lv_has ls 3 [(0, .ref (G.2.2.2.1 131)), (1, .int a0), (2, .int a1)] := hl
  obtain ⟨v1, z2⟩ : ∃ x, τ 131 15 = x := ⟨_, rfl⟩
  rw [z2] at hf_0
  obtain ⟨v3, z4⟩ : ∃ x, τ 131 11 = x := ⟨_, rfl⟩
  have r5 : R (0) (4) v3 := rd hI rfl z4
  refine r_aload_n S dX12_looksAt_0 rfl (lv_at hl 0 rfl) ?_
  refine r_ki (q_V (As := []) (rest := []) (K := 38) (ci := 10) S X (c_X12_isName_q l G τ hI bb nb 900 fs.1 hR.1 hR.2.2.1) ck12_196 (Nat.le_of_ble_eq_true rfl) rfl (fun _ => ⟨_, rfl⟩) ⟨_, _, rfl⟩ ⟨Nat.le_of_ble_eq_true rfl, Nat.le_of_ble_eq_true rfl⟩ rfl hl.1 rfl (Nat.le_of_ble_eq_true rfl) dX12_looksAt_1 ⟨Nat.le_refl 0, Nat.le_refl 0⟩) X (fun v9 t8 H lc q6 X7 => ?_)
  unfold po_X12_isName_q at q6
  obtain ⟨q10, q11, q12⟩ := q6
  rw [q10] at X7
  refine r_if_ne (tgt := 13) S dX12_looksAt_4 (by decide) (fun c13 => ?_) (fun c13 => ?_)
  ·
    have r14 : R (1) (1) v9 := ⟨by omega, by omega⟩
    have p15 := (q12).mp (by omega)
    refine r_aload_n S dX12_looksAt_13 rfl (lv_at hl 0 rfl) ?_
    refine r_aload_n S dX12_looksAt_14 rfl (lv_at hl 0 rfl) ?_
    refine r_iload_n S dX12_looksAt_15 rfl (lv_at hl 1 rfl) ?_
    refine r_iload_n S dX12_looksAt_16 rfl (lv_at hl 2 rfl) ?_
    refine r_ki (q_V (As := [.int a0, .int a1]) (rest := [.ref (G.2.2.2.1 131)]) (K := 38) (ci := 10) S X7 (c_X12_find_qa l G τ hI a0 a1 h_a0 h_a1 (gan fs.2) (wrd bb fs.1) hA hR.2.1.2.2.2.2.2.1.2.1 hR.2.1.2.2.2.2.2.1.2.2 (MT_low hR.1 (p15).1).2 (MT_low hR.1 (p15).1).1) ck12_200 (Nat.le_of_ble_eq_true rfl) rfl (fun _ => ⟨_, rfl⟩) ⟨_, _, rfl⟩ ⟨Nat.le_of_ble_eq_true rfl, Nat.le_of_ble_eq_true rfl⟩ rfl hl.1 rfl (Nat.le_of_ble_eq_true rfl) dX12_looksAt_17 ⟨Nat.le_refl 0, Nat.le_refl 0⟩) X7 (fun v19 t18 H lc q16 X17 => ?_)
    unfold po_X12_find_qa at q16
    obtain ⟨q20, q21, q22⟩ := q16
    rw [q20] at X17
    refine r_put (K := 38) (ty := .int) S X17 (Nat.le_of_ble_eq_true rfl) rfl lk12_193_10 (fun _ => ⟨_, rfl, Nat.le_of_ble_eq_true rfl, rfl⟩) (fun _ _ _ h => by cases h; exact ⟨rfl, rfl⟩) rfl rfl dX12_looksAt_20 (fun t23 H lc M24 X25 => ?_)
    have I26 := Inv_mu hI M24 (R_any v19)
    have F27 : Fr [(131, 15), (131, 16), (131, 18)] [] τ t23 := Fr_mu Fr_rfl M24 (by decide)
    refine r_aload_n S dX12_looksAt_23 rfl (lv_at hl 0 rfl) ?_
    refine r_geti (K := 38) S X25 (Nat.le_of_ble_eq_true rfl) rfl lk12_193_10 (fun _ => ⟨_, rfl, rfl⟩) M24.1 dX12_looksAt_24 ?_
    refine r_if_ge (tgt := 38) S dX12_looksAt_27 (by decide) (fun c28 => ?_) (fun c28 => ?_)
    ·
      have r29 : R (0) (8) v19 := ⟨by omega, by omega⟩
      refine r_iconst S dX12_looksAt_38 (by decide) (fun v30 z31 => ?_)
      have r32 := R_eq z31
      refine r_goto (tgt := 43) S dX12_looksAt_39 (by decide) ?_
      exact r_ret S hr hlk X25 ⟨I26, F27, (R_of r32 rfl), (fun h => ⟨(by rw [M24.1]; exact R_of r29 rfl), (by rw [((M24.2 131 15 (Or.inr (by decide))).trans z2)]; exact R_of hf_0 rfl)⟩), (fun _ => by rw [MT_k hR.1, (p15).1]; rfl), (QM_r (sLook_g p15 (by rw [← q22]; omega)) (by omega) ⟨show (t23 131 18).toInt = (((fnd (gan fs.2) (wrd bb fs.1)).toNat : Nat) : Int) by rw [M24.1, ← q22]; omega, (RM_fr hR ((M24.2 131 3 (Or.inr (by decide))).trans rfl) ((M24.2 131 4 (Or.inr (by decide))).trans rfl) ((M24.2 131 5 (Or.inr (by decide))).trans rfl) ((M24.2 131 11 (Or.inr (by decide))).trans rfl) ((M24.2 131 12 (Or.inr (by decide))).trans rfl) ((M24.2 131 14 (Or.inr (by decide))).trans rfl) (fun j => ((M24.2 132 j (Or.inl (by decide))).trans rfl)) (fun j => ((M24.2 331 j (Or.inl (by decide))).trans rfl)) ((M24.2 131 20 (Or.inr (by decide))).trans rfl) (fun j => ((M24.2 134 j (Or.inl (by decide))).trans rfl)) (fun j => ((M24.2 336 j (Or.inl (by decide))).trans rfl)) (fun j => ((M24.2 337 j (Or.inl (by decide))).trans rfl)))⟩)⟩ (nr_bool (R_of (lo := 0) (hi := 1) r32 rfl)) dX12_looksAt_43
    ·
      have r33 : R (-1) (-1) v19 := ⟨by omega, by omega⟩
      refine r_aload_n S dX12_looksAt_30 rfl (lv_at hl 0 rfl) ?_
      refine r_iconst S dX12_looksAt_31 (by decide) (fun v34 z35 => ?_)
      have r36 := R_eq z35
      refine r_ki (q_V (As := [.int v34]) (rest := []) (K := 38) (ci := 10) S X25 (c_X12_bad_q l G t23 I26 v34 (R_of (lo := -2147483648) (hi := 2147483647) r36 rfl)) ck12_183 (Nat.le_of_ble_eq_true rfl) rfl (fun _ => ⟨_, rfl⟩) ⟨_, _, rfl⟩ ⟨Nat.le_of_ble_eq_true rfl, Nat.le_of_ble_eq_true rfl⟩ rfl hl.1 rfl (Nat.le_of_ble_eq_true rfl) dX12_looksAt_32 ⟨Nat.le_refl 0, Nat.le_refl 0⟩) X25 (fun v40 t39 H lc q37 X38 => ?_)
      unfold po_X12_bad_q at q37
      obtain ⟨q41, q42, q43, q44⟩ := q37
      have F45 : Fr [(131, 15), (131, 16), (131, 18)] [] τ t39 := Fr_call F27 q42 (by decide)
      refine r_if_eq (tgt := 42) S dX12_looksAt_35 (by decide) (fun c46 => ?_) (fun c46 => ?_)
      ·
        refine r_iconst S dX12_looksAt_42 (by decide) (fun v47 z48 => ?_)
        have r49 := R_eq z48
        exact r_ret S hr hlk X38 ⟨q41, F45, (R_of r49 rfl), (fun h => by exfalso; omega), (fun h => by exfalso; omega), (QM_b (sLook_b3 p15 (by rw [← q22]; omega)) (by omega) (by rw [q44.1]; omega) (by rw [q44.2]; exact RM_at (RM_fr hR ((M24.2 131 3 (Or.inr (by decide))).trans rfl) ((M24.2 131 4 (Or.inr (by decide))).trans rfl) ((M24.2 131 5 (Or.inr (by decide))).trans rfl) ((M24.2 131 11 (Or.inr (by decide))).trans rfl) ((M24.2 131 12 (Or.inr (by decide))).trans rfl) ((M24.2 131 14 (Or.inr (by decide))).trans rfl) (fun j => ((M24.2 132 j (Or.inl (by decide))).trans rfl)) (fun j => ((M24.2 331 j (Or.inl (by decide))).trans rfl)) ((M24.2 131 20 (Or.inr (by decide))).trans rfl) (fun j => ((M24.2 134 j (Or.inl (by decide))).trans rfl)) (fun j => ((M24.2 336 j (Or.inl (by decide))).trans rfl)) (fun j => ((M24.2 337 j (Or.inl (by decide))).trans rfl)))))⟩ (nr_bool (R_of (lo := 0) (hi := 1) r49 rfl)) dX12_looksAt_43
      ·
        exfalso; omega
  ·
    have r50 : R (0) (0) v9 := ⟨by omega, by omega⟩
    have p51 := (iff_n q12) (by omega)
    refine r_aload_n S dX12_looksAt_7 rfl (lv_at hl 0 rfl) ?_
    refine r_iconst S dX12_looksAt_8 (by decide) (fun v52 z53 => ?_)
    have r54 := R_eq z53
    refine r_ki (q_V (As := [.int v52]) (rest := []) (K := 38) (ci := 10) S X7 (c_X12_bad_q l G τ hI v52 (R_of (lo := -2147483648) (hi := 2147483647) r54 rfl)) ck12_183 (Nat.le_of_ble_eq_true rfl) rfl (fun _ => ⟨_, rfl⟩) ⟨_, _, rfl⟩ ⟨Nat.le_of_ble_eq_true rfl, Nat.le_of_ble_eq_true rfl⟩ rfl hl.1 rfl (Nat.le_of_ble_eq_true rfl) dX12_looksAt_9 ⟨Nat.le_refl 0, Nat.le_refl 0⟩) X7 (fun v58 t57 H lc q55 X56 => ?_)
    unfold po_X12_bad_q at q55
    obtain ⟨q59, q60, q61, q62⟩ := q55
    have F63 : Fr [(131, 15), (131, 16), (131, 18)] [] τ t57 := Fr_call Fr_rfl q60 (by decide)
    exact r_ret S hr hlk X56 ⟨q59, F63, (R_of q61 rfl), (fun h => by exfalso; omega), (fun h => by exfalso; omega), (QM_b (sLook_b1 p51) (by omega) (by rw [q62.1]; omega) (by rw [q62.2]; exact RM_at hR))⟩ (nr_bool (R_of (lo := 0) (hi := 1) q61 rfl)) dX12_looksAt_12
def po_X12_looksAt_qm (τ : Tau)  (a0 a1 : Int32)  (bb : Nat → Int) (nb : Nat) (fs : FS) (r : Int32) (u : Tau) : Prop := Inv u ∧ Fr [(131, 15), (131, 16), (131, 18)] [] τ u ∧ R (0) (1) r ∧ (r.toInt = 1 → R (0) (9) (u 131 18) ∧ R (0) (0) (u 131 15)) ∧ (r.toInt = 1 → (τ 131 11).toInt = 1) ∧ QM (sLook bb (gmn fs.2) fs.1) r u (fun i => (u 131 18).toInt = i ∧ RM bb nb u fs)
set_option maxHeartbeats 4000000 in
set_option maxRecDepth 100000 in
theorem c_X12_looksAt_qm (l : Launch) (G : Gx) (τ : Tau) (hI : Inv τ) (a0 : Int32) (a1 : Int32) (h_a0 : R (28) (28) a0) (h_a1 : R (0) (10) a1) (hf_0 : R (0) (0) (τ 131 15)) (bb : Nat → Int) (nb : Nat) (fs : FS) (hR : RM bb nb τ fs) (hA : a1.toInt = (gmn fs.2).length) : Ci l G yX12_looksAt cX12_looksAt 3 (some .boolean) 1 23 [.ref (G.2.2.2.1 131), .int a0, .int a1] τ (po_X12_looksAt_qm τ  a0 a1  bb nb fs) := by
  unfold Ci
  refine C_of (own := RX12) (by decide) rfl (Nat.le_of_ble_eq_true rfl) ?_
  intro p e s m below meth c ls S hr hlk X hl
  have hl : lv_has ls 3 [(0, .ref (G.2.2.2.1 131)), (1, .int a0), (2, .int a1)] := hl
  obtain ⟨v1, z2⟩ : ∃ x, τ 131 15 = x := ⟨_, rfl⟩
  rw [z2] at hf_0
  obtain ⟨v3, z4⟩ : ∃ x, τ 131 11 = x := ⟨_, rfl⟩
  have r5 : R (0) (4) v3 := rd hI rfl z4
  refine r_aload_n S dX12_looksAt_0 rfl (lv_at hl 0 rfl) ?_
  refine r_ki (q_V (As := []) (rest := []) (K := 38) (ci := 10) S X (c_X12_isName_q l G τ hI bb nb 900 fs.1 hR.1 hR.2.2.1) ck12_196 (Nat.le_of_ble_eq_true rfl) rfl (fun _ => ⟨_, rfl⟩) ⟨_, _, rfl⟩ ⟨Nat.le_of_ble_eq_true rfl, Nat.le_of_ble_eq_true rfl⟩ rfl hl.1 rfl (Nat.le_of_ble_eq_true rfl) dX12_looksAt_1 ⟨Nat.le_refl 0, Nat.le_refl 0⟩) X (fun v9 t8 H lc q6 X7 => ?_)
  unfold po_X12_isName_q at q6
  obtain ⟨q10, q11, q12⟩ := q6
  rw [q10] at X7
  refine r_if_ne (tgt := 13) S dX12_looksAt_4 (by decide) (fun c13 => ?_) (fun c13 => ?_)
  ·
    have r14 : R (1) (1) v9 := ⟨by omega, by omega⟩
    have p15 := (q12).mp (by omega)
    refine r_aload_n S dX12_looksAt_13 rfl (lv_at hl 0 rfl) ?_
    refine r_aload_n S dX12_looksAt_14 rfl (lv_at hl 0 rfl) ?_
    refine r_iload_n S dX12_looksAt_15 rfl (lv_at hl 1 rfl) ?_
    refine r_iload_n S dX12_looksAt_16 rfl (lv_at hl 2 rfl) ?_
    refine r_ki (q_V (As := [.int a0, .int a1]) (rest := [.ref (G.2.2.2.1 131)]) (K := 38) (ci := 10) S X7 (c_X12_find_qm l G τ hI a0 a1 h_a0 h_a1 (gmn fs.2) (wrd bb fs.1) hA hR.2.1.2.2.2.2.2.2.1.2.1 hR.2.1.2.2.2.2.2.2.1.2.2 (MT_low hR.1 (p15).1).2 (MT_low hR.1 (p15).1).1) ck12_200 (Nat.le_of_ble_eq_true rfl) rfl (fun _ => ⟨_, rfl⟩) ⟨_, _, rfl⟩ ⟨Nat.le_of_ble_eq_true rfl, Nat.le_of_ble_eq_true rfl⟩ rfl hl.1 rfl (Nat.le_of_ble_eq_true rfl) dX12_looksAt_17 ⟨Nat.le_refl 0, Nat.le_refl 0⟩) X7 (fun v19 t18 H lc q16 X17 => ?_)
    unfold po_X12_find_qm at q16
    obtain ⟨q20, q21, q22⟩ := q16
    rw [q20] at X17
    refine r_put (K := 38) (ty := .int) S X17 (Nat.le_of_ble_eq_true rfl) rfl lk12_193_10 (fun _ => ⟨_, rfl, Nat.le_of_ble_eq_true rfl, rfl⟩) (fun _ _ _ h => by cases h; exact ⟨rfl, rfl⟩) rfl rfl dX12_looksAt_20 (fun t23 H lc M24 X25 => ?_)
    have I26 := Inv_mu hI M24 (R_any v19)
    have F27 : Fr [(131, 15), (131, 16), (131, 18)] [] τ t23 := Fr_mu Fr_rfl M24 (by decide)
    refine r_aload_n S dX12_looksAt_23 rfl (lv_at hl 0 rfl) ?_
    refine r_geti (K := 38) S X25 (Nat.le_of_ble_eq_true rfl) rfl lk12_193_10 (fun _ => ⟨_, rfl, rfl⟩) M24.1 dX12_looksAt_24 ?_
    refine r_if_ge (tgt := 38) S dX12_looksAt_27 (by decide) (fun c28 => ?_) (fun c28 => ?_)
    ·
      have r29 : R (0) (9) v19 := ⟨by omega, by omega⟩
      refine r_iconst S dX12_looksAt_38 (by decide) (fun v30 z31 => ?_)
      have r32 := R_eq z31
      refine r_goto (tgt := 43) S dX12_looksAt_39 (by decide) ?_
      exact r_ret S hr hlk X25 ⟨I26, F27, (R_of r32 rfl), (fun h => ⟨(by rw [M24.1]; exact R_of r29 rfl), (by rw [((M24.2 131 15 (Or.inr (by decide))).trans z2)]; exact R_of hf_0 rfl)⟩), (fun _ => by rw [MT_k hR.1, (p15).1]; rfl), (QM_r (sLook_g p15 (by rw [← q22]; omega)) (by omega) ⟨show (t23 131 18).toInt = (((fnd (gmn fs.2) (wrd bb fs.1)).toNat : Nat) : Int) by rw [M24.1, ← q22]; omega, (RM_fr hR ((M24.2 131 3 (Or.inr (by decide))).trans rfl) ((M24.2 131 4 (Or.inr (by decide))).trans rfl) ((M24.2 131 5 (Or.inr (by decide))).trans rfl) ((M24.2 131 11 (Or.inr (by decide))).trans rfl) ((M24.2 131 12 (Or.inr (by decide))).trans rfl) ((M24.2 131 14 (Or.inr (by decide))).trans rfl) (fun j => ((M24.2 132 j (Or.inl (by decide))).trans rfl)) (fun j => ((M24.2 331 j (Or.inl (by decide))).trans rfl)) ((M24.2 131 20 (Or.inr (by decide))).trans rfl) (fun j => ((M24.2 134 j (Or.inl (by decide))).trans rfl)) (fun j => ((M24.2 336 j (Or.inl (by decide))).trans rfl)) (fun j => ((M24.2 337 j (Or.inl (by decide))).trans rfl)))⟩)⟩ (nr_bool (R_of (lo := 0) (hi := 1) r32 rfl)) dX12_looksAt_43
    ·
      have r33 : R (-1) (-1) v19 := ⟨by omega, by omega⟩
      refine r_aload_n S dX12_looksAt_30 rfl (lv_at hl 0 rfl) ?_
      refine r_iconst S dX12_looksAt_31 (by decide) (fun v34 z35 => ?_)
      have r36 := R_eq z35
      refine r_ki (q_V (As := [.int v34]) (rest := []) (K := 38) (ci := 10) S X25 (c_X12_bad_q l G t23 I26 v34 (R_of (lo := -2147483648) (hi := 2147483647) r36 rfl)) ck12_183 (Nat.le_of_ble_eq_true rfl) rfl (fun _ => ⟨_, rfl⟩) ⟨_, _, rfl⟩ ⟨Nat.le_of_ble_eq_true rfl, Nat.le_of_ble_eq_true rfl⟩ rfl hl.1 rfl (Nat.le_of_ble_eq_true rfl) dX12_looksAt_32 ⟨Nat.le_refl 0, Nat.le_refl 0⟩) X25 (fun v40 t39 H lc q37 X38 => ?_)
      unfold po_X12_bad_q at q37
      obtain ⟨q41, q42, q43, q44⟩ := q37
      have F45 : Fr [(131, 15), (131, 16), (131, 18)] [] τ t39 := Fr_call F27 q42 (by decide)
      refine r_if_eq (tgt := 42) S dX12_looksAt_35 (by decide) (fun c46 => ?_) (fun c46 => ?_)
      ·
        refine r_iconst S dX12_looksAt_42 (by decide) (fun v47 z48 => ?_)
        have r49 := R_eq z48
        exact r_ret S hr hlk X38 ⟨q41, F45, (R_of r49 rfl), (fun h => by exfalso; omega), (fun h => by exfalso; omega), (QM_b (sLook_b3 p15 (by rw [← q22]; omega)) (by omega) (by rw [q44.1]; omega) (by rw [q44.2]; exact RM_at (RM_fr hR ((M24.2 131 3 (Or.inr (by decide))).trans rfl) ((M24.2 131 4 (Or.inr (by decide))).trans rfl) ((M24.2 131 5 (Or.inr (by decide))).trans rfl) ((M24.2 131 11 (Or.inr (by decide))).trans rfl) ((M24.2 131 12 (Or.inr (by decide))).trans rfl) ((M24.2 131 14 (Or.inr (by decide))).trans rfl) (fun j => ((M24.2 132 j (Or.inl (by decide))).trans rfl)) (fun j => ((M24.2 331 j (Or.inl (by decide))).trans rfl)) ((M24.2 131 20 (Or.inr (by decide))).trans rfl) (fun j => ((M24.2 134 j (Or.inl (by decide))).trans rfl)) (fun j => ((M24.2 336 j (Or.inl (by decide))).trans rfl)) (fun j => ((M24.2 337 j (Or.inl (by decide))).trans rfl)))))⟩ (nr_bool (R_of (lo := 0) (hi := 1) r49 rfl)) dX12_looksAt_43
      ·
        exfalso; omega
  ·
    have r50 : R (0) (0) v9 := ⟨by omega, by omega⟩
    have p51 := (iff_n q12) (by omega)
    refine r_aload_n S dX12_looksAt_7 rfl (lv_at hl 0 rfl) ?_
    refine r_iconst S dX12_looksAt_8 (by decide) (fun v52 z53 => ?_)
    have r54 := R_eq z53
    refine r_ki (q_V (As := [.int v52]) (rest := []) (K := 38) (ci := 10) S X7 (c_X12_bad_q l G τ hI v52 (R_of (lo := -2147483648) (hi := 2147483647) r54 rfl)) ck12_183 (Nat.le_of_ble_eq_true rfl) rfl (fun _ => ⟨_, rfl⟩) ⟨_, _, rfl⟩ ⟨Nat.le_of_ble_eq_true rfl, Nat.le_of_ble_eq_true rfl⟩ rfl hl.1 rfl (Nat.le_of_ble_eq_true rfl) dX12_looksAt_9 ⟨Nat.le_refl 0, Nat.le_refl 0⟩) X7 (fun v58 t57 H lc q55 X56 => ?_)
    unfold po_X12_bad_q at q55
    obtain ⟨q59, q60, q61, q62⟩ := q55
    have F63 : Fr [(131, 15), (131, 16), (131, 18)] [] τ t57 := Fr_call Fr_rfl q60 (by decide)
    exact r_ret S hr hlk X56 ⟨q59, F63, (R_of q61 rfl), (fun h => by exfalso; omega), (fun h => by exfalso; omega), (QM_b (sLook_b1 p51) (by omega) (by rw [q62.1]; omega) (by rw [q62.2]; exact RM_at hR))⟩ (nr_bool (R_of (lo := 0) (hi := 1) q61 rfl)) dX12_looksAt_12
def po_X12_takesMind_q (τ : Tau)  (a0 : Int32)  (bb : Nat → Int) (nb : Nat) (fs : FS) (r : Int32) (u : Tau) : Prop := Inv u ∧ Fr [(131, 15), (131, 16), (131, 4), (131, 11), (131, 12), (131, 13), (131, 14), (131, 18), (131, 21)] [331] τ u ∧ R (0) (1) r ∧ (r.toInt = 1 → R (0) (0) (u 131 15)) ∧ R (0) (940) (u 131 4) ∧ R (0) (4) (u 131 11) ∧ (τ 131 4).toInt ≤ (u 131 4).toInt ∧ (r.toInt = 1 → (τ 131 4).toInt < (u 131 4).toInt) ∧ QM (sMd bb nb fs) r u (fun g => (u 131 21).toInt ≠ 0 ∧ RM bb nb u g.2)
set_option maxHeartbeats 4000000 in
set_option maxRecDepth 100000 in
theorem c_X12_takesMind_q (l : Launch) (G : Gx) (τ : Tau) (hI : Inv τ) (a0 : Int32) (h_a0 : R (1) (1) a0) (hf_0 : R (0) (0) (τ 131 15)) (bb : Nat → Int) (nb : Nat) (fs : FS) (hR : RM bb nb τ fs) : Ci l G yX12_takesMind cX12_takesMind 3 (some .boolean) 3 65 [.ref (G.2.2.2.1 131), .int a0] τ (po_X12_takesMind_q τ  a0  bb nb fs) := by
  unfold Ci
  refine C_of (own := RX12) (by decide) rfl (Nat.le_of_ble_eq_true rfl) ?_
  intro p e s m below meth c ls S hr hlk X hl
  have hl : lv_has ls 3 [(0, .ref (G.2.2.2.1 131)), (1, .int a0)] := hl
  obtain ⟨v1, z2⟩ : ∃ x, τ 131 15 = x := ⟨_, rfl⟩
  rw [z2] at hf_0
  obtain ⟨v3, z4⟩ : ∃ x, τ 131 4 = x := ⟨_, rfl⟩
  have r5 : R (0) (940) v3 := rd hI rfl z4
  obtain ⟨v6, z7⟩ : ∃ x, τ 131 11 = x := ⟨_, rfl⟩
  have r8 : R (0) (4) v6 := rd hI rfl z7
  refine r_aload_n S dX12_takesMind_0 rfl (lv_at hl 0 rfl) ?_
  refine lv_ldc2 S.1.1 S.1.2.1 S.1.2.2.2.1 (S.1.2.2.2.2 _ kw27) dX12_takesMind_1 ?_
  refine lv_topl (fun j9 z10 => ?_)
  refine r_ki (q_V (As := [.long j9]) (rest := []) (K := 38) (ci := 10) S X (c_X12_isWord_q l G τ hI j9 bb nb 900 fs.1 (kwl.getD 5 []) hR.1 (by rw [z10]; decide +kernel) (kwl_at (by decide))) ck12_208 (Nat.le_of_ble_eq_true rfl) rfl (fun _ => ⟨_, rfl⟩) ⟨_, _, rfl⟩ ⟨Nat.le_of_ble_eq_true rfl, Nat.le_of_ble_eq_true rfl⟩ rfl hl.1 rfl (Nat.le_of_ble_eq_true rfl) dX12_takesMind_4 ⟨Nat.le_refl 0, Nat.le_refl 0⟩) X (fun v14 t13 H lc q11 X12 => ?_)
  unfold po_X12_isWord_q at q11
  obtain ⟨q15, q16, q17⟩ := q11
  rw [q15] at X12
  refine r_istore_n (lv' := [(2, .int v14), (0, .ref (G.2.2.2.1 131)), (1, .int a0)]) S dX12_takesMind_7 rfl hl (by decide) rfl (fun ls hl => ?_)
  refine r_iload_n S dX12_takesMind_8 rfl (lv_at hl 0 rfl) ?_
  refine r_if_ne (tgt := 28) S dX12_takesMind_9 (by decide) (fun c18 => ?_) (fun c18 => ?_)
  ·
    have r19 : R (1) (1) v14 := ⟨by omega, by omega⟩
    have p20 := (q17).mp (by omega)
    refine r_aload_n S dX12_takesMind_28 rfl (lv_at hl 1 rfl) ?_
    refine r_kv (q_V (As := []) (rest := []) (K := 38) (ci := 10) S X12 (c_X12_skip_q l G τ hI bb nb 900 fs.1.2.2 (MT_st hR.1 (Or.inl p20.1)).1 (MT_st hR.1 (Or.inl p20.1)).2.1 (MT_st hR.1 (Or.inl p20.1)).2.2) ck12_186 (Nat.le_of_ble_eq_true rfl) rfl (fun _ => ⟨_, rfl⟩) ⟨_, _, rfl⟩ ⟨Nat.le_of_ble_eq_true rfl, Nat.le_of_ble_eq_true rfl⟩ rfl hl.1 rfl (Nat.le_of_ble_eq_true rfl) dX12_takesMind_29 ⟨Nat.le_refl 0, Nat.le_refl 0⟩) X12 (fun t23 H lc q21 X22 => ?_)
    unfold po_X12_skip_q at q21
    obtain ⟨q24, q25, q26, q27, q28, q29, q30⟩ := q21
    have F31 : Fr [(131, 15), (131, 16), (131, 4), (131, 11), (131, 12), (131, 13), (131, 14), (131, 18), (131, 21)] [331] τ t23 := Fr_call Fr_rfl q25 (by decide)
    obtain ⟨v32, z33⟩ : ∃ x, t23 131 4 = x := ⟨_, rfl⟩
    rw [z33] at q26
    obtain ⟨v34, z35⟩ : ∃ x, t23 131 11 = x := ⟨_, rfl⟩
    rw [z35] at q27
    have e36 := congrArg Int32.toInt z4
    have e37 := congrArg Int32.toInt z33
    have e38 := congrArg Int32.toInt z4
    have e39 := congrArg Int32.toInt z33
    have e40 := congrArg Int32.toInt z7
    have e41 := congrArg Int32.toInt z35
    have hR42 : RM bb nb t23 (stp bb nb fs) := ⟨q30, RH_fr hR.2.1 ((q25 131 20 (by decide)).trans rfl) (fun j _ => ((q25 134 j (by simp [fz])).trans rfl)) (fun j => ((q25 336 j (by simp [fz])).trans rfl)), RS2_fr hR.2.2 (fun j => ((q25 337 j (by simp [fz])).trans rfl)) (fun j => ((q25 336 j (by simp [fz])).trans rfl))⟩
    refine r_aload_n S dX12_takesMind_32 rfl (lv_at hl 1 rfl) ?_
    refine r_iload_n S dX12_takesMind_33 rfl (lv_at hl 2 rfl) ?_
    refine r_bipush S dX12_takesMind_34 (by decide) (fun v43 z44 => ?_)
    have r45 := R_eq z44
    refine r_ki (q_V (As := [.int a0, .int v43]) (rest := []) (K := 38) (ci := 10) S X22 (c_X12_takes_q_1_9 l G t23 q24 a0 v43 h_a0 r45 (by rw [((q25 131 15 (by decide)).trans z2)]; exact R_of hf_0 rfl) bb nb (stp bb nb fs) hR42 ) ck12_212 (Nat.le_of_ble_eq_true rfl) rfl (fun _ => ⟨_, rfl⟩) ⟨_, _, rfl⟩ ⟨Nat.le_of_ble_eq_true rfl, Nat.le_of_ble_eq_true rfl⟩ rfl hl.1 rfl (Nat.le_of_ble_eq_true rfl) dX12_takesMind_36 ⟨Nat.le_refl 0, Nat.le_refl 0⟩) X22 (fun v49 t48 H lc q46 X47 => ?_)
    unfold po_X12_takes_q_1_9 at q46
    obtain ⟨q50, q51, q52, q53, q54, q55, q56, q57, q58⟩ := q46
    have F59 : Fr [(131, 15), (131, 16), (131, 4), (131, 11), (131, 12), (131, 13), (131, 14), (131, 18), (131, 21)] [331] τ t48 := Fr_call F31 q51 (by decide)
    obtain ⟨v60, z61⟩ : ∃ x, t48 131 4 = x := ⟨_, rfl⟩
    rw [z61] at q54
    obtain ⟨v62, z63⟩ : ∃ x, t48 131 11 = x := ⟨_, rfl⟩
    rw [z63] at q55
    have e64 := congrArg Int32.toInt z33
    have e65 := congrArg Int32.toInt z61
    have e66 := congrArg Int32.toInt z35
    have e67 := congrArg Int32.toInt z63
    refine r_if_ne (tgt := 44) S dX12_takesMind_39 (by decide) (fun c68 => ?_) (fun c68 => ?_)
    ·
      have r69 : R (1) (1) v49 := ⟨by omega, by omega⟩
      obtain ⟨p70, p71⟩ := q53 (by omega)
      obtain ⟨v72, z73⟩ : ∃ x, t48 131 18 = x := ⟨_, rfl⟩
      rw [z73] at p70
      obtain ⟨v74, z75⟩ : ∃ x, t48 131 15 = x := ⟨_, rfl⟩
      rw [z75] at p71
      have p76 := (QM_1 q58) (by omega)
      obtain ⟨g77, e78, hP79⟩ := p76
      refine r_aload_n S dX12_takesMind_44 rfl (lv_at hl 1 rfl) ?_
      refine r_iload_n S dX12_takesMind_45 rfl (lv_at hl 0 rfl) ?_
      refine r_if_eq (tgt := 57) S dX12_takesMind_46 (by decide) (fun c80 => ?_) (fun c80 => ?_)
      ·
        exfalso; omega
      ·
        refine r_aload_n S dX12_takesMind_49 rfl (lv_at hl 1 rfl) ?_
        refine r_geti (K := 38) S X47 (Nat.le_of_ble_eq_true rfl) rfl lk12_193_10 (fun _ => ⟨_, rfl, rfl⟩) z73 dX12_takesMind_50 ?_
        refine r_ineg S dX12_takesMind_53 (fun v81 z82 => ?_)
        obtain ⟨e83, r84⟩ := i_neg (lo := -9) (hi := -1) z82 p70 rfl
        refine r_goto (tgt := 61) S dX12_takesMind_54 (by decide) ?_
        refine r_put (K := 38) (ty := .int) S X47 (Nat.le_of_ble_eq_true rfl) rfl lk12_215_10 (fun _ => ⟨_, rfl, Nat.le_of_ble_eq_true rfl, rfl⟩) (fun _ _ _ h => by cases h; exact ⟨rfl, rfl⟩) rfl rfl dX12_takesMind_61 (fun t85 H lc M86 X87 => ?_)
        have I88 := Inv_mu q50 M86 (show Rg (kd 131) 21 v81 from (R_of (lo := -9) (hi := 9) r84 rfl))
        have F89 : Fr [(131, 15), (131, 16), (131, 4), (131, 11), (131, 12), (131, 13), (131, 14), (131, 18), (131, 21)] [331] τ t85 := Fr_mu F59 M86 (by decide)
        refine r_iconst S dX12_takesMind_64 (by decide) (fun v90 z91 => ?_)
        have r92 := R_eq z91
        exact r_ret S hr hlk X87 ⟨I88, F89, (R_of r92 rfl), (fun h => (by rw [((M86.2 131 15 (Or.inr (by decide))).trans z75)]; exact R_of p71 rfl)), (by rw [((M86.2 131 4 (Or.inr (by decide))).trans z61)]; exact R_of q54 rfl), (by rw [((M86.2 131 11 (Or.inr (by decide))).trans z63)]; exact R_of q55 rfl), (by have h1_0 := congrArg Int32.toInt ((M86.2 131 4 (Or.inr (by decide))).trans z61); have h2_0 := congrArg Int32.toInt z4; omega), (by have h1_0 := congrArg Int32.toInt ((M86.2 131 4 (Or.inr (by decide))).trans z61); have h2_0 := congrArg Int32.toInt z4; omega), (QM_r ((thn_r (sYN_g (Or.inr p20))).trans e78) (by omega) ⟨by rw [M86.1]; omega, (RM_fr hP79.2 ((M86.2 131 3 (Or.inr (by decide))).trans rfl) ((M86.2 131 4 (Or.inr (by decide))).trans rfl) ((M86.2 131 5 (Or.inr (by decide))).trans rfl) ((M86.2 131 11 (Or.inr (by decide))).trans rfl) ((M86.2 131 12 (Or.inr (by decide))).trans rfl) ((M86.2 131 14 (Or.inr (by decide))).trans rfl) (fun j => ((M86.2 132 j (Or.inl (by decide))).trans rfl)) (fun j => ((M86.2 331 j (Or.inl (by decide))).trans rfl)) ((M86.2 131 20 (Or.inr (by decide))).trans rfl) (fun j => ((M86.2 134 j (Or.inl (by decide))).trans rfl)) (fun j => ((M86.2 336 j (Or.inl (by decide))).trans rfl)) (fun j => ((M86.2 337 j (Or.inl (by decide))).trans rfl)))⟩)⟩ (nr_bool (R_of (lo := 0) (hi := 1) r92 rfl)) dX12_takesMind_65
    ·
      have r93 : R (0) (0) v49 := ⟨by omega, by omega⟩
      have p94 := (QM_0 q58) (by omega)
      obtain ⟨q95, e96, h97, h98⟩ := p94
      refine r_iconst S dX12_takesMind_42 (by decide) (fun v99 z100 => ?_)
      have r101 := R_eq z100
      exact r_ret S hr hlk X47 ⟨q50, F59, (R_of r101 rfl), (fun h => by exfalso; omega), (by rw [z61]; exact R_of q54 rfl), (by rw [z63]; exact R_of q55 rfl), (by have h1_0 := congrArg Int32.toInt z61; have h2_0 := congrArg Int32.toInt z4; omega), (by have h1_0 := congrArg Int32.toInt z61; have h2_0 := congrArg Int32.toInt z4; omega), (QM_l ((thn_r (sYN_g (Or.inr p20))).trans e96) (by omega) h97 h98)⟩ (nr_bool (R_of (lo := 0) (hi := 1) r101 rfl)) dX12_takesMind_43
  ·
    have r102 : R (0) (0) v14 := ⟨by omega, by omega⟩
    have p103 := (iff_n q17) (by omega)
    refine r_aload_n S dX12_takesMind_12 rfl (lv_at hl 1 rfl) ?_
    refine lv_ldc2 S.1.1 S.1.2.1 S.1.2.2.2.1 (S.1.2.2.2.2 _ kw28) dX12_takesMind_13 ?_
    refine lv_topl (fun j104 z105 => ?_)
    refine r_ki (q_V (As := [.long j104]) (rest := []) (K := 38) (ci := 10) S X12 (c_X12_isWord_q l G τ hI j104 bb nb 900 fs.1 (kwl.getD 4 []) hR.1 (by rw [z105]; decide +kernel) (kwl_at (by decide))) ck12_208 (Nat.le_of_ble_eq_true rfl) rfl (fun _ => ⟨_, rfl⟩) ⟨_, _, rfl⟩ ⟨Nat.le_of_ble_eq_true rfl, Nat.le_of_ble_eq_true rfl⟩ rfl hl.1 rfl (Nat.le_of_ble_eq_true rfl) dX12_takesMind_16 ⟨Nat.le_refl 0, Nat.le_refl 0⟩) X12 (fun v109 t108 H lc q106 X107 => ?_)
    unfold po_X12_isWord_q at q106
    obtain ⟨q110, q111, q112⟩ := q106
    rw [q110] at X107
    refine r_if_ne (tgt := 28) S dX12_takesMind_19 (by decide) (fun c113 => ?_) (fun c113 => ?_)
    ·
      have r114 : R (1) (1) v109 := ⟨by omega, by omega⟩
      have p115 := (q112).mp (by omega)
      refine r_aload_n S dX12_takesMind_28 rfl (lv_at hl 1 rfl) ?_
      refine r_kv (q_V (As := []) (rest := []) (K := 38) (ci := 10) S X107 (c_X12_skip_q l G τ hI bb nb 900 fs.1.2.2 (MT_st hR.1 (Or.inl p115.1)).1 (MT_st hR.1 (Or.inl p115.1)).2.1 (MT_st hR.1 (Or.inl p115.1)).2.2) ck12_186 (Nat.le_of_ble_eq_true rfl) rfl (fun _ => ⟨_, rfl⟩) ⟨_, _, rfl⟩ ⟨Nat.le_of_ble_eq_true rfl, Nat.le_of_ble_eq_true rfl⟩ rfl hl.1 rfl (Nat.le_of_ble_eq_true rfl) dX12_takesMind_29 ⟨Nat.le_refl 0, Nat.le_refl 0⟩) X107 (fun t118 H lc q116 X117 => ?_)
      unfold po_X12_skip_q at q116
      obtain ⟨q119, q120, q121, q122, q123, q124, q125⟩ := q116
      have F126 : Fr [(131, 15), (131, 16), (131, 4), (131, 11), (131, 12), (131, 13), (131, 14), (131, 18), (131, 21)] [331] τ t118 := Fr_call Fr_rfl q120 (by decide)
      obtain ⟨v127, z128⟩ : ∃ x, t118 131 4 = x := ⟨_, rfl⟩
      rw [z128] at q121
      obtain ⟨v129, z130⟩ : ∃ x, t118 131 11 = x := ⟨_, rfl⟩
      rw [z130] at q122
      have e131 := congrArg Int32.toInt z4
      have e132 := congrArg Int32.toInt z128
      have e133 := congrArg Int32.toInt z4
      have e134 := congrArg Int32.toInt z128
      have e135 := congrArg Int32.toInt z7
      have e136 := congrArg Int32.toInt z130
      have hR137 : RM bb nb t118 (stp bb nb fs) := ⟨q125, RH_fr hR.2.1 ((q120 131 20 (by decide)).trans rfl) (fun j _ => ((q120 134 j (by simp [fz])).trans rfl)) (fun j => ((q120 336 j (by simp [fz])).trans rfl)), RS2_fr hR.2.2 (fun j => ((q120 337 j (by simp [fz])).trans rfl)) (fun j => ((q120 336 j (by simp [fz])).trans rfl))⟩
      refine r_aload_n S dX12_takesMind_32 rfl (lv_at hl 1 rfl) ?_
      refine r_iload_n S dX12_takesMind_33 rfl (lv_at hl 2 rfl) ?_
      refine r_bipush S dX12_takesMind_34 (by decide) (fun v138 z139 => ?_)
      have r140 := R_eq z139
      refine r_ki (q_V (As := [.int a0, .int v138]) (rest := []) (K := 38) (ci := 10) S X117 (c_X12_takes_q_1_9 l G t118 q119 a0 v138 h_a0 r140 (by rw [((q120 131 15 (by decide)).trans z2)]; exact R_of hf_0 rfl) bb nb (stp bb nb fs) hR137 ) ck12_212 (Nat.le_of_ble_eq_true rfl) rfl (fun _ => ⟨_, rfl⟩) ⟨_, _, rfl⟩ ⟨Nat.le_of_ble_eq_true rfl, Nat.le_of_ble_eq_true rfl⟩ rfl hl.1 rfl (Nat.le_of_ble_eq_true rfl) dX12_takesMind_36 ⟨Nat.le_refl 0, Nat.le_refl 0⟩) X117 (fun v144 t143 H lc q141 X142 => ?_)
      unfold po_X12_takes_q_1_9 at q141
      obtain ⟨q145, q146, q147, q148, q149, q150, q151, q152, q153⟩ := q141
      have F154 : Fr [(131, 15), (131, 16), (131, 4), (131, 11), (131, 12), (131, 13), (131, 14), (131, 18), (131, 21)] [331] τ t143 := Fr_call F126 q146 (by decide)
      obtain ⟨v155, z156⟩ : ∃ x, t143 131 4 = x := ⟨_, rfl⟩
      rw [z156] at q149
      obtain ⟨v157, z158⟩ : ∃ x, t143 131 11 = x := ⟨_, rfl⟩
      rw [z158] at q150
      have e159 := congrArg Int32.toInt z128
      have e160 := congrArg Int32.toInt z156
      have e161 := congrArg Int32.toInt z130
      have e162 := congrArg Int32.toInt z158
      refine r_if_ne (tgt := 44) S dX12_takesMind_39 (by decide) (fun c163 => ?_) (fun c163 => ?_)
      ·
        have r164 : R (1) (1) v144 := ⟨by omega, by omega⟩
        obtain ⟨p165, p166⟩ := q148 (by omega)
        obtain ⟨v167, z168⟩ : ∃ x, t143 131 18 = x := ⟨_, rfl⟩
        rw [z168] at p165
        obtain ⟨v169, z170⟩ : ∃ x, t143 131 15 = x := ⟨_, rfl⟩
        rw [z170] at p166
        have p171 := (QM_1 q153) (by omega)
        obtain ⟨g172, e173, hP174⟩ := p171
        refine r_aload_n S dX12_takesMind_44 rfl (lv_at hl 1 rfl) ?_
        refine r_iload_n S dX12_takesMind_45 rfl (lv_at hl 0 rfl) ?_
        refine r_if_eq (tgt := 57) S dX12_takesMind_46 (by decide) (fun c175 => ?_) (fun c175 => ?_)
        ·
          refine r_aload_n S dX12_takesMind_57 rfl (lv_at hl 1 rfl) ?_
          refine r_geti (K := 38) S X142 (Nat.le_of_ble_eq_true rfl) rfl lk12_193_10 (fun _ => ⟨_, rfl, rfl⟩) z168 dX12_takesMind_58 ?_
          refine r_put (K := 38) (ty := .int) S X142 (Nat.le_of_ble_eq_true rfl) rfl lk12_215_10 (fun _ => ⟨_, rfl, Nat.le_of_ble_eq_true rfl, rfl⟩) (fun _ _ _ h => by cases h; exact ⟨rfl, rfl⟩) rfl rfl dX12_takesMind_61 (fun t176 H lc M177 X178 => ?_)
          have I179 := Inv_mu q145 M177 (show Rg (kd 131) 21 v167 from (R_of (lo := -9) (hi := 9) p165 rfl))
          have F180 : Fr [(131, 15), (131, 16), (131, 4), (131, 11), (131, 12), (131, 13), (131, 14), (131, 18), (131, 21)] [331] τ t176 := Fr_mu F154 M177 (by decide)
          refine r_iconst S dX12_takesMind_64 (by decide) (fun v181 z182 => ?_)
          have r183 := R_eq z182
          exact r_ret S hr hlk X178 ⟨I179, F180, (R_of r183 rfl), (fun h => (by rw [((M177.2 131 15 (Or.inr (by decide))).trans z170)]; exact R_of p166 rfl)), (by rw [((M177.2 131 4 (Or.inr (by decide))).trans z156)]; exact R_of q149 rfl), (by rw [((M177.2 131 11 (Or.inr (by decide))).trans z158)]; exact R_of q150 rfl), (by have h1_0 := congrArg Int32.toInt ((M177.2 131 4 (Or.inr (by decide))).trans z156); have h2_0 := congrArg Int32.toInt z4; omega), (by have h1_0 := congrArg Int32.toInt ((M177.2 131 4 (Or.inr (by decide))).trans z156); have h2_0 := congrArg Int32.toInt z4; omega), (QM_r ((thn_r (sYN_g (Or.inl p115))).trans e173) (by omega) ⟨by rw [M177.1]; omega, (RM_fr hP174.2 ((M177.2 131 3 (Or.inr (by decide))).trans rfl) ((M177.2 131 4 (Or.inr (by decide))).trans rfl) ((M177.2 131 5 (Or.inr (by decide))).trans rfl) ((M177.2 131 11 (Or.inr (by decide))).trans rfl) ((M177.2 131 12 (Or.inr (by decide))).trans rfl) ((M177.2 131 14 (Or.inr (by decide))).trans rfl) (fun j => ((M177.2 132 j (Or.inl (by decide))).trans rfl)) (fun j => ((M177.2 331 j (Or.inl (by decide))).trans rfl)) ((M177.2 131 20 (Or.inr (by decide))).trans rfl) (fun j => ((M177.2 134 j (Or.inl (by decide))).trans rfl)) (fun j => ((M177.2 336 j (Or.inl (by decide))).trans rfl)) (fun j => ((M177.2 337 j (Or.inl (by decide))).trans rfl)))⟩)⟩ (nr_bool (R_of (lo := 0) (hi := 1) r183 rfl)) dX12_takesMind_65
        ·
          exfalso; omega
      ·
        have r184 : R (0) (0) v144 := ⟨by omega, by omega⟩
        have p185 := (QM_0 q153) (by omega)
        obtain ⟨q186, e187, h188, h189⟩ := p185
        refine r_iconst S dX12_takesMind_42 (by decide) (fun v190 z191 => ?_)
        have r192 := R_eq z191
        exact r_ret S hr hlk X142 ⟨q145, F154, (R_of r192 rfl), (fun h => by exfalso; omega), (by rw [z156]; exact R_of q149 rfl), (by rw [z158]; exact R_of q150 rfl), (by have h1_0 := congrArg Int32.toInt z156; have h2_0 := congrArg Int32.toInt z4; omega), (by have h1_0 := congrArg Int32.toInt z156; have h2_0 := congrArg Int32.toInt z4; omega), (QM_l ((thn_r (sYN_g (Or.inl p115))).trans e187) (by omega) h188 h189)⟩ (nr_bool (R_of (lo := 0) (hi := 1) r192 rfl)) dX12_takesMind_43
    ·
      have r193 : R (0) (0) v109 := ⟨by omega, by omega⟩
      have p194 := (iff_n q112) (by omega)
      refine r_aload_n S dX12_takesMind_22 rfl (lv_at hl 1 rfl) ?_
      refine r_iconst S dX12_takesMind_23 (by decide) (fun v195 z196 => ?_)
      have r197 := R_eq z196
      refine r_ki (q_V (As := [.int v195]) (rest := []) (K := 38) (ci := 10) S X107 (c_X12_bad_q l G τ hI v195 (R_of (lo := -2147483648) (hi := 2147483647) r197 rfl)) ck12_183 (Nat.le_of_ble_eq_true rfl) rfl (fun _ => ⟨_, rfl⟩) ⟨_, _, rfl⟩ ⟨Nat.le_of_ble_eq_true rfl, Nat.le_of_ble_eq_true rfl⟩ rfl hl.1 rfl (Nat.le_of_ble_eq_true rfl) dX12_takesMind_24 ⟨Nat.le_refl 0, Nat.le_refl 0⟩) X107 (fun v201 t200 H lc q198 X199 => ?_)
      unfold po_X12_bad_q at q198
      obtain ⟨q202, q203, q204, q205⟩ := q198
      have F206 : Fr [(131, 15), (131, 16), (131, 4), (131, 11), (131, 12), (131, 13), (131, 14), (131, 18), (131, 21)] [331] τ t200 := Fr_call Fr_rfl q203 (by decide)
      exact r_ret S hr hlk X199 ⟨q202, F206, (R_of q204 rfl), (fun h => by exfalso; omega), (by rw [((q203 131 4 (by decide)).trans z4)]; exact R_of r5 rfl), (by rw [((q203 131 11 (by decide)).trans z7)]; exact R_of r8 rfl), (by have h1_0 := congrArg Int32.toInt ((q203 131 4 (by decide)).trans z4); have h2_0 := congrArg Int32.toInt z4; omega), (by have h1_0 := congrArg Int32.toInt ((q203 131 4 (by decide)).trans z4); have h2_0 := congrArg Int32.toInt z4; omega), (QM_b (thn_l (sYN_b (fun h => h.elim p194 p103))) (by omega) (by rw [q205.1]; omega) (by rw [q205.2]; exact RM_at hR))⟩ (nr_bool (R_of (lo := 0) (hi := 1) q204 rfl)) dX12_takesMind_27
def po_X12_once_q0 (τ : Tau)  (a0 a1 a2 a3 : Int32)  (bb : Nat → Int) (nb : Nat) (fs : FS) (r : Int32) (u : Tau) : Prop := Inv u ∧ Fr [(131, 15), (131, 16), (131, 4), (131, 11), (131, 12), (131, 13), (131, 14), (131, 18), (131, 20)] [134, 331] τ u ∧ R (0) (1) r ∧ (r.toInt = 1 → R (0) (0) (u 131 15)) ∧ R (0) (940) (u 131 4) ∧ R (0) (4) (u 131 11) ∧ (τ 131 4).toInt ≤ (u 131 4).toInt ∧ (r.toInt = 1 → (τ 131 4).toInt < (u 131 4).toInt) ∧ QM (sSeats bb nb fs) r u (fun g => RM bb nb u g)
set_option maxHeartbeats 4000000 in
set_option maxRecDepth 100000 in
theorem c_X12_once_q0 (l : Launch) (G : Gx) (τ : Tau) (hI : Inv τ) (a0 : Int32) (a1 : Int32) (a2 : Int32) (a3 : Int32) (h_a0 : R (0) (0) a0) (h_a1 : R (2) (2) a1) (h_a2 : R (1) (1) a2) (h_a3 : R (8) (8) a3) (hf_0 : R (0) (0) (τ 131 15)) (bb : Nat → Int) (nb : Nat) (fs : FS) (hR : RM bb nb τ fs) (hW : isW bb 0 fs.1) : Ci l G yX12_once cX12_once 5 (some .boolean) 3 65 [.ref (G.2.2.2.1 131), .int a0, .int a1, .int a2, .int a3] τ (po_X12_once_q0 τ  a0 a1 a2 a3  bb nb fs) := by
  unfold Ci
  refine C_of (own := RX12) (by decide) rfl (Nat.le_of_ble_eq_true rfl) ?_
  intro p e s m below meth c ls S hr hlk X hl
  have hl : lv_has ls 5 [(0, .ref (G.2.2.2.1 131)), (1, .int a0), (2, .int a1), (3, .int a2), (4, .int a3)] := hl
  obtain ⟨v1, z2⟩ : ∃ x, τ 131 15 = x := ⟨_, rfl⟩
  rw [z2] at hf_0
  obtain ⟨v3, z4⟩ : ∃ x, τ 131 4 = x := ⟨_, rfl⟩
  have r5 : R (0) (940) v3 := rd hI rfl z4
  obtain ⟨v6, z7⟩ : ∃ x, τ 131 11 = x := ⟨_, rfl⟩
  have r8 : R (0) (4) v6 := rd hI rfl z7
  refine r_aload_n S dX12_once_0 rfl (lv_at hl 0 rfl) ?_
  refine r_getn (K := 38) S X (Nat.le_of_ble_eq_true rfl) rfl lk12_218_10 (fun _ => ⟨_, rfl, rfl⟩) dX12_once_1 (fun v9 z10 => ?_)
  have r12 := R_any v9
  refine r_iload_n S dX12_once_4 rfl (lv_at hl 1 rfl) ?_
  refine r_ki (q_S (As := [.int v9, .int a0]) (rest := []) S X (c_X12_bitOf_q l G τ hI v9 a0 r12 (R_of (lo := 0) (hi := 9) h_a0 rfl)) ck12_221 ⟨Nat.le_of_ble_eq_true rfl, Nat.le_of_ble_eq_true rfl⟩ rfl hl.1 rfl (Nat.le_of_ble_eq_true rfl) dX12_once_5 ⟨Nat.le_refl 0, Nat.le_refl 0⟩) X (fun v16 t15 H lc q13 X14 => ?_)
  unfold po_X12_bitOf_q at q13
  obtain ⟨q17, q18, q19⟩ := q13
  rw [q17] at X14
  refine r_if_eq (tgt := 17) S dX12_once_8 (by decide) (fun c20 => ?_) (fun c20 => ?_)
  ·
    have r21 : R (0) (0) v16 := ⟨by omega, by omega⟩
    have p22 := (iff_n q19) (by omega)
    refine r_aload_n S dX12_once_17 rfl (lv_at hl 0 rfl) ?_
    refine r_dup S dX12_once_18 rfl ?_
    refine r_geti (K := 38) S X14 (Nat.le_of_ble_eq_true rfl) rfl lk12_218_10 (fun _ => ⟨_, rfl, rfl⟩) z10 dX12_once_19 ?_
    refine r_iconst S dX12_once_22 (by decide) (fun v23 z24 => ?_)
    have r25 := R_eq z24
    refine r_iload_n S dX12_once_23 rfl (lv_at hl 1 rfl) ?_
    refine r_ishl S dX12_once_24 (fun v26 z27 => ?_)
    have r29 : R (1) (1) v26 := i_shl z27 r25 h_a0 rfl
    refine r_ior S dX12_once_25 (fun v30 z31 => ?_)
    have r32 := R_any v30
    refine r_put (K := 38) (ty := .int) S X14 (Nat.le_of_ble_eq_true rfl) rfl lk12_218_10 (fun _ => ⟨_, rfl, Nat.le_of_ble_eq_true rfl, rfl⟩) (fun _ _ _ h => by cases h; exact ⟨rfl, rfl⟩) rfl rfl dX12_once_26 (fun t33 H lc M34 X35 => ?_)
    have I36 := Inv_mu hI M34 (R_any v30)
    have F37 : Fr [(131, 15), (131, 16), (131, 4), (131, 11), (131, 12), (131, 13), (131, 14), (131, 18), (131, 20)] [134, 331] τ t33 := Fr_mu Fr_rfl M34 (by decide)
    have hR38 : RM bb nb t33 (fs.1, usT fs.2 true) := ⟨MT_fr hR.1 ((M34.2 131 3 (Or.inr (by decide))).trans rfl) ((M34.2 131 4 (Or.inr (by decide))).trans rfl) ((M34.2 131 5 (Or.inr (by decide))).trans rfl) ((M34.2 131 11 (Or.inr (by decide))).trans rfl) ((M34.2 131 12 (Or.inr (by decide))).trans rfl) ((M34.2 131 14 (Or.inr (by decide))).trans rfl) (fun j => ((M34.2 132 j (Or.inl (by decide))).trans rfl)) (fun j => ((M34.2 331 j (Or.inl (by decide))).trans rfl)), RH_sT hR.2.1 M34 z10 (by rw [z31, z27, show v23 = 1 from Int32.toInt_inj.mp (by show v23.toInt = 1; omega)]) (by omega), RS2_fr hR.2.2 (fun j => ((M34.2 337 j (Or.inl (by decide))).trans rfl)) (fun j => ((M34.2 336 j (Or.inl (by decide))).trans rfl))⟩
    refine r_aload_n S dX12_once_29 rfl (lv_at hl 0 rfl) ?_
    refine r_kv (q_V (As := []) (rest := []) (K := 38) (ci := 10) S X35 (c_X12_skip_q l G t33 I36 bb nb 900 (fs.1, usT fs.2 true).1.2.2 (MT_st hR38.1 (Or.inl hW.1)).1 (MT_st hR38.1 (Or.inl hW.1)).2.1 (MT_st hR38.1 (Or.inl hW.1)).2.2) ck12_186 (Nat.le_of_ble_eq_true rfl) rfl (fun _ => ⟨_, rfl⟩) ⟨_, _, rfl⟩ ⟨Nat.le_of_ble_eq_true rfl, Nat.le_of_ble_eq_true rfl⟩ rfl hl.1 rfl (Nat.le_of_ble_eq_true rfl) dX12_once_30 ⟨Nat.le_refl 0, Nat.le_refl 0⟩) X35 (fun t41 H lc q39 X40 => ?_)
    unfold po_X12_skip_q at q39
    obtain ⟨q42, q43, q44, q45, q46, q47, q48⟩ := q39
    have F49 : Fr [(131, 15), (131, 16), (131, 4), (131, 11), (131, 12), (131, 13), (131, 14), (131, 18), (131, 20)] [134, 331] τ t41 := Fr_call F37 q43 (by decide)
    obtain ⟨v50, z51⟩ : ∃ x, t41 131 4 = x := ⟨_, rfl⟩
    rw [z51] at q44
    obtain ⟨v52, z53⟩ : ∃ x, t41 131 11 = x := ⟨_, rfl⟩
    rw [z53] at q45
    have e54 := congrArg Int32.toInt ((M34.2 131 4 (Or.inr (by decide))).trans z4)
    have e55 := congrArg Int32.toInt z51
    have e56 := congrArg Int32.toInt ((M34.2 131 4 (Or.inr (by decide))).trans z4)
    have e57 := congrArg Int32.toInt z51
    have e58 := congrArg Int32.toInt ((M34.2 131 11 (Or.inr (by decide))).trans z7)
    have e59 := congrArg Int32.toInt z53
    have hR60 : RM bb nb t41 (stp bb nb (fs.1, usT fs.2 true)) := ⟨q48, RH_fr hR38.2.1 ((q43 131 20 (by decide)).trans rfl) (fun j _ => ((q43 134 j (by simp [fz])).trans rfl)) (fun j => ((q43 336 j (by simp [fz])).trans rfl)), RS2_fr hR38.2.2 (fun j => ((q43 337 j (by simp [fz])).trans rfl)) (fun j => ((q43 336 j (by simp [fz])).trans rfl))⟩
    refine r_aload_n S dX12_once_33 rfl (lv_at hl 0 rfl) ?_
    refine r_iload_n S dX12_once_34 rfl (lv_at hl 3 rfl) ?_
    refine r_iload S dX12_once_35 (lv_at hl 4 rfl) ?_
    refine r_ki (q_V (As := [.int a2, .int a3]) (rest := []) (K := 38) (ci := 10) S X40 (c_X12_takes_q_1_8 l G t41 q42 a2 a3 h_a2 h_a3 (by rw [((q43 131 15 (by decide)).trans ((M34.2 131 15 (Or.inr (by decide))).trans z2))]; exact R_of hf_0 rfl) bb nb (stp bb nb (fs.1, usT fs.2 true)) hR60 ) ck12_212 (Nat.le_of_ble_eq_true rfl) rfl (fun _ => ⟨_, rfl⟩) ⟨_, _, rfl⟩ ⟨Nat.le_of_ble_eq_true rfl, Nat.le_of_ble_eq_true rfl⟩ rfl hl.1 rfl (Nat.le_of_ble_eq_true rfl) dX12_once_37 ⟨Nat.le_refl 0, Nat.le_refl 0⟩) X40 (fun v64 t63 H lc q61 X62 => ?_)
    unfold po_X12_takes_q_1_8 at q61
    obtain ⟨q65, q66, q67, q68, q69, q70, q71, q72, q73⟩ := q61
    have F74 : Fr [(131, 15), (131, 16), (131, 4), (131, 11), (131, 12), (131, 13), (131, 14), (131, 18), (131, 20)] [134, 331] τ t63 := Fr_call F49 q66 (by decide)
    obtain ⟨v75, z76⟩ : ∃ x, t63 131 4 = x := ⟨_, rfl⟩
    rw [z76] at q69
    obtain ⟨v77, z78⟩ : ∃ x, t63 131 11 = x := ⟨_, rfl⟩
    rw [z78] at q70
    have e79 := congrArg Int32.toInt z51
    have e80 := congrArg Int32.toInt z76
    have e81 := congrArg Int32.toInt z53
    have e82 := congrArg Int32.toInt z78
    refine r_if_ne (tgt := 45) S dX12_once_40 (by decide) (fun c83 => ?_) (fun c83 => ?_)
    ·
      have r84 : R (1) (1) v64 := ⟨by omega, by omega⟩
      obtain ⟨p85, p86⟩ := q68 (by omega)
      obtain ⟨v87, z88⟩ : ∃ x, t63 131 18 = x := ⟨_, rfl⟩
      rw [z88] at p85
      obtain ⟨v89, z90⟩ : ∃ x, t63 131 15 = x := ⟨_, rfl⟩
      rw [z90] at p86
      have p91 := (QM_1 q73) (by omega)
      obtain ⟨g92, e93, hP94⟩ := p91
      refine r_aload_n S dX12_once_45 rfl (lv_at hl 0 rfl) ?_
      refine r_get (K := 38) (v := .ref (G.2.2.2.1 134)) S X62 (Nat.le_of_ble_eq_true rfl) rfl lk12_37_10 (fun _ => ⟨_, rfl, rfl⟩) dX12_once_46 ?_
      refine r_iload_n S dX12_once_49 rfl (lv_at hl 2 rfl) ?_
      refine r_aload_n S dX12_once_50 rfl (lv_at hl 0 rfl) ?_
      refine r_geti (K := 38) S X62 (Nat.le_of_ble_eq_true rfl) rfl lk12_193_10 (fun _ => ⟨_, rfl, rfl⟩) z88 dX12_once_51 ?_
      refine r_ast (n := 125) (K := 41) S X62 (Nat.le_of_ble_eq_true rfl) rfl (fun _ _ => rfl) (ix_of h_a1 rfl) dX12_once_54 (fun t95 H lc M96 X97 => ?_)
      have I98 := Inv_mu q65 M96 (show Rg (kd 134) _ v87 from wrs (K := 41) (a := 2) (n := 1) (R_of h_a1 rfl) (R_of (lo := 0) (hi := 8) p85 rfl) (by decide +kernel))
      have F99 : Fr [(131, 15), (131, 16), (131, 4), (131, 11), (131, 12), (131, 13), (131, 14), (131, 18), (131, 20)] [134, 331] τ t95 := Fr_cell F74 M96 (by decide)
      have hR100 : RM bb nb t95 (g92.2.1, use g92.2.2 g92.1) := ⟨MT_fr hP94.2.1 ((M96.2 131 3 (Or.inl (by decide))).trans rfl) ((M96.2 131 4 (Or.inl (by decide))).trans rfl) ((M96.2 131 5 (Or.inl (by decide))).trans rfl) ((M96.2 131 11 (Or.inl (by decide))).trans rfl) ((M96.2 131 12 (Or.inl (by decide))).trans rfl) ((M96.2 131 14 (Or.inl (by decide))).trans rfl) (fun j => ((M96.2 132 j (Or.inl (by decide))).trans rfl)) (fun j => ((M96.2 331 j (Or.inl (by decide))).trans rfl)), RH_se hP94.2.2.1 M96 (by have c : a1.toNatClampNeg = a1.toInt.toNat := rfl; omega) (by rw [← z88]; exact hP94.1), RS2_fr hP94.2.2.2 (fun j => ((M96.2 337 j (Or.inl (by decide))).trans rfl)) (fun j => ((M96.2 336 j (Or.inl (by decide))).trans rfl))⟩
      refine r_iconst S dX12_once_55 (by decide) (fun v101 z102 => ?_)
      have r103 := R_eq z102
      exact r_ret S hr hlk X97 ⟨I98, F99, (R_of r103 rfl), (fun h => (by rw [((M96.2 131 15 (Or.inl (by decide))).trans z90)]; exact R_of p86 rfl)), (by rw [((M96.2 131 4 (Or.inl (by decide))).trans z76)]; exact R_of q69 rfl), (by rw [((M96.2 131 11 (Or.inl (by decide))).trans z78)]; exact R_of q70 rfl), (by have h1_0 := congrArg Int32.toInt ((M96.2 131 4 (Or.inl (by decide))).trans z76); have h2_0 := congrArg Int32.toInt z4; omega), (by have h1_0 := congrArg Int32.toInt ((M96.2 131 4 (Or.inl (by decide))).trans z76); have h2_0 := congrArg Int32.toInt z4; omega), (QM_r (sSeats_r (fun h => p22 (by rw [show a0.toInt.toNat = 0 by omega, ← z10]; exact hR.2.1.1.mpr h)) e93) (by omega) hR100)⟩ (nr_bool (R_of (lo := 0) (hi := 1) r103 rfl)) dX12_once_56
    ·
      have r104 : R (0) (0) v64 := ⟨by omega, by omega⟩
      have p105 := (QM_0 q73) (by omega)
      obtain ⟨q106, e107, h108, h109⟩ := p105
      refine r_iconst S dX12_once_43 (by decide) (fun v110 z111 => ?_)
      have r112 := R_eq z111
      exact r_ret S hr hlk X62 ⟨q65, F74, (R_of r112 rfl), (fun h => by exfalso; omega), (by rw [z76]; exact R_of q69 rfl), (by rw [z78]; exact R_of q70 rfl), (by have h1_0 := congrArg Int32.toInt z76; have h2_0 := congrArg Int32.toInt z4; omega), (by have h1_0 := congrArg Int32.toInt z76; have h2_0 := congrArg Int32.toInt z4; omega), (QM_l (sSeats_l (fun h => p22 (by rw [show a0.toInt.toNat = 0 by omega, ← z10]; exact hR.2.1.1.mpr h)) e107) (by omega) h108 h109)⟩ (nr_bool (R_of (lo := 0) (hi := 1) r112 rfl)) dX12_once_44
  ·
    have r113 : R (1) (1) v16 := ⟨by omega, by omega⟩
    have p114 := (q19).mp (by omega)
    refine r_aload_n S dX12_once_11 rfl (lv_at hl 0 rfl) ?_
    refine r_iconst S dX12_once_12 (by decide) (fun v115 z116 => ?_)
    have r117 := R_eq z116
    refine r_ki (q_V (As := [.int v115]) (rest := []) (K := 38) (ci := 10) S X14 (c_X12_bad_q l G τ hI v115 (R_of (lo := -2147483648) (hi := 2147483647) r117 rfl)) ck12_183 (Nat.le_of_ble_eq_true rfl) rfl (fun _ => ⟨_, rfl⟩) ⟨_, _, rfl⟩ ⟨Nat.le_of_ble_eq_true rfl, Nat.le_of_ble_eq_true rfl⟩ rfl hl.1 rfl (Nat.le_of_ble_eq_true rfl) dX12_once_13 ⟨Nat.le_refl 0, Nat.le_refl 0⟩) X14 (fun v121 t120 H lc q118 X119 => ?_)
    unfold po_X12_bad_q at q118
    obtain ⟨q122, q123, q124, q125⟩ := q118
    have F126 : Fr [(131, 15), (131, 16), (131, 4), (131, 11), (131, 12), (131, 13), (131, 14), (131, 18), (131, 20)] [134, 331] τ t120 := Fr_call Fr_rfl q123 (by decide)
    exact r_ret S hr hlk X119 ⟨q122, F126, (R_of q124 rfl), (fun h => by exfalso; omega), (by rw [((q123 131 4 (by decide)).trans z4)]; exact R_of r5 rfl), (by rw [((q123 131 11 (by decide)).trans z7)]; exact R_of r8 rfl), (by have h1_0 := congrArg Int32.toInt ((q123 131 4 (by decide)).trans z4); have h2_0 := congrArg Int32.toInt z4; omega), (by have h1_0 := congrArg Int32.toInt ((q123 131 4 (by decide)).trans z4); have h2_0 := congrArg Int32.toInt z4; omega), (QM_b (sSeats_b (hR.2.1.1.mp (by rw [z10]; have q := p114; rw [show a0.toInt.toNat = 0 by omega] at q; exact q))) (by omega) (by rw [q125.1]; omega) (by rw [q125.2]; exact RM_at hR))⟩ (nr_bool (R_of (lo := 0) (hi := 1) q124 rfl)) dX12_once_16
def po_X12_once_q1 (τ : Tau)  (a0 a1 a2 a3 : Int32)  (bb : Nat → Int) (nb : Nat) (fs : FS) (r : Int32) (u : Tau) : Prop := Inv u ∧ Fr [(131, 15), (131, 16), (131, 4), (131, 11), (131, 12), (131, 13), (131, 14), (131, 18), (131, 20)] [134, 331] τ u ∧ R (0) (1) r ∧ (r.toInt = 1 → R (0) (0) (u 131 15)) ∧ R (0) (940) (u 131 4) ∧ R (0) (4) (u 131 11) ∧ (τ 131 4).toInt ≤ (u 131 4).toInt ∧ (r.toInt = 1 → (τ 131 4).toInt < (u 131 4).toInt) ∧ QM (sSlack bb nb fs) r u (fun g => RM bb nb u g)
set_option maxHeartbeats 4000000 in
set_option maxRecDepth 100000 in
theorem c_X12_once_q1 (l : Launch) (G : Gx) (τ : Tau) (hI : Inv τ) (a0 : Int32) (a1 : Int32) (a2 : Int32) (a3 : Int32) (h_a0 : R (1) (1) a0) (h_a1 : R (3) (3) a1) (h_a2 : R (0) (0) a2) (h_a3 : R (9) (9) a3) (hf_0 : R (0) (0) (τ 131 15)) (bb : Nat → Int) (nb : Nat) (fs : FS) (hR : RM bb nb τ fs) (hW : isW bb 1 fs.1) : Ci l G yX12_once cX12_once 5 (some .boolean) 3 65 [.ref (G.2.2.2.1 131), .int a0, .int a1, .int a2, .int a3] τ (po_X12_once_q1 τ  a0 a1 a2 a3  bb nb fs) := by
  unfold Ci
  refine C_of (own := RX12) (by decide) rfl (Nat.le_of_ble_eq_true rfl) ?_
  intro p e s m below meth c ls S hr hlk X hl
  have hl : lv_has ls 5 [(0, .ref (G.2.2.2.1 131)), (1, .int a0), (2, .int a1), (3, .int a2), (4, .int a3)] := hl
  obtain ⟨v1, z2⟩ : ∃ x, τ 131 15 = x := ⟨_, rfl⟩
  rw [z2] at hf_0
  obtain ⟨v3, z4⟩ : ∃ x, τ 131 4 = x := ⟨_, rfl⟩
  have r5 : R (0) (940) v3 := rd hI rfl z4
  obtain ⟨v6, z7⟩ : ∃ x, τ 131 11 = x := ⟨_, rfl⟩
  have r8 : R (0) (4) v6 := rd hI rfl z7
  refine r_aload_n S dX12_once_0 rfl (lv_at hl 0 rfl) ?_
  refine r_getn (K := 38) S X (Nat.le_of_ble_eq_true rfl) rfl lk12_218_10 (fun _ => ⟨_, rfl, rfl⟩) dX12_once_1 (fun v9 z10 => ?_)
  have r12 := R_any v9
  refine r_iload_n S dX12_once_4 rfl (lv_at hl 1 rfl) ?_
  refine r_ki (q_S (As := [.int v9, .int a0]) (rest := []) S X (c_X12_bitOf_q l G τ hI v9 a0 r12 (R_of (lo := 0) (hi := 9) h_a0 rfl)) ck12_221 ⟨Nat.le_of_ble_eq_true rfl, Nat.le_of_ble_eq_true rfl⟩ rfl hl.1 rfl (Nat.le_of_ble_eq_true rfl) dX12_once_5 ⟨Nat.le_refl 0, Nat.le_refl 0⟩) X (fun v16 t15 H lc q13 X14 => ?_)
  unfold po_X12_bitOf_q at q13
  obtain ⟨q17, q18, q19⟩ := q13
  rw [q17] at X14
  refine r_if_eq (tgt := 17) S dX12_once_8 (by decide) (fun c20 => ?_) (fun c20 => ?_)
  ·
    have r21 : R (0) (0) v16 := ⟨by omega, by omega⟩
    have p22 := (iff_n q19) (by omega)
    refine r_aload_n S dX12_once_17 rfl (lv_at hl 0 rfl) ?_
    refine r_dup S dX12_once_18 rfl ?_
    refine r_geti (K := 38) S X14 (Nat.le_of_ble_eq_true rfl) rfl lk12_218_10 (fun _ => ⟨_, rfl, rfl⟩) z10 dX12_once_19 ?_
    refine r_iconst S dX12_once_22 (by decide) (fun v23 z24 => ?_)
    have r25 := R_eq z24
    refine r_iload_n S dX12_once_23 rfl (lv_at hl 1 rfl) ?_
    refine r_ishl S dX12_once_24 (fun v26 z27 => ?_)
    have r29 : R (2) (2) v26 := i_shl z27 r25 h_a0 rfl
    refine r_ior S dX12_once_25 (fun v30 z31 => ?_)
    have r32 := R_any v30
    refine r_put (K := 38) (ty := .int) S X14 (Nat.le_of_ble_eq_true rfl) rfl lk12_218_10 (fun _ => ⟨_, rfl, Nat.le_of_ble_eq_true rfl, rfl⟩) (fun _ _ _ h => by cases h; exact ⟨rfl, rfl⟩) rfl rfl dX12_once_26 (fun t33 H lc M34 X35 => ?_)
    have I36 := Inv_mu hI M34 (R_any v30)
    have F37 : Fr [(131, 15), (131, 16), (131, 4), (131, 11), (131, 12), (131, 13), (131, 14), (131, 18), (131, 20)] [134, 331] τ t33 := Fr_mu Fr_rfl M34 (by decide)
    have hR38 : RM bb nb t33 (fs.1, ukT fs.2 true) := ⟨MT_fr hR.1 ((M34.2 131 3 (Or.inr (by decide))).trans rfl) ((M34.2 131 4 (Or.inr (by decide))).trans rfl) ((M34.2 131 5 (Or.inr (by decide))).trans rfl) ((M34.2 131 11 (Or.inr (by decide))).trans rfl) ((M34.2 131 12 (Or.inr (by decide))).trans rfl) ((M34.2 131 14 (Or.inr (by decide))).trans rfl) (fun j => ((M34.2 132 j (Or.inl (by decide))).trans rfl)) (fun j => ((M34.2 331 j (Or.inl (by decide))).trans rfl)), RH_kT hR.2.1 M34 z10 (by rw [z31, z27, show v23 = 1 from Int32.toInt_inj.mp (by show v23.toInt = 1; omega)]) (by omega), RS2_fr hR.2.2 (fun j => ((M34.2 337 j (Or.inl (by decide))).trans rfl)) (fun j => ((M34.2 336 j (Or.inl (by decide))).trans rfl))⟩
    refine r_aload_n S dX12_once_29 rfl (lv_at hl 0 rfl) ?_
    refine r_kv (q_V (As := []) (rest := []) (K := 38) (ci := 10) S X35 (c_X12_skip_q l G t33 I36 bb nb 900 (fs.1, ukT fs.2 true).1.2.2 (MT_st hR38.1 (Or.inl hW.1)).1 (MT_st hR38.1 (Or.inl hW.1)).2.1 (MT_st hR38.1 (Or.inl hW.1)).2.2) ck12_186 (Nat.le_of_ble_eq_true rfl) rfl (fun _ => ⟨_, rfl⟩) ⟨_, _, rfl⟩ ⟨Nat.le_of_ble_eq_true rfl, Nat.le_of_ble_eq_true rfl⟩ rfl hl.1 rfl (Nat.le_of_ble_eq_true rfl) dX12_once_30 ⟨Nat.le_refl 0, Nat.le_refl 0⟩) X35 (fun t41 H lc q39 X40 => ?_)
    unfold po_X12_skip_q at q39
    obtain ⟨q42, q43, q44, q45, q46, q47, q48⟩ := q39
    have F49 : Fr [(131, 15), (131, 16), (131, 4), (131, 11), (131, 12), (131, 13), (131, 14), (131, 18), (131, 20)] [134, 331] τ t41 := Fr_call F37 q43 (by decide)
    obtain ⟨v50, z51⟩ : ∃ x, t41 131 4 = x := ⟨_, rfl⟩
    rw [z51] at q44
    obtain ⟨v52, z53⟩ : ∃ x, t41 131 11 = x := ⟨_, rfl⟩
    rw [z53] at q45
    have e54 := congrArg Int32.toInt ((M34.2 131 4 (Or.inr (by decide))).trans z4)
    have e55 := congrArg Int32.toInt z51
    have e56 := congrArg Int32.toInt ((M34.2 131 4 (Or.inr (by decide))).trans z4)
    have e57 := congrArg Int32.toInt z51
    have e58 := congrArg Int32.toInt ((M34.2 131 11 (Or.inr (by decide))).trans z7)
    have e59 := congrArg Int32.toInt z53
    have hR60 : RM bb nb t41 (stp bb nb (fs.1, ukT fs.2 true)) := ⟨q48, RH_fr hR38.2.1 ((q43 131 20 (by decide)).trans rfl) (fun j _ => ((q43 134 j (by simp [fz])).trans rfl)) (fun j => ((q43 336 j (by simp [fz])).trans rfl)), RS2_fr hR38.2.2 (fun j => ((q43 337 j (by simp [fz])).trans rfl)) (fun j => ((q43 336 j (by simp [fz])).trans rfl))⟩
    refine r_aload_n S dX12_once_33 rfl (lv_at hl 0 rfl) ?_
    refine r_iload_n S dX12_once_34 rfl (lv_at hl 3 rfl) ?_
    refine r_iload S dX12_once_35 (lv_at hl 4 rfl) ?_
    refine r_ki (q_V (As := [.int a2, .int a3]) (rest := []) (K := 38) (ci := 10) S X40 (c_X12_takes_q_0_9 l G t41 q42 a2 a3 h_a2 h_a3 (by rw [((q43 131 15 (by decide)).trans ((M34.2 131 15 (Or.inr (by decide))).trans z2))]; exact R_of hf_0 rfl) bb nb (stp bb nb (fs.1, ukT fs.2 true)) hR60 ) ck12_212 (Nat.le_of_ble_eq_true rfl) rfl (fun _ => ⟨_, rfl⟩) ⟨_, _, rfl⟩ ⟨Nat.le_of_ble_eq_true rfl, Nat.le_of_ble_eq_true rfl⟩ rfl hl.1 rfl (Nat.le_of_ble_eq_true rfl) dX12_once_37 ⟨Nat.le_refl 0, Nat.le_refl 0⟩) X40 (fun v64 t63 H lc q61 X62 => ?_)
    unfold po_X12_takes_q_0_9 at q61
    obtain ⟨q65, q66, q67, q68, q69, q70, q71, q72, q73⟩ := q61
    have F74 : Fr [(131, 15), (131, 16), (131, 4), (131, 11), (131, 12), (131, 13), (131, 14), (131, 18), (131, 20)] [134, 331] τ t63 := Fr_call F49 q66 (by decide)
    obtain ⟨v75, z76⟩ : ∃ x, t63 131 4 = x := ⟨_, rfl⟩
    rw [z76] at q69
    obtain ⟨v77, z78⟩ : ∃ x, t63 131 11 = x := ⟨_, rfl⟩
    rw [z78] at q70
    have e79 := congrArg Int32.toInt z51
    have e80 := congrArg Int32.toInt z76
    have e81 := congrArg Int32.toInt z53
    have e82 := congrArg Int32.toInt z78
    refine r_if_ne (tgt := 45) S dX12_once_40 (by decide) (fun c83 => ?_) (fun c83 => ?_)
    ·
      have r84 : R (1) (1) v64 := ⟨by omega, by omega⟩
      obtain ⟨p85, p86⟩ := q68 (by omega)
      obtain ⟨v87, z88⟩ : ∃ x, t63 131 18 = x := ⟨_, rfl⟩
      rw [z88] at p85
      obtain ⟨v89, z90⟩ : ∃ x, t63 131 15 = x := ⟨_, rfl⟩
      rw [z90] at p86
      have p91 := (QM_1 q73) (by omega)
      obtain ⟨g92, e93, hP94⟩ := p91
      refine r_aload_n S dX12_once_45 rfl (lv_at hl 0 rfl) ?_
      refine r_get (K := 38) (v := .ref (G.2.2.2.1 134)) S X62 (Nat.le_of_ble_eq_true rfl) rfl lk12_37_10 (fun _ => ⟨_, rfl, rfl⟩) dX12_once_46 ?_
      refine r_iload_n S dX12_once_49 rfl (lv_at hl 2 rfl) ?_
      refine r_aload_n S dX12_once_50 rfl (lv_at hl 0 rfl) ?_
      refine r_geti (K := 38) S X62 (Nat.le_of_ble_eq_true rfl) rfl lk12_193_10 (fun _ => ⟨_, rfl, rfl⟩) z88 dX12_once_51 ?_
      refine r_ast (n := 125) (K := 41) S X62 (Nat.le_of_ble_eq_true rfl) rfl (fun _ _ => rfl) (ix_of h_a1 rfl) dX12_once_54 (fun t95 H lc M96 X97 => ?_)
      have I98 := Inv_mu q65 M96 (show Rg (kd 134) _ v87 from wrs (K := 41) (a := 3) (n := 1) (R_of h_a1 rfl) (R_of (lo := 0) (hi := 9) p85 rfl) (by decide +kernel))
      have F99 : Fr [(131, 15), (131, 16), (131, 4), (131, 11), (131, 12), (131, 13), (131, 14), (131, 18), (131, 20)] [134, 331] τ t95 := Fr_cell F74 M96 (by decide)
      have hR100 : RM bb nb t95 (g92.2.1, usl g92.2.2 g92.1) := ⟨MT_fr hP94.2.1 ((M96.2 131 3 (Or.inl (by decide))).trans rfl) ((M96.2 131 4 (Or.inl (by decide))).trans rfl) ((M96.2 131 5 (Or.inl (by decide))).trans rfl) ((M96.2 131 11 (Or.inl (by decide))).trans rfl) ((M96.2 131 12 (Or.inl (by decide))).trans rfl) ((M96.2 131 14 (Or.inl (by decide))).trans rfl) (fun j => ((M96.2 132 j (Or.inl (by decide))).trans rfl)) (fun j => ((M96.2 331 j (Or.inl (by decide))).trans rfl)), RH_sl hP94.2.2.1 M96 (by have c : a1.toNatClampNeg = a1.toInt.toNat := rfl; omega) (by rw [← z88]; exact hP94.1), RS2_fr hP94.2.2.2 (fun j => ((M96.2 337 j (Or.inl (by decide))).trans rfl)) (fun j => ((M96.2 336 j (Or.inl (by decide))).trans rfl))⟩
      refine r_iconst S dX12_once_55 (by decide) (fun v101 z102 => ?_)
      have r103 := R_eq z102
      exact r_ret S hr hlk X97 ⟨I98, F99, (R_of r103 rfl), (fun h => (by rw [((M96.2 131 15 (Or.inl (by decide))).trans z90)]; exact R_of p86 rfl)), (by rw [((M96.2 131 4 (Or.inl (by decide))).trans z76)]; exact R_of q69 rfl), (by rw [((M96.2 131 11 (Or.inl (by decide))).trans z78)]; exact R_of q70 rfl), (by have h1_0 := congrArg Int32.toInt ((M96.2 131 4 (Or.inl (by decide))).trans z76); have h2_0 := congrArg Int32.toInt z4; omega), (by have h1_0 := congrArg Int32.toInt ((M96.2 131 4 (Or.inl (by decide))).trans z76); have h2_0 := congrArg Int32.toInt z4; omega), (QM_r (sSlack_r (fun h => p22 (by rw [show a0.toInt.toNat = 1 by omega, ← z10]; exact hR.2.1.2.1.mpr h)) e93) (by omega) hR100)⟩ (nr_bool (R_of (lo := 0) (hi := 1) r103 rfl)) dX12_once_56
    ·
      have r104 : R (0) (0) v64 := ⟨by omega, by omega⟩
      have p105 := (QM_0 q73) (by omega)
      obtain ⟨q106, e107, h108, h109⟩ := p105
      refine r_iconst S dX12_once_43 (by decide) (fun v110 z111 => ?_)
      have r112 := R_eq z111
      exact r_ret S hr hlk X62 ⟨q65, F74, (R_of r112 rfl), (fun h => by exfalso; omega), (by rw [z76]; exact R_of q69 rfl), (by rw [z78]; exact R_of q70 rfl), (by have h1_0 := congrArg Int32.toInt z76; have h2_0 := congrArg Int32.toInt z4; omega), (by have h1_0 := congrArg Int32.toInt z76; have h2_0 := congrArg Int32.toInt z4; omega), (QM_l (sSlack_l (fun h => p22 (by rw [show a0.toInt.toNat = 1 by omega, ← z10]; exact hR.2.1.2.1.mpr h)) e107) (by omega) h108 h109)⟩ (nr_bool (R_of (lo := 0) (hi := 1) r112 rfl)) dX12_once_44
  ·
    have r113 : R (1) (1) v16 := ⟨by omega, by omega⟩
    have p114 := (q19).mp (by omega)
    refine r_aload_n S dX12_once_11 rfl (lv_at hl 0 rfl) ?_
    refine r_iconst S dX12_once_12 (by decide) (fun v115 z116 => ?_)
    have r117 := R_eq z116
    refine r_ki (q_V (As := [.int v115]) (rest := []) (K := 38) (ci := 10) S X14 (c_X12_bad_q l G τ hI v115 (R_of (lo := -2147483648) (hi := 2147483647) r117 rfl)) ck12_183 (Nat.le_of_ble_eq_true rfl) rfl (fun _ => ⟨_, rfl⟩) ⟨_, _, rfl⟩ ⟨Nat.le_of_ble_eq_true rfl, Nat.le_of_ble_eq_true rfl⟩ rfl hl.1 rfl (Nat.le_of_ble_eq_true rfl) dX12_once_13 ⟨Nat.le_refl 0, Nat.le_refl 0⟩) X14 (fun v121 t120 H lc q118 X119 => ?_)
    unfold po_X12_bad_q at q118
    obtain ⟨q122, q123, q124, q125⟩ := q118
    have F126 : Fr [(131, 15), (131, 16), (131, 4), (131, 11), (131, 12), (131, 13), (131, 14), (131, 18), (131, 20)] [134, 331] τ t120 := Fr_call Fr_rfl q123 (by decide)
    exact r_ret S hr hlk X119 ⟨q122, F126, (R_of q124 rfl), (fun h => by exfalso; omega), (by rw [((q123 131 4 (by decide)).trans z4)]; exact R_of r5 rfl), (by rw [((q123 131 11 (by decide)).trans z7)]; exact R_of r8 rfl), (by have h1_0 := congrArg Int32.toInt ((q123 131 4 (by decide)).trans z4); have h2_0 := congrArg Int32.toInt z4; omega), (by have h1_0 := congrArg Int32.toInt ((q123 131 4 (by decide)).trans z4); have h2_0 := congrArg Int32.toInt z4; omega), (QM_b (sSlack_b (hR.2.1.2.1.mp (by rw [z10]; have q := p114; rw [show a0.toInt.toNat = 1 by omega] at q; exact q))) (by omega) (by rw [q125.1]; omega) (by rw [q125.2]; exact RM_at hR))⟩ (nr_bool (R_of (lo := 0) (hi := 1) q124 rfl)) dX12_once_16
