def po_X12_sign_t (τ : Tau)  (a0 : Int32)  (bb : Nat → Int) (nb : Nat) (an mn : List (List Int)) (t : Tk) (r : Int32) (u : Tau) : Prop := Inv u ∧ Fr [(131, 15), (131, 16), (131, 4), (131, 11), (131, 12), (131, 13), (131, 14)] [331] τ u ∧ R (0) (1) r ∧ (r.toInt = 1 → R (0) (0) (u 131 15)) ∧ R (0) (940) (u 131 4) ∧ R (0) (4) (u 131 11) ∧ (τ 131 4).toInt ≤ (u 131 4).toInt ∧ (r.toInt = 1 → (τ 131 11).toInt = 3) ∧ QM (tSgn bb nb 400 59 t) r u (fun g => MG bb nb 400 an mn u g)
set_option maxHeartbeats 4000000 in
set_option maxRecDepth 100000 in
theorem c_X12_sign_t (l : Launch) (G : Gx) (τ : Tau) (hI : Inv τ) (a0 : Int32) (h_a0 : R (59) (59) a0) (hf_0 : R (0) (0) (τ 131 15)) (bb : Nat → Int) (nb : Nat) (an mn : List (List Int)) (t : Tk) (hR : MG bb nb 400 an mn τ t) : Ci l G yX12_sign cX12_sign 2 (some .boolean) 2 43 [.ref (G.2.2.2.1 131), .int a0] τ (po_X12_sign_t τ  a0  bb nb an mn t) := by
  unfold Ci
  refine C_of (own := RX12) (by decide) rfl (Nat.le_of_ble_eq_true rfl) ?_
  intro p e s m below meth c ls S hr hlk X hl
  have hl : lv_has ls 2 [(0, .ref (G.2.2.2.1 131)), (1, .int a0)] := hl
  obtain ⟨v1, z2⟩ : ∃ x, τ 131 15 = x := ⟨_, rfl⟩
  rw [z2] at hf_0
  obtain ⟨v3, z4⟩ : ∃ x, τ 131 4 = x := ⟨_, rfl⟩
  have r5 : R (0) (940) v3 := rd hI rfl z4
  obtain ⟨v6, z7⟩ : ∃ x, τ 131 11 = x := ⟨_, rfl⟩
  have r8 : R (0) (4) v6 := rd hI rfl z7
  refine r_aload_n S dX12_sign_0 rfl (lv_at hl 0 rfl) ?_
  refine r_iload_n S dX12_sign_1 rfl (lv_at hl 1 rfl) ?_
  refine r_ki (q_V (As := [.int a0]) (rest := []) (K := 38) (ci := 10) S X (c_X12_isSign_q l G τ hI a0 (R_of (lo := -2147483648) (hi := 2147483647) h_a0 rfl) bb nb 400 t hR.1) ck12_180 (Nat.le_of_ble_eq_true rfl) rfl (fun _ => ⟨_, rfl⟩) ⟨_, _, rfl⟩ ⟨Nat.le_of_ble_eq_true rfl, Nat.le_of_ble_eq_true rfl⟩ rfl hl.1 rfl (Nat.le_of_ble_eq_true rfl) dX12_sign_2 ⟨Nat.le_refl 0, Nat.le_refl 0⟩) X (fun v12 t11 H lc q9 X10 => ?_)
  unfold po_X12_isSign_q at q9
  obtain ⟨q13, q14, q15⟩ := q9
  rw [q13] at X10
  refine r_if_ne (tgt := 14) S dX12_sign_5 (by decide) (fun c16 => ?_) (fun c16 => ?_)
  ·
    have r17 : R (1) (1) v12 := ⟨by omega, by omega⟩
    have p18 := (q15).mp (by omega)
    refine r_aload_n S dX12_sign_14 rfl (lv_at hl 0 rfl) ?_
    refine r_kv (q_V (As := []) (rest := []) (K := 38) (ci := 10) S X10 (c_X12_skip_q l G τ hI bb nb 400 t.2.2 (MT_st hR.1 (Or.inr (Or.inr p18.1))).1 (MT_st hR.1 (Or.inr (Or.inr p18.1))).2.1 (MT_st hR.1 (Or.inr (Or.inr p18.1))).2.2) ck12_186 (Nat.le_of_ble_eq_true rfl) rfl (fun _ => ⟨_, rfl⟩) ⟨_, _, rfl⟩ ⟨Nat.le_of_ble_eq_true rfl, Nat.le_of_ble_eq_true rfl⟩ rfl hl.1 rfl (Nat.le_of_ble_eq_true rfl) dX12_sign_15 ⟨Nat.le_refl 0, Nat.le_refl 0⟩) X10 (fun t21 H lc q19 X20 => ?_)
    unfold po_X12_skip_q at q19
    obtain ⟨q22, q23, q24, q25, q26, q27, q28⟩ := q19
    have F29 : Fr [(131, 15), (131, 16), (131, 4), (131, 11), (131, 12), (131, 13), (131, 14)] [331] τ t21 := Fr_call Fr_rfl q23 (by decide)
    obtain ⟨v30, z31⟩ : ∃ x, t21 131 4 = x := ⟨_, rfl⟩
    rw [z31] at q24
    obtain ⟨v32, z33⟩ : ∃ x, t21 131 11 = x := ⟨_, rfl⟩
    rw [z33] at q25
    have e34 := congrArg Int32.toInt z4
    have e35 := congrArg Int32.toInt z31
    have e36 := congrArg Int32.toInt z4
    have e37 := congrArg Int32.toInt z31
    have e38 := congrArg Int32.toInt z7
    have e39 := congrArg Int32.toInt z33
    have hR40 : MG bb nb 400 an mn t21 (nx bb nb 400 t) := ⟨q28, NR_fr hR.2 ((q23 133 0 (by decide)).trans rfl) ((q23 133 1 (by decide)).trans rfl) (fun j => ((q23 336 j (by simp [fz])).trans rfl)) (fun j => ((q23 337 j (by simp [fz])).trans rfl))⟩
    refine r_iconst S dX12_sign_18 (by decide) (fun v41 z42 => ?_)
    have r43 := R_eq z42
    exact r_ret S hr hlk X20 ⟨q22, F29, (R_of r43 rfl), (fun h => (by rw [((q23 131 15 (by decide)).trans z2)]; exact R_of hf_0 rfl)), (by rw [z31]; exact R_of q24 rfl), (by rw [z33]; exact R_of q25 rfl), (by have h1_0 := congrArg Int32.toInt z31; have h2_0 := congrArg Int32.toInt z4; omega), (fun _ => by rw [MT_k hR.1, (p18).1]; rfl), (QM_r (tSgn_g ⟨p18.1, by have q := p18.2; omega⟩) (by omega) hR40)⟩ (nr_bool (R_of (lo := 0) (hi := 1) r43 rfl)) dX12_sign_19
  ·
    have r44 : R (0) (0) v12 := ⟨by omega, by omega⟩
    have p45 := (iff_n q15) (by omega)
    refine r_aload_n S dX12_sign_8 rfl (lv_at hl 0 rfl) ?_
    refine r_iconst S dX12_sign_9 (by decide) (fun v46 z47 => ?_)
    have r48 := R_eq z47
    refine r_ki (q_V (As := [.int v46]) (rest := []) (K := 38) (ci := 10) S X10 (c_X12_bad_q l G τ hI v46 (R_of (lo := -2147483648) (hi := 2147483647) r48 rfl)) ck12_183 (Nat.le_of_ble_eq_true rfl) rfl (fun _ => ⟨_, rfl⟩) ⟨_, _, rfl⟩ ⟨Nat.le_of_ble_eq_true rfl, Nat.le_of_ble_eq_true rfl⟩ rfl hl.1 rfl (Nat.le_of_ble_eq_true rfl) dX12_sign_10 ⟨Nat.le_refl 0, Nat.le_refl 0⟩) X10 (fun v52 t51 H lc q49 X50 => ?_)
    unfold po_X12_bad_q at q49
    obtain ⟨q53, q54, q55, q56⟩ := q49
    have F57 : Fr [(131, 15), (131, 16), (131, 4), (131, 11), (131, 12), (131, 13), (131, 14)] [331] τ t51 := Fr_call Fr_rfl q54 (by decide)
    exact r_ret S hr hlk X50 ⟨q53, F57, (R_of q55 rfl), (fun h => by exfalso; omega), (by rw [((q54 131 4 (by decide)).trans z4)]; exact R_of r5 rfl), (by rw [((q54 131 11 (by decide)).trans z7)]; exact R_of r8 rfl), (by have h1_0 := congrArg Int32.toInt ((q54 131 4 (by decide)).trans z4); have h2_0 := congrArg Int32.toInt z4; omega), (fun h => by exfalso; omega), (QM_b (tSgn_b (fun h => p45 ⟨h.1, by have q := h.2; omega⟩)) (by omega) (by rw [q56.1]; omega) (by rw [q56.2]; exact MG_at hR))⟩ (nr_bool (R_of (lo := 0) (hi := 1) q55 rfl)) dX12_sign_13
def po_X12_takes_t (τ : Tau)  (a0 a1 : Int32)  (bb : Nat → Int) (nb : Nat) (an mn : List (List Int)) (t : Tk) (r : Int32) (u : Tau) : Prop := Inv u ∧ Fr [(131, 15), (131, 16), (131, 4), (131, 11), (131, 12), (131, 13), (131, 14), (131, 18)] [331] τ u ∧ R (0) (1) r ∧ (r.toInt = 1 → R (0) (9) (u 131 18) ∧ R (0) (0) (u 131 15)) ∧ R (0) (940) (u 131 4) ∧ R (0) (4) (u 131 11) ∧ (τ 131 4).toInt ≤ (u 131 4).toInt ∧ (r.toInt = 1 → (τ 131 11).toInt = 2) ∧ QM (tNum bb nb 400 0 9 t) r u (fun g => (u 131 18).toInt = g.1 ∧ MG bb nb 400 an mn u g.2)
set_option maxHeartbeats 4000000 in
set_option maxRecDepth 100000 in
theorem c_X12_takes_t (l : Launch) (G : Gx) (τ : Tau) (hI : Inv τ) (a0 : Int32) (a1 : Int32) (h_a0 : R (0) (0) a0) (h_a1 : R (9) (9) a1) (hf_0 : R (0) (0) (τ 131 15)) (bb : Nat → Int) (nb : Nat) (an mn : List (List Int)) (t : Tk) (hR : MG bb nb 400 an mn τ t) : Ci l G yX12_takes cX12_takes 3 (some .boolean) 2 43 [.ref (G.2.2.2.1 131), .int a0, .int a1] τ (po_X12_takes_t τ  a0 a1  bb nb an mn t) := by
  unfold Ci
  refine C_of (own := RX12) (by decide) rfl (Nat.le_of_ble_eq_true rfl) ?_
  intro p e s m below meth c ls S hr hlk X hl
  have hl : lv_has ls 3 [(0, .ref (G.2.2.2.1 131)), (1, .int a0), (2, .int a1)] := hl
  obtain ⟨v1, z2⟩ : ∃ x, τ 131 15 = x := ⟨_, rfl⟩
  rw [z2] at hf_0
  obtain ⟨v3, z4⟩ : ∃ x, τ 131 4 = x := ⟨_, rfl⟩
  have r5 : R (0) (940) v3 := rd hI rfl z4
  obtain ⟨v6, z7⟩ : ∃ x, τ 131 11 = x := ⟨_, rfl⟩
  have r8 : R (0) (4) v6 := rd hI rfl z7
  refine r_aload_n S dX12_takes_0 rfl (lv_at hl 0 rfl) ?_
  refine r_geti (K := 38) S X (Nat.le_of_ble_eq_true rfl) rfl lk12_157_10 (fun _ => ⟨_, rfl, rfl⟩) z7 dX12_takes_1 ?_
  refine r_iconst S dX12_takes_4 (by decide) (fun v9 z10 => ?_)
  have r11 := R_eq z10
  refine r_icmp_eq (tgt := 14) S dX12_takes_5 (by decide) (fun c12 => ?_) (fun c12 => ?_)
  ·
    have r13 : R (2) (2) v6 := ⟨by omega, by omega⟩
    refine r_aload_n S dX12_takes_14 rfl (lv_at hl 0 rfl) ?_
    refine r_getn (K := 38) S X (Nat.le_of_ble_eq_true rfl) rfl lk12_167_10 (fun _ => ⟨_, rfl, rfl⟩) dX12_takes_15 (fun v14 z15 => ?_)
    have r17 := R_any v14
    refine r_iload_n S dX12_takes_18 rfl (lv_at hl 1 rfl) ?_
    refine r_iload_n S dX12_takes_19 rfl (lv_at hl 2 rfl) ?_
    refine r_ki (q_S (As := [.int v14, .int a0, .int a1]) (rest := []) S X (c_X12_isIn_q l G τ hI v14 a0 a1 r17 (R_of (lo := -2147483648) (hi := 2147483647) h_a0 rfl) (R_of (lo := -2147483648) (hi := 2147483647) h_a1 rfl)) ck12_189 ⟨Nat.le_of_ble_eq_true rfl, Nat.le_of_ble_eq_true rfl⟩ rfl hl.1 rfl (Nat.le_of_ble_eq_true rfl) dX12_takes_20 ⟨Nat.le_refl 0, Nat.le_refl 0⟩) X (fun v21 t20 H lc q18 X19 => ?_)
    unfold po_X12_isIn_q at q18
    obtain ⟨q22, q23, q24⟩ := q18
    rw [q22] at X19
    refine r_if_ne (tgt := 32) S dX12_takes_23 (by decide) (fun c25 => ?_) (fun c25 => ?_)
    ·
      have r26 : R (1) (1) v21 := ⟨by omega, by omega⟩
      refine r_aload_n S dX12_takes_32 rfl (lv_at hl 0 rfl) ?_
      refine r_aload_n S dX12_takes_33 rfl (lv_at hl 0 rfl) ?_
      refine r_geti (K := 38) S X19 (Nat.le_of_ble_eq_true rfl) rfl lk12_167_10 (fun _ => ⟨_, rfl, rfl⟩) z15 dX12_takes_34 ?_
      refine r_put (K := 38) (ty := .int) S X19 (Nat.le_of_ble_eq_true rfl) rfl lk12_193_10 (fun _ => ⟨_, rfl, Nat.le_of_ble_eq_true rfl, rfl⟩) (fun _ _ _ h => by cases h; exact ⟨rfl, rfl⟩) rfl rfl dX12_takes_37 (fun t27 H lc M28 X29 => ?_)
      have I30 := Inv_mu hI M28 (R_any v14)
      have F31 : Fr [(131, 15), (131, 16), (131, 4), (131, 11), (131, 12), (131, 13), (131, 14), (131, 18)] [331] τ t27 := Fr_mu Fr_rfl M28 (by decide)
      refine r_aload_n S dX12_takes_40 rfl (lv_at hl 0 rfl) ?_
      refine r_kv (q_V (As := []) (rest := []) (K := 38) (ci := 10) S X29 (c_X12_skip_q l G t27 I30 bb nb 400 t.2.2 (MT_st (MG_fr hR ((M28.2 131 3 (Or.inr (by decide))).trans rfl) ((M28.2 131 4 (Or.inr (by decide))).trans rfl) ((M28.2 131 5 (Or.inr (by decide))).trans rfl) ((M28.2 131 11 (Or.inr (by decide))).trans rfl) ((M28.2 131 12 (Or.inr (by decide))).trans rfl) ((M28.2 131 14 (Or.inr (by decide))).trans rfl) (fun j => ((M28.2 132 j (Or.inl (by decide))).trans rfl)) (fun j => ((M28.2 331 j (Or.inl (by decide))).trans rfl)) ((M28.2 133 0 (Or.inl (by decide))).trans rfl) ((M28.2 133 1 (Or.inl (by decide))).trans rfl) (fun j => ((M28.2 336 j (Or.inl (by decide))).trans rfl)) (fun j => ((M28.2 337 j (Or.inl (by decide))).trans rfl))).1 (Or.inr (Or.inl (show t.1 = 2 by have q := MT_k hR.1; rw [z7] at q; omega)))).1 (MT_st (MG_fr hR ((M28.2 131 3 (Or.inr (by decide))).trans rfl) ((M28.2 131 4 (Or.inr (by decide))).trans rfl) ((M28.2 131 5 (Or.inr (by decide))).trans rfl) ((M28.2 131 11 (Or.inr (by decide))).trans rfl) ((M28.2 131 12 (Or.inr (by decide))).trans rfl) ((M28.2 131 14 (Or.inr (by decide))).trans rfl) (fun j => ((M28.2 132 j (Or.inl (by decide))).trans rfl)) (fun j => ((M28.2 331 j (Or.inl (by decide))).trans rfl)) ((M28.2 133 0 (Or.inl (by decide))).trans rfl) ((M28.2 133 1 (Or.inl (by decide))).trans rfl) (fun j => ((M28.2 336 j (Or.inl (by decide))).trans rfl)) (fun j => ((M28.2 337 j (Or.inl (by decide))).trans rfl))).1 (Or.inr (Or.inl (show t.1 = 2 by have q := MT_k hR.1; rw [z7] at q; omega)))).2.1 (MT_st (MG_fr hR ((M28.2 131 3 (Or.inr (by decide))).trans rfl) ((M28.2 131 4 (Or.inr (by decide))).trans rfl) ((M28.2 131 5 (Or.inr (by decide))).trans rfl) ((M28.2 131 11 (Or.inr (by decide))).trans rfl) ((M28.2 131 12 (Or.inr (by decide))).trans rfl) ((M28.2 131 14 (Or.inr (by decide))).trans rfl) (fun j => ((M28.2 132 j (Or.inl (by decide))).trans rfl)) (fun j => ((M28.2 331 j (Or.inl (by decide))).trans rfl)) ((M28.2 133 0 (Or.inl (by decide))).trans rfl) ((M28.2 133 1 (Or.inl (by decide))).trans rfl) (fun j => ((M28.2 336 j (Or.inl (by decide))).trans rfl)) (fun j => ((M28.2 337 j (Or.inl (by decide))).trans rfl))).1 (Or.inr (Or.inl (show t.1 = 2 by have q := MT_k hR.1; rw [z7] at q; omega)))).2.2) ck12_186 (Nat.le_of_ble_eq_true rfl) rfl (fun _ => ⟨_, rfl⟩) ⟨_, _, rfl⟩ ⟨Nat.le_of_ble_eq_true rfl, Nat.le_of_ble_eq_true rfl⟩ rfl hl.1 rfl (Nat.le_of_ble_eq_true rfl) dX12_takes_41 ⟨Nat.le_refl 0, Nat.le_refl 0⟩) X29 (fun t34 H lc q32 X33 => ?_)
      unfold po_X12_skip_q at q32
      obtain ⟨q35, q36, q37, q38, q39, q40, q41⟩ := q32
      have F42 : Fr [(131, 15), (131, 16), (131, 4), (131, 11), (131, 12), (131, 13), (131, 14), (131, 18)] [331] τ t34 := Fr_call F31 q36 (by decide)
      obtain ⟨v43, z44⟩ : ∃ x, t34 131 4 = x := ⟨_, rfl⟩
      rw [z44] at q37
      obtain ⟨v45, z46⟩ : ∃ x, t34 131 11 = x := ⟨_, rfl⟩
      rw [z46] at q38
      have e47 := congrArg Int32.toInt ((M28.2 131 4 (Or.inr (by decide))).trans z4)
      have e48 := congrArg Int32.toInt z44
      have e49 := congrArg Int32.toInt ((M28.2 131 4 (Or.inr (by decide))).trans z4)
      have e50 := congrArg Int32.toInt z44
      have e51 := congrArg Int32.toInt ((M28.2 131 11 (Or.inr (by decide))).trans z7)
      have e52 := congrArg Int32.toInt z46
      have hR53 : MG bb nb 400 an mn t34 (nx bb nb 400 t) := ⟨q41, NR_fr hR.2 ((q36 133 0 (by decide)).trans ((M28.2 133 0 (Or.inl (by decide))).trans rfl)) ((q36 133 1 (by decide)).trans ((M28.2 133 1 (Or.inl (by decide))).trans rfl)) (fun j => ((q36 336 j (by simp [fz])).trans ((M28.2 336 j (Or.inl (by decide))).trans rfl))) (fun j => ((q36 337 j (by simp [fz])).trans ((M28.2 337 j (Or.inl (by decide))).trans rfl)))⟩
      refine r_iconst S dX12_takes_44 (by decide) (fun v54 z55 => ?_)
      have r56 := R_eq z55
      exact r_ret S hr hlk X33 ⟨q35, F42, (R_of r56 rfl), (fun h => ⟨(by rw [((q36 131 18 (by decide)).trans M28.1)]; exact ⟨by omega, by omega⟩), (by rw [((q36 131 15 (by decide)).trans ((M28.2 131 15 (Or.inr (by decide))).trans z2))]; exact R_of hf_0 rfl)⟩), (by rw [z44]; exact R_of q37 rfl), (by rw [z46]; exact R_of q38 rfl), (by have h1_0 := congrArg Int32.toInt z44; have h2_0 := congrArg Int32.toInt z4; omega), (by have h1_0 := congrArg Int32.toInt z46; have h2_0 := congrArg Int32.toInt z7; omega), (QM_r (tNum_g (show t.1 = 2 by have q := MT_k hR.1; rw [z7] at q; omega) (by rw [← MT_nm hR.1 (show t.1 = 2 by have q := MT_k hR.1; rw [z7] at q; omega), z15]; omega)) (by omega) ⟨show (t34 131 18).toInt = nbr bb t by rw [((q36 131 18 (by decide)).trans M28.1), ← MT_nm hR.1 (show t.1 = 2 by have q := MT_k hR.1; rw [z7] at q; omega), z15], hR53⟩)⟩ (nr_bool (R_of (lo := 0) (hi := 1) r56 rfl)) dX12_takes_45
    ·
      have r57 : R (0) (0) v21 := ⟨by omega, by omega⟩
      refine r_aload_n S dX12_takes_26 rfl (lv_at hl 0 rfl) ?_
      refine r_iconst S dX12_takes_27 (by decide) (fun v58 z59 => ?_)
      have r60 := R_eq z59
      refine r_ki (q_V (As := [.int v58]) (rest := []) (K := 38) (ci := 10) S X19 (c_X12_bad_q l G τ hI v58 (R_of (lo := -2147483648) (hi := 2147483647) r60 rfl)) ck12_183 (Nat.le_of_ble_eq_true rfl) rfl (fun _ => ⟨_, rfl⟩) ⟨_, _, rfl⟩ ⟨Nat.le_of_ble_eq_true rfl, Nat.le_of_ble_eq_true rfl⟩ rfl hl.1 rfl (Nat.le_of_ble_eq_true rfl) dX12_takes_28 ⟨Nat.le_refl 0, Nat.le_refl 0⟩) X19 (fun v64 t63 H lc q61 X62 => ?_)
      unfold po_X12_bad_q at q61
      obtain ⟨q65, q66, q67, q68⟩ := q61
      have F69 : Fr [(131, 15), (131, 16), (131, 4), (131, 11), (131, 12), (131, 13), (131, 14), (131, 18)] [331] τ t63 := Fr_call Fr_rfl q66 (by decide)
      exact r_ret S hr hlk X62 ⟨q65, F69, (R_of q67 rfl), (fun h => by exfalso; omega), (by rw [((q66 131 4 (by decide)).trans z4)]; exact R_of r5 rfl), (by rw [((q66 131 11 (by decide)).trans z7)]; exact R_of r13 rfl), (by have h1_0 := congrArg Int32.toInt ((q66 131 4 (by decide)).trans z4); have h2_0 := congrArg Int32.toInt z4; omega), (by have h1_0 := congrArg Int32.toInt ((q66 131 11 (by decide)).trans z7); have h2_0 := congrArg Int32.toInt z7; omega), (QM_b (tNum_b2 (show t.1 = 2 by have q := MT_k hR.1; rw [z7] at q; omega) (by rw [← MT_nm hR.1 (show t.1 = 2 by have q := MT_k hR.1; rw [z7] at q; omega), z15]; omega)) (by omega) (by rw [q68.1]; omega) (by rw [q68.2]; exact MG_at hR))⟩ (nr_bool (R_of (lo := 0) (hi := 1) q67 rfl)) dX12_takes_31
  ·
    refine r_aload_n S dX12_takes_8 rfl (lv_at hl 0 rfl) ?_
    refine r_iconst S dX12_takes_9 (by decide) (fun v70 z71 => ?_)
    have r72 := R_eq z71
    refine r_ki (q_V (As := [.int v70]) (rest := []) (K := 38) (ci := 10) S X (c_X12_bad_q l G τ hI v70 (R_of (lo := -2147483648) (hi := 2147483647) r72 rfl)) ck12_183 (Nat.le_of_ble_eq_true rfl) rfl (fun _ => ⟨_, rfl⟩) ⟨_, _, rfl⟩ ⟨Nat.le_of_ble_eq_true rfl, Nat.le_of_ble_eq_true rfl⟩ rfl hl.1 rfl (Nat.le_of_ble_eq_true rfl) dX12_takes_10 ⟨Nat.le_refl 0, Nat.le_refl 0⟩) X (fun v76 t75 H lc q73 X74 => ?_)
    unfold po_X12_bad_q at q73
    obtain ⟨q77, q78, q79, q80⟩ := q73
    have F81 : Fr [(131, 15), (131, 16), (131, 4), (131, 11), (131, 12), (131, 13), (131, 14), (131, 18)] [331] τ t75 := Fr_call Fr_rfl q78 (by decide)
    exact r_ret S hr hlk X74 ⟨q77, F81, (R_of q79 rfl), (fun h => by exfalso; omega), (by rw [((q78 131 4 (by decide)).trans z4)]; exact R_of r5 rfl), (by rw [((q78 131 11 (by decide)).trans z7)]; exact R_of r8 rfl), (by have h1_0 := congrArg Int32.toInt ((q78 131 4 (by decide)).trans z4); have h2_0 := congrArg Int32.toInt z4; omega), (by have h1_0 := congrArg Int32.toInt ((q78 131 11 (by decide)).trans z7); have h2_0 := congrArg Int32.toInt z7; omega), (QM_b (tNum_b1 (by have q := MT_k hR.1; rw [z7] at q; omega)) (by omega) (by rw [q80.1]; omega) (by rw [q80.2]; exact MG_at hR))⟩ (nr_bool (R_of (lo := 0) (hi := 1) q79 rfl)) dX12_takes_13
def po_X12_looksAt_ta (τ : Tau)  (a0 a1 : Int32)  (bb : Nat → Int) (nb : Nat) (an mn : List (List Int)) (t : Tk) (r : Int32) (u : Tau) : Prop := Inv u ∧ Fr [(131, 15), (131, 16), (131, 18)] [] τ u ∧ R (0) (1) r ∧ (r.toInt = 1 → R (0) (8) (u 131 18) ∧ R (0) (0) (u 131 15)) ∧ (r.toInt = 1 → (τ 131 11).toInt = 1) ∧ QM (sLook bb an t) r u (fun i => (u 131 18).toInt = i ∧ MG bb nb 400 an mn u t)
set_option maxHeartbeats 4000000 in
set_option maxRecDepth 100000 in
theorem c_X12_looksAt_ta (l : Launch) (G : Gx) (τ : Tau) (hI : Inv τ) (a0 : Int32) (a1 : Int32) (h_a0 : R (0) (0) a0) (h_a1 : R (0) (9) a1) (hf_0 : R (0) (0) (τ 131 15)) (bb : Nat → Int) (nb : Nat) (an mn : List (List Int)) (t : Tk) (hR : MG bb nb 400 an mn τ t) (hA : a1.toInt = an.length) : Ci l G yX12_looksAt cX12_looksAt 3 (some .boolean) 1 23 [.ref (G.2.2.2.1 131), .int a0, .int a1] τ (po_X12_looksAt_ta τ  a0 a1  bb nb an mn t) := by
  unfold Ci
  refine C_of (own := RX12) (by decide) rfl (Nat.le_of_ble_eq_true rfl) ?_
  intro p e s m below meth c ls S hr hlk X hl
  have hl : lv_has ls 3 [(0, .ref (G.2.2.2.1 131)), (1, .int a0), (2, .int a1)] := hl
  obtain ⟨v1, z2⟩ : ∃ x, τ 131 15 = x := ⟨_, rfl⟩
  rw [z2] at hf_0
  obtain ⟨v3, z4⟩ : ∃ x, τ 131 11 = x := ⟨_, rfl⟩
  have r5 : R (0) (4) v3 := rd hI rfl z4
  refine r_aload_n S dX12_looksAt_0 rfl (lv_at hl 0 rfl) ?_
  refine r_ki (q_V (As := []) (rest := []) (K := 38) (ci := 10) S X (c_X12_isName_q l G τ hI bb nb 400 t hR.1 hR.2.2.2) ck12_196 (Nat.le_of_ble_eq_true rfl) rfl (fun _ => ⟨_, rfl⟩) ⟨_, _, rfl⟩ ⟨Nat.le_of_ble_eq_true rfl, Nat.le_of_ble_eq_true rfl⟩ rfl hl.1 rfl (Nat.le_of_ble_eq_true rfl) dX12_looksAt_1 ⟨Nat.le_refl 0, Nat.le_refl 0⟩) X (fun v9 t8 H lc q6 X7 => ?_)
  unfold po_X12_isName_q at q6
  obtain ⟨q10, q11, q12⟩ := q6
  rw [q10] at X7
  refine r_if_ne (tgt := 13) S dX12_looksAt_4 (by decide) (fun c13 => ?_) (fun c13 => ?_)
  ·
    have r14 : R (1) (1) v9 := ⟨by omega, by omega⟩
    have p15 := (q12).mp (by omega)
    refine r_aload_n S dX12_looksAt_13 rfl (lv_at hl 0 rfl) ?_
    refine r_aload_n S dX12_looksAt_14 rfl (lv_at hl 0 rfl) ?_
    refine r_iload_n S dX12_looksAt_15 rfl (lv_at hl 1 rfl) ?_
    refine r_iload_n S dX12_looksAt_16 rfl (lv_at hl 2 rfl) ?_
    refine r_ki (q_V (As := [.int a0, .int a1]) (rest := [.ref (G.2.2.2.1 131)]) (K := 38) (ci := 10) S X7 (c_X12_find_wa l G τ hI a0 a1 h_a0 h_a1 an (wrd bb t) hA hR.2.1.2.1 hR.2.1.2.2 (MT_low hR.1 (p15).1).2 (MT_low hR.1 (p15).1).1) ck12_200 (Nat.le_of_ble_eq_true rfl) rfl (fun _ => ⟨_, rfl⟩) ⟨_, _, rfl⟩ ⟨Nat.le_of_ble_eq_true rfl, Nat.le_of_ble_eq_true rfl⟩ rfl hl.1 rfl (Nat.le_of_ble_eq_true rfl) dX12_looksAt_17 ⟨Nat.le_refl 0, Nat.le_refl 0⟩) X7 (fun v19 t18 H lc q16 X17 => ?_)
    unfold po_X12_find_wa at q16
    obtain ⟨q20, q21, q22⟩ := q16
    rw [q20] at X17
    refine r_put (K := 38) (ty := .int) S X17 (Nat.le_of_ble_eq_true rfl) rfl lk12_193_10 (fun _ => ⟨_, rfl, Nat.le_of_ble_eq_true rfl, rfl⟩) (fun _ _ _ h => by cases h; exact ⟨rfl, rfl⟩) rfl rfl dX12_looksAt_20 (fun t23 H lc M24 X25 => ?_)
    have I26 := Inv_mu hI M24 (R_any v19)
    have F27 : Fr [(131, 15), (131, 16), (131, 18)] [] τ t23 := Fr_mu Fr_rfl M24 (by decide)
    refine r_aload_n S dX12_looksAt_23 rfl (lv_at hl 0 rfl) ?_
    refine r_geti (K := 38) S X25 (Nat.le_of_ble_eq_true rfl) rfl lk12_193_10 (fun _ => ⟨_, rfl, rfl⟩) M24.1 dX12_looksAt_24 ?_
    refine r_if_ge (tgt := 38) S dX12_looksAt_27 (by decide) (fun c28 => ?_) (fun c28 => ?_)
    ·
      have r29 : R (0) (8) v19 := ⟨by omega, by omega⟩
      refine r_iconst S dX12_looksAt_38 (by decide) (fun v30 z31 => ?_)
      have r32 := R_eq z31
      refine r_goto (tgt := 43) S dX12_looksAt_39 (by decide) ?_
      exact r_ret S hr hlk X25 ⟨I26, F27, (R_of r32 rfl), (fun h => ⟨(by rw [M24.1]; exact R_of r29 rfl), (by rw [((M24.2 131 15 (Or.inr (by decide))).trans z2)]; exact R_of hf_0 rfl)⟩), (fun _ => by rw [MT_k hR.1, (p15).1]; rfl), (QM_r (sLook_g p15 (by rw [← q22]; omega)) (by omega) ⟨show (t23 131 18).toInt = (((fnd an (wrd bb t)).toNat : Nat) : Int) by rw [M24.1, ← q22]; omega, (MG_fr hR ((M24.2 131 3 (Or.inr (by decide))).trans rfl) ((M24.2 131 4 (Or.inr (by decide))).trans rfl) ((M24.2 131 5 (Or.inr (by decide))).trans rfl) ((M24.2 131 11 (Or.inr (by decide))).trans rfl) ((M24.2 131 12 (Or.inr (by decide))).trans rfl) ((M24.2 131 14 (Or.inr (by decide))).trans rfl) (fun j => ((M24.2 132 j (Or.inl (by decide))).trans rfl)) (fun j => ((M24.2 331 j (Or.inl (by decide))).trans rfl)) ((M24.2 133 0 (Or.inl (by decide))).trans rfl) ((M24.2 133 1 (Or.inl (by decide))).trans rfl) (fun j => ((M24.2 336 j (Or.inl (by decide))).trans rfl)) (fun j => ((M24.2 337 j (Or.inl (by decide))).trans rfl)))⟩)⟩ (nr_bool (R_of (lo := 0) (hi := 1) r32 rfl)) dX12_looksAt_43
    ·
      have r33 : R (-1) (-1) v19 := ⟨by omega, by omega⟩
      refine r_aload_n S dX12_looksAt_30 rfl (lv_at hl 0 rfl) ?_
      refine r_iconst S dX12_looksAt_31 (by decide) (fun v34 z35 => ?_)
      have r36 := R_eq z35
      refine r_ki (q_V (As := [.int v34]) (rest := []) (K := 38) (ci := 10) S X25 (c_X12_bad_q l G t23 I26 v34 (R_of (lo := -2147483648) (hi := 2147483647) r36 rfl)) ck12_183 (Nat.le_of_ble_eq_true rfl) rfl (fun _ => ⟨_, rfl⟩) ⟨_, _, rfl⟩ ⟨Nat.le_of_ble_eq_true rfl, Nat.le_of_ble_eq_true rfl⟩ rfl hl.1 rfl (Nat.le_of_ble_eq_true rfl) dX12_looksAt_32 ⟨Nat.le_refl 0, Nat.le_refl 0⟩) X25 (fun v40 t39 H lc q37 X38 => ?_)
      unfold po_X12_bad_q at q37
      obtain ⟨q41, q42, q43, q44⟩ := q37
      have F45 : Fr [(131, 15), (131, 16), (131, 18)] [] τ t39 := Fr_call F27 q42 (by decide)
      refine r_if_eq (tgt := 42) S dX12_looksAt_35 (by decide) (fun c46 => ?_) (fun c46 => ?_)
      ·
        refine r_iconst S dX12_looksAt_42 (by decide) (fun v47 z48 => ?_)
        have r49 := R_eq z48
        exact r_ret S hr hlk X38 ⟨q41, F45, (R_of r49 rfl), (fun h => by exfalso; omega), (fun h => by exfalso; omega), (QM_b (sLook_b3 p15 (by rw [← q22]; omega)) (by omega) (by rw [q44.1]; omega) (by rw [q44.2]; exact MG_at (MG_fr hR ((M24.2 131 3 (Or.inr (by decide))).trans rfl) ((M24.2 131 4 (Or.inr (by decide))).trans rfl) ((M24.2 131 5 (Or.inr (by decide))).trans rfl) ((M24.2 131 11 (Or.inr (by decide))).trans rfl) ((M24.2 131 12 (Or.inr (by decide))).trans rfl) ((M24.2 131 14 (Or.inr (by decide))).trans rfl) (fun j => ((M24.2 132 j (Or.inl (by decide))).trans rfl)) (fun j => ((M24.2 331 j (Or.inl (by decide))).trans rfl)) ((M24.2 133 0 (Or.inl (by decide))).trans rfl) ((M24.2 133 1 (Or.inl (by decide))).trans rfl) (fun j => ((M24.2 336 j (Or.inl (by decide))).trans rfl)) (fun j => ((M24.2 337 j (Or.inl (by decide))).trans rfl)))))⟩ (nr_bool (R_of (lo := 0) (hi := 1) r49 rfl)) dX12_looksAt_43
      ·
        exfalso; omega
  ·
    have r50 : R (0) (0) v9 := ⟨by omega, by omega⟩
    have p51 := (iff_n q12) (by omega)
    refine r_aload_n S dX12_looksAt_7 rfl (lv_at hl 0 rfl) ?_
    refine r_iconst S dX12_looksAt_8 (by decide) (fun v52 z53 => ?_)
    have r54 := R_eq z53
    refine r_ki (q_V (As := [.int v52]) (rest := []) (K := 38) (ci := 10) S X7 (c_X12_bad_q l G τ hI v52 (R_of (lo := -2147483648) (hi := 2147483647) r54 rfl)) ck12_183 (Nat.le_of_ble_eq_true rfl) rfl (fun _ => ⟨_, rfl⟩) ⟨_, _, rfl⟩ ⟨Nat.le_of_ble_eq_true rfl, Nat.le_of_ble_eq_true rfl⟩ rfl hl.1 rfl (Nat.le_of_ble_eq_true rfl) dX12_looksAt_9 ⟨Nat.le_refl 0, Nat.le_refl 0⟩) X7 (fun v58 t57 H lc q55 X56 => ?_)
    unfold po_X12_bad_q at q55
    obtain ⟨q59, q60, q61, q62⟩ := q55
    have F63 : Fr [(131, 15), (131, 16), (131, 18)] [] τ t57 := Fr_call Fr_rfl q60 (by decide)
    exact r_ret S hr hlk X56 ⟨q59, F63, (R_of q61 rfl), (fun h => by exfalso; omega), (fun h => by exfalso; omega), (QM_b (sLook_b1 p51) (by omega) (by rw [q62.1]; omega) (by rw [q62.2]; exact MG_at hR))⟩ (nr_bool (R_of (lo := 0) (hi := 1) q61 rfl)) dX12_looksAt_12
def po_X12_takesName_ta (τ : Tau)  (a0 a1 : Int32)  (bb : Nat → Int) (nb : Nat) (an mn : List (List Int)) (t : Tk) (r : Int32) (u : Tau) : Prop := Inv u ∧ Fr [(131, 15), (131, 16), (131, 4), (131, 11), (131, 12), (131, 13), (131, 14), (131, 18)] [331] τ u ∧ R (0) (1) r ∧ (r.toInt = 1 → R (0) (8) (u 131 18) ∧ R (0) (0) (u 131 15)) ∧ R (0) (940) (u 131 4) ∧ R (0) (4) (u 131 11) ∧ (τ 131 4).toInt ≤ (u 131 4).toInt ∧ (r.toInt = 1 → (τ 131 11).toInt = 1) ∧ QM (lNm bb nb 400 an t) r u (fun g => MG bb nb 400 an mn u g)
set_option maxHeartbeats 4000000 in
set_option maxRecDepth 100000 in
theorem c_X12_takesName_ta (l : Launch) (G : Gx) (τ : Tau) (hI : Inv τ) (a0 : Int32) (a1 : Int32) (h_a0 : R (0) (0) a0) (h_a1 : R (0) (9) a1) (hf_0 : R (0) (0) (τ 131 15)) (bb : Nat → Int) (nb : Nat) (an mn : List (List Int)) (t : Tk) (hR : MG bb nb 400 an mn τ t) (hA : a1.toInt = an.length) : Ci l G yX12_takesName cX12_takesName 3 (some .boolean) 2 45 [.ref (G.2.2.2.1 131), .int a0, .int a1] τ (po_X12_takesName_ta τ  a0 a1  bb nb an mn t) := by
  unfold Ci
  refine C_of (own := RX12) (by decide) rfl (Nat.le_of_ble_eq_true rfl) ?_
  intro p e s m below meth c ls S hr hlk X hl
  have hl : lv_has ls 3 [(0, .ref (G.2.2.2.1 131)), (1, .int a0), (2, .int a1)] := hl
  obtain ⟨v1, z2⟩ : ∃ x, τ 131 15 = x := ⟨_, rfl⟩
  rw [z2] at hf_0
  obtain ⟨v3, z4⟩ : ∃ x, τ 131 4 = x := ⟨_, rfl⟩
  have r5 : R (0) (940) v3 := rd hI rfl z4
  obtain ⟨v6, z7⟩ : ∃ x, τ 131 11 = x := ⟨_, rfl⟩
  have r8 : R (0) (4) v6 := rd hI rfl z7
  refine r_aload_n S dX12_takesName_0 rfl (lv_at hl 0 rfl) ?_
  refine r_iload_n S dX12_takesName_1 rfl (lv_at hl 1 rfl) ?_
  refine r_iload_n S dX12_takesName_2 rfl (lv_at hl 2 rfl) ?_
  refine r_ki (q_V (As := [.int a0, .int a1]) (rest := []) (K := 38) (ci := 10) S X (c_X12_looksAt_ta l G τ hI a0 a1 h_a0 h_a1 (by rw [z2]; exact R_of hf_0 rfl) bb nb an mn t hR hA) ck12_204 (Nat.le_of_ble_eq_true rfl) rfl (fun _ => ⟨_, rfl⟩) ⟨_, _, rfl⟩ ⟨Nat.le_of_ble_eq_true rfl, Nat.le_of_ble_eq_true rfl⟩ rfl hl.1 rfl (Nat.le_of_ble_eq_true rfl) dX12_takesName_3 ⟨Nat.le_refl 0, Nat.le_refl 0⟩) X (fun v12 t11 H lc q9 X10 => ?_)
  unfold po_X12_looksAt_ta at q9
  obtain ⟨q13, q14, q15, q16, q17, q18⟩ := q9
  have F19 : Fr [(131, 15), (131, 16), (131, 4), (131, 11), (131, 12), (131, 13), (131, 14), (131, 18)] [331] τ t11 := Fr_call Fr_rfl q14 (by decide)
  have e20 := congrArg Int32.toInt z7
  have e21 := congrArg Int32.toInt ((q14 131 11 (by decide)).trans z7)
  refine r_if_ne (tgt := 11) S dX12_takesName_6 (by decide) (fun c22 => ?_) (fun c22 => ?_)
  ·
    have r23 : R (1) (1) v12 := ⟨by omega, by omega⟩
    obtain ⟨p24, p25⟩ := q16 (by omega)
    obtain ⟨v26, z27⟩ : ∃ x, t11 131 18 = x := ⟨_, rfl⟩
    rw [z27] at p24
    obtain ⟨v28, z29⟩ : ∃ x, t11 131 15 = x := ⟨_, rfl⟩
    rw [z29] at p25
    have p30 := (QM_1 q18) (by omega)
    obtain ⟨g31, e32, hP33⟩ := p30
    refine r_aload_n S dX12_takesName_11 rfl (lv_at hl 0 rfl) ?_
    refine r_kv (q_V (As := []) (rest := []) (K := 38) (ci := 10) S X10 (c_X12_skip_q l G t11 q13 bb nb 400 t.2.2 (MT_st hP33.2.1 (Or.inl (sLook_n e32).1)).1 (MT_st hP33.2.1 (Or.inl (sLook_n e32).1)).2.1 (MT_st hP33.2.1 (Or.inl (sLook_n e32).1)).2.2) ck12_186 (Nat.le_of_ble_eq_true rfl) rfl (fun _ => ⟨_, rfl⟩) ⟨_, _, rfl⟩ ⟨Nat.le_of_ble_eq_true rfl, Nat.le_of_ble_eq_true rfl⟩ rfl hl.1 rfl (Nat.le_of_ble_eq_true rfl) dX12_takesName_12 ⟨Nat.le_refl 0, Nat.le_refl 0⟩) X10 (fun t36 H lc q34 X35 => ?_)
    unfold po_X12_skip_q at q34
    obtain ⟨q37, q38, q39, q40, q41, q42, q43⟩ := q34
    have F44 : Fr [(131, 15), (131, 16), (131, 4), (131, 11), (131, 12), (131, 13), (131, 14), (131, 18)] [331] τ t36 := Fr_call F19 q38 (by decide)
    obtain ⟨v45, z46⟩ : ∃ x, t36 131 4 = x := ⟨_, rfl⟩
    rw [z46] at q39
    obtain ⟨v47, z48⟩ : ∃ x, t36 131 11 = x := ⟨_, rfl⟩
    rw [z48] at q40
    have e49 := congrArg Int32.toInt ((q14 131 4 (by decide)).trans z4)
    have e50 := congrArg Int32.toInt z46
    have e51 := congrArg Int32.toInt ((q14 131 4 (by decide)).trans z4)
    have e52 := congrArg Int32.toInt z46
    have e53 := congrArg Int32.toInt ((q14 131 11 (by decide)).trans z7)
    have e54 := congrArg Int32.toInt z48
    have hR55 : MG bb nb 400 an mn t36 (nx bb nb 400 t) := ⟨q43, NR_fr hP33.2.2 ((q38 133 0 (by decide)).trans rfl) ((q38 133 1 (by decide)).trans rfl) (fun j => ((q38 336 j (by simp [fz])).trans rfl)) (fun j => ((q38 337 j (by simp [fz])).trans rfl))⟩
    refine r_iconst S dX12_takesName_15 (by decide) (fun v56 z57 => ?_)
    have r58 := R_eq z57
    exact r_ret S hr hlk X35 ⟨q37, F44, (R_of r58 rfl), (fun h => ⟨(by rw [((q38 131 18 (by decide)).trans z27)]; exact R_of p24 rfl), (by rw [((q38 131 15 (by decide)).trans z29)]; exact R_of p25 rfl)⟩), (by rw [z46]; exact R_of q39 rfl), (by rw [z48]; exact R_of q40 rfl), (by have h1_0 := congrArg Int32.toInt z46; have h2_0 := congrArg Int32.toInt z4; omega), (by have h1_0 := congrArg Int32.toInt z48; have h2_0 := congrArg Int32.toInt z7; omega), (QM_r (thn_r e32) (by omega) hR55)⟩ (nr_bool (R_of (lo := 0) (hi := 1) r58 rfl)) dX12_takesName_16
  ·
    have r59 : R (0) (0) v12 := ⟨by omega, by omega⟩
    have p60 := (QM_0 q18) (by omega)
    obtain ⟨q61, e62, h63, h64⟩ := p60
    refine r_iconst S dX12_takesName_9 (by decide) (fun v65 z66 => ?_)
    have r67 := R_eq z66
    exact r_ret S hr hlk X10 ⟨q13, F19, (R_of r67 rfl), (fun h => by exfalso; omega), (by rw [((q14 131 4 (by decide)).trans z4)]; exact R_of r5 rfl), (by rw [((q14 131 11 (by decide)).trans z7)]; exact R_of r8 rfl), (by have h1_0 := congrArg Int32.toInt ((q14 131 4 (by decide)).trans z4); have h2_0 := congrArg Int32.toInt z4; omega), (by have h1_0 := congrArg Int32.toInt ((q14 131 11 (by decide)).trans z7); have h2_0 := congrArg Int32.toInt z7; omega), (QM_l (thn_l e62) (by omega) h63 h64)⟩ (nr_bool (R_of (lo := 0) (hi := 1) r67 rfl)) dX12_takesName_10
def po_X12_looksAt_tm (τ : Tau)  (a0 a1 : Int32)  (bb : Nat → Int) (nb : Nat) (an mn : List (List Int)) (t : Tk) (r : Int32) (u : Tau) : Prop := Inv u ∧ Fr [(131, 15), (131, 16), (131, 18)] [] τ u ∧ R (0) (1) r ∧ (r.toInt = 1 → R (0) (9) (u 131 18) ∧ R (0) (0) (u 131 15)) ∧ (r.toInt = 1 → (τ 131 11).toInt = 1) ∧ QM (sLook bb mn t) r u (fun i => (u 131 18).toInt = i ∧ MG bb nb 400 an mn u t)
set_option maxHeartbeats 4000000 in
set_option maxRecDepth 100000 in
theorem c_X12_looksAt_tm (l : Launch) (G : Gx) (τ : Tau) (hI : Inv τ) (a0 : Int32) (a1 : Int32) (h_a0 : R (9) (9) a0) (h_a1 : R (0) (10) a1) (hf_0 : R (0) (0) (τ 131 15)) (bb : Nat → Int) (nb : Nat) (an mn : List (List Int)) (t : Tk) (hR : MG bb nb 400 an mn τ t) (hA : a1.toInt = mn.length) : Ci l G yX12_looksAt cX12_looksAt 3 (some .boolean) 1 23 [.ref (G.2.2.2.1 131), .int a0, .int a1] τ (po_X12_looksAt_tm τ  a0 a1  bb nb an mn t) := by
  unfold Ci
  refine C_of (own := RX12) (by decide) rfl (Nat.le_of_ble_eq_true rfl) ?_
  intro p e s m below meth c ls S hr hlk X hl
  have hl : lv_has ls 3 [(0, .ref (G.2.2.2.1 131)), (1, .int a0), (2, .int a1)] := hl
  obtain ⟨v1, z2⟩ : ∃ x, τ 131 15 = x := ⟨_, rfl⟩
  rw [z2] at hf_0
  obtain ⟨v3, z4⟩ : ∃ x, τ 131 11 = x := ⟨_, rfl⟩
  have r5 : R (0) (4) v3 := rd hI rfl z4
  refine r_aload_n S dX12_looksAt_0 rfl (lv_at hl 0 rfl) ?_
  refine r_ki (q_V (As := []) (rest := []) (K := 38) (ci := 10) S X (c_X12_isName_q l G τ hI bb nb 400 t hR.1 hR.2.2.2) ck12_196 (Nat.le_of_ble_eq_true rfl) rfl (fun _ => ⟨_, rfl⟩) ⟨_, _, rfl⟩ ⟨Nat.le_of_ble_eq_true rfl, Nat.le_of_ble_eq_true rfl⟩ rfl hl.1 rfl (Nat.le_of_ble_eq_true rfl) dX12_looksAt_1 ⟨Nat.le_refl 0, Nat.le_refl 0⟩) X (fun v9 t8 H lc q6 X7 => ?_)
  unfold po_X12_isName_q at q6
  obtain ⟨q10, q11, q12⟩ := q6
  rw [q10] at X7
  refine r_if_ne (tgt := 13) S dX12_looksAt_4 (by decide) (fun c13 => ?_) (fun c13 => ?_)
  ·
    have r14 : R (1) (1) v9 := ⟨by omega, by omega⟩
    have p15 := (q12).mp (by omega)
    refine r_aload_n S dX12_looksAt_13 rfl (lv_at hl 0 rfl) ?_
    refine r_aload_n S dX12_looksAt_14 rfl (lv_at hl 0 rfl) ?_
    refine r_iload_n S dX12_looksAt_15 rfl (lv_at hl 1 rfl) ?_
    refine r_iload_n S dX12_looksAt_16 rfl (lv_at hl 2 rfl) ?_
    refine r_ki (q_V (As := [.int a0, .int a1]) (rest := [.ref (G.2.2.2.1 131)]) (K := 38) (ci := 10) S X7 (c_X12_find_wm l G τ hI a0 a1 h_a0 h_a1 mn (wrd bb t) hA hR.2.2.1.2.1 hR.2.2.1.2.2 (MT_low hR.1 (p15).1).2 (MT_low hR.1 (p15).1).1) ck12_200 (Nat.le_of_ble_eq_true rfl) rfl (fun _ => ⟨_, rfl⟩) ⟨_, _, rfl⟩ ⟨Nat.le_of_ble_eq_true rfl, Nat.le_of_ble_eq_true rfl⟩ rfl hl.1 rfl (Nat.le_of_ble_eq_true rfl) dX12_looksAt_17 ⟨Nat.le_refl 0, Nat.le_refl 0⟩) X7 (fun v19 t18 H lc q16 X17 => ?_)
    unfold po_X12_find_wm at q16
    obtain ⟨q20, q21, q22⟩ := q16
    rw [q20] at X17
    refine r_put (K := 38) (ty := .int) S X17 (Nat.le_of_ble_eq_true rfl) rfl lk12_193_10 (fun _ => ⟨_, rfl, Nat.le_of_ble_eq_true rfl, rfl⟩) (fun _ _ _ h => by cases h; exact ⟨rfl, rfl⟩) rfl rfl dX12_looksAt_20 (fun t23 H lc M24 X25 => ?_)
    have I26 := Inv_mu hI M24 (R_any v19)
    have F27 : Fr [(131, 15), (131, 16), (131, 18)] [] τ t23 := Fr_mu Fr_rfl M24 (by decide)
    refine r_aload_n S dX12_looksAt_23 rfl (lv_at hl 0 rfl) ?_
    refine r_geti (K := 38) S X25 (Nat.le_of_ble_eq_true rfl) rfl lk12_193_10 (fun _ => ⟨_, rfl, rfl⟩) M24.1 dX12_looksAt_24 ?_
    refine r_if_ge (tgt := 38) S dX12_looksAt_27 (by decide) (fun c28 => ?_) (fun c28 => ?_)
    ·
      have r29 : R (0) (9) v19 := ⟨by omega, by omega⟩
      refine r_iconst S dX12_looksAt_38 (by decide) (fun v30 z31 => ?_)
      have r32 := R_eq z31
      refine r_goto (tgt := 43) S dX12_looksAt_39 (by decide) ?_
      exact r_ret S hr hlk X25 ⟨I26, F27, (R_of r32 rfl), (fun h => ⟨(by rw [M24.1]; exact R_of r29 rfl), (by rw [((M24.2 131 15 (Or.inr (by decide))).trans z2)]; exact R_of hf_0 rfl)⟩), (fun _ => by rw [MT_k hR.1, (p15).1]; rfl), (QM_r (sLook_g p15 (by rw [← q22]; omega)) (by omega) ⟨show (t23 131 18).toInt = (((fnd mn (wrd bb t)).toNat : Nat) : Int) by rw [M24.1, ← q22]; omega, (MG_fr hR ((M24.2 131 3 (Or.inr (by decide))).trans rfl) ((M24.2 131 4 (Or.inr (by decide))).trans rfl) ((M24.2 131 5 (Or.inr (by decide))).trans rfl) ((M24.2 131 11 (Or.inr (by decide))).trans rfl) ((M24.2 131 12 (Or.inr (by decide))).trans rfl) ((M24.2 131 14 (Or.inr (by decide))).trans rfl) (fun j => ((M24.2 132 j (Or.inl (by decide))).trans rfl)) (fun j => ((M24.2 331 j (Or.inl (by decide))).trans rfl)) ((M24.2 133 0 (Or.inl (by decide))).trans rfl) ((M24.2 133 1 (Or.inl (by decide))).trans rfl) (fun j => ((M24.2 336 j (Or.inl (by decide))).trans rfl)) (fun j => ((M24.2 337 j (Or.inl (by decide))).trans rfl)))⟩)⟩ (nr_bool (R_of (lo := 0) (hi := 1) r32 rfl)) dX12_looksAt_43
    ·
      have r33 : R (-1) (-1) v19 := ⟨by omega, by omega⟩
      refine r_aload_n S dX12_looksAt_30 rfl (lv_at hl 0 rfl) ?_
      refine r_iconst S dX12_looksAt_31 (by decide) (fun v34 z35 => ?_)
      have r36 := R_eq z35
      refine r_ki (q_V (As := [.int v34]) (rest := []) (K := 38) (ci := 10) S X25 (c_X12_bad_q l G t23 I26 v34 (R_of (lo := -2147483648) (hi := 2147483647) r36 rfl)) ck12_183 (Nat.le_of_ble_eq_true rfl) rfl (fun _ => ⟨_, rfl⟩) ⟨_, _, rfl⟩ ⟨Nat.le_of_ble_eq_true rfl, Nat.le_of_ble_eq_true rfl⟩ rfl hl.1 rfl (Nat.le_of_ble_eq_true rfl) dX12_looksAt_32 ⟨Nat.le_refl 0, Nat.le_refl 0⟩) X25 (fun v40 t39 H lc q37 X38 => ?_)
      unfold po_X12_bad_q at q37
      obtain ⟨q41, q42, q43, q44⟩ := q37
      have F45 : Fr [(131, 15), (131, 16), (131, 18)] [] τ t39 := Fr_call F27 q42 (by decide)
      refine r_if_eq (tgt := 42) S dX12_looksAt_35 (by decide) (fun c46 => ?_) (fun c46 => ?_)
      ·
        refine r_iconst S dX12_looksAt_42 (by decide) (fun v47 z48 => ?_)
        have r49 := R_eq z48
        exact r_ret S hr hlk X38 ⟨q41, F45, (R_of r49 rfl), (fun h => by exfalso; omega), (fun h => by exfalso; omega), (QM_b (sLook_b3 p15 (by rw [← q22]; omega)) (by omega) (by rw [q44.1]; omega) (by rw [q44.2]; exact MG_at (MG_fr hR ((M24.2 131 3 (Or.inr (by decide))).trans rfl) ((M24.2 131 4 (Or.inr (by decide))).trans rfl) ((M24.2 131 5 (Or.inr (by decide))).trans rfl) ((M24.2 131 11 (Or.inr (by decide))).trans rfl) ((M24.2 131 12 (Or.inr (by decide))).trans rfl) ((M24.2 131 14 (Or.inr (by decide))).trans rfl) (fun j => ((M24.2 132 j (Or.inl (by decide))).trans rfl)) (fun j => ((M24.2 331 j (Or.inl (by decide))).trans rfl)) ((M24.2 133 0 (Or.inl (by decide))).trans rfl) ((M24.2 133 1 (Or.inl (by decide))).trans rfl) (fun j => ((M24.2 336 j (Or.inl (by decide))).trans rfl)) (fun j => ((M24.2 337 j (Or.inl (by decide))).trans rfl)))))⟩ (nr_bool (R_of (lo := 0) (hi := 1) r49 rfl)) dX12_looksAt_43
      ·
        exfalso; omega
  ·
    have r50 : R (0) (0) v9 := ⟨by omega, by omega⟩
    have p51 := (iff_n q12) (by omega)
    refine r_aload_n S dX12_looksAt_7 rfl (lv_at hl 0 rfl) ?_
    refine r_iconst S dX12_looksAt_8 (by decide) (fun v52 z53 => ?_)
    have r54 := R_eq z53
    refine r_ki (q_V (As := [.int v52]) (rest := []) (K := 38) (ci := 10) S X7 (c_X12_bad_q l G τ hI v52 (R_of (lo := -2147483648) (hi := 2147483647) r54 rfl)) ck12_183 (Nat.le_of_ble_eq_true rfl) rfl (fun _ => ⟨_, rfl⟩) ⟨_, _, rfl⟩ ⟨Nat.le_of_ble_eq_true rfl, Nat.le_of_ble_eq_true rfl⟩ rfl hl.1 rfl (Nat.le_of_ble_eq_true rfl) dX12_looksAt_9 ⟨Nat.le_refl 0, Nat.le_refl 0⟩) X7 (fun v58 t57 H lc q55 X56 => ?_)
    unfold po_X12_bad_q at q55
    obtain ⟨q59, q60, q61, q62⟩ := q55
    have F63 : Fr [(131, 15), (131, 16), (131, 18)] [] τ t57 := Fr_call Fr_rfl q60 (by decide)
    exact r_ret S hr hlk X56 ⟨q59, F63, (R_of q61 rfl), (fun h => by exfalso; omega), (fun h => by exfalso; omega), (QM_b (sLook_b1 p51) (by omega) (by rw [q62.1]; omega) (by rw [q62.2]; exact MG_at hR))⟩ (nr_bool (R_of (lo := 0) (hi := 1) q61 rfl)) dX12_looksAt_12
def po_X12_takesName_tm (τ : Tau)  (a0 a1 : Int32)  (bb : Nat → Int) (nb : Nat) (an mn : List (List Int)) (t : Tk) (r : Int32) (u : Tau) : Prop := Inv u ∧ Fr [(131, 15), (131, 16), (131, 4), (131, 11), (131, 12), (131, 13), (131, 14), (131, 18)] [331] τ u ∧ R (0) (1) r ∧ (r.toInt = 1 → R (0) (9) (u 131 18) ∧ R (0) (0) (u 131 15)) ∧ R (0) (940) (u 131 4) ∧ R (0) (4) (u 131 11) ∧ (τ 131 4).toInt ≤ (u 131 4).toInt ∧ (r.toInt = 1 → (τ 131 11).toInt = 1) ∧ QM (lNm bb nb 400 mn t) r u (fun g => MG bb nb 400 an mn u g)
set_option maxHeartbeats 4000000 in
set_option maxRecDepth 100000 in
theorem c_X12_takesName_tm (l : Launch) (G : Gx) (τ : Tau) (hI : Inv τ) (a0 : Int32) (a1 : Int32) (h_a0 : R (9) (9) a0) (h_a1 : R (0) (10) a1) (hf_0 : R (0) (0) (τ 131 15)) (bb : Nat → Int) (nb : Nat) (an mn : List (List Int)) (t : Tk) (hR : MG bb nb 400 an mn τ t) (hA : a1.toInt = mn.length) : Ci l G yX12_takesName cX12_takesName 3 (some .boolean) 2 45 [.ref (G.2.2.2.1 131), .int a0, .int a1] τ (po_X12_takesName_tm τ  a0 a1  bb nb an mn t) := by
  unfold Ci
  refine C_of (own := RX12) (by decide) rfl (Nat.le_of_ble_eq_true rfl) ?_
  intro p e s m below meth c ls S hr hlk X hl
  have hl : lv_has ls 3 [(0, .ref (G.2.2.2.1 131)), (1, .int a0), (2, .int a1)] := hl
  obtain ⟨v1, z2⟩ : ∃ x, τ 131 15 = x := ⟨_, rfl⟩
  rw [z2] at hf_0
  obtain ⟨v3, z4⟩ : ∃ x, τ 131 4 = x := ⟨_, rfl⟩
  have r5 : R (0) (940) v3 := rd hI rfl z4
  obtain ⟨v6, z7⟩ : ∃ x, τ 131 11 = x := ⟨_, rfl⟩
  have r8 : R (0) (4) v6 := rd hI rfl z7
  refine r_aload_n S dX12_takesName_0 rfl (lv_at hl 0 rfl) ?_
  refine r_iload_n S dX12_takesName_1 rfl (lv_at hl 1 rfl) ?_
  refine r_iload_n S dX12_takesName_2 rfl (lv_at hl 2 rfl) ?_
  refine r_ki (q_V (As := [.int a0, .int a1]) (rest := []) (K := 38) (ci := 10) S X (c_X12_looksAt_tm l G τ hI a0 a1 h_a0 h_a1 (by rw [z2]; exact R_of hf_0 rfl) bb nb an mn t hR hA) ck12_204 (Nat.le_of_ble_eq_true rfl) rfl (fun _ => ⟨_, rfl⟩) ⟨_, _, rfl⟩ ⟨Nat.le_of_ble_eq_true rfl, Nat.le_of_ble_eq_true rfl⟩ rfl hl.1 rfl (Nat.le_of_ble_eq_true rfl) dX12_takesName_3 ⟨Nat.le_refl 0, Nat.le_refl 0⟩) X (fun v12 t11 H lc q9 X10 => ?_)
  unfold po_X12_looksAt_tm at q9
  obtain ⟨q13, q14, q15, q16, q17, q18⟩ := q9
  have F19 : Fr [(131, 15), (131, 16), (131, 4), (131, 11), (131, 12), (131, 13), (131, 14), (131, 18)] [331] τ t11 := Fr_call Fr_rfl q14 (by decide)
  have e20 := congrArg Int32.toInt z7
  have e21 := congrArg Int32.toInt ((q14 131 11 (by decide)).trans z7)
  refine r_if_ne (tgt := 11) S dX12_takesName_6 (by decide) (fun c22 => ?_) (fun c22 => ?_)
  ·
    have r23 : R (1) (1) v12 := ⟨by omega, by omega⟩
    obtain ⟨p24, p25⟩ := q16 (by omega)
    obtain ⟨v26, z27⟩ : ∃ x, t11 131 18 = x := ⟨_, rfl⟩
    rw [z27] at p24
    obtain ⟨v28, z29⟩ : ∃ x, t11 131 15 = x := ⟨_, rfl⟩
    rw [z29] at p25
    have p30 := (QM_1 q18) (by omega)
    obtain ⟨g31, e32, hP33⟩ := p30
    refine r_aload_n S dX12_takesName_11 rfl (lv_at hl 0 rfl) ?_
    refine r_kv (q_V (As := []) (rest := []) (K := 38) (ci := 10) S X10 (c_X12_skip_q l G t11 q13 bb nb 400 t.2.2 (MT_st hP33.2.1 (Or.inl (sLook_n e32).1)).1 (MT_st hP33.2.1 (Or.inl (sLook_n e32).1)).2.1 (MT_st hP33.2.1 (Or.inl (sLook_n e32).1)).2.2) ck12_186 (Nat.le_of_ble_eq_true rfl) rfl (fun _ => ⟨_, rfl⟩) ⟨_, _, rfl⟩ ⟨Nat.le_of_ble_eq_true rfl, Nat.le_of_ble_eq_true rfl⟩ rfl hl.1 rfl (Nat.le_of_ble_eq_true rfl) dX12_takesName_12 ⟨Nat.le_refl 0, Nat.le_refl 0⟩) X10 (fun t36 H lc q34 X35 => ?_)
    unfold po_X12_skip_q at q34
    obtain ⟨q37, q38, q39, q40, q41, q42, q43⟩ := q34
    have F44 : Fr [(131, 15), (131, 16), (131, 4), (131, 11), (131, 12), (131, 13), (131, 14), (131, 18)] [331] τ t36 := Fr_call F19 q38 (by decide)
    obtain ⟨v45, z46⟩ : ∃ x, t36 131 4 = x := ⟨_, rfl⟩
    rw [z46] at q39
    obtain ⟨v47, z48⟩ : ∃ x, t36 131 11 = x := ⟨_, rfl⟩
    rw [z48] at q40
    have e49 := congrArg Int32.toInt ((q14 131 4 (by decide)).trans z4)
    have e50 := congrArg Int32.toInt z46
    have e51 := congrArg Int32.toInt ((q14 131 4 (by decide)).trans z4)
    have e52 := congrArg Int32.toInt z46
    have e53 := congrArg Int32.toInt ((q14 131 11 (by decide)).trans z7)
    have e54 := congrArg Int32.toInt z48
    have hR55 : MG bb nb 400 an mn t36 (nx bb nb 400 t) := ⟨q43, NR_fr hP33.2.2 ((q38 133 0 (by decide)).trans rfl) ((q38 133 1 (by decide)).trans rfl) (fun j => ((q38 336 j (by simp [fz])).trans rfl)) (fun j => ((q38 337 j (by simp [fz])).trans rfl))⟩
    refine r_iconst S dX12_takesName_15 (by decide) (fun v56 z57 => ?_)
    have r58 := R_eq z57
    exact r_ret S hr hlk X35 ⟨q37, F44, (R_of r58 rfl), (fun h => ⟨(by rw [((q38 131 18 (by decide)).trans z27)]; exact R_of p24 rfl), (by rw [((q38 131 15 (by decide)).trans z29)]; exact R_of p25 rfl)⟩), (by rw [z46]; exact R_of q39 rfl), (by rw [z48]; exact R_of q40 rfl), (by have h1_0 := congrArg Int32.toInt z46; have h2_0 := congrArg Int32.toInt z4; omega), (by have h1_0 := congrArg Int32.toInt z48; have h2_0 := congrArg Int32.toInt z7; omega), (QM_r (thn_r e32) (by omega) hR55)⟩ (nr_bool (R_of (lo := 0) (hi := 1) r58 rfl)) dX12_takesName_16
  ·
    have r59 : R (0) (0) v12 := ⟨by omega, by omega⟩
    have p60 := (QM_0 q18) (by omega)
    obtain ⟨q61, e62, h63, h64⟩ := p60
    refine r_iconst S dX12_takesName_9 (by decide) (fun v65 z66 => ?_)
    have r67 := R_eq z66
    exact r_ret S hr hlk X10 ⟨q13, F19, (R_of r67 rfl), (fun h => by exfalso; omega), (by rw [((q14 131 4 (by decide)).trans z4)]; exact R_of r5 rfl), (by rw [((q14 131 11 (by decide)).trans z7)]; exact R_of r8 rfl), (by have h1_0 := congrArg Int32.toInt ((q14 131 4 (by decide)).trans z4); have h2_0 := congrArg Int32.toInt z4; omega), (by have h1_0 := congrArg Int32.toInt ((q14 131 11 (by decide)).trans z7); have h2_0 := congrArg Int32.toInt z7; omega), (QM_l (thn_l e62) (by omega) h63 h64)⟩ (nr_bool (R_of (lo := 0) (hi := 1) r67 rfl)) dX12_takesName_10
def po_X12_takesMind_t (τ : Tau)  (a0 : Int32)  (bb : Nat → Int) (nb : Nat) (an mn : List (List Int)) (t : Tk) (r : Int32) (u : Tau) : Prop := Inv u ∧ Fr [(131, 15), (131, 16), (131, 4), (131, 11), (131, 12), (131, 13), (131, 14), (131, 18), (131, 21)] [331] τ u ∧ R (0) (1) r ∧ (r.toInt = 1 → R (0) (0) (u 131 15)) ∧ R (0) (940) (u 131 4) ∧ R (0) (4) (u 131 11) ∧ (τ 131 4).toInt ≤ (u 131 4).toInt ∧ (r.toInt = 1 → (τ 131 4).toInt < (u 131 4).toInt) ∧ QM (lMd bb nb 400 t) r u (fun g => MG bb nb 400 an mn u g)
set_option maxHeartbeats 4000000 in
set_option maxRecDepth 100000 in
theorem c_X12_takesMind_t (l : Launch) (G : Gx) (τ : Tau) (hI : Inv τ) (a0 : Int32) (h_a0 : R (0) (0) a0) (hf_0 : R (0) (0) (τ 131 15)) (bb : Nat → Int) (nb : Nat) (an mn : List (List Int)) (t : Tk) (hR : MG bb nb 400 an mn τ t) : Ci l G yX12_takesMind cX12_takesMind 3 (some .boolean) 3 65 [.ref (G.2.2.2.1 131), .int a0] τ (po_X12_takesMind_t τ  a0  bb nb an mn t) := by
  unfold Ci
  refine C_of (own := RX12) (by decide) rfl (Nat.le_of_ble_eq_true rfl) ?_
  intro p e s m below meth c ls S hr hlk X hl
  have hl : lv_has ls 3 [(0, .ref (G.2.2.2.1 131)), (1, .int a0)] := hl
  obtain ⟨v1, z2⟩ : ∃ x, τ 131 15 = x := ⟨_, rfl⟩
  rw [z2] at hf_0
  obtain ⟨v3, z4⟩ : ∃ x, τ 131 4 = x := ⟨_, rfl⟩
  have r5 : R (0) (940) v3 := rd hI rfl z4
  obtain ⟨v6, z7⟩ : ∃ x, τ 131 11 = x := ⟨_, rfl⟩
  have r8 : R (0) (4) v6 := rd hI rfl z7
  refine r_aload_n S dX12_takesMind_0 rfl (lv_at hl 0 rfl) ?_
  refine lv_ldc2 S.1.1 S.1.2.1 S.1.2.2.2.1 (S.1.2.2.2.2 _ kw27) dX12_takesMind_1 ?_
  refine lv_topl (fun j9 z10 => ?_)
  refine r_ki (q_V (As := [.long j9]) (rest := []) (K := 38) (ci := 10) S X (c_X12_isWord_q l G τ hI j9 bb nb 400 t (kwl.getD 5 []) hR.1 (by rw [z10]; decide +kernel) (kwl_at (by decide))) ck12_208 (Nat.le_of_ble_eq_true rfl) rfl (fun _ => ⟨_, rfl⟩) ⟨_, _, rfl⟩ ⟨Nat.le_of_ble_eq_true rfl, Nat.le_of_ble_eq_true rfl⟩ rfl hl.1 rfl (Nat.le_of_ble_eq_true rfl) dX12_takesMind_4 ⟨Nat.le_refl 0, Nat.le_refl 0⟩) X (fun v14 t13 H lc q11 X12 => ?_)
  unfold po_X12_isWord_q at q11
  obtain ⟨q15, q16, q17⟩ := q11
  rw [q15] at X12
  refine r_istore_n (lv' := [(2, .int v14), (0, .ref (G.2.2.2.1 131)), (1, .int a0)]) S dX12_takesMind_7 rfl hl (by decide) rfl (fun ls hl => ?_)
  refine r_iload_n S dX12_takesMind_8 rfl (lv_at hl 0 rfl) ?_
  refine r_if_ne (tgt := 28) S dX12_takesMind_9 (by decide) (fun c18 => ?_) (fun c18 => ?_)
  ·
    have r19 : R (1) (1) v14 := ⟨by omega, by omega⟩
    have p20 := (q17).mp (by omega)
    refine r_aload_n S dX12_takesMind_28 rfl (lv_at hl 1 rfl) ?_
    refine r_kv (q_V (As := []) (rest := []) (K := 38) (ci := 10) S X12 (c_X12_skip_q l G τ hI bb nb 400 t.2.2 (MT_st hR.1 (Or.inl p20.1)).1 (MT_st hR.1 (Or.inl p20.1)).2.1 (MT_st hR.1 (Or.inl p20.1)).2.2) ck12_186 (Nat.le_of_ble_eq_true rfl) rfl (fun _ => ⟨_, rfl⟩) ⟨_, _, rfl⟩ ⟨Nat.le_of_ble_eq_true rfl, Nat.le_of_ble_eq_true rfl⟩ rfl hl.1 rfl (Nat.le_of_ble_eq_true rfl) dX12_takesMind_29 ⟨Nat.le_refl 0, Nat.le_refl 0⟩) X12 (fun t23 H lc q21 X22 => ?_)
    unfold po_X12_skip_q at q21
    obtain ⟨q24, q25, q26, q27, q28, q29, q30⟩ := q21
    have F31 : Fr [(131, 15), (131, 16), (131, 4), (131, 11), (131, 12), (131, 13), (131, 14), (131, 18), (131, 21)] [331] τ t23 := Fr_call Fr_rfl q25 (by decide)
    obtain ⟨v32, z33⟩ : ∃ x, t23 131 4 = x := ⟨_, rfl⟩
    rw [z33] at q26
    obtain ⟨v34, z35⟩ : ∃ x, t23 131 11 = x := ⟨_, rfl⟩
    rw [z35] at q27
    have e36 := congrArg Int32.toInt z4
    have e37 := congrArg Int32.toInt z33
    have e38 := congrArg Int32.toInt z4
    have e39 := congrArg Int32.toInt z33
    have e40 := congrArg Int32.toInt z7
    have e41 := congrArg Int32.toInt z35
    have hR42 : MG bb nb 400 an mn t23 (nx bb nb 400 t) := ⟨q30, NR_fr hR.2 ((q25 133 0 (by decide)).trans rfl) ((q25 133 1 (by decide)).trans rfl) (fun j => ((q25 336 j (by simp [fz])).trans rfl)) (fun j => ((q25 337 j (by simp [fz])).trans rfl))⟩
    refine r_aload_n S dX12_takesMind_32 rfl (lv_at hl 1 rfl) ?_
    refine r_iload_n S dX12_takesMind_33 rfl (lv_at hl 2 rfl) ?_
    refine r_bipush S dX12_takesMind_34 (by decide) (fun v43 z44 => ?_)
    have r45 := R_eq z44
    refine r_ki (q_V (As := [.int a0, .int v43]) (rest := []) (K := 38) (ci := 10) S X22 (c_X12_takes_t l G t23 q24 a0 v43 h_a0 r45 (by rw [((q25 131 15 (by decide)).trans z2)]; exact R_of hf_0 rfl) bb nb an mn (nx bb nb 400 t) hR42 ) ck12_212 (Nat.le_of_ble_eq_true rfl) rfl (fun _ => ⟨_, rfl⟩) ⟨_, _, rfl⟩ ⟨Nat.le_of_ble_eq_true rfl, Nat.le_of_ble_eq_true rfl⟩ rfl hl.1 rfl (Nat.le_of_ble_eq_true rfl) dX12_takesMind_36 ⟨Nat.le_refl 0, Nat.le_refl 0⟩) X22 (fun v49 t48 H lc q46 X47 => ?_)
    unfold po_X12_takes_t at q46
    obtain ⟨q50, q51, q52, q53, q54, q55, q56, q57, q58⟩ := q46
    have F59 : Fr [(131, 15), (131, 16), (131, 4), (131, 11), (131, 12), (131, 13), (131, 14), (131, 18), (131, 21)] [331] τ t48 := Fr_call F31 q51 (by decide)
    obtain ⟨v60, z61⟩ : ∃ x, t48 131 4 = x := ⟨_, rfl⟩
    rw [z61] at q54
    obtain ⟨v62, z63⟩ : ∃ x, t48 131 11 = x := ⟨_, rfl⟩
    rw [z63] at q55
    have e64 := congrArg Int32.toInt z33
    have e65 := congrArg Int32.toInt z61
    have e66 := congrArg Int32.toInt z35
    have e67 := congrArg Int32.toInt z63
    refine r_if_ne (tgt := 44) S dX12_takesMind_39 (by decide) (fun c68 => ?_) (fun c68 => ?_)
    ·
      have r69 : R (1) (1) v49 := ⟨by omega, by omega⟩
      obtain ⟨p70, p71⟩ := q53 (by omega)
      obtain ⟨v72, z73⟩ : ∃ x, t48 131 18 = x := ⟨_, rfl⟩
      rw [z73] at p70
      obtain ⟨v74, z75⟩ : ∃ x, t48 131 15 = x := ⟨_, rfl⟩
      rw [z75] at p71
      have p76 := (QM_1 q58) (by omega)
      obtain ⟨g77, e78, hP79⟩ := p76
      refine r_aload_n S dX12_takesMind_44 rfl (lv_at hl 1 rfl) ?_
      refine r_iload_n S dX12_takesMind_45 rfl (lv_at hl 0 rfl) ?_
      refine r_if_eq (tgt := 57) S dX12_takesMind_46 (by decide) (fun c80 => ?_) (fun c80 => ?_)
      ·
        exfalso; omega
      ·
        refine r_aload_n S dX12_takesMind_49 rfl (lv_at hl 1 rfl) ?_
        refine r_geti (K := 38) S X47 (Nat.le_of_ble_eq_true rfl) rfl lk12_193_10 (fun _ => ⟨_, rfl, rfl⟩) z73 dX12_takesMind_50 ?_
        refine r_ineg S dX12_takesMind_53 (fun v81 z82 => ?_)
        obtain ⟨e83, r84⟩ := i_neg (lo := -9) (hi := 0) z82 p70 rfl
        refine r_goto (tgt := 61) S dX12_takesMind_54 (by decide) ?_
        refine r_put (K := 38) (ty := .int) S X47 (Nat.le_of_ble_eq_true rfl) rfl lk12_215_10 (fun _ => ⟨_, rfl, Nat.le_of_ble_eq_true rfl, rfl⟩) (fun _ _ _ h => by cases h; exact ⟨rfl, rfl⟩) rfl rfl dX12_takesMind_61 (fun t85 H lc M86 X87 => ?_)
        have I88 := Inv_mu q50 M86 (show Rg (kd 131) 21 v81 from (R_of (lo := -9) (hi := 9) r84 rfl))
        have F89 : Fr [(131, 15), (131, 16), (131, 4), (131, 11), (131, 12), (131, 13), (131, 14), (131, 18), (131, 21)] [331] τ t85 := Fr_mu F59 M86 (by decide)
        refine r_iconst S dX12_takesMind_64 (by decide) (fun v90 z91 => ?_)
        have r92 := R_eq z91
        exact r_ret S hr hlk X87 ⟨I88, F89, (R_of r92 rfl), (fun h => (by rw [((M86.2 131 15 (Or.inr (by decide))).trans z75)]; exact R_of p71 rfl)), (by rw [((M86.2 131 4 (Or.inr (by decide))).trans z61)]; exact R_of q54 rfl), (by rw [((M86.2 131 11 (Or.inr (by decide))).trans z63)]; exact R_of q55 rfl), (by have h1_0 := congrArg Int32.toInt ((M86.2 131 4 (Or.inr (by decide))).trans z61); have h2_0 := congrArg Int32.toInt z4; omega), (by have h1_0 := congrArg Int32.toInt ((M86.2 131 4 (Or.inr (by decide))).trans z61); have h2_0 := congrArg Int32.toInt z4; omega), (QM_r ((thn_r (tYN_g (Or.inr p20))).trans (thn_r e78)) (by omega) (MG_fr hP79.2 ((M86.2 131 3 (Or.inr (by decide))).trans rfl) ((M86.2 131 4 (Or.inr (by decide))).trans rfl) ((M86.2 131 5 (Or.inr (by decide))).trans rfl) ((M86.2 131 11 (Or.inr (by decide))).trans rfl) ((M86.2 131 12 (Or.inr (by decide))).trans rfl) ((M86.2 131 14 (Or.inr (by decide))).trans rfl) (fun j => ((M86.2 132 j (Or.inl (by decide))).trans rfl)) (fun j => ((M86.2 331 j (Or.inl (by decide))).trans rfl)) ((M86.2 133 0 (Or.inl (by decide))).trans rfl) ((M86.2 133 1 (Or.inl (by decide))).trans rfl) (fun j => ((M86.2 336 j (Or.inl (by decide))).trans rfl)) (fun j => ((M86.2 337 j (Or.inl (by decide))).trans rfl))))⟩ (nr_bool (R_of (lo := 0) (hi := 1) r92 rfl)) dX12_takesMind_65
    ·
      have r93 : R (0) (0) v49 := ⟨by omega, by omega⟩
      have p94 := (QM_0 q58) (by omega)
      obtain ⟨q95, e96, h97, h98⟩ := p94
      refine r_iconst S dX12_takesMind_42 (by decide) (fun v99 z100 => ?_)
      have r101 := R_eq z100
      exact r_ret S hr hlk X47 ⟨q50, F59, (R_of r101 rfl), (fun h => by exfalso; omega), (by rw [z61]; exact R_of q54 rfl), (by rw [z63]; exact R_of q55 rfl), (by have h1_0 := congrArg Int32.toInt z61; have h2_0 := congrArg Int32.toInt z4; omega), (by have h1_0 := congrArg Int32.toInt z61; have h2_0 := congrArg Int32.toInt z4; omega), (QM_l ((thn_r (tYN_g (Or.inr p20))).trans (thn_l e96)) (by omega) h97 h98)⟩ (nr_bool (R_of (lo := 0) (hi := 1) r101 rfl)) dX12_takesMind_43
  ·
    have r102 : R (0) (0) v14 := ⟨by omega, by omega⟩
    have p103 := (iff_n q17) (by omega)
    refine r_aload_n S dX12_takesMind_12 rfl (lv_at hl 1 rfl) ?_
    refine lv_ldc2 S.1.1 S.1.2.1 S.1.2.2.2.1 (S.1.2.2.2.2 _ kw28) dX12_takesMind_13 ?_
    refine lv_topl (fun j104 z105 => ?_)
    refine r_ki (q_V (As := [.long j104]) (rest := []) (K := 38) (ci := 10) S X12 (c_X12_isWord_q l G τ hI j104 bb nb 400 t (kwl.getD 4 []) hR.1 (by rw [z105]; decide +kernel) (kwl_at (by decide))) ck12_208 (Nat.le_of_ble_eq_true rfl) rfl (fun _ => ⟨_, rfl⟩) ⟨_, _, rfl⟩ ⟨Nat.le_of_ble_eq_true rfl, Nat.le_of_ble_eq_true rfl⟩ rfl hl.1 rfl (Nat.le_of_ble_eq_true rfl) dX12_takesMind_16 ⟨Nat.le_refl 0, Nat.le_refl 0⟩) X12 (fun v109 t108 H lc q106 X107 => ?_)
    unfold po_X12_isWord_q at q106
    obtain ⟨q110, q111, q112⟩ := q106
    rw [q110] at X107
    refine r_if_ne (tgt := 28) S dX12_takesMind_19 (by decide) (fun c113 => ?_) (fun c113 => ?_)
    ·
      have r114 : R (1) (1) v109 := ⟨by omega, by omega⟩
      have p115 := (q112).mp (by omega)
      refine r_aload_n S dX12_takesMind_28 rfl (lv_at hl 1 rfl) ?_
      refine r_kv (q_V (As := []) (rest := []) (K := 38) (ci := 10) S X107 (c_X12_skip_q l G τ hI bb nb 400 t.2.2 (MT_st hR.1 (Or.inl p115.1)).1 (MT_st hR.1 (Or.inl p115.1)).2.1 (MT_st hR.1 (Or.inl p115.1)).2.2) ck12_186 (Nat.le_of_ble_eq_true rfl) rfl (fun _ => ⟨_, rfl⟩) ⟨_, _, rfl⟩ ⟨Nat.le_of_ble_eq_true rfl, Nat.le_of_ble_eq_true rfl⟩ rfl hl.1 rfl (Nat.le_of_ble_eq_true rfl) dX12_takesMind_29 ⟨Nat.le_refl 0, Nat.le_refl 0⟩) X107 (fun t118 H lc q116 X117 => ?_)
      unfold po_X12_skip_q at q116
      obtain ⟨q119, q120, q121, q122, q123, q124, q125⟩ := q116
      have F126 : Fr [(131, 15), (131, 16), (131, 4), (131, 11), (131, 12), (131, 13), (131, 14), (131, 18), (131, 21)] [331] τ t118 := Fr_call Fr_rfl q120 (by decide)
      obtain ⟨v127, z128⟩ : ∃ x, t118 131 4 = x := ⟨_, rfl⟩
      rw [z128] at q121
      obtain ⟨v129, z130⟩ : ∃ x, t118 131 11 = x := ⟨_, rfl⟩
      rw [z130] at q122
      have e131 := congrArg Int32.toInt z4
      have e132 := congrArg Int32.toInt z128
      have e133 := congrArg Int32.toInt z4
      have e134 := congrArg Int32.toInt z128
      have e135 := congrArg Int32.toInt z7
      have e136 := congrArg Int32.toInt z130
      have hR137 : MG bb nb 400 an mn t118 (nx bb nb 400 t) := ⟨q125, NR_fr hR.2 ((q120 133 0 (by decide)).trans rfl) ((q120 133 1 (by decide)).trans rfl) (fun j => ((q120 336 j (by simp [fz])).trans rfl)) (fun j => ((q120 337 j (by simp [fz])).trans rfl))⟩
      refine r_aload_n S dX12_takesMind_32 rfl (lv_at hl 1 rfl) ?_
      refine r_iload_n S dX12_takesMind_33 rfl (lv_at hl 2 rfl) ?_
      refine r_bipush S dX12_takesMind_34 (by decide) (fun v138 z139 => ?_)
      have r140 := R_eq z139
      refine r_ki (q_V (As := [.int a0, .int v138]) (rest := []) (K := 38) (ci := 10) S X117 (c_X12_takes_t l G t118 q119 a0 v138 h_a0 r140 (by rw [((q120 131 15 (by decide)).trans z2)]; exact R_of hf_0 rfl) bb nb an mn (nx bb nb 400 t) hR137 ) ck12_212 (Nat.le_of_ble_eq_true rfl) rfl (fun _ => ⟨_, rfl⟩) ⟨_, _, rfl⟩ ⟨Nat.le_of_ble_eq_true rfl, Nat.le_of_ble_eq_true rfl⟩ rfl hl.1 rfl (Nat.le_of_ble_eq_true rfl) dX12_takesMind_36 ⟨Nat.le_refl 0, Nat.le_refl 0⟩) X117 (fun v144 t143 H lc q141 X142 => ?_)
      unfold po_X12_takes_t at q141
      obtain ⟨q145, q146, q147, q148, q149, q150, q151, q152, q153⟩ := q141
      have F154 : Fr [(131, 15), (131, 16), (131, 4), (131, 11), (131, 12), (131, 13), (131, 14), (131, 18), (131, 21)] [331] τ t143 := Fr_call F126 q146 (by decide)
      obtain ⟨v155, z156⟩ : ∃ x, t143 131 4 = x := ⟨_, rfl⟩
      rw [z156] at q149
      obtain ⟨v157, z158⟩ : ∃ x, t143 131 11 = x := ⟨_, rfl⟩
      rw [z158] at q150
      have e159 := congrArg Int32.toInt z128
      have e160 := congrArg Int32.toInt z156
      have e161 := congrArg Int32.toInt z130
      have e162 := congrArg Int32.toInt z158
      refine r_if_ne (tgt := 44) S dX12_takesMind_39 (by decide) (fun c163 => ?_) (fun c163 => ?_)
      ·
        have r164 : R (1) (1) v144 := ⟨by omega, by omega⟩
        obtain ⟨p165, p166⟩ := q148 (by omega)
        obtain ⟨v167, z168⟩ : ∃ x, t143 131 18 = x := ⟨_, rfl⟩
        rw [z168] at p165
        obtain ⟨v169, z170⟩ : ∃ x, t143 131 15 = x := ⟨_, rfl⟩
        rw [z170] at p166
        have p171 := (QM_1 q153) (by omega)
        obtain ⟨g172, e173, hP174⟩ := p171
        refine r_aload_n S dX12_takesMind_44 rfl (lv_at hl 1 rfl) ?_
        refine r_iload_n S dX12_takesMind_45 rfl (lv_at hl 0 rfl) ?_
        refine r_if_eq (tgt := 57) S dX12_takesMind_46 (by decide) (fun c175 => ?_) (fun c175 => ?_)
        ·
          refine r_aload_n S dX12_takesMind_57 rfl (lv_at hl 1 rfl) ?_
          refine r_geti (K := 38) S X142 (Nat.le_of_ble_eq_true rfl) rfl lk12_193_10 (fun _ => ⟨_, rfl, rfl⟩) z168 dX12_takesMind_58 ?_
          refine r_put (K := 38) (ty := .int) S X142 (Nat.le_of_ble_eq_true rfl) rfl lk12_215_10 (fun _ => ⟨_, rfl, Nat.le_of_ble_eq_true rfl, rfl⟩) (fun _ _ _ h => by cases h; exact ⟨rfl, rfl⟩) rfl rfl dX12_takesMind_61 (fun t176 H lc M177 X178 => ?_)
          have I179 := Inv_mu q145 M177 (show Rg (kd 131) 21 v167 from (R_of (lo := -9) (hi := 9) p165 rfl))
          have F180 : Fr [(131, 15), (131, 16), (131, 4), (131, 11), (131, 12), (131, 13), (131, 14), (131, 18), (131, 21)] [331] τ t176 := Fr_mu F154 M177 (by decide)
          refine r_iconst S dX12_takesMind_64 (by decide) (fun v181 z182 => ?_)
          have r183 := R_eq z182
          exact r_ret S hr hlk X178 ⟨I179, F180, (R_of r183 rfl), (fun h => (by rw [((M177.2 131 15 (Or.inr (by decide))).trans z170)]; exact R_of p166 rfl)), (by rw [((M177.2 131 4 (Or.inr (by decide))).trans z156)]; exact R_of q149 rfl), (by rw [((M177.2 131 11 (Or.inr (by decide))).trans z158)]; exact R_of q150 rfl), (by have h1_0 := congrArg Int32.toInt ((M177.2 131 4 (Or.inr (by decide))).trans z156); have h2_0 := congrArg Int32.toInt z4; omega), (by have h1_0 := congrArg Int32.toInt ((M177.2 131 4 (Or.inr (by decide))).trans z156); have h2_0 := congrArg Int32.toInt z4; omega), (QM_r ((thn_r (tYN_g (Or.inl p115))).trans (thn_r e173)) (by omega) (MG_fr hP174.2 ((M177.2 131 3 (Or.inr (by decide))).trans rfl) ((M177.2 131 4 (Or.inr (by decide))).trans rfl) ((M177.2 131 5 (Or.inr (by decide))).trans rfl) ((M177.2 131 11 (Or.inr (by decide))).trans rfl) ((M177.2 131 12 (Or.inr (by decide))).trans rfl) ((M177.2 131 14 (Or.inr (by decide))).trans rfl) (fun j => ((M177.2 132 j (Or.inl (by decide))).trans rfl)) (fun j => ((M177.2 331 j (Or.inl (by decide))).trans rfl)) ((M177.2 133 0 (Or.inl (by decide))).trans rfl) ((M177.2 133 1 (Or.inl (by decide))).trans rfl) (fun j => ((M177.2 336 j (Or.inl (by decide))).trans rfl)) (fun j => ((M177.2 337 j (Or.inl (by decide))).trans rfl))))⟩ (nr_bool (R_of (lo := 0) (hi := 1) r183 rfl)) dX12_takesMind_65
        ·
          exfalso; omega
      ·
        have r184 : R (0) (0) v144 := ⟨by omega, by omega⟩
        have p185 := (QM_0 q153) (by omega)
        obtain ⟨q186, e187, h188, h189⟩ := p185
        refine r_iconst S dX12_takesMind_42 (by decide) (fun v190 z191 => ?_)
        have r192 := R_eq z191
        exact r_ret S hr hlk X142 ⟨q145, F154, (R_of r192 rfl), (fun h => by exfalso; omega), (by rw [z156]; exact R_of q149 rfl), (by rw [z158]; exact R_of q150 rfl), (by have h1_0 := congrArg Int32.toInt z156; have h2_0 := congrArg Int32.toInt z4; omega), (by have h1_0 := congrArg Int32.toInt z156; have h2_0 := congrArg Int32.toInt z4; omega), (QM_l ((thn_r (tYN_g (Or.inl p115))).trans (thn_l e187)) (by omega) h188 h189)⟩ (nr_bool (R_of (lo := 0) (hi := 1) r192 rfl)) dX12_takesMind_43
    ·
      have r193 : R (0) (0) v109 := ⟨by omega, by omega⟩
      have p194 := (iff_n q112) (by omega)
      refine r_aload_n S dX12_takesMind_22 rfl (lv_at hl 1 rfl) ?_
      refine r_iconst S dX12_takesMind_23 (by decide) (fun v195 z196 => ?_)
      have r197 := R_eq z196
      refine r_ki (q_V (As := [.int v195]) (rest := []) (K := 38) (ci := 10) S X107 (c_X12_bad_q l G τ hI v195 (R_of (lo := -2147483648) (hi := 2147483647) r197 rfl)) ck12_183 (Nat.le_of_ble_eq_true rfl) rfl (fun _ => ⟨_, rfl⟩) ⟨_, _, rfl⟩ ⟨Nat.le_of_ble_eq_true rfl, Nat.le_of_ble_eq_true rfl⟩ rfl hl.1 rfl (Nat.le_of_ble_eq_true rfl) dX12_takesMind_24 ⟨Nat.le_refl 0, Nat.le_refl 0⟩) X107 (fun v201 t200 H lc q198 X199 => ?_)
      unfold po_X12_bad_q at q198
      obtain ⟨q202, q203, q204, q205⟩ := q198
      have F206 : Fr [(131, 15), (131, 16), (131, 4), (131, 11), (131, 12), (131, 13), (131, 14), (131, 18), (131, 21)] [331] τ t200 := Fr_call Fr_rfl q203 (by decide)
      exact r_ret S hr hlk X199 ⟨q202, F206, (R_of q204 rfl), (fun h => by exfalso; omega), (by rw [((q203 131 4 (by decide)).trans z4)]; exact R_of r5 rfl), (by rw [((q203 131 11 (by decide)).trans z7)]; exact R_of r8 rfl), (by have h1_0 := congrArg Int32.toInt ((q203 131 4 (by decide)).trans z4); have h2_0 := congrArg Int32.toInt z4; omega), (by have h1_0 := congrArg Int32.toInt ((q203 131 4 (by decide)).trans z4); have h2_0 := congrArg Int32.toInt z4; omega), (QM_b (thn_l (tYN_b (fun h => h.elim p194 p103))) (by omega) (by rw [q205.1]; omega) (by rw [q205.2]; exact MG_at hR))⟩ (nr_bool (R_of (lo := 0) (hi := 1) q204 rfl)) dX12_takesMind_27
