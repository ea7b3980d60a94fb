def po_X11_feed (τ : Tau)  (a0 a1 a2 a3 a4 : Int32)   (r : Int32) (u : Tau) : Prop := Inv u ∧ Fr [(1, 1)] [2] τ u ∧ ((τ 1 1).toInt + 20 ≤ 940 → (u 1 1).toInt = (τ 1 1).toInt + 20 ∧ r.toInt = (τ 1 1).toInt + 20) ∧ (940 < (τ 1 1).toInt + 20 → (u 1 1).toInt = (τ 1 1).toInt ∧ r.toInt = -1)
set_option maxHeartbeats 4000000 in
set_option maxRecDepth 100000 in
theorem c_X11_feed (l : Launch) (G : Gx) (τ : Tau) (hI : Inv τ) (a0 : Int32) (a1 : Int32) (a2 : Int32) (a3 : Int32) (a4 : Int32) (h_a0 : R (-2147483648) (2147483647) a0) (h_a1 : R (-2147483648) (2147483647) a1) (h_a2 : R (-2147483648) (2147483647) a2) (h_a3 : R (-2147483648) (2147483647) a3) (h_a4 : R (-2147483648) (2147483647) a4) : Ci l G yX11_feed cX11_feed 6 (some .int) 1 22 [.ref (G.2.2.2.1 0), .int a0, .int a1, .int a2, .int a3, .int a4] τ (po_X11_feed τ  a0 a1 a2 a3 a4  ) := by
  unfold Ci
  refine C_of (own := RX11) (by decide) rfl (Nat.le_of_ble_eq_true rfl) ?_
  intro p e s m below meth c ls S hr hlk X hl
  have hl : lv_has ls 6 [(0, .ref (G.2.2.2.1 0)), (1, .int a0), (2, .int a1), (3, .int a2), (4, .int a3), (5, .int a4)] := hl
  refine r_aload_n S dX11_feed_0 rfl (lv_at hl 0 rfl) ?_
  refine r_get (K := 0) (v := .ref (G.2.2.2.1 1)) S X (Nat.le_of_ble_eq_true rfl) rfl lk11_12_9 (fun _ => ⟨_, rfl, rfl⟩) dX11_feed_1 ?_
  refine r_getn (K := 1) S X (Nat.le_of_ble_eq_true rfl) rfl lk11_88_7 (fun _ => ⟨_, rfl, rfl⟩) dX11_feed_4 (fun v1 z2 => ?_)
  have r3 : R (0) (940) v1 := rd hI rfl z2
  refine r_bipush S dX11_feed_7 (by decide) (fun v4 z5 => ?_)
  have r6 := R_eq z5
  refine r_iadd S dX11_feed_9 (fun v7 z8 => ?_)
  obtain ⟨e9, r10⟩ := i_add (lo := 20) (hi := 960) z8 r3 r6 rfl
  refine r_sipush S dX11_feed_10 (by decide) (fun v11 z12 => ?_)
  have r13 := R_eq z12
  refine r_icmp_le (tgt := 18) S dX11_feed_13 (by decide) (fun c14 => ?_) (fun c14 => ?_)
  ·
    have r15 : R (20) (940) v7 := ⟨by omega, by omega⟩
    have r16 : R (0) (920) v1 := ⟨by omega, by omega⟩
    refine r_aload_n S dX11_feed_18 rfl (lv_at hl 0 rfl) ?_
    refine r_get (K := 0) (v := .ref (G.2.2.2.1 1)) S X (Nat.le_of_ble_eq_true rfl) rfl lk11_12_9 (fun _ => ⟨_, rfl, rfl⟩) dX11_feed_19 ?_
    refine r_iload_n S dX11_feed_22 rfl (lv_at hl 1 rfl) ?_
    refine r_kv (q_V (As := [.int a0]) (rest := []) (K := 1) (ci := 7) S X (c_X7_addNumber l G τ hI a0 h_a0) ck11_91 (Nat.le_of_ble_eq_true rfl) rfl (fun _ => ⟨_, rfl⟩) ⟨_, _, rfl⟩ ⟨Nat.le_of_ble_eq_true rfl, Nat.le_of_ble_eq_true rfl⟩ rfl hl.1 rfl (Nat.le_of_ble_eq_true rfl) dX11_feed_23 ⟨Nat.le_refl 0, Nat.le_refl 0⟩) X (fun t19 H lc q17 X18 => ?_)
    unfold po_X7_addNumber at q17
    obtain ⟨q20, q21, q22⟩ := q17
    have F23 : Fr [(1, 1)] [2] τ t19 := Fr_call Fr_rfl q21 (by decide)
    have e24 := congrArg Int32.toInt z2
    refine r_aload_n S dX11_feed_26 rfl (lv_at hl 0 rfl) ?_
    refine r_get (K := 0) (v := .ref (G.2.2.2.1 1)) S X18 (Nat.le_of_ble_eq_true rfl) rfl lk11_12_9 (fun _ => ⟨_, rfl, rfl⟩) dX11_feed_27 ?_
    refine r_iload_n S dX11_feed_30 rfl (lv_at hl 2 rfl) ?_
    refine r_kv (q_V (As := [.int a1]) (rest := []) (K := 1) (ci := 7) S X18 (c_X7_addNumber l G t19 q20 a1 h_a1) ck11_91 (Nat.le_of_ble_eq_true rfl) rfl (fun _ => ⟨_, rfl⟩) ⟨_, _, rfl⟩ ⟨Nat.le_of_ble_eq_true rfl, Nat.le_of_ble_eq_true rfl⟩ rfl hl.1 rfl (Nat.le_of_ble_eq_true rfl) dX11_feed_31 ⟨Nat.le_refl 0, Nat.le_refl 0⟩) X18 (fun t27 H lc q25 X26 => ?_)
    unfold po_X7_addNumber at q25
    obtain ⟨q28, q29, q30⟩ := q25
    have F31 : Fr [(1, 1)] [2] τ t27 := Fr_call F23 q29 (by decide)
    refine r_aload_n S dX11_feed_34 rfl (lv_at hl 0 rfl) ?_
    refine r_get (K := 0) (v := .ref (G.2.2.2.1 1)) S X26 (Nat.le_of_ble_eq_true rfl) rfl lk11_12_9 (fun _ => ⟨_, rfl, rfl⟩) dX11_feed_35 ?_
    refine r_iload_n S dX11_feed_38 rfl (lv_at hl 3 rfl) ?_
    refine r_kv (q_V (As := [.int a2]) (rest := []) (K := 1) (ci := 7) S X26 (c_X7_addNumber l G t27 q28 a2 h_a2) ck11_91 (Nat.le_of_ble_eq_true rfl) rfl (fun _ => ⟨_, rfl⟩) ⟨_, _, rfl⟩ ⟨Nat.le_of_ble_eq_true rfl, Nat.le_of_ble_eq_true rfl⟩ rfl hl.1 rfl (Nat.le_of_ble_eq_true rfl) dX11_feed_39 ⟨Nat.le_refl 0, Nat.le_refl 0⟩) X26 (fun t34 H lc q32 X33 => ?_)
    unfold po_X7_addNumber at q32
    obtain ⟨q35, q36, q37⟩ := q32
    have F38 : Fr [(1, 1)] [2] τ t34 := Fr_call F31 q36 (by decide)
    refine r_aload_n S dX11_feed_42 rfl (lv_at hl 0 rfl) ?_
    refine r_get (K := 0) (v := .ref (G.2.2.2.1 1)) S X33 (Nat.le_of_ble_eq_true rfl) rfl lk11_12_9 (fun _ => ⟨_, rfl, rfl⟩) dX11_feed_43 ?_
    refine r_iload S dX11_feed_46 (lv_at hl 4 rfl) ?_
    refine r_kv (q_V (As := [.int a3]) (rest := []) (K := 1) (ci := 7) S X33 (c_X7_addNumber l G t34 q35 a3 h_a3) ck11_91 (Nat.le_of_ble_eq_true rfl) rfl (fun _ => ⟨_, rfl⟩) ⟨_, _, rfl⟩ ⟨Nat.le_of_ble_eq_true rfl, Nat.le_of_ble_eq_true rfl⟩ rfl hl.1 rfl (Nat.le_of_ble_eq_true rfl) dX11_feed_48 ⟨Nat.le_refl 0, Nat.le_refl 0⟩) X33 (fun t41 H lc q39 X40 => ?_)
    unfold po_X7_addNumber at q39
    obtain ⟨q42, q43, q44⟩ := q39
    have F45 : Fr [(1, 1)] [2] τ t41 := Fr_call F38 q43 (by decide)
    refine r_aload_n S dX11_feed_51 rfl (lv_at hl 0 rfl) ?_
    refine r_get (K := 0) (v := .ref (G.2.2.2.1 1)) S X40 (Nat.le_of_ble_eq_true rfl) rfl lk11_12_9 (fun _ => ⟨_, rfl, rfl⟩) dX11_feed_52 ?_
    refine r_iload S dX11_feed_55 (lv_at hl 5 rfl) ?_
    refine r_kv (q_V (As := [.int a4]) (rest := []) (K := 1) (ci := 7) S X40 (c_X7_addNumber l G t41 q42 a4 h_a4) ck11_91 (Nat.le_of_ble_eq_true rfl) rfl (fun _ => ⟨_, rfl⟩) ⟨_, _, rfl⟩ ⟨Nat.le_of_ble_eq_true rfl, Nat.le_of_ble_eq_true rfl⟩ rfl hl.1 rfl (Nat.le_of_ble_eq_true rfl) dX11_feed_57 ⟨Nat.le_refl 0, Nat.le_refl 0⟩) X40 (fun t48 H lc q46 X47 => ?_)
    unfold po_X7_addNumber at q46
    obtain ⟨q49, q50, q51⟩ := q46
    have F52 : Fr [(1, 1)] [2] τ t48 := Fr_call F45 q50 (by decide)
    refine r_aload_n S dX11_feed_60 rfl (lv_at hl 0 rfl) ?_
    refine r_get (K := 0) (v := .ref (G.2.2.2.1 1)) S X47 (Nat.le_of_ble_eq_true rfl) rfl lk11_12_9 (fun _ => ⟨_, rfl, rfl⟩) dX11_feed_61 ?_
    refine r_getn (K := 1) S X47 (Nat.le_of_ble_eq_true rfl) rfl lk11_88_7 (fun _ => ⟨_, rfl, rfl⟩) dX11_feed_64 (fun v53 z54 => ?_)
    have r55 : R (0) (940) v53 := rd q49 rfl z54
    exact r_ret S hr hlk X47 ⟨q49, F52, (by have h1_0 := congrArg Int32.toInt z54; have h2_0 := congrArg Int32.toInt z2; omega), (by have h1_0 := congrArg Int32.toInt z54; have h2_0 := congrArg Int32.toInt z2; omega)⟩ rfl dX11_feed_67
  ·
    have r56 : R (941) (960) v7 := ⟨by omega, by omega⟩
    have r57 : R (921) (940) v1 := ⟨by omega, by omega⟩
    refine r_iconst S dX11_feed_16 (by decide) (fun v58 z59 => ?_)
    have r60 := R_eq z59
    exact r_ret S hr hlk X ⟨hI, Fr_rfl, (by have h1_0 := congrArg Int32.toInt z2; have h2_0 := congrArg Int32.toInt z2; omega), (by have h1_0 := congrArg Int32.toInt z2; have h2_0 := congrArg Int32.toInt z2; omega)⟩ rfl dX11_feed_17
def po_X11_end (τ : Tau)  (a0 : Int32)   (r : Int32) (u : Tau) : Prop := Inv u ∧ Fr [(1, 1)] [] τ u ∧ R (0) (1) r ∧ (0 ≤ a0.toInt ∧ a0.toInt ≤ (τ 1 1).toInt → (u 1 1).toInt = a0.toInt ∧ r.toInt = 1) ∧ (a0.toInt < 0 ∨ (τ 1 1).toInt < a0.toInt → (u 1 1).toInt = (τ 1 1).toInt ∧ r.toInt = 0)
set_option maxHeartbeats 4000000 in
set_option maxRecDepth 100000 in
theorem c_X11_end (l : Launch) (G : Gx) (τ : Tau) (hI : Inv τ) (a0 : Int32) (h_a0 : R (-2147483648) (2147483647) a0) : Ci l G yX11_end cX11_end 2 (some .boolean) 0 0 [.ref (G.2.2.2.1 0), .int a0] τ (po_X11_end τ  a0  ) := by
  unfold Ci
  refine C_of (own := RX11) (by decide) rfl (Nat.le_of_ble_eq_true rfl) ?_
  intro p e s m below meth c ls S hr hlk X hl
  have hl : lv_has ls 2 [(0, .ref (G.2.2.2.1 0)), (1, .int a0)] := hl
  refine r_iload_n S dX11_end_0 rfl (lv_at hl 1 rfl) ?_
  refine r_if_lt (tgt := 15) S dX11_end_1 (by decide) (fun c1 => ?_) (fun c1 => ?_)
  ·
    have r2 : R (-2147483648) (-1) a0 := ⟨by omega, by omega⟩
    refine r_iconst S dX11_end_15 (by decide) (fun v3 z4 => ?_)
    have r5 := R_eq z4
    exact r_ret S hr hlk X ⟨hI, Fr_rfl, (R_of r5 rfl), (by omega), (by omega)⟩ (nr_bool (R_of (lo := 0) (hi := 1) r5 rfl)) dX11_end_16
  ·
    have r6 : R (0) (2147483647) a0 := ⟨by omega, by omega⟩
    refine r_iload_n S dX11_end_4 rfl (lv_at hl 1 rfl) ?_
    refine r_aload_n S dX11_end_5 rfl (lv_at hl 0 rfl) ?_
    refine r_get (K := 0) (v := .ref (G.2.2.2.1 1)) S X (Nat.le_of_ble_eq_true rfl) rfl lk11_12_9 (fun _ => ⟨_, rfl, rfl⟩) dX11_end_6 ?_
    refine r_getn (K := 1) S X (Nat.le_of_ble_eq_true rfl) rfl lk11_88_7 (fun _ => ⟨_, rfl, rfl⟩) dX11_end_9 (fun v7 z8 => ?_)
    have r9 : R (0) (940) v7 := rd hI rfl z8
    refine r_icmp_le (tgt := 17) S dX11_end_12 (by decide) (fun c10 => ?_) (fun c10 => ?_)
    ·
      have r11 : R (0) (940) a0 := ⟨by omega, by omega⟩
      refine r_aload_n S dX11_end_17 rfl (lv_at hl 0 rfl) ?_
      refine r_get (K := 0) (v := .ref (G.2.2.2.1 1)) S X (Nat.le_of_ble_eq_true rfl) rfl lk11_12_9 (fun _ => ⟨_, rfl, rfl⟩) dX11_end_18 ?_
      refine r_iload_n S dX11_end_21 rfl (lv_at hl 1 rfl) ?_
      refine r_put (K := 1) (ty := .int) S X (Nat.le_of_ble_eq_true rfl) rfl lk11_88_7 (fun _ => ⟨_, rfl, Nat.le_of_ble_eq_true rfl, rfl⟩) (fun _ _ _ h => by cases h; exact ⟨rfl, rfl⟩) rfl rfl dX11_end_22 (fun t12 H lc M13 X14 => ?_)
      have I15 := Inv_mu hI M13 (show Rg (kd 1) 1 a0 from (R_of (lo := 0) (hi := 940) r11 rfl))
      have F16 : Fr [(1, 1)] [] τ t12 := Fr_mu Fr_rfl M13 (by decide)
      refine r_iconst S dX11_end_25 (by decide) (fun v17 z18 => ?_)
      have r19 := R_eq z18
      exact r_ret S hr hlk X14 ⟨I15, F16, (R_of r19 rfl), (by have h1_0 := congrArg Int32.toInt M13.1; have h2_0 := congrArg Int32.toInt z8; omega), (by have h1_0 := congrArg Int32.toInt M13.1; have h2_0 := congrArg Int32.toInt z8; omega)⟩ (nr_bool (R_of (lo := 0) (hi := 1) r19 rfl)) dX11_end_26
    ·
      have r20 : R (1) (2147483647) a0 := ⟨by omega, by omega⟩
      refine r_iconst S dX11_end_15 (by decide) (fun v21 z22 => ?_)
      have r23 := R_eq z22
      exact r_ret S hr hlk X ⟨hI, Fr_rfl, (R_of r23 rfl), (by have h1_0 := congrArg Int32.toInt z8; have h2_0 := congrArg Int32.toInt z8; omega), (by have h1_0 := congrArg Int32.toInt z8; have h2_0 := congrArg Int32.toInt z8; omega)⟩ (nr_bool (R_of (lo := 0) (hi := 1) r23 rfl)) dX11_end_16
def po_X11_fault (τ : Tau)     (r : Int32) (u : Tau) : Prop := u = τ
set_option maxHeartbeats 4000000 in
set_option maxRecDepth 100000 in
theorem c_X11_fault (l : Launch) (G : Gx) (τ : Tau) (hI : Inv τ) : Ci l G yX11_fault cX11_fault 1 (some .int) 0 0 [.ref (G.2.2.2.1 0)] τ (po_X11_fault τ    ) := by
  unfold Ci
  refine C_of (own := RX11) (by decide) rfl (Nat.le_of_ble_eq_true rfl) ?_
  intro p e s m below meth c ls S hr hlk X hl
  have hl : lv_has ls 1 [(0, .ref (G.2.2.2.1 0))] := hl
  refine r_aload_n S dX11_fault_0 rfl (lv_at hl 0 rfl) ?_
  refine r_getn (K := 0) S X (Nat.le_of_ble_eq_true rfl) rfl lk11_102_9 (fun _ => ⟨_, rfl, rfl⟩) dX11_fault_1 (fun v1 z2 => ?_)
  have r4 := R_any v1
  exact r_ret S hr hlk X rfl rfl dX11_fault_4
def po_X11_canSpeak (τ : Tau)  (a0 a1 a2 : Int32)   (r : Int32) (u : Tau) : Prop := u = τ ∧ R (0) (1) r ∧ (r.toInt = 1 → R (0) (9) a0 ∧ R (0) (8) a1 ∧ R (-9) (9) a2)
set_option maxHeartbeats 4000000 in
set_option maxRecDepth 100000 in
theorem c_X11_canSpeak (l : Launch) (G : Gx) (τ : Tau) (hI : Inv τ) (a0 : Int32) (a1 : Int32) (a2 : Int32) (h_a0 : R (-2147483648) (2147483647) a0) (h_a1 : R (-2147483648) (2147483647) a1) (h_a2 : R (-2147483648) (2147483647) a2) : Ci l G yX11_canSpeak cX11_canSpeak 4 (some .boolean) 1 21 [.ref (G.2.2.2.1 0), .int a0, .int a1, .int a2] τ (po_X11_canSpeak τ  a0 a1 a2  ) := by
  unfold Ci
  refine C_of (own := RX11) (by decide) rfl (Nat.le_of_ble_eq_true rfl) ?_
  intro p e s m below meth c ls S hr hlk X hl
  have hl : lv_has ls 4 [(0, .ref (G.2.2.2.1 0)), (1, .int a0), (2, .int a1), (3, .int a2)] := hl
  refine r_aload_n S dX11_canSpeak_0 rfl (lv_at hl 0 rfl) ?_
  refine r_get (K := 0) (v := .ref (G.2.2.2.1 22)) S X (Nat.le_of_ble_eq_true rfl) rfl lk11_42_9 (fun _ => ⟨_, rfl, rfl⟩) dX11_canSpeak_1 ?_
  refine r_iload_n S dX11_canSpeak_4 rfl (lv_at hl 1 rfl) ?_
  refine r_ki (q_V (As := [.int a0]) (rest := []) (K := 22) (ci := 8) S X (c_X10_hasMan l G τ hI a0 h_a0) ck11_122 (Nat.le_of_ble_eq_true rfl) rfl (fun _ => ⟨_, rfl⟩) ⟨_, _, rfl⟩ ⟨Nat.le_of_ble_eq_true rfl, Nat.le_of_ble_eq_true rfl⟩ rfl hl.1 rfl (Nat.le_of_ble_eq_true rfl) dX11_canSpeak_5 ⟨Nat.le_refl 0, Nat.le_refl 0⟩) X (fun v4 t3 H lc q1 X2 => ?_)
  unfold po_X10_hasMan at q1
  obtain ⟨q5, q6, q7⟩ := q1
  rw [q5] at X2
  rw [q5] at q7
  refine r_if_eq (tgt := 38) S dX11_canSpeak_8 (by decide) (fun c8 => ?_) (fun c8 => ?_)
  ·
    have r9 : R (0) (0) v4 := ⟨by omega, by omega⟩
    refine r_iconst S dX11_canSpeak_38 (by decide) (fun v10 z11 => ?_)
    have r12 := R_eq z11
    exact r_ret S hr hlk X2 ⟨rfl, (R_of r12 rfl), (fun h => by exfalso; omega)⟩ (nr_bool (R_of (lo := 0) (hi := 1) r12 rfl)) dX11_canSpeak_39
  ·
    have r13 : R (1) (1) v4 := ⟨by omega, by omega⟩
    obtain ⟨p14, p15⟩ := q7 (by omega)
    have r16 : R (0) (9) a0 := ⟨by omega, by omega⟩
    obtain ⟨v17, z18⟩ : ∃ x, τ 23 3 = x := ⟨_, rfl⟩
    rw [z18] at p15
    refine r_aload_n S dX11_canSpeak_11 rfl (lv_at hl 0 rfl) ?_
    refine r_get (K := 0) (v := .ref (G.2.2.2.1 22)) S X2 (Nat.le_of_ble_eq_true rfl) rfl lk11_42_9 (fun _ => ⟨_, rfl, rfl⟩) dX11_canSpeak_12 ?_
    refine r_iload_n S dX11_canSpeak_15 rfl (lv_at hl 2 rfl) ?_
    refine r_ki (q_V (As := [.int a1]) (rest := []) (K := 22) (ci := 8) S X2 (c_X10_hasAsk l G τ hI a1 h_a1) ck11_163 (Nat.le_of_ble_eq_true rfl) rfl (fun _ => ⟨_, rfl⟩) ⟨_, _, rfl⟩ ⟨Nat.le_of_ble_eq_true rfl, Nat.le_of_ble_eq_true rfl⟩ rfl hl.1 rfl (Nat.le_of_ble_eq_true rfl) dX11_canSpeak_16 ⟨Nat.le_refl 0, Nat.le_refl 0⟩) X2 (fun v22 t21 H lc q19 X20 => ?_)
    unfold po_X10_hasAsk at q19
    obtain ⟨q23, q24, q25⟩ := q19
    rw [q23] at X20
    refine r_if_eq (tgt := 38) S dX11_canSpeak_19 (by decide) (fun c26 => ?_) (fun c26 => ?_)
    ·
      have r27 : R (0) (0) v22 := ⟨by omega, by omega⟩
      refine r_iconst S dX11_canSpeak_38 (by decide) (fun v28 z29 => ?_)
      have r30 := R_eq z29
      exact r_ret S hr hlk X20 ⟨rfl, (R_of r30 rfl), (fun h => by exfalso; omega)⟩ (nr_bool (R_of (lo := 0) (hi := 1) r30 rfl)) dX11_canSpeak_39
    ·
      have r31 : R (1) (1) v22 := ⟨by omega, by omega⟩
      have p32 := q25 (by omega)
      have r33 : R (0) (8) a1 := ⟨by omega, by omega⟩
      refine r_iload_n S dX11_canSpeak_22 rfl (lv_at hl 3 rfl) ?_
      refine r_bipush S dX11_canSpeak_23 (by decide) (fun v34 z35 => ?_)
      have r36 := R_eq z35
      refine r_icmp_lt (tgt := 38) S dX11_canSpeak_25 (by decide) (fun c37 => ?_) (fun c37 => ?_)
      ·
        have r38 : R (-2147483648) (-10) a2 := ⟨by omega, by omega⟩
        refine r_iconst S dX11_canSpeak_38 (by decide) (fun v39 z40 => ?_)
        have r41 := R_eq z40
        exact r_ret S hr hlk X20 ⟨rfl, (R_of r41 rfl), (fun h => by exfalso; omega)⟩ (nr_bool (R_of (lo := 0) (hi := 1) r41 rfl)) dX11_canSpeak_39
      ·
        have r42 : R (-9) (2147483647) a2 := ⟨by omega, by omega⟩
        refine r_iload_n S dX11_canSpeak_28 rfl (lv_at hl 3 rfl) ?_
        refine r_bipush S dX11_canSpeak_29 (by decide) (fun v43 z44 => ?_)
        have r45 := R_eq z44
        refine r_icmp_gt (tgt := 38) S dX11_canSpeak_31 (by decide) (fun c46 => ?_) (fun c46 => ?_)
        ·
          have r47 : R (10) (2147483647) a2 := ⟨by omega, by omega⟩
          refine r_iconst S dX11_canSpeak_38 (by decide) (fun v48 z49 => ?_)
          have r50 := R_eq z49
          exact r_ret S hr hlk X20 ⟨rfl, (R_of r50 rfl), (fun h => by exfalso; omega)⟩ (nr_bool (R_of (lo := 0) (hi := 1) r50 rfl)) dX11_canSpeak_39
        ·
          have r51 : R (-9) (9) a2 := ⟨by omega, by omega⟩
          refine r_iconst S dX11_canSpeak_34 (by decide) (fun v52 z53 => ?_)
          have r54 := R_eq z53
          refine r_goto (tgt := 39) S dX11_canSpeak_35 (by decide) ?_
          exact r_ret S hr hlk X20 ⟨rfl, (R_of r54 rfl), (fun h => ⟨⟨by omega, by omega⟩, ⟨by omega, by omega⟩, ⟨by omega, by omega⟩⟩)⟩ (nr_bool (R_of (lo := 0) (hi := 1) r54 rfl)) dX11_canSpeak_39
def po_X11_canSum (τ : Tau)  (a0 : Int32)   (r : Int32) (u : Tau) : Prop := u = τ ∧ R (0) (1) r ∧ (r.toInt = 1 → R (0) (1023) a0 ∧ R (1) (9) (u 23 2))
set_option maxHeartbeats 4000000 in
set_option maxRecDepth 100000 in
theorem c_X11_canSum (l : Launch) (G : Gx) (τ : Tau) (hI : Inv τ) (a0 : Int32) (h_a0 : R (-2147483648) (2147483647) a0) : Ci l G yX11_canSum cX11_canSum 2 (some .boolean) 2 41 [.ref (G.2.2.2.1 0), .int a0] τ (po_X11_canSum τ  a0  ) := by
  unfold Ci
  refine C_of (own := RX11) (by decide) rfl (Nat.le_of_ble_eq_true rfl) ?_
  intro p e s m below meth c ls S hr hlk X hl
  have hl : lv_has ls 2 [(0, .ref (G.2.2.2.1 0)), (1, .int a0)] := hl
  refine r_aload_n S dX11_canSum_0 rfl (lv_at hl 0 rfl) ?_
  refine r_get (K := 0) (v := .ref (G.2.2.2.1 22)) S X (Nat.le_of_ble_eq_true rfl) rfl lk11_42_9 (fun _ => ⟨_, rfl, rfl⟩) dX11_canSum_1 ?_
  refine r_iload_n S dX11_canSum_4 rfl (lv_at hl 1 rfl) ?_
  refine r_ki (q_V (As := [.int a0]) (rest := []) (K := 22) (ci := 8) S X (c_X10_hasSet l G τ hI a0 h_a0) ck11_188 (Nat.le_of_ble_eq_true rfl) rfl (fun _ => ⟨_, rfl⟩) ⟨_, _, rfl⟩ ⟨Nat.le_of_ble_eq_true rfl, Nat.le_of_ble_eq_true rfl⟩ rfl hl.1 rfl (Nat.le_of_ble_eq_true rfl) dX11_canSum_5 ⟨Nat.le_refl 0, Nat.le_refl 0⟩) X (fun v4 t3 H lc q1 X2 => ?_)
  unfold po_X10_hasSet at q1
  obtain ⟨q5, q6, q7⟩ := q1
  rw [q5] at X2
  refine r_if_eq (tgt := 28) S dX11_canSum_8 (by decide) (fun c8 => ?_) (fun c8 => ?_)
  ·
    have r9 : R (0) (0) v4 := ⟨by omega, by omega⟩
    refine r_iconst S dX11_canSum_28 (by decide) (fun v10 z11 => ?_)
    have r12 := R_eq z11
    exact r_ret S hr hlk X2 ⟨rfl, (R_of r12 rfl), (fun h => by exfalso; omega)⟩ (nr_bool (R_of (lo := 0) (hi := 1) r12 rfl)) dX11_canSum_29
  ·
    have r13 : R (1) (1) v4 := ⟨by omega, by omega⟩
    have p14 := q7 (by omega)
    have r15 : R (0) (1023) a0 := ⟨by omega, by omega⟩
    refine r_aload_n S dX11_canSum_11 rfl (lv_at hl 0 rfl) ?_
    refine r_get (K := 0) (v := .ref (G.2.2.2.1 22)) S X2 (Nat.le_of_ble_eq_true rfl) rfl lk11_42_9 (fun _ => ⟨_, rfl, rfl⟩) dX11_canSum_12 ?_
    refine r_get (K := 22) (v := .ref (G.2.2.2.1 23)) S X2 (Nat.le_of_ble_eq_true rfl) rfl lk11_139_8 (fun _ => ⟨_, rfl, rfl⟩) dX11_canSum_15 ?_
    refine r_getn (K := 4) S X2 (Nat.le_of_ble_eq_true rfl) rfl lk11_235_2 (fun _ => ⟨_, rfl, rfl⟩) dX11_canSum_18 (fun v16 z17 => ?_)
    have r18 : R (0) (9) v16 := rd hI rfl z17
    refine r_if_le (tgt := 28) S dX11_canSum_21 (by decide) (fun c19 => ?_) (fun c19 => ?_)
    ·
      have r20 : R (0) (0) v16 := ⟨by omega, by omega⟩
      refine r_iconst S dX11_canSum_28 (by decide) (fun v21 z22 => ?_)
      have r23 := R_eq z22
      exact r_ret S hr hlk X2 ⟨rfl, (R_of r23 rfl), (fun h => by exfalso; omega)⟩ (nr_bool (R_of (lo := 0) (hi := 1) r23 rfl)) dX11_canSum_29
    ·
      have r24 : R (1) (9) v16 := ⟨by omega, by omega⟩
      refine r_iconst S dX11_canSum_24 (by decide) (fun v25 z26 => ?_)
      have r27 := R_eq z26
      refine r_goto (tgt := 29) S dX11_canSum_25 (by decide) ?_
      exact r_ret S hr hlk X2 ⟨rfl, (R_of r27 rfl), (fun h => ⟨⟨by omega, by omega⟩, (by rw [z17]; exact R_of r24 rfl)⟩)⟩ (nr_bool (R_of (lo := 0) (hi := 1) r27 rfl)) dX11_canSum_29
def po_X11_lookForCrews (τ : Tau)     (r : Int32) (u : Tau) : Prop := Inv u ∧ Fr [] [46, 47, 48] τ u ∧ R (0) (1023) r
set_option maxHeartbeats 4000000 in
set_option maxRecDepth 100000 in
theorem c_X11_lookForCrews (l : Launch) (G : Gx) (τ : Tau) (hI : Inv τ) (hWI : WI τ) : Ci l G yX11_lookForCrews cX11_lookForCrews 1 (some .int) 5 125 [.ref (G.2.2.2.1 0)] τ (po_X11_lookForCrews τ    ) := by
  unfold Ci
  refine C_of (own := RX11) (by decide) rfl (Nat.le_of_ble_eq_true rfl) ?_
  intro p e s m below meth c ls S hr hlk X hl
  have hl : lv_has ls 1 [(0, .ref (G.2.2.2.1 0))] := hl
  refine r_aload_n S dX11_lookForCrews_0 rfl (lv_at hl 0 rfl) ?_
  refine r_get (K := 0) (v := .ref (G.2.2.2.1 22)) S X (Nat.le_of_ble_eq_true rfl) rfl lk11_42_9 (fun _ => ⟨_, rfl, rfl⟩) dX11_lookForCrews_1 ?_
  refine r_get (K := 22) (v := .ref (G.2.2.2.1 23)) S X (Nat.le_of_ble_eq_true rfl) rfl lk11_139_8 (fun _ => ⟨_, rfl, rfl⟩) dX11_lookForCrews_4 ?_
  refine r_getn (K := 4) S X (Nat.le_of_ble_eq_true rfl) rfl lk11_235_2 (fun _ => ⟨_, rfl, rfl⟩) dX11_lookForCrews_7 (fun v1 z2 => ?_)
  have r3 : R (0) (9) v1 := rd hI rfl z2
  refine r_if_ne (tgt := 15) S dX11_lookForCrews_10 (by decide) (fun c4 => ?_) (fun c4 => ?_)
  ·
    have r5 : R (1) (9) v1 := ⟨by omega, by omega⟩
    refine r_aload_n S dX11_lookForCrews_15 rfl (lv_at hl 0 rfl) ?_
    refine r_get (K := 0) (v := .ref (G.2.2.2.1 45)) S X (Nat.le_of_ble_eq_true rfl) rfl lk11_56_9 (fun _ => ⟨_, rfl, rfl⟩) dX11_lookForCrews_16 ?_
    refine r_aload_n S dX11_lookForCrews_19 rfl (lv_at hl 0 rfl) ?_
    refine r_get (K := 0) (v := .ref (G.2.2.2.1 22)) S X (Nat.le_of_ble_eq_true rfl) rfl lk11_42_9 (fun _ => ⟨_, rfl, rfl⟩) dX11_lookForCrews_20 ?_
    refine r_aload_n S dX11_lookForCrews_23 rfl (lv_at hl 0 rfl) ?_
    refine r_get (K := 0) (v := .ref (G.2.2.2.1 22)) S X (Nat.le_of_ble_eq_true rfl) rfl lk11_42_9 (fun _ => ⟨_, rfl, rfl⟩) dX11_lookForCrews_24 ?_
    refine r_get (K := 22) (v := .ref (G.2.2.2.1 30)) S X (Nat.le_of_ble_eq_true rfl) rfl lk11_129_8 (fun _ => ⟨_, rfl, rfl⟩) dX11_lookForCrews_27 ?_
    refine r_getn (K := 23) S X (Nat.le_of_ble_eq_true rfl) rfl lk11_175_3 (fun _ => ⟨_, rfl, rfl⟩) dX11_lookForCrews_30 (fun v6 z7 => ?_)
    have r8 : R (-1) (8) v6 := rd hI rfl z7
    have r9 : R 0 8 v6 := WI_r hWI z2 z7 (R_of r5 rfl) (R_of r8 rfl)
    refine r_kv (q_V (As := [.ref (G.2.2.2.1 22), .int v6]) (rest := []) (K := 28) (ci := 4) S X (c_X4_load l G τ hI v6 r9) ck11_323 (Nat.le_of_ble_eq_true rfl) rfl (fun _ => ⟨_, rfl⟩) ⟨_, _, rfl⟩ ⟨Nat.le_of_ble_eq_true rfl, Nat.le_of_ble_eq_true rfl⟩ rfl hl.1 rfl (Nat.le_of_ble_eq_true rfl) dX11_lookForCrews_33 ⟨Nat.le_refl 0, Nat.le_refl 0⟩) X (fun t12 H lc q10 X11 => ?_)
    unfold po_X4_load at q10
    obtain ⟨q13, q14⟩ := q10
    have F15 : Fr [] [46, 47, 48] τ t12 := Fr_call Fr_rfl q14 (by decide)
    refine r_aload_n S dX11_lookForCrews_36 rfl (lv_at hl 0 rfl) ?_
    refine r_get (K := 0) (v := .ref (G.2.2.2.1 22)) S X11 (Nat.le_of_ble_eq_true rfl) rfl lk11_42_9 (fun _ => ⟨_, rfl, rfl⟩) dX11_lookForCrews_37 ?_
    refine r_ki (q_V (As := []) (rest := []) (K := 22) (ci := 8) S X11 (c_X10_here l G t12 q13 ) ck11_228 (Nat.le_of_ble_eq_true rfl) rfl (fun _ => ⟨_, rfl⟩) ⟨_, _, rfl⟩ ⟨Nat.le_of_ble_eq_true rfl, Nat.le_of_ble_eq_true rfl⟩ rfl hl.1 rfl (Nat.le_of_ble_eq_true rfl) dX11_lookForCrews_40 ⟨Nat.le_refl 0, Nat.le_refl 0⟩) X11 (fun v19 t18 H lc q16 X17 => ?_)
    unfold po_X10_here at q16
    obtain ⟨q20, q21⟩ := q16
    rw [q20] at X17
    exact r_ret S hr hlk X17 ⟨q13, F15, q21⟩ rfl dX11_lookForCrews_43
  ·
    have r22 : R (0) (0) v1 := ⟨by omega, by omega⟩
    refine r_iconst S dX11_lookForCrews_13 (by decide) (fun v23 z24 => ?_)
    have r25 := R_eq z24
    exact r_ret S hr hlk X ⟨hI, Fr_rfl, (R_of r25 rfl)⟩ rfl dX11_lookForCrews_14
def po_X11_now (τ : Tau)  (a0 : Int32)   (r : Int32) (u : Tau) : Prop := u = τ
set_option maxHeartbeats 4000000 in
set_option maxRecDepth 100000 in
theorem c_X11_now (l : Launch) (G : Gx) (τ : Tau) (hI : Inv τ) (a0 : Int32) (h_a0 : R (-2147483648) (2147483647) a0) : Ci l G yX11_now cX11_now 3 (some .int) 2 43 [.ref (G.2.2.2.1 0), .int a0] τ (po_X11_now τ  a0  ) := by
  unfold Ci
  refine C_of (own := RX11) (by decide) rfl (Nat.le_of_ble_eq_true rfl) ?_
  intro p e s m below meth c ls S hr hlk X hl
  have hl : lv_has ls 3 [(0, .ref (G.2.2.2.1 0)), (1, .int a0)] := hl
  refine r_aload_n S dX11_now_0 rfl (lv_at hl 0 rfl) ?_
  refine r_get (K := 0) (v := .ref (G.2.2.2.1 22)) S X (Nat.le_of_ble_eq_true rfl) rfl lk11_42_9 (fun _ => ⟨_, rfl, rfl⟩) dX11_now_1 ?_
  refine r_get (K := 22) (v := .ref (G.2.2.2.1 30)) S X (Nat.le_of_ble_eq_true rfl) rfl lk11_129_8 (fun _ => ⟨_, rfl, rfl⟩) dX11_now_4 ?_
  refine r_astore_n (lv' := [(2, .ref (G.2.2.2.1 30)), (0, .ref (G.2.2.2.1 0)), (1, .int a0)]) S dX11_now_7 rfl hl (by decide) rfl (fun ls hl => ?_)
  refine r_iload_n S dX11_now_8 rfl (lv_at hl 2 rfl) ?_
  rcases (show (a0.toInt < 0 ∨ 7 < a0.toInt) ∨ a0.toInt = 0 ∨ a0.toInt = 1 ∨ a0.toInt = 2 ∨ a0.toInt = 3 ∨ a0.toInt = 4 ∨ a0.toInt = 5 ∨ a0.toInt = 6 ∨ a0.toInt = 7 by omega) with c1 | c1 | c1 | c1 | c1 | c1 | c1 | c1 | c1
  ·
    refine lv_tableOut (tgt := 99) S.1.1 S.1.2.1 dX11_now_9 c1 (by decide) ?_
    refine r_iconst S dX11_now_99 (by decide) (fun v2 z3 => ?_)
    have r4 := R_eq z3
    exact r_ret S hr hlk X rfl rfl dX11_now_100
  ·
    refine lv_tableIn (tgt := 56) S.1.1 S.1.2.1 dX11_now_9 (by omega) (by omega) (by rw [c1]; rfl) (by decide) ?_
    have r5 : R (0) (0) a0 := ⟨by omega, by omega⟩
    refine r_aload_n S dX11_now_56 rfl (lv_at hl 0 rfl) ?_
    refine r_getn (K := 23) S X (Nat.le_of_ble_eq_true rfl) rfl lk11_172_3 (fun _ => ⟨_, rfl, rfl⟩) dX11_now_57 (fun v6 z7 => ?_)
    have r8 : R (0) (1) v6 := rd hI rfl z7
    exact r_ret S hr hlk X rfl rfl dX11_now_60
  ·
    refine lv_tableIn (tgt := 61) S.1.1 S.1.2.1 dX11_now_9 (by omega) (by omega) (by rw [c1]; rfl) (by decide) ?_
    have r9 : R (1) (1) a0 := ⟨by omega, by omega⟩
    refine r_aload_n S dX11_now_61 rfl (lv_at hl 0 rfl) ?_
    refine r_getn (K := 23) S X (Nat.le_of_ble_eq_true rfl) rfl lk11_175_3 (fun _ => ⟨_, rfl, rfl⟩) dX11_now_62 (fun v10 z11 => ?_)
    have r12 : R (-1) (8) v10 := rd hI rfl z11
    exact r_ret S hr hlk X rfl rfl dX11_now_65
  ·
    refine lv_tableIn (tgt := 66) S.1.1 S.1.2.1 dX11_now_9 (by omega) (by omega) (by rw [c1]; rfl) (by decide) ?_
    have r13 : R (2) (2) a0 := ⟨by omega, by omega⟩
    refine r_aload_n S dX11_now_66 rfl (lv_at hl 0 rfl) ?_
    refine r_getn (K := 23) S X (Nat.le_of_ble_eq_true rfl) rfl lk11_178_3 (fun _ => ⟨_, rfl, rfl⟩) dX11_now_67 (fun v14 z15 => ?_)
    have r17 := R_any v14
    exact r_ret S hr hlk X rfl rfl dX11_now_70
  ·
    refine lv_tableIn (tgt := 71) S.1.1 S.1.2.1 dX11_now_9 (by omega) (by omega) (by rw [c1]; rfl) (by decide) ?_
    have r18 : R (3) (3) a0 := ⟨by omega, by omega⟩
    refine r_aload_n S dX11_now_71 rfl (lv_at hl 0 rfl) ?_
    refine r_getn (K := 23) S X (Nat.le_of_ble_eq_true rfl) rfl lk11_181_3 (fun _ => ⟨_, rfl, rfl⟩) dX11_now_72 (fun v19 z20 => ?_)
    have r22 := R_any v19
    exact r_ret S hr hlk X rfl rfl dX11_now_75
  ·
    refine lv_tableIn (tgt := 76) S.1.1 S.1.2.1 dX11_now_9 (by omega) (by omega) (by rw [c1]; rfl) (by decide) ?_
    have r23 : R (4) (4) a0 := ⟨by omega, by omega⟩
    refine r_aload_n S dX11_now_76 rfl (lv_at hl 0 rfl) ?_
    refine r_getn (K := 23) S X (Nat.le_of_ble_eq_true rfl) rfl lk11_132_3 (fun _ => ⟨_, rfl, rfl⟩) dX11_now_77 (fun v24 z25 => ?_)
    have r26 : R (0) (1023) v24 := rd hI rfl z25
    exact r_ret S hr hlk X rfl rfl dX11_now_80
  ·
    refine lv_tableIn (tgt := 81) S.1.1 S.1.2.1 dX11_now_9 (by omega) (by omega) (by rw [c1]; rfl) (by decide) ?_
    have r27 : R (5) (5) a0 := ⟨by omega, by omega⟩
    refine r_aload_n S dX11_now_81 rfl (lv_at hl 0 rfl) ?_
    refine r_getn (K := 23) S X (Nat.le_of_ble_eq_true rfl) rfl lk11_148_3 (fun _ => ⟨_, rfl, rfl⟩) dX11_now_82 (fun v28 z29 => ?_)
    have r30 : R (0) (1023) v28 := rd hI rfl z29
    exact r_ret S hr hlk X rfl rfl dX11_now_85
  ·
    refine lv_tableIn (tgt := 86) S.1.1 S.1.2.1 dX11_now_9 (by omega) (by omega) (by rw [c1]; rfl) (by decide) ?_
    have r31 : R (6) (6) a0 := ⟨by omega, by omega⟩
    refine r_aload_n S dX11_now_86 rfl (lv_at hl 1 rfl) ?_
    refine r_get (K := 0) (v := .ref (G.2.2.2.1 22)) S X (Nat.le_of_ble_eq_true rfl) rfl lk11_42_9 (fun _ => ⟨_, rfl, rfl⟩) dX11_now_87 ?_
    refine r_ki (q_V (As := []) (rest := []) (K := 22) (ci := 8) S X (c_X10_partedKin l G τ hI ) ck11_184 (Nat.le_of_ble_eq_true rfl) rfl (fun _ => ⟨_, rfl⟩) ⟨_, _, rfl⟩ ⟨Nat.le_of_ble_eq_true rfl, Nat.le_of_ble_eq_true rfl⟩ rfl hl.1 rfl (Nat.le_of_ble_eq_true rfl) dX11_now_90 ⟨Nat.le_refl 0, Nat.le_refl 0⟩) X (fun v35 t34 H lc q32 X33 => ?_)
    unfold po_X10_partedKin at q32
    have q36 := q32
    rw [q36] at X33
    have r37 := R_any v35
    exact r_ret S hr hlk X33 rfl rfl dX11_now_93
  ·
    refine lv_tableIn (tgt := 94) S.1.1 S.1.2.1 dX11_now_9 (by omega) (by omega) (by rw [c1]; rfl) (by decide) ?_
    have r38 : R (7) (7) a0 := ⟨by omega, by omega⟩
    refine r_aload_n S dX11_now_94 rfl (lv_at hl 0 rfl) ?_
    refine r_getn (K := 23) S X (Nat.le_of_ble_eq_true rfl) rfl lk11_145_3 (fun _ => ⟨_, rfl, rfl⟩) dX11_now_95 (fun v39 z40 => ?_)
    have r41 : R (0) (1023) v39 := rd hI rfl z40
    exact r_ret S hr hlk X rfl rfl dX11_now_98
def po_X11_why (τ : Tau)  (a0 : Int32)   (r : Int32) (u : Tau) : Prop := u = τ
set_option maxHeartbeats 4000000 in
set_option maxRecDepth 100000 in
theorem c_X11_why (l : Launch) (G : Gx) (τ : Tau) (hI : Inv τ) (a0 : Int32) (h_a0 : R (-2147483648) (2147483647) a0) (hWI : WI τ) : Ci l G yX11_why cX11_why 2 (some .int) 5 118 [.ref (G.2.2.2.1 0), .int a0] τ (po_X11_why τ  a0  ) := by
  unfold Ci
  refine C_of (own := RX11) (by decide) rfl (Nat.le_of_ble_eq_true rfl) ?_
  intro p e s m below meth c ls S hr hlk X hl
  have hl : lv_has ls 2 [(0, .ref (G.2.2.2.1 0)), (1, .int a0)] := hl
  refine r_aload_n S dX11_why_0 rfl (lv_at hl 0 rfl) ?_
  refine r_get (K := 0) (v := .ref (G.2.2.2.1 22)) S X (Nat.le_of_ble_eq_true rfl) rfl lk11_42_9 (fun _ => ⟨_, rfl, rfl⟩) dX11_why_1 ?_
  refine r_iload_n S dX11_why_4 rfl (lv_at hl 1 rfl) ?_
  refine r_ki (q_V (As := [.int a0]) (rest := []) (K := 22) (ci := 8) S X (c_X10_hasSet l G τ hI a0 h_a0) ck11_188 (Nat.le_of_ble_eq_true rfl) rfl (fun _ => ⟨_, rfl⟩) ⟨_, _, rfl⟩ ⟨Nat.le_of_ble_eq_true rfl, Nat.le_of_ble_eq_true rfl⟩ rfl hl.1 rfl (Nat.le_of_ble_eq_true rfl) dX11_why_5 ⟨Nat.le_refl 0, Nat.le_refl 0⟩) X (fun v4 t3 H lc q1 X2 => ?_)
  unfold po_X10_hasSet at q1
  obtain ⟨q5, q6, q7⟩ := q1
  rw [q5] at X2
  refine r_if_eq (tgt := 22) S dX11_why_8 (by decide) (fun c8 => ?_) (fun c8 => ?_)
  ·
    have r9 : R (0) (0) v4 := ⟨by omega, by omega⟩
    refine r_iconst S dX11_why_22 (by decide) (fun v10 z11 => ?_)
    have r12 := R_eq z11
    exact r_ret S hr hlk X2 rfl rfl dX11_why_23
  ·
    have r13 : R (1) (1) v4 := ⟨by omega, by omega⟩
    have p14 := q7 (by omega)
    have r15 : R (0) (1023) a0 := ⟨by omega, by omega⟩
    refine r_aload_n S dX11_why_11 rfl (lv_at hl 0 rfl) ?_
    refine r_get (K := 0) (v := .ref (G.2.2.2.1 22)) S X2 (Nat.le_of_ble_eq_true rfl) rfl lk11_42_9 (fun _ => ⟨_, rfl, rfl⟩) dX11_why_12 ?_
    refine r_iload_n S dX11_why_15 rfl (lv_at hl 1 rfl) ?_
    refine r_ki (q_V (As := [.int a0]) (rest := []) (K := 22) (ci := 8) S X2 (c_X10_whyStay l G τ hI a0 (R_of (lo := -2147483648) (hi := 2147483647) r15 rfl) hWI) ck11_191 (Nat.le_of_ble_eq_true rfl) rfl (fun _ => ⟨_, rfl⟩) ⟨_, _, rfl⟩ ⟨Nat.le_of_ble_eq_true rfl, Nat.le_of_ble_eq_true rfl⟩ rfl hl.1 rfl (Nat.le_of_ble_eq_true rfl) dX11_why_16 ⟨Nat.le_refl 0, Nat.le_refl 0⟩) X2 (fun v19 t18 H lc q16 X17 => ?_)
    unfold po_X10_whyStay at q16
    obtain ⟨q20, q21⟩ := q16
    rw [q20] at X17
    refine r_goto (tgt := 23) S dX11_why_19 (by decide) ?_
    exact r_ret S hr hlk X17 rfl rfl dX11_why_23
def po_X11_crews (τ : Tau)  (a0 : Int32)   (r : Int32) (u : Tau) : Prop := Inv u ∧ Fr [] [46, 47, 48] τ u
set_option maxHeartbeats 4000000 in
set_option maxRecDepth 100000 in
theorem c_X11_crews (l : Launch) (G : Gx) (τ : Tau) (hI : Inv τ) (a0 : Int32) (h_a0 : R (-2147483648) (2147483647) a0) (hWI : WI τ) : Ci l G yX11_crews cX11_crews 5 (some .int) 6 145 [.ref (G.2.2.2.1 0), .int a0] τ (po_X11_crews τ  a0  ) := by
  unfold Ci
  refine C_of (own := RX11) (by decide) rfl (Nat.le_of_ble_eq_true rfl) ?_
  intro p e s m below meth c ls S hr hlk X hl
  have hl : lv_has ls 5 [(0, .ref (G.2.2.2.1 0)), (1, .int a0)] := hl
  refine r_iconst S dX11_crews_0 (by decide) (fun v1 z2 => ?_)
  have r3 := R_eq z2
  refine r_istore_n (lv' := [(2, .int v1), (0, .ref (G.2.2.2.1 0)), (1, .int a0)]) S dX11_crews_1 rfl hl (by decide) rfl (fun ls hl => ?_)
  refine r_aload_n S dX11_crews_2 rfl (lv_at hl 1 rfl) ?_
  refine r_ki (q_V (As := []) (rest := []) (K := 0) (ci := 9) S X (c_X11_lookForCrews l G τ hI hWI) ck11_216 (Nat.le_of_ble_eq_true rfl) rfl (fun _ => ⟨_, rfl⟩) ⟨_, _, rfl⟩ ⟨Nat.le_of_ble_eq_true rfl, Nat.le_of_ble_eq_true rfl⟩ rfl hl.1 rfl (Nat.le_of_ble_eq_true rfl) dX11_crews_3 ⟨Nat.le_refl 0, Nat.le_refl 0⟩) X (fun v7 t6 H lc q4 X5 => ?_)
  unfold po_X11_lookForCrews at q4
  obtain ⟨q8, q9, q10⟩ := q4
  have F11 : Fr [] [46, 47, 48] τ t6 := Fr_call Fr_rfl q9 (by decide)
  refine r_istore_n (lv' := [(3, .int v7), (2, .int v1), (0, .ref (G.2.2.2.1 0)), (1, .int a0)]) S dX11_crews_6 rfl hl (by decide) rfl (fun ls hl => ?_)
  refine r_iconst S dX11_crews_7 (by decide) (fun v12 z13 => ?_)
  have r14 := R_eq z13
  refine r_istore (lv' := [(4, .int v12), (3, .int v7), (2, .int v1), (0, .ref (G.2.2.2.1 0)), (1, .int a0)]) S dX11_crews_8 hl (by decide) rfl (fun ls hl => ?_)
  have L1571 : ∀ (n : Nat) (H : Heap) (lc : List Loc) (ls : Array Slot) (i1566 : Int32) (i1568 : Int32), Xd G s H lc t6 → R (-2147483648) (2147483647) i1566 → R (1) (1024) i1568 → lv_has ls 5 [(0, .ref (G.2.2.2.1 0)), (1, .int a0), (2, .int i1566), (3, .int v7), (4, .int i1568)] → (1024 - i1568.toInt).toNat < n → W p l e (Rm 6 145) s m ([.ref (G.2.2.2.1 0), .int a0] : List Value).toArray below meth c H lc 0 0 (MQ below (va_Qi (po_X11_crews τ  a0  ) (Bs G) G.2.2.2.2) ([.ref (G.2.2.2.1 0), .int a0] : List Value).toArray s 0 0 G.2.2.2.2) (F0 m 10 ls []) := by
    intro n
    induction n with
    | zero => intros; omega
    | succ n ih1572 =>
      intro H lc ls i1566 i1568 X1570 r1567 r1569 hl hm
      refine r_iload S dX11_crews_10 (lv_at hl 4 rfl) ?_
      refine r_iload_n S dX11_crews_12 rfl (lv_at hl 3 rfl) ?_
      refine r_icmp_gt (tgt := 46) S dX11_crews_13 (by decide) (fun c1573 => ?_) (fun c1573 => ?_)
      ·
        refine r_iload_n S dX11_crews_46 rfl (lv_at hl 1 rfl) ?_
        refine r_iconst S dX11_crews_47 (by decide) (fun v1574 z1575 => ?_)
        have r1576 := R_eq z1575
        refine r_icmp_ne (tgt := 55) S dX11_crews_48 (by decide) (fun c1577 => ?_) (fun c1577 => ?_)
        ·
          refine r_iconst S dX11_crews_55 (by decide) (fun v1578 z1579 => ?_)
          have r1580 := R_eq z1579
          exact r_ret S hr hlk X1570 ⟨q8, F11⟩ rfl dX11_crews_56
        ·
          have r1581 : R (-1) (-1) a0 := ⟨by omega, by omega⟩
          refine r_iload_n S dX11_crews_51 rfl (lv_at hl 2 rfl) ?_
          refine r_goto (tgt := 56) S dX11_crews_52 (by decide) ?_
          exact r_ret S hr hlk X1570 ⟨q8, F11⟩ rfl dX11_crews_56
      ·
        have r1582 : R (1) (1023) i1568 := ⟨by omega, by omega⟩
        have r1583 : R (1) (1023) v7 := ⟨by omega, by omega⟩
        refine r_aload_n S dX11_crews_16 rfl (lv_at hl 0 rfl) ?_
        refine r_get (K := 0) (v := .ref (G.2.2.2.1 45)) S X1570 (Nat.le_of_ble_eq_true rfl) rfl lk11_56_9 (fun _ => ⟨_, rfl, rfl⟩) dX11_crews_17 ?_
        refine r_iload S dX11_crews_20 (lv_at hl 4 rfl) ?_
        refine r_iload_n S dX11_crews_22 rfl (lv_at hl 3 rfl) ?_
        refine r_ki (q_V (As := [.int i1568, .int v7]) (rest := []) (K := 28) (ci := 4) S X1570 (c_X4_isCrew l G t6 q8 i1568 v7 (R_of (lo := 0) (hi := 1023) r1582 rfl) (R_of (lo := 0) (hi := 1023) r1583 rfl)) ck11_219 (Nat.le_of_ble_eq_true rfl) rfl (fun _ => ⟨_, rfl⟩) ⟨_, _, rfl⟩ ⟨Nat.le_of_ble_eq_true rfl, Nat.le_of_ble_eq_true rfl⟩ rfl hl.1 rfl (Nat.le_of_ble_eq_true rfl) dX11_crews_23 ⟨Nat.le_refl 0, Nat.le_refl 0⟩) X1570 (fun v1587 t1586 H lc q1584 X1585 => ?_)
        unfold po_X4_isCrew at q1584
        obtain ⟨q1588, q1589⟩ := q1584
        rw [q1588] at X1585
        refine r_if_eq (tgt := 40) S dX11_crews_26 (by decide) (fun c1590 => ?_) (fun c1590 => ?_)
        ·
          have r1591 : R (0) (0) v1587 := ⟨by omega, by omega⟩
          refine r_iinc (k := 4) S dX11_crews_40 hl rfl (by decide) (by decide) (fun v1592 d1593 ls z1594 z1595 hl => ?_)
          obtain ⟨e1596, r1597⟩ := i_add (lo := 2) (hi := 1024) z1594 r1582 (R_eq z1595) rfl
          have hl : lv_has ls 5 [(4, .int v1592), (0, .ref (G.2.2.2.1 0)), (1, .int a0), (2, .int i1566), (3, .int v7)] := hl
          refine r_goto (tgt := 10) S dX11_crews_43 (by decide) ?_
          exact ih1572 _ _ _ i1566 v1592 X1585 r1567 (R_of r1597 rfl) (lv_sub hl [1, 2, 3, 4, 0] rfl) (by omega)
        ·
          have r1598 : R (1) (1) v1587 := ⟨by omega, by omega⟩
          refine r_iload_n S dX11_crews_29 rfl (lv_at hl 2 rfl) ?_
          refine r_iload_n S dX11_crews_30 rfl (lv_at hl 1 rfl) ?_
          refine r_icmp_ne (tgt := 37) S dX11_crews_31 (by decide) (fun c1599 => ?_) (fun c1599 => ?_)
          ·
            refine r_iinc (k := 2) S dX11_crews_37 hl rfl (by decide) (by decide) (fun v1600 d1601 ls z1602 z1603 hl => ?_)
            have r1604 := R_any v1600
            have hl : lv_has ls 5 [(2, .int v1600), (0, .ref (G.2.2.2.1 0)), (1, .int a0), (3, .int v7), (4, .int i1568)] := hl
            refine r_iinc (k := 4) S dX11_crews_40 hl rfl (by decide) (by decide) (fun v1605 d1606 ls z1607 z1608 hl => ?_)
            obtain ⟨e1609, r1610⟩ := i_add (lo := 2) (hi := 1024) z1607 r1582 (R_eq z1608) rfl
            have hl : lv_has ls 5 [(4, .int v1605), (2, .int v1600), (0, .ref (G.2.2.2.1 0)), (1, .int a0), (3, .int v7)] := hl
            refine r_goto (tgt := 10) S dX11_crews_43 (by decide) ?_
            exact ih1572 _ _ _ v1600 v1605 X1585 r1604 (R_of r1610 rfl) (lv_sub hl [2, 3, 1, 4, 0] rfl) (by omega)
          ·
            refine r_iload S dX11_crews_34 (lv_at hl 4 rfl) ?_
            exact r_ret S hr hlk X1585 ⟨q8, F11⟩ rfl dX11_crews_36
  exact L1571 _ _ _ _ v1 v12 X5 (R_of r3 rfl) (R_of r14 rfl) (lv_sub hl [3, 4, 2, 1, 0] rfl) (Nat.lt_succ_self _)
def po_X11_largest (τ : Tau)     (r : Int32) (u : Tau) : Prop := Inv u ∧ Fr [] [46, 47, 48] τ u
set_option maxHeartbeats 4000000 in
set_option maxRecDepth 100000 in
theorem c_X11_largest (l : Launch) (G : Gx) (τ : Tau) (hI : Inv τ) (hWI : WI τ) : Ci l G yX11_largest cX11_largest 5 (some .int) 6 145 [.ref (G.2.2.2.1 0)] τ (po_X11_largest τ    ) := by
  unfold Ci
  refine C_of (own := RX11) (by decide) rfl (Nat.le_of_ble_eq_true rfl) ?_
  intro p e s m below meth c ls S hr hlk X hl
  have hl : lv_has ls 5 [(0, .ref (G.2.2.2.1 0))] := hl
  refine r_iconst S dX11_largest_0 (by decide) (fun v1 z2 => ?_)
  have r3 := R_eq z2
  refine r_istore_n (lv' := [(1, .int v1), (0, .ref (G.2.2.2.1 0))]) S dX11_largest_1 rfl hl (by decide) rfl (fun ls hl => ?_)
  refine r_iconst S dX11_largest_2 (by decide) (fun v4 z5 => ?_)
  have r6 := R_eq z5
  refine r_istore_n (lv' := [(2, .int v4), (1, .int v1), (0, .ref (G.2.2.2.1 0))]) S dX11_largest_3 rfl hl (by decide) rfl (fun ls hl => ?_)
  refine r_aload_n S dX11_largest_4 rfl (lv_at hl 2 rfl) ?_
  refine r_ki (q_V (As := []) (rest := []) (K := 0) (ci := 9) S X (c_X11_lookForCrews l G τ hI hWI) ck11_216 (Nat.le_of_ble_eq_true rfl) rfl (fun _ => ⟨_, rfl⟩) ⟨_, _, rfl⟩ ⟨Nat.le_of_ble_eq_true rfl, Nat.le_of_ble_eq_true rfl⟩ rfl hl.1 rfl (Nat.le_of_ble_eq_true rfl) dX11_largest_5 ⟨Nat.le_refl 0, Nat.le_refl 0⟩) X (fun v10 t9 H lc q7 X8 => ?_)
  unfold po_X11_lookForCrews at q7
  obtain ⟨q11, q12, q13⟩ := q7
  have F14 : Fr [] [46, 47, 48] τ t9 := Fr_call Fr_rfl q12 (by decide)
  refine r_istore_n (lv' := [(3, .int v10), (2, .int v4), (1, .int v1), (0, .ref (G.2.2.2.1 0))]) S dX11_largest_8 rfl hl (by decide) rfl (fun ls hl => ?_)
  refine r_iconst S dX11_largest_9 (by decide) (fun v15 z16 => ?_)
  have r17 := R_eq z16
  refine r_istore (lv' := [(4, .int v15), (3, .int v10), (2, .int v4), (1, .int v1), (0, .ref (G.2.2.2.1 0))]) S dX11_largest_10 hl (by decide) rfl (fun ls hl => ?_)
  have L1741 : ∀ (n : Nat) (H : Heap) (lc : List Loc) (ls : Array Slot) (i1734 : Int32) (i1736 : Int32) (i1738 : Int32), Xd G s H lc t9 → R (0) (90) i1734 → R (-1) (1023) i1736 → R (1) (1024) i1738 → lv_has ls 5 [(0, .ref (G.2.2.2.1 0)), (1, .int i1734), (2, .int i1736), (3, .int v10), (4, .int i1738)] → (1024 - i1738.toInt).toNat < n → W p l e (Rm 6 145) s m ([.ref (G.2.2.2.1 0)] : List Value).toArray below meth c H lc 0 0 (MQ below (va_Qi (po_X11_largest τ    ) (Bs G) G.2.2.2.2) ([.ref (G.2.2.2.1 0)] : List Value).toArray s 0 0 G.2.2.2.2) (F0 m 12 ls []) := by
    intro n
    induction n with
    | zero => intros; omega
    | succ n ih1742 =>
      intro H lc ls i1734 i1736 i1738 X1740 r1735 r1737 r1739 hl hm
      refine r_iload S dX11_largest_12 (lv_at hl 4 rfl) ?_
      refine r_iload_n S dX11_largest_14 rfl (lv_at hl 3 rfl) ?_
      refine r_icmp_gt (tgt := 55) S dX11_largest_15 (by decide) (fun c1743 => ?_) (fun c1743 => ?_)
      ·
        refine r_iload_n S dX11_largest_55 rfl (lv_at hl 2 rfl) ?_
        exact r_ret S hr hlk X1740 ⟨q11, F14⟩ rfl dX11_largest_56
      ·
        have r1744 : R (1) (1023) i1738 := ⟨by omega, by omega⟩
        have r1745 : R (1) (1023) v10 := ⟨by omega, by omega⟩
        refine r_aload_n S dX11_largest_18 rfl (lv_at hl 0 rfl) ?_
        refine r_get (K := 0) (v := .ref (G.2.2.2.1 45)) S X1740 (Nat.le_of_ble_eq_true rfl) rfl lk11_56_9 (fun _ => ⟨_, rfl, rfl⟩) dX11_largest_19 ?_
        refine r_iload S dX11_largest_22 (lv_at hl 4 rfl) ?_
        refine r_iload_n S dX11_largest_24 rfl (lv_at hl 3 rfl) ?_
        refine r_ki (q_V (As := [.int i1738, .int v10]) (rest := []) (K := 28) (ci := 4) S X1740 (c_X4_isCrew l G t9 q11 i1738 v10 (R_of (lo := 0) (hi := 1023) r1744 rfl) (R_of (lo := 0) (hi := 1023) r1745 rfl)) ck11_219 (Nat.le_of_ble_eq_true rfl) rfl (fun _ => ⟨_, rfl⟩) ⟨_, _, rfl⟩ ⟨Nat.le_of_ble_eq_true rfl, Nat.le_of_ble_eq_true rfl⟩ rfl hl.1 rfl (Nat.le_of_ble_eq_true rfl) dX11_largest_25 ⟨Nat.le_refl 0, Nat.le_refl 0⟩) X1740 (fun v1749 t1748 H lc q1746 X1747 => ?_)
        unfold po_X4_isCrew at q1746
        obtain ⟨q1750, q1751⟩ := q1746
        rw [q1750] at X1747
        refine r_if_eq (tgt := 49) S dX11_largest_28 (by decide) (fun c1752 => ?_) (fun c1752 => ?_)
        ·
          have r1753 : R (0) (0) v1749 := ⟨by omega, by omega⟩
          refine r_iinc (k := 4) S dX11_largest_49 hl rfl (by decide) (by decide) (fun v1754 d1755 ls z1756 z1757 hl => ?_)
          obtain ⟨e1758, r1759⟩ := i_add (lo := 2) (hi := 1024) z1756 r1744 (R_eq z1757) rfl
          have hl : lv_has ls 5 [(4, .int v1754), (0, .ref (G.2.2.2.1 0)), (1, .int i1734), (2, .int i1736), (3, .int v10)] := hl
          refine r_goto (tgt := 12) S dX11_largest_52 (by decide) ?_
          exact ih1742 _ _ _ i1734 i1736 v1754 X1747 r1735 r1737 (R_of r1759 rfl) (lv_sub hl [1, 2, 3, 4, 0] rfl) (by omega)
        ·
          have r1760 : R (1) (1) v1749 := ⟨by omega, by omega⟩
          refine r_iload S dX11_largest_31 (lv_at hl 4 rfl) ?_
          refine r_ki (q_S (As := [.int i1738]) (rest := []) S X1747 (c_J6_bitCount_0f7a4 l G t9 q11 i1738 (R_of (lo := -2147483648) (hi := 2147483647) r1744 rfl)) ck11_223 ⟨Nat.le_of_ble_eq_true rfl, Nat.le_of_ble_eq_true rfl⟩ rfl hl.1 rfl (Nat.le_of_ble_eq_true rfl) dX11_largest_33 ⟨Nat.le_refl 0, Nat.le_refl 0⟩) X1747 (fun v1764 t1763 H lc q1761 X1762 => ?_)
          unfold po_J6_bitCount_0f7a4 at q1761
          obtain ⟨q1765, q1766⟩ := q1761
          rw [q1765] at X1762
          refine r_iload_n S dX11_largest_36 rfl (lv_at hl 1 rfl) ?_
          refine r_icmp_le (tgt := 49) S dX11_largest_37 (by decide) (fun c1767 => ?_) (fun c1767 => ?_)
          ·
            refine r_iinc (k := 4) S dX11_largest_49 hl rfl (by decide) (by decide) (fun v1768 d1769 ls z1770 z1771 hl => ?_)
            obtain ⟨e1772, r1773⟩ := i_add (lo := 2) (hi := 1024) z1770 r1744 (R_eq z1771) rfl
            have hl : lv_has ls 5 [(4, .int v1768), (0, .ref (G.2.2.2.1 0)), (1, .int i1734), (2, .int i1736), (3, .int v10)] := hl
            refine r_goto (tgt := 12) S dX11_largest_52 (by decide) ?_
            exact ih1742 _ _ _ i1734 i1736 v1768 X1762 r1735 r1737 (R_of r1773 rfl) (lv_sub hl [1, 2, 3, 4, 0] rfl) (by omega)
          ·
            have r1774 : R (0) (62) i1734 := ⟨by omega, by omega⟩
            have r1775 : R (1) (63) v1764 := ⟨by omega, by omega⟩
            refine r_iload S dX11_largest_40 (lv_at hl 4 rfl) ?_
            refine r_ki (q_S (As := [.int i1738]) (rest := []) S X1762 (c_J6_bitCount_0f7a4 l G t9 q11 i1738 (R_of (lo := -2147483648) (hi := 2147483647) r1744 rfl)) ck11_223 ⟨Nat.le_of_ble_eq_true rfl, Nat.le_of_ble_eq_true rfl⟩ rfl hl.1 rfl (Nat.le_of_ble_eq_true rfl) dX11_largest_42 ⟨Nat.le_refl 0, Nat.le_refl 0⟩) X1762 (fun v1779 t1778 H lc q1776 X1777 => ?_)
            unfold po_J6_bitCount_0f7a4 at q1776
            obtain ⟨q1780, q1781⟩ := q1776
            rw [q1780] at X1777
            refine r_istore_n (lv' := [(1, .int v1779), (0, .ref (G.2.2.2.1 0)), (2, .int i1736), (3, .int v10), (4, .int i1738)]) S dX11_largest_45 rfl hl (by decide) rfl (fun ls hl => ?_)
            refine r_iload S dX11_largest_46 (lv_at hl 4 rfl) ?_
            refine r_istore_n (lv' := [(2, .int i1738), (1, .int v1779), (0, .ref (G.2.2.2.1 0)), (3, .int v10), (4, .int i1738)]) S dX11_largest_48 rfl hl (by decide) rfl (fun ls hl => ?_)
            refine r_iinc (k := 4) S dX11_largest_49 hl rfl (by decide) (by decide) (fun v1782 d1783 ls z1784 z1785 hl => ?_)
            obtain ⟨e1786, r1787⟩ := i_add (lo := 2) (hi := 1024) z1784 r1744 (R_eq z1785) rfl
            have hl : lv_has ls 5 [(4, .int v1782), (2, .int i1738), (1, .int v1779), (0, .ref (G.2.2.2.1 0)), (3, .int v10)] := hl
            refine r_goto (tgt := 12) S dX11_largest_52 (by decide) ?_
            exact ih1742 _ _ _ v1779 i1738 v1782 X1777 (R_of q1781 rfl) (R_of r1744 rfl) (R_of r1787 rfl) (lv_sub hl [3, 2, 1, 4, 0] rfl) (by omega)
  exact L1741 _ _ _ _ v1 v4 v15 X8 (R_of r3 rfl) (R_of r6 rfl) (R_of r17 rfl) (lv_sub hl [4, 3, 2, 1, 0] rfl) (Nat.lt_succ_self _)
def po_X11_stuck (τ : Tau)     (r : Int32) (u : Tau) : Prop := Inv u ∧ Fr [] [46, 47, 48] τ u
set_option maxHeartbeats 4000000 in
set_option maxRecDepth 100000 in
theorem c_X11_stuck (l : Launch) (G : Gx) (τ : Tau) (hI : Inv τ) (hWI : WI τ) : Ci l G yX11_stuck cX11_stuck 4 (some .int) 6 145 [.ref (G.2.2.2.1 0)] τ (po_X11_stuck τ    ) := by
  unfold Ci
  refine C_of (own := RX11) (by decide) rfl (Nat.le_of_ble_eq_true rfl) ?_
  intro p e s m below meth c ls S hr hlk X hl
  have hl : lv_has ls 4 [(0, .ref (G.2.2.2.1 0))] := hl
  refine r_iconst S dX11_stuck_0 (by decide) (fun v1 z2 => ?_)
  have r3 := R_eq z2
  refine r_istore_n (lv' := [(1, .int v1), (0, .ref (G.2.2.2.1 0))]) S dX11_stuck_1 rfl hl (by decide) rfl (fun ls hl => ?_)
  refine r_aload_n S dX11_stuck_2 rfl (lv_at hl 1 rfl) ?_
  refine r_ki (q_V (As := []) (rest := []) (K := 0) (ci := 9) S X (c_X11_lookForCrews l G τ hI hWI) ck11_216 (Nat.le_of_ble_eq_true rfl) rfl (fun _ => ⟨_, rfl⟩) ⟨_, _, rfl⟩ ⟨Nat.le_of_ble_eq_true rfl, Nat.le_of_ble_eq_true rfl⟩ rfl hl.1 rfl (Nat.le_of_ble_eq_true rfl) dX11_stuck_3 ⟨Nat.le_refl 0, Nat.le_refl 0⟩) X (fun v7 t6 H lc q4 X5 => ?_)
  unfold po_X11_lookForCrews at q4
  obtain ⟨q8, q9, q10⟩ := q4
  have F11 : Fr [] [46, 47, 48] τ t6 := Fr_call Fr_rfl q9 (by decide)
  refine r_istore_n (lv' := [(2, .int v7), (1, .int v1), (0, .ref (G.2.2.2.1 0))]) S dX11_stuck_6 rfl hl (by decide) rfl (fun ls hl => ?_)
  refine r_iconst S dX11_stuck_7 (by decide) (fun v12 z13 => ?_)
  have r14 := R_eq z13
  refine r_istore_n (lv' := [(3, .int v12), (2, .int v7), (1, .int v1), (0, .ref (G.2.2.2.1 0))]) S dX11_stuck_8 rfl hl (by decide) rfl (fun ls hl => ?_)
  have L1109 : ∀ (n : Nat) (H : Heap) (lc : List Loc) (ls : Array Slot) (i1104 : Int32) (i1106 : Int32), Xd G s H lc t6 → R (0) (1023) i1104 → R (1) (1024) i1106 → lv_has ls 4 [(0, .ref (G.2.2.2.1 0)), (1, .int i1104), (2, .int v7), (3, .int i1106)] → (1024 - i1106.toInt).toNat < n → W p l e (Rm 6 145) s m ([.ref (G.2.2.2.1 0)] : List Value).toArray below meth c H lc 0 0 (MQ below (va_Qi (po_X11_stuck τ    ) (Bs G) G.2.2.2.2) ([.ref (G.2.2.2.1 0)] : List Value).toArray s 0 0 G.2.2.2.2) (F0 m 9 ls []) := by
    intro n
    induction n with
    | zero => intros; omega
    | succ n ih1110 =>
      intro H lc ls i1104 i1106 X1108 r1105 r1107 hl hm
      refine r_iload_n S dX11_stuck_9 rfl (lv_at hl 3 rfl) ?_
      refine r_iload_n S dX11_stuck_10 rfl (lv_at hl 2 rfl) ?_
      refine r_icmp_gt (tgt := 36) S dX11_stuck_11 (by decide) (fun c1111 => ?_) (fun c1111 => ?_)
      ·
        refine r_aload_n S dX11_stuck_36 rfl (lv_at hl 0 rfl) ?_
        refine r_get (K := 0) (v := .ref (G.2.2.2.1 22)) S X1108 (Nat.le_of_ble_eq_true rfl) rfl lk11_42_9 (fun _ => ⟨_, rfl, rfl⟩) dX11_stuck_37 ?_
        refine r_ki (q_V (As := []) (rest := []) (K := 22) (ci := 8) S X1108 (c_X10_here l G t6 q8 ) ck11_228 (Nat.le_of_ble_eq_true rfl) rfl (fun _ => ⟨_, rfl⟩) ⟨_, _, rfl⟩ ⟨Nat.le_of_ble_eq_true rfl, Nat.le_of_ble_eq_true rfl⟩ rfl hl.1 rfl (Nat.le_of_ble_eq_true rfl) dX11_stuck_40 ⟨Nat.le_refl 0, Nat.le_refl 0⟩) X1108 (fun v1115 t1114 H lc q1112 X1113 => ?_)
        unfold po_X10_here at q1112
        obtain ⟨q1116, q1117⟩ := q1112
        rw [q1116] at X1113
        refine r_iload_n S dX11_stuck_43 rfl (lv_at hl 1 rfl) ?_
        refine r_iconst S dX11_stuck_44 (by decide) (fun v1118 z1119 => ?_)
        have r1120 := R_eq z1119
        refine r_ixor S dX11_stuck_45 (fun v1121 z1122 => ?_)
        have r1123 := R_any v1121
        refine r_iand S dX11_stuck_46 (fun v1124 z1125 => ?_)
        have r1127 : R (0) (1023) v1124 := i_and1 z1125 q1117 r1123 rfl
        have e1128 := i_andle z1125 q1117 rfl
        exact r_ret S hr hlk X1113 ⟨q8, F11⟩ rfl dX11_stuck_47
      ·
        have r1129 : R (1) (1023) i1106 := ⟨by omega, by omega⟩
        have r1130 : R (1) (1023) v7 := ⟨by omega, by omega⟩
        refine r_aload_n S dX11_stuck_14 rfl (lv_at hl 0 rfl) ?_
        refine r_get (K := 0) (v := .ref (G.2.2.2.1 45)) S X1108 (Nat.le_of_ble_eq_true rfl) rfl lk11_56_9 (fun _ => ⟨_, rfl, rfl⟩) dX11_stuck_15 ?_
        refine r_iload_n S dX11_stuck_18 rfl (lv_at hl 3 rfl) ?_
        refine r_iload_n S dX11_stuck_19 rfl (lv_at hl 2 rfl) ?_
        refine r_ki (q_V (As := [.int i1106, .int v7]) (rest := []) (K := 28) (ci := 4) S X1108 (c_X4_isCrew l G t6 q8 i1106 v7 (R_of (lo := 0) (hi := 1023) r1129 rfl) (R_of (lo := 0) (hi := 1023) r1130 rfl)) ck11_219 (Nat.le_of_ble_eq_true rfl) rfl (fun _ => ⟨_, rfl⟩) ⟨_, _, rfl⟩ ⟨Nat.le_of_ble_eq_true rfl, Nat.le_of_ble_eq_true rfl⟩ rfl hl.1 rfl (Nat.le_of_ble_eq_true rfl) dX11_stuck_20 ⟨Nat.le_refl 0, Nat.le_refl 0⟩) X1108 (fun v1134 t1133 H lc q1131 X1132 => ?_)
        unfold po_X4_isCrew at q1131
        obtain ⟨q1135, q1136⟩ := q1131
        rw [q1135] at X1132
        refine r_if_eq (tgt := 30) S dX11_stuck_23 (by decide) (fun c1137 => ?_) (fun c1137 => ?_)
        ·
          have r1138 : R (0) (0) v1134 := ⟨by omega, by omega⟩
          refine r_iinc (k := 3) S dX11_stuck_30 hl rfl (by decide) (by decide) (fun v1139 d1140 ls z1141 z1142 hl => ?_)
          obtain ⟨e1143, r1144⟩ := i_add (lo := 2) (hi := 1024) z1141 r1129 (R_eq z1142) rfl
          have hl : lv_has ls 4 [(3, .int v1139), (0, .ref (G.2.2.2.1 0)), (1, .int i1104), (2, .int v7)] := hl
          refine r_goto (tgt := 9) S dX11_stuck_33 (by decide) ?_
          exact ih1110 _ _ _ i1104 v1139 X1132 r1105 (R_of r1144 rfl) (lv_sub hl [1, 2, 3, 0] rfl) (by omega)
        ·
          have r1145 : R (1) (1) v1134 := ⟨by omega, by omega⟩
          refine r_iload_n S dX11_stuck_26 rfl (lv_at hl 1 rfl) ?_
          refine r_iload_n S dX11_stuck_27 rfl (lv_at hl 3 rfl) ?_
          refine r_ior S dX11_stuck_28 (fun v1146 z1147 => ?_)
          have r1149 : R (0) (1023) v1146 := i_or 10 z1147 r1105 r1129 rfl
          refine r_istore_n (lv' := [(1, .int v1146), (0, .ref (G.2.2.2.1 0)), (2, .int v7), (3, .int i1106)]) S dX11_stuck_29 rfl hl (by decide) rfl (fun ls hl => ?_)
          refine r_iinc (k := 3) S dX11_stuck_30 hl rfl (by decide) (by decide) (fun v1150 d1151 ls z1152 z1153 hl => ?_)
          obtain ⟨e1154, r1155⟩ := i_add (lo := 2) (hi := 1024) z1152 r1129 (R_eq z1153) rfl
          have hl : lv_has ls 4 [(3, .int v1150), (1, .int v1146), (0, .ref (G.2.2.2.1 0)), (2, .int v7)] := hl
          refine r_goto (tgt := 9) S dX11_stuck_33 (by decide) ?_
          exact ih1110 _ _ _ v1146 v1150 X1132 r1149 (R_of r1155 rfl) (lv_sub hl [2, 1, 3, 0] rfl) (by omega)
  exact L1109 _ _ _ _ v1 v12 X5 (R_of r3 rfl) (R_of r14 rfl) (lv_sub hl [3, 2, 1, 0] rfl) (Nat.lt_succ_self _)
def po_X11_trips (τ : Tau)  (a0 : Int32)   (r : Int32) (u : Tau) : Prop := Inv u ∧ Fr [] [46, 47, 48, 49, 50] τ u
set_option maxHeartbeats 4000000 in
set_option maxRecDepth 100000 in
theorem c_X11_trips (l : Launch) (G : Gx) (τ : Tau) (hI : Inv τ) (a0 : Int32) (h_a0 : R (-2147483648) (2147483647) a0) : Ci l G yX11_trips cX11_trips 2 (some .int) 6 148 [.ref (G.2.2.2.1 0), .int a0] τ (po_X11_trips τ  a0  ) := by
  unfold Ci
  refine C_of (own := RX11) (by decide) rfl (Nat.le_of_ble_eq_true rfl) ?_
  intro p e s m below meth c ls S hr hlk X hl
  have hl : lv_has ls 2 [(0, .ref (G.2.2.2.1 0)), (1, .int a0)] := hl
  refine r_aload_n S dX11_trips_0 rfl (lv_at hl 0 rfl) ?_
  refine r_get (K := 0) (v := .ref (G.2.2.2.1 22)) S X (Nat.le_of_ble_eq_true rfl) rfl lk11_42_9 (fun _ => ⟨_, rfl, rfl⟩) dX11_trips_1 ?_
  refine r_iload_n S dX11_trips_4 rfl (lv_at hl 1 rfl) ?_
  refine r_ki (q_V (As := [.int a0]) (rest := []) (K := 22) (ci := 8) S X (c_X10_hasAsk l G τ hI a0 h_a0) ck11_163 (Nat.le_of_ble_eq_true rfl) rfl (fun _ => ⟨_, rfl⟩) ⟨_, _, rfl⟩ ⟨Nat.le_of_ble_eq_true rfl, Nat.le_of_ble_eq_true rfl⟩ rfl hl.1 rfl (Nat.le_of_ble_eq_true rfl) dX11_trips_5 ⟨Nat.le_refl 0, Nat.le_refl 0⟩) X (fun v4 t3 H lc q1 X2 => ?_)
  unfold po_X10_hasAsk at q1
  obtain ⟨q5, q6, q7⟩ := q1
  rw [q5] at X2
  refine r_if_eq (tgt := 26) S dX11_trips_8 (by decide) (fun c8 => ?_) (fun c8 => ?_)
  ·
    have r9 : R (0) (0) v4 := ⟨by omega, by omega⟩
    refine r_iconst S dX11_trips_26 (by decide) (fun v10 z11 => ?_)
    have r12 := R_eq z11
    exact r_ret S hr hlk X2 ⟨hI, Fr_rfl⟩ rfl dX11_trips_27
  ·
    have r13 : R (1) (1) v4 := ⟨by omega, by omega⟩
    have p14 := q7 (by omega)
    have r15 : R (0) (8) a0 := ⟨by omega, by omega⟩
    refine r_aload_n S dX11_trips_11 rfl (lv_at hl 0 rfl) ?_
    refine r_get (K := 0) (v := .ref (G.2.2.2.1 45)) S X2 (Nat.le_of_ble_eq_true rfl) rfl lk11_56_9 (fun _ => ⟨_, rfl, rfl⟩) dX11_trips_12 ?_
    refine r_aload_n S dX11_trips_15 rfl (lv_at hl 0 rfl) ?_
    refine r_get (K := 0) (v := .ref (G.2.2.2.1 22)) S X2 (Nat.le_of_ble_eq_true rfl) rfl lk11_42_9 (fun _ => ⟨_, rfl, rfl⟩) dX11_trips_16 ?_
    refine r_iload_n S dX11_trips_19 rfl (lv_at hl 1 rfl) ?_
    refine r_ki (q_V (As := [.ref (G.2.2.2.1 22), .int a0]) (rest := []) (K := 28) (ci := 4) S X2 (c_X4_fewestTrips l G τ hI a0 r15) ck11_231 (Nat.le_of_ble_eq_true rfl) rfl (fun _ => ⟨_, rfl⟩) ⟨_, _, rfl⟩ ⟨Nat.le_of_ble_eq_true rfl, Nat.le_of_ble_eq_true rfl⟩ rfl hl.1 rfl (Nat.le_of_ble_eq_true rfl) dX11_trips_20 ⟨Nat.le_refl 0, Nat.le_refl 0⟩) X2 (fun v19 t18 H lc q16 X17 => ?_)
    unfold po_X4_fewestTrips at q16
    obtain ⟨q20, q21⟩ := q16
    have F22 : Fr [] [46, 47, 48, 49, 50] τ t18 := Fr_call Fr_rfl q21 (by decide)
    have r23 := R_any v19
    refine r_goto (tgt := 27) S dX11_trips_23 (by decide) ?_
    exact r_ret S hr hlk X17 ⟨q20, F22⟩ rfl dX11_trips_27
def po_X11_next (τ : Tau)     (r : Int32) (u : Tau) : Prop := Inv u ∧ Fr [] [46, 47, 48, 49, 50] τ u
set_option maxHeartbeats 4000000 in
set_option maxRecDepth 100000 in
theorem c_X11_next (l : Launch) (G : Gx) (τ : Tau) (hI : Inv τ) (hWI : WI τ) : Ci l G yX11_next cX11_next 1 (some .int) 7 174 [.ref (G.2.2.2.1 0)] τ (po_X11_next τ    ) := by
  unfold Ci
  refine C_of (own := RX11) (by decide) rfl (Nat.le_of_ble_eq_true rfl) ?_
  intro p e s m below meth c ls S hr hlk X hl
  have hl : lv_has ls 1 [(0, .ref (G.2.2.2.1 0))] := hl
  refine r_aload_n S dX11_next_0 rfl (lv_at hl 0 rfl) ?_
  refine r_get (K := 0) (v := .ref (G.2.2.2.1 22)) S X (Nat.le_of_ble_eq_true rfl) rfl lk11_42_9 (fun _ => ⟨_, rfl, rfl⟩) dX11_next_1 ?_
  refine r_get (K := 22) (v := .ref (G.2.2.2.1 23)) S X (Nat.le_of_ble_eq_true rfl) rfl lk11_139_8 (fun _ => ⟨_, rfl, rfl⟩) dX11_next_4 ?_
  refine r_getn (K := 4) S X (Nat.le_of_ble_eq_true rfl) rfl lk11_235_2 (fun _ => ⟨_, rfl, rfl⟩) dX11_next_7 (fun v1 z2 => ?_)
  have r3 : R (0) (9) v1 := rd hI rfl z2
  refine r_if_ne (tgt := 15) S dX11_next_10 (by decide) (fun c4 => ?_) (fun c4 => ?_)
  ·
    have r5 : R (1) (9) v1 := ⟨by omega, by omega⟩
    refine r_aload_n S dX11_next_15 rfl (lv_at hl 0 rfl) ?_
    refine r_get (K := 0) (v := .ref (G.2.2.2.1 45)) S X (Nat.le_of_ble_eq_true rfl) rfl lk11_56_9 (fun _ => ⟨_, rfl, rfl⟩) dX11_next_16 ?_
    refine r_aload_n S dX11_next_19 rfl (lv_at hl 0 rfl) ?_
    refine r_get (K := 0) (v := .ref (G.2.2.2.1 22)) S X (Nat.le_of_ble_eq_true rfl) rfl lk11_42_9 (fun _ => ⟨_, rfl, rfl⟩) dX11_next_20 ?_
    refine r_aload_n S dX11_next_23 rfl (lv_at hl 0 rfl) ?_
    refine r_get (K := 0) (v := .ref (G.2.2.2.1 22)) S X (Nat.le_of_ble_eq_true rfl) rfl lk11_42_9 (fun _ => ⟨_, rfl, rfl⟩) dX11_next_24 ?_
    refine r_get (K := 22) (v := .ref (G.2.2.2.1 30)) S X (Nat.le_of_ble_eq_true rfl) rfl lk11_129_8 (fun _ => ⟨_, rfl, rfl⟩) dX11_next_27 ?_
    refine r_getn (K := 23) S X (Nat.le_of_ble_eq_true rfl) rfl lk11_175_3 (fun _ => ⟨_, rfl, rfl⟩) dX11_next_30 (fun v6 z7 => ?_)
    have r8 : R (-1) (8) v6 := rd hI rfl z7
    have r9 : R 0 8 v6 := WI_r hWI z2 z7 (R_of r5 rfl) (R_of r8 rfl)
    refine r_ki (q_V (As := [.ref (G.2.2.2.1 22), .int v6]) (rest := []) (K := 28) (ci := 4) S X (c_X4_firstOfTrips l G τ hI v6 r9) ck11_238 (Nat.le_of_ble_eq_true rfl) rfl (fun _ => ⟨_, rfl⟩) ⟨_, _, rfl⟩ ⟨Nat.le_of_ble_eq_true rfl, Nat.le_of_ble_eq_true rfl⟩ rfl hl.1 rfl (Nat.le_of_ble_eq_true rfl) dX11_next_33 ⟨Nat.le_refl 0, Nat.le_refl 0⟩) X (fun v13 t12 H lc q10 X11 => ?_)
    unfold po_X4_firstOfTrips at q10
    obtain ⟨q14, q15⟩ := q10
    have F16 : Fr [] [46, 47, 48, 49, 50] τ t12 := Fr_call Fr_rfl q15 (by decide)
    have r17 := R_any v13
    exact r_ret S hr hlk X11 ⟨q14, F16⟩ rfl dX11_next_36
  ·
    have r18 : R (0) (0) v1 := ⟨by omega, by omega⟩
    refine r_iconst S dX11_next_13 (by decide) (fun v19 z20 => ?_)
    have r21 := R_eq z20
    exact r_ret S hr hlk X ⟨hI, Fr_rfl⟩ rfl dX11_next_14
def po_X11_best (τ : Tau)     (r : Int32) (u : Tau) : Prop := Inv u ∧ Fr [] [46, 47, 48, 49, 50] τ u
set_option maxHeartbeats 4000000 in
set_option maxRecDepth 100000 in
theorem c_X11_best (l : Launch) (G : Gx) (τ : Tau) (hI : Inv τ) : Ci l G yX11_best cX11_best 5 (some .int) 6 148 [.ref (G.2.2.2.1 0)] τ (po_X11_best τ    ) := by
  unfold Ci
  refine C_of (own := RX11) (by decide) rfl (Nat.le_of_ble_eq_true rfl) ?_
  intro p e s m below meth c ls S hr hlk X hl
  have hl : lv_has ls 5 [(0, .ref (G.2.2.2.1 0))] := hl
  refine r_iconst S dX11_best_0 (by decide) (fun v1 z2 => ?_)
  have r3 := R_eq z2
  refine r_istore_n (lv' := [(1, .int v1), (0, .ref (G.2.2.2.1 0))]) S dX11_best_1 rfl hl (by decide) rfl (fun ls hl => ?_)
  refine r_iconst S dX11_best_2 (by decide) (fun v4 z5 => ?_)
  have r6 := R_eq z5
  refine r_istore_n (lv' := [(2, .int v4), (1, .int v1), (0, .ref (G.2.2.2.1 0))]) S dX11_best_3 rfl hl (by decide) rfl (fun ls hl => ?_)
  refine r_iconst S dX11_best_4 (by decide) (fun v7 z8 => ?_)
  have r9 := R_eq z8
  refine r_istore_n (lv' := [(3, .int v7), (2, .int v4), (1, .int v1), (0, .ref (G.2.2.2.1 0))]) S dX11_best_5 rfl hl (by decide) rfl (fun ls hl => ?_)
  have L417 : ∀ (n : Nat) (t413 : Tau) (H : Heap) (lc : List Loc) (ls : Array Slot) (i407 : Int32) (i409 : Int32) (i411 : Int32), Xd G s H lc t413 → Inv t413 → Fr [] [46, 47, 48, 49, 50] τ t413 → R (-1) (8) i407 → R (-2147483648) (2147483647) i409 → R (0) (9) i411 → lv_has ls 5 [(0, .ref (G.2.2.2.1 0)), (1, .int i407), (2, .int i409), (3, .int i411)] → (9 - i411.toInt).toNat < n → W p l e (Rm 6 148) s m ([.ref (G.2.2.2.1 0)] : List Value).toArray below meth c H lc 0 0 (MQ below (va_Qi (po_X11_best τ    ) (Bs G) G.2.2.2.2) ([.ref (G.2.2.2.1 0)] : List Value).toArray s 0 0 G.2.2.2.2) (F0 m 6 ls []) := by
    intro n
    induction n with
    | zero => intros; omega
    | succ n ih418 =>
      intro t413 H lc ls i407 i409 i411 X416 I414 F415 r408 r410 r412 hl hm
      refine r_iload_n S dX11_best_6 rfl (lv_at hl 3 rfl) ?_
      refine r_aload_n S dX11_best_7 rfl (lv_at hl 0 rfl) ?_
      refine r_get (K := 0) (v := .ref (G.2.2.2.1 22)) S X416 (Nat.le_of_ble_eq_true rfl) rfl lk11_42_9 (fun _ => ⟨_, rfl, rfl⟩) dX11_best_8 ?_
      refine r_get (K := 22) (v := .ref (G.2.2.2.1 23)) S X416 (Nat.le_of_ble_eq_true rfl) rfl lk11_139_8 (fun _ => ⟨_, rfl, rfl⟩) dX11_best_11 ?_
      refine r_getn (K := 4) S X416 (Nat.le_of_ble_eq_true rfl) rfl lk11_235_2 (fun _ => ⟨_, rfl, rfl⟩) dX11_best_14 (fun v419 z420 => ?_)
      have r421 : R (0) (9) v419 := rd I414 rfl z420
      refine r_icmp_ge (tgt := 62) S dX11_best_17 (by decide) (fun c422 => ?_) (fun c422 => ?_)
      ·
        refine r_iload_n S dX11_best_62 rfl (lv_at hl 1 rfl) ?_
        exact r_ret S hr hlk X416 ⟨I414, F415⟩ rfl dX11_best_63
      ·
        have r423 : R (0) (8) i411 := ⟨by omega, by omega⟩
        have r424 : R (1) (9) v419 := ⟨by omega, by omega⟩
        refine r_aload_n S dX11_best_20 rfl (lv_at hl 0 rfl) ?_
        refine r_get (K := 0) (v := .ref (G.2.2.2.1 45)) S X416 (Nat.le_of_ble_eq_true rfl) rfl lk11_56_9 (fun _ => ⟨_, rfl, rfl⟩) dX11_best_21 ?_
        refine r_aload_n S dX11_best_24 rfl (lv_at hl 0 rfl) ?_
        refine r_get (K := 0) (v := .ref (G.2.2.2.1 22)) S X416 (Nat.le_of_ble_eq_true rfl) rfl lk11_42_9 (fun _ => ⟨_, rfl, rfl⟩) dX11_best_25 ?_
        refine r_iload_n S dX11_best_28 rfl (lv_at hl 3 rfl) ?_
        refine r_ki (q_V (As := [.ref (G.2.2.2.1 22), .int i411]) (rest := []) (K := 28) (ci := 4) S X416 (c_X4_fewestTrips l G t413 I414 i411 r423) ck11_231 (Nat.le_of_ble_eq_true rfl) rfl (fun _ => ⟨_, rfl⟩) ⟨_, _, rfl⟩ ⟨Nat.le_of_ble_eq_true rfl, Nat.le_of_ble_eq_true rfl⟩ rfl hl.1 rfl (Nat.le_of_ble_eq_true rfl) dX11_best_29 ⟨Nat.le_refl 0, Nat.le_refl 0⟩) X416 (fun v428 t427 H lc q425 X426 => ?_)
        unfold po_X4_fewestTrips at q425
        obtain ⟨q429, q430⟩ := q425
        have F431 : Fr [] [46, 47, 48, 49, 50] τ t427 := Fr_call F415 q430 (by decide)
        have r432 := R_any v428
        refine r_istore (lv' := [(4, .int v428), (0, .ref (G.2.2.2.1 0)), (1, .int i407), (2, .int i409), (3, .int i411)]) S dX11_best_32 hl (by decide) rfl (fun ls hl => ?_)
        refine r_iload S dX11_best_34 (lv_at hl 0 rfl) ?_
        refine r_iconst S dX11_best_36 (by decide) (fun v433 z434 => ?_)
        have r435 := R_eq z434
        refine r_icmp_eq (tgt := 56) S dX11_best_37 (by decide) (fun c436 => ?_) (fun c436 => ?_)
        ·
          have r437 : R (-1) (-1) v428 := ⟨by omega, by omega⟩
          refine r_iinc (k := 4) S dX11_best_56 hl rfl (by decide) (by decide) (fun v438 d439 ls z440 z441 hl => ?_)
          obtain ⟨e442, r443⟩ := i_add (lo := 1) (hi := 9) z440 r423 (R_eq z441) rfl
          have hl : lv_has ls 5 [(3, .int v438), (4, .int v428), (0, .ref (G.2.2.2.1 0)), (1, .int i407), (2, .int i409)] := hl
          refine r_goto (tgt := 6) S dX11_best_59 (by decide) ?_
          exact ih418 t427 _ _ _ i407 i409 v438 X426 q429 F431 r408 r410 (R_of r443 rfl) (lv_sub hl [2, 3, 4, 0] rfl) (by omega)
        ·
          refine r_iload_n S dX11_best_40 rfl (lv_at hl 2 rfl) ?_
          refine r_iconst S dX11_best_41 (by decide) (fun v444 z445 => ?_)
          have r446 := R_eq z445
          refine r_icmp_eq (tgt := 51) S dX11_best_42 (by decide) (fun c447 => ?_) (fun c447 => ?_)
          ·
            have r448 : R (-1) (-1) i407 := ⟨by omega, by omega⟩
            refine r_iload_n S dX11_best_51 rfl (lv_at hl 4 rfl) ?_
            refine r_istore_n (lv' := [(1, .int i411), (4, .int v428), (0, .ref (G.2.2.2.1 0)), (2, .int i409), (3, .int i411)]) S dX11_best_52 rfl hl (by decide) rfl (fun ls hl => ?_)
            refine r_iload S dX11_best_53 (lv_at hl 1 rfl) ?_
            refine r_istore_n (lv' := [(2, .int v428), (1, .int i411), (4, .int v428), (0, .ref (G.2.2.2.1 0)), (3, .int i411)]) S dX11_best_55 rfl hl (by decide) rfl (fun ls hl => ?_)
            refine r_iinc (k := 4) S dX11_best_56 hl rfl (by decide) (by decide) (fun v449 d450 ls z451 z452 hl => ?_)
            obtain ⟨e453, r454⟩ := i_add (lo := 1) (hi := 9) z451 r423 (R_eq z452) rfl
            have hl : lv_has ls 5 [(3, .int v449), (2, .int v428), (1, .int i411), (4, .int v428), (0, .ref (G.2.2.2.1 0))] := hl
            refine r_goto (tgt := 6) S dX11_best_59 (by decide) ?_
            exact ih418 t427 _ _ _ i411 v428 v449 X426 q429 F431 (R_of r423 rfl) r432 (R_of r454 rfl) (lv_sub hl [4, 2, 1, 0] rfl) (by omega)
          ·
            have r455 : R (0) (8) i407 := ⟨by omega, by omega⟩
            refine r_iload S dX11_best_45 (lv_at hl 0 rfl) ?_
            refine r_iload_n S dX11_best_47 rfl (lv_at hl 3 rfl) ?_
            refine r_icmp_ge (tgt := 56) S dX11_best_48 (by decide) (fun c456 => ?_) (fun c456 => ?_)
            ·
              refine r_iinc (k := 4) S dX11_best_56 hl rfl (by decide) (by decide) (fun v457 d458 ls z459 z460 hl => ?_)
              obtain ⟨e461, r462⟩ := i_add (lo := 1) (hi := 9) z459 r423 (R_eq z460) rfl
              have hl : lv_has ls 5 [(3, .int v457), (4, .int v428), (0, .ref (G.2.2.2.1 0)), (1, .int i407), (2, .int i409)] := hl
              refine r_goto (tgt := 6) S dX11_best_59 (by decide) ?_
              exact ih418 t427 _ _ _ i407 i409 v457 X426 q429 F431 (R_of r455 rfl) r410 (R_of r462 rfl) (lv_sub hl [2, 3, 4, 0] rfl) (by omega)
            ·
              have r463 : R (-2147483648) (2147483646) v428 := ⟨by omega, by omega⟩
              have r464 : R (-2147483647) (2147483647) i409 := ⟨by omega, by omega⟩
              refine r_iload_n S dX11_best_51 rfl (lv_at hl 4 rfl) ?_
              refine r_istore_n (lv' := [(1, .int i411), (4, .int v428), (0, .ref (G.2.2.2.1 0)), (2, .int i409), (3, .int i411)]) S dX11_best_52 rfl hl (by decide) rfl (fun ls hl => ?_)
              refine r_iload S dX11_best_53 (lv_at hl 1 rfl) ?_
              refine r_istore_n (lv' := [(2, .int v428), (1, .int i411), (4, .int v428), (0, .ref (G.2.2.2.1 0)), (3, .int i411)]) S dX11_best_55 rfl hl (by decide) rfl (fun ls hl => ?_)
              refine r_iinc (k := 4) S dX11_best_56 hl rfl (by decide) (by decide) (fun v465 d466 ls z467 z468 hl => ?_)
              obtain ⟨e469, r470⟩ := i_add (lo := 1) (hi := 9) z467 r423 (R_eq z468) rfl
              have hl : lv_has ls 5 [(3, .int v465), (2, .int v428), (1, .int i411), (4, .int v428), (0, .ref (G.2.2.2.1 0))] := hl
              refine r_goto (tgt := 6) S dX11_best_59 (by decide) ?_
              exact ih418 t427 _ _ _ i411 v428 v465 X426 q429 F431 (R_of r423 rfl) (R_of r463 rfl) (R_of r470 rfl) (lv_sub hl [4, 2, 1, 0] rfl) (by omega)
  exact L417 _ τ _ _ _ v1 v4 v7 X hI Fr_rfl (R_of r3 rfl) (R_of r6 rfl) (R_of r9 rfl) (lv_sub hl [3, 2, 1, 0] rfl) (Nat.lt_succ_self _)
def po_X11_easy (τ : Tau)     (r : Int32) (u : Tau) : Prop := u = τ
set_option maxHeartbeats 4000000 in
set_option maxRecDepth 100000 in
theorem c_X11_easy (l : Launch) (G : Gx) (τ : Tau) (hI : Inv τ) : Ci l G yX11_easy cX11_easy 4 (some .int) 3 72 [.ref (G.2.2.2.1 0)] τ (po_X11_easy τ    ) := by
  unfold Ci
  refine C_of (own := RX11) (by decide) rfl (Nat.le_of_ble_eq_true rfl) ?_
  intro p e s m below meth c ls S hr hlk X hl
  have hl : lv_has ls 4 [(0, .ref (G.2.2.2.1 0))] := hl
  refine r_iconst S dX11_easy_0 (by decide) (fun v1 z2 => ?_)
  have r3 := R_eq z2
  refine r_istore_n (lv' := [(1, .int v1), (0, .ref (G.2.2.2.1 0))]) S dX11_easy_1 rfl hl (by decide) rfl (fun ls hl => ?_)
  refine r_aload_n S dX11_easy_2 rfl (lv_at hl 1 rfl) ?_
  refine r_get (K := 0) (v := .ref (G.2.2.2.1 22)) S X (Nat.le_of_ble_eq_true rfl) rfl lk11_42_9 (fun _ => ⟨_, rfl, rfl⟩) dX11_easy_3 ?_
  refine r_ki (q_V (As := []) (rest := []) (K := 22) (ci := 8) S X (c_X10_here l G τ hI ) ck11_228 (Nat.le_of_ble_eq_true rfl) rfl (fun _ => ⟨_, rfl⟩) ⟨_, _, rfl⟩ ⟨Nat.le_of_ble_eq_true rfl, Nat.le_of_ble_eq_true rfl⟩ rfl hl.1 rfl (Nat.le_of_ble_eq_true rfl) dX11_easy_6 ⟨Nat.le_refl 0, Nat.le_refl 0⟩) X (fun v7 t6 H lc q4 X5 => ?_)
  unfold po_X10_here at q4
  obtain ⟨q8, q9⟩ := q4
  rw [q8] at X5
  refine r_istore_n (lv' := [(2, .int v7), (1, .int v1), (0, .ref (G.2.2.2.1 0))]) S dX11_easy_9 rfl hl (by decide) rfl (fun ls hl => ?_)
  refine r_iconst S dX11_easy_10 (by decide) (fun v10 z11 => ?_)
  have r12 := R_eq z11
  refine r_istore_n (lv' := [(3, .int v10), (2, .int v7), (1, .int v1), (0, .ref (G.2.2.2.1 0))]) S dX11_easy_11 rfl hl (by decide) rfl (fun ls hl => ?_)
  have L361 : ∀ (n : Nat) (H : Heap) (lc : List Loc) (ls : Array Slot) (i356 : Int32) (i358 : Int32), Xd G s H lc τ → R (0) (1023) i356 → R (0) (9) i358 → lv_has ls 4 [(0, .ref (G.2.2.2.1 0)), (1, .int i356), (2, .int v7), (3, .int i358)] → (9 - i358.toInt).toNat < n → W p l e (Rm 3 72) s m ([.ref (G.2.2.2.1 0)] : List Value).toArray below meth c H lc 0 0 (MQ below (va_Qi (po_X11_easy τ    ) (Bs G) G.2.2.2.2) ([.ref (G.2.2.2.1 0)] : List Value).toArray s 0 0 G.2.2.2.2) (F0 m 12 ls []) := by
    intro n
    induction n with
    | zero => intros; omega
    | succ n ih362 =>
      intro H lc ls i356 i358 X360 r357 r359 hl hm
      refine r_iload_n S dX11_easy_12 rfl (lv_at hl 3 rfl) ?_
      refine r_aload_n S dX11_easy_13 rfl (lv_at hl 0 rfl) ?_
      refine r_get (K := 0) (v := .ref (G.2.2.2.1 22)) S X360 (Nat.le_of_ble_eq_true rfl) rfl lk11_42_9 (fun _ => ⟨_, rfl, rfl⟩) dX11_easy_14 ?_
      refine r_get (K := 22) (v := .ref (G.2.2.2.1 23)) S X360 (Nat.le_of_ble_eq_true rfl) rfl lk11_139_8 (fun _ => ⟨_, rfl, rfl⟩) dX11_easy_17 ?_
      refine r_getn (K := 4) S X360 (Nat.le_of_ble_eq_true rfl) rfl lk11_235_2 (fun _ => ⟨_, rfl, rfl⟩) dX11_easy_20 (fun v363 z364 => ?_)
      have r365 : R (0) (9) v363 := rd hI rfl z364
      refine r_icmp_ge (tgt := 57) S dX11_easy_23 (by decide) (fun c366 => ?_) (fun c366 => ?_)
      ·
        refine r_iload_n S dX11_easy_57 rfl (lv_at hl 1 rfl) ?_
        exact r_ret S hr hlk X360 rfl rfl dX11_easy_58
      ·
        have r367 : R (0) (8) i358 := ⟨by omega, by omega⟩
        have r368 : R (1) (9) v363 := ⟨by omega, by omega⟩
        refine r_aload_n S dX11_easy_26 rfl (lv_at hl 0 rfl) ?_
        refine r_get (K := 0) (v := .ref (G.2.2.2.1 22)) S X360 (Nat.le_of_ble_eq_true rfl) rfl lk11_42_9 (fun _ => ⟨_, rfl, rfl⟩) dX11_easy_27 ?_
        refine r_aload_n S dX11_easy_30 rfl (lv_at hl 0 rfl) ?_
        refine r_get (K := 0) (v := .ref (G.2.2.2.1 22)) S X360 (Nat.le_of_ble_eq_true rfl) rfl lk11_42_9 (fun _ => ⟨_, rfl, rfl⟩) dX11_easy_31 ?_
        refine r_iload_n S dX11_easy_34 rfl (lv_at hl 2 rfl) ?_
        refine r_iload_n S dX11_easy_35 rfl (lv_at hl 3 rfl) ?_
        refine r_ki (q_V (As := [.int v7, .int i358]) (rest := [.ref (G.2.2.2.1 22)]) (K := 22) (ci := 8) S X360 (c_X10_together l G τ hI v7 i358 (R_of (lo := -2147483648) (hi := 2147483647) q9 rfl) r367) ck11_213 (Nat.le_of_ble_eq_true rfl) rfl (fun _ => ⟨_, rfl⟩) ⟨_, _, rfl⟩ ⟨Nat.le_of_ble_eq_true rfl, Nat.le_of_ble_eq_true rfl⟩ rfl hl.1 rfl (Nat.le_of_ble_eq_true rfl) dX11_easy_36 ⟨Nat.le_refl 0, Nat.le_refl 0⟩) X360 (fun v372 t371 H lc q369 X370 => ?_)
        unfold po_X10_together at q369
        have q373 := q369
        rw [q373] at X370
        have r374 := R_any v372
        refine r_ki (q_V (As := [.int v372]) (rest := []) (K := 22) (ci := 8) S X370 (c_X10_isLevel l G τ hI v372 r374) ck11_241 (Nat.le_of_ble_eq_true rfl) rfl (fun _ => ⟨_, rfl⟩) ⟨_, _, rfl⟩ ⟨Nat.le_of_ble_eq_true rfl, Nat.le_of_ble_eq_true rfl⟩ rfl hl.1 rfl (Nat.le_of_ble_eq_true rfl) dX11_easy_39 ⟨Nat.le_refl 0, Nat.le_refl 0⟩) X370 (fun v378 t377 H lc q375 X376 => ?_)
        unfold po_X10_isLevel at q375
        obtain ⟨q379, q380⟩ := q375
        rw [q379] at X376
        refine r_if_eq (tgt := 51) S dX11_easy_42 (by decide) (fun c381 => ?_) (fun c381 => ?_)
        ·
          have r382 : R (0) (0) v378 := ⟨by omega, by omega⟩
          refine r_iinc (k := 3) S dX11_easy_51 hl rfl (by decide) (by decide) (fun v383 d384 ls z385 z386 hl => ?_)
          obtain ⟨e387, r388⟩ := i_add (lo := 1) (hi := 9) z385 r367 (R_eq z386) rfl
          have hl : lv_has ls 4 [(3, .int v383), (0, .ref (G.2.2.2.1 0)), (1, .int i356), (2, .int v7)] := hl
          refine r_goto (tgt := 12) S dX11_easy_54 (by decide) ?_
          exact ih362 _ _ _ i356 v383 X376 r357 (R_of r388 rfl) (lv_sub hl [1, 2, 3, 0] rfl) (by omega)
        ·
          have r389 : R (1) (1) v378 := ⟨by omega, by omega⟩
          refine r_iload_n S dX11_easy_45 rfl (lv_at hl 1 rfl) ?_
          refine r_iconst S dX11_easy_46 (by decide) (fun v390 z391 => ?_)
          have r392 := R_eq z391
          refine r_iload_n S dX11_easy_47 rfl (lv_at hl 3 rfl) ?_
          refine r_ishl S dX11_easy_48 (fun v393 z394 => ?_)
          have r396 : R (1) (256) v393 := i_shl z394 r392 r367 rfl
          refine r_ior S dX11_easy_49 (fun v397 z398 => ?_)
          have r400 : R (0) (1023) v397 := i_or 10 z398 r357 r396 rfl
          refine r_istore_n (lv' := [(1, .int v397), (0, .ref (G.2.2.2.1 0)), (2, .int v7), (3, .int i358)]) S dX11_easy_50 rfl hl (by decide) rfl (fun ls hl => ?_)
          refine r_iinc (k := 3) S dX11_easy_51 hl rfl (by decide) (by decide) (fun v401 d402 ls z403 z404 hl => ?_)
          obtain ⟨e405, r406⟩ := i_add (lo := 1) (hi := 9) z403 r367 (R_eq z404) rfl
          have hl : lv_has ls 4 [(3, .int v401), (1, .int v397), (0, .ref (G.2.2.2.1 0)), (2, .int v7)] := hl
          refine r_goto (tgt := 12) S dX11_easy_54 (by decide) ?_
          exact ih362 _ _ _ v397 v401 X376 r400 (R_of r406 rfl) (lv_sub hl [2, 1, 3, 0] rfl) (by omega)
  exact L361 _ _ _ _ v1 v10 X5 (R_of r3 rfl) (R_of r12 rfl) (lv_sub hl [3, 2, 1, 0] rfl) (Nat.lt_succ_self _)
def po_X11_changed (τ : Tau)  (a0 : Int32)   (r : Int32) (u : Tau) : Prop := u = τ
set_option maxHeartbeats 4000000 in
set_option maxRecDepth 100000 in
theorem c_X11_changed (l : Launch) (G : Gx) (τ : Tau) (hI : Inv τ) (a0 : Int32) (h_a0 : R (-2147483648) (2147483647) a0) (hWI : WI τ) : Ci l G yX11_changed cX11_changed 7 (some .int) 3 72 [.ref (G.2.2.2.1 0), .int a0] τ (po_X11_changed τ  a0  ) := by
  unfold Ci
  refine C_of (own := RX11) (by decide) rfl (Nat.le_of_ble_eq_true rfl) ?_
  intro p e s m below meth c ls S hr hlk X hl
  have hl : lv_has ls 7 [(0, .ref (G.2.2.2.1 0)), (1, .int a0)] := hl
  refine r_aload_n S dX11_changed_0 rfl (lv_at hl 0 rfl) ?_
  refine r_iload_n S dX11_changed_1 rfl (lv_at hl 1 rfl) ?_
  refine r_ki (q_V (As := [.int a0]) (rest := []) (K := 0) (ci := 9) S X (c_X11_canSum l G τ hI a0 h_a0) ck11_210 (Nat.le_of_ble_eq_true rfl) rfl (fun _ => ⟨_, rfl⟩) ⟨_, _, rfl⟩ ⟨Nat.le_of_ble_eq_true rfl, Nat.le_of_ble_eq_true rfl⟩ rfl hl.1 rfl (Nat.le_of_ble_eq_true rfl) dX11_changed_2 ⟨Nat.le_refl 0, Nat.le_refl 0⟩) X (fun v4 t3 H lc q1 X2 => ?_)
  unfold po_X11_canSum at q1
  obtain ⟨q5, q6, q7⟩ := q1
  rw [q5] at X2
  rw [q5] at q7
  refine r_if_ne (tgt := 10) S dX11_changed_5 (by decide) (fun c8 => ?_) (fun c8 => ?_)
  ·
    have r9 : R (1) (1) v4 := ⟨by omega, by omega⟩
    obtain ⟨p10, p11⟩ := q7 (by omega)
    have r12 : R (0) (1023) a0 := ⟨by omega, by omega⟩
    obtain ⟨v13, z14⟩ : ∃ x, τ 23 2 = x := ⟨_, rfl⟩
    rw [z14] at p11
    refine r_aload_n S dX11_changed_10 rfl (lv_at hl 0 rfl) ?_
    refine r_get (K := 0) (v := .ref (G.2.2.2.1 22)) S X2 (Nat.le_of_ble_eq_true rfl) rfl lk11_42_9 (fun _ => ⟨_, rfl, rfl⟩) dX11_changed_11 ?_
    refine r_get (K := 22) (v := .ref (G.2.2.2.1 30)) S X2 (Nat.le_of_ble_eq_true rfl) rfl lk11_129_8 (fun _ => ⟨_, rfl, rfl⟩) dX11_changed_14 ?_
    refine r_getn (K := 23) S X2 (Nat.le_of_ble_eq_true rfl) rfl lk11_175_3 (fun _ => ⟨_, rfl, rfl⟩) dX11_changed_17 (fun v15 z16 => ?_)
    have r17 : R (-1) (8) v15 := rd hI rfl z16
    have r18 : R 0 8 v15 := WI_r hWI z14 z16 (R_of p11 rfl) (R_of r17 rfl)
    refine r_istore_n (lv' := [(2, .int v15), (0, .ref (G.2.2.2.1 0)), (1, .int a0)]) S dX11_changed_20 rfl hl (by decide) rfl (fun ls hl => ?_)
    refine r_aload_n S dX11_changed_21 rfl (lv_at hl 1 rfl) ?_
    refine r_get (K := 0) (v := .ref (G.2.2.2.1 22)) S X2 (Nat.le_of_ble_eq_true rfl) rfl lk11_42_9 (fun _ => ⟨_, rfl, rfl⟩) dX11_changed_22 ?_
    refine r_iload_n S dX11_changed_25 rfl (lv_at hl 2 rfl) ?_
    refine r_iload_n S dX11_changed_26 rfl (lv_at hl 0 rfl) ?_
    refine r_ki (q_V (As := [.int a0, .int v15]) (rest := []) (K := 22) (ci := 8) S X2 (c_X10_together l G τ hI a0 v15 (R_of (lo := -2147483648) (hi := 2147483647) r12 rfl) r18) ck11_213 (Nat.le_of_ble_eq_true rfl) rfl (fun _ => ⟨_, rfl⟩) ⟨_, _, rfl⟩ ⟨Nat.le_of_ble_eq_true rfl, Nat.le_of_ble_eq_true rfl⟩ rfl hl.1 rfl (Nat.le_of_ble_eq_true rfl) dX11_changed_27 ⟨Nat.le_refl 0, Nat.le_refl 0⟩) X2 (fun v22 t21 H lc q19 X20 => ?_)
    unfold po_X10_together at q19
    have q23 := q19
    rw [q23] at X20
    have r24 := R_any v22
    refine r_istore_n (lv' := [(3, .int v22), (2, .int v15), (0, .ref (G.2.2.2.1 0)), (1, .int a0)]) S dX11_changed_30 rfl hl (by decide) rfl (fun ls hl => ?_)
    refine r_aload_n S dX11_changed_31 rfl (lv_at hl 2 rfl) ?_
    refine r_get (K := 0) (v := .ref (G.2.2.2.1 22)) S X20 (Nat.le_of_ble_eq_true rfl) rfl lk11_42_9 (fun _ => ⟨_, rfl, rfl⟩) dX11_changed_32 ?_
    refine r_iload_n S dX11_changed_35 rfl (lv_at hl 0 rfl) ?_
    refine r_ki (q_V (As := [.int v22]) (rest := []) (K := 22) (ci := 8) S X20 (c_X10_isLevel l G τ hI v22 r24) ck11_241 (Nat.le_of_ble_eq_true rfl) rfl (fun _ => ⟨_, rfl⟩) ⟨_, _, rfl⟩ ⟨Nat.le_of_ble_eq_true rfl, Nat.le_of_ble_eq_true rfl⟩ rfl hl.1 rfl (Nat.le_of_ble_eq_true rfl) dX11_changed_36 ⟨Nat.le_refl 0, Nat.le_refl 0⟩) X20 (fun v28 t27 H lc q25 X26 => ?_)
    unfold po_X10_isLevel at q25
    obtain ⟨q29, q30⟩ := q25
    rw [q29] at X26
    refine r_if_eq (tgt := 44) S dX11_changed_39 (by decide) (fun c31 => ?_) (fun c31 => ?_)
    ·
      have r32 : R (0) (0) v28 := ⟨by omega, by omega⟩
      refine r_iload_n S dX11_changed_44 rfl (lv_at hl 3 rfl) ?_
      refine r_aload_n S dX11_changed_45 rfl (lv_at hl 2 rfl) ?_
      refine r_get (K := 0) (v := .ref (G.2.2.2.1 22)) S X26 (Nat.le_of_ble_eq_true rfl) rfl lk11_42_9 (fun _ => ⟨_, rfl, rfl⟩) dX11_changed_46 ?_
      refine r_get (K := 22) (v := .ref (G.2.2.2.1 30)) S X26 (Nat.le_of_ble_eq_true rfl) rfl lk11_129_8 (fun _ => ⟨_, rfl, rfl⟩) dX11_changed_49 ?_
      refine r_getn (K := 23) S X26 (Nat.le_of_ble_eq_true rfl) rfl lk11_145_3 (fun _ => ⟨_, rfl, rfl⟩) dX11_changed_52 (fun v33 z34 => ?_)
      have r35 : R (0) (1023) v33 := rd hI rfl z34
      refine r_iconst S dX11_changed_55 (by decide) (fun v36 z37 => ?_)
      have r38 := R_eq z37
      refine r_ixor S dX11_changed_56 (fun v39 z40 => ?_)
      have r41 := R_any v39
      refine r_iand S dX11_changed_57 (fun v42 z43 => ?_)
      have r45 : R (0) (1023) v42 := i_and1 z43 r12 r41 rfl
      have e46 := i_andle z43 r12 rfl
      refine r_istore (lv' := [(4, .int v42), (3, .int v22), (2, .int v15), (0, .ref (G.2.2.2.1 0)), (1, .int a0)]) S dX11_changed_58 hl (by decide) rfl (fun ls hl => ?_)
      refine r_iconst S dX11_changed_60 (by decide) (fun v47 z48 => ?_)
      have r49 := R_eq z48
      refine r_istore (lv' := [(5, .int v47), (4, .int v42), (3, .int v22), (2, .int v15), (0, .ref (G.2.2.2.1 0)), (1, .int a0)]) S dX11_changed_61 hl (by decide) rfl (fun ls hl => ?_)
      refine r_iconst S dX11_changed_63 (by decide) (fun v50 z51 => ?_)
      have r52 := R_eq z51
      refine r_istore (lv' := [(6, .int v50), (5, .int v47), (4, .int v42), (3, .int v22), (2, .int v15), (0, .ref (G.2.2.2.1 0)), (1, .int a0)]) S dX11_changed_64 hl (by decide) rfl (fun ls hl => ?_)
      have L604 : ∀ (n : Nat) (H : Heap) (lc : List Loc) (ls : Array Slot) (i599 : Int32) (i601 : Int32), Xd G s H lc τ → R (0) (1023) i599 → R (0) (10) i601 → lv_has ls 7 [(0, .ref (G.2.2.2.1 0)), (2, .int v15), (3, .int v22), (4, .int v42), (5, .int i599), (6, .int i601)] → (10 - i601.toInt).toNat < n → W p l e (Rm 3 72) s m ([.ref (G.2.2.2.1 0), .int a0] : List Value).toArray below meth c H lc 0 0 (MQ below (va_Qi (po_X11_changed τ  a0  ) (Bs G) G.2.2.2.2) ([.ref (G.2.2.2.1 0), .int a0] : List Value).toArray s 0 0 G.2.2.2.2) (F0 m 66 ls []) := by
        intro n
        induction n with
        | zero => intros; omega
        | succ n ih605 =>
          intro H lc ls i599 i601 X603 r600 r602 hl hm
          refine r_iload S dX11_changed_66 (lv_at hl 5 rfl) ?_
          refine r_aload_n S dX11_changed_68 rfl (lv_at hl 0 rfl) ?_
          refine r_get (K := 0) (v := .ref (G.2.2.2.1 22)) S X603 (Nat.le_of_ble_eq_true rfl) rfl lk11_42_9 (fun _ => ⟨_, rfl, rfl⟩) dX11_changed_69 ?_
          refine r_get (K := 22) (v := .ref (G.2.2.2.1 23)) S X603 (Nat.le_of_ble_eq_true rfl) rfl lk11_139_8 (fun _ => ⟨_, rfl, rfl⟩) dX11_changed_72 ?_
          refine r_getn (K := 4) S X603 (Nat.le_of_ble_eq_true rfl) rfl lk11_244_2 (fun _ => ⟨_, rfl, rfl⟩) dX11_changed_75 (fun v606 z607 => ?_)
          have r608 : R (0) (10) v606 := rd hI rfl z607
          refine r_icmp_ge (tgt := 131) S dX11_changed_78 (by decide) (fun c609 => ?_) (fun c609 => ?_)
          ·
            refine r_iload S dX11_changed_131 (lv_at hl 4 rfl) ?_
            exact r_ret S hr hlk X603 rfl rfl dX11_changed_133
          ·
            have r610 : R (0) (9) i601 := ⟨by omega, by omega⟩
            have r611 : R (1) (10) v606 := ⟨by omega, by omega⟩
            refine r_iload S dX11_changed_81 (lv_at hl 3 rfl) ?_
            refine r_iload S dX11_changed_83 (lv_at hl 5 rfl) ?_
            refine r_ki (q_S (As := [.int v42, .int i601]) (rest := []) S X603 (c_X11_bit l G τ hI v42 i601 (R_of (lo := -2147483648) (hi := 2147483647) r45 rfl) (R_of (lo := -2147483648) (hi := 2147483647) r610 rfl)) ck11_135 ⟨Nat.le_of_ble_eq_true rfl, Nat.le_of_ble_eq_true rfl⟩ rfl hl.1 rfl (Nat.le_of_ble_eq_true rfl) dX11_changed_85 ⟨Nat.le_refl 0, Nat.le_refl 0⟩) X603 (fun v615 t614 H lc q612 X613 => ?_)
            unfold po_X11_bit at q612
            obtain ⟨q616, q617⟩ := q612
            rw [q616] at X613
            refine r_iconst S dX11_changed_88 (by decide) (fun v618 z619 => ?_)
            have r620 := R_eq z619
            refine r_icmp_ne (tgt := 125) S dX11_changed_89 (by decide) (fun c621 => ?_) (fun c621 => ?_)
            ·
              have r622 : R (0) (0) v615 := ⟨by omega, by omega⟩
              refine r_iinc (k := 5) S dX11_changed_125 hl rfl (by decide) (by decide) (fun v623 d624 ls z625 z626 hl => ?_)
              obtain ⟨e627, r628⟩ := i_add (lo := 1) (hi := 10) z625 r610 (R_eq z626) rfl
              have hl : lv_has ls 7 [(6, .int v623), (0, .ref (G.2.2.2.1 0)), (2, .int v15), (3, .int v22), (4, .int v42), (5, .int i599)] := hl
              refine r_goto (tgt := 66) S dX11_changed_128 (by decide) ?_
              exact ih605 _ _ _ i599 v623 X613 r600 (R_of r628 rfl) (lv_sub hl [1, 2, 3, 4, 5, 0] rfl) (by omega)
            ·
              have r629 : R (1) (1) v615 := ⟨by omega, by omega⟩
              refine r_aload_n S dX11_changed_92 rfl (lv_at hl 0 rfl) ?_
              refine r_get (K := 0) (v := .ref (G.2.2.2.1 22)) S X613 (Nat.le_of_ble_eq_true rfl) rfl lk11_42_9 (fun _ => ⟨_, rfl, rfl⟩) dX11_changed_93 ?_
              refine r_iload_n S dX11_changed_96 rfl (lv_at hl 2 rfl) ?_
              refine r_iconst S dX11_changed_97 (by decide) (fun v630 z631 => ?_)
              have r632 := R_eq z631
              refine r_aload_n S dX11_changed_98 rfl (lv_at hl 0 rfl) ?_
              refine r_get (K := 0) (v := .ref (G.2.2.2.1 22)) S X613 (Nat.le_of_ble_eq_true rfl) rfl lk11_42_9 (fun _ => ⟨_, rfl, rfl⟩) dX11_changed_99 ?_
              refine r_iload S dX11_changed_102 (lv_at hl 5 rfl) ?_
              refine r_iload_n S dX11_changed_104 rfl (lv_at hl 1 rfl) ?_
              refine r_ki (q_V (As := [.int i601, .int v15]) (rest := [.int v630, .int v22, .ref (G.2.2.2.1 22)]) (K := 22) (ci := 8) S X613 (c_X10_spoken l G τ hI i601 v15 r610 r18) ck11_169 (Nat.le_of_ble_eq_true rfl) rfl (fun _ => ⟨_, rfl⟩) ⟨_, _, rfl⟩ ⟨Nat.le_of_ble_eq_true rfl, Nat.le_of_ble_eq_true rfl⟩ rfl hl.1 rfl (Nat.le_of_ble_eq_true rfl) dX11_changed_105 ⟨Nat.le_refl 0, Nat.le_refl 0⟩) X613 (fun v636 t635 H lc q633 X634 => ?_)
              unfold po_X10_spoken at q633
              obtain ⟨q637, q638⟩ := q633
              rw [q637] at X634
              refine r_imul S dX11_changed_108 (fun v639 z640 => ?_)
              obtain ⟨e641, r642⟩ := i_mul (lo := -18) (hi := 18) z640 r632 q638 rfl rfl
              have e643 : v639.toInt = 2 * v636.toInt := by rw [e641, show v630.toInt = 2 by omega]
              refine r_isub S dX11_changed_109 (fun v644 z645 => ?_)
              have r646 := R_any v644
              refine r_ki (q_V (As := [.int v644]) (rest := []) (K := 22) (ci := 8) S X634 (c_X10_isLevel l G τ hI v644 r646) ck11_241 (Nat.le_of_ble_eq_true rfl) rfl (fun _ => ⟨_, rfl⟩) ⟨_, _, rfl⟩ ⟨Nat.le_of_ble_eq_true rfl, Nat.le_of_ble_eq_true rfl⟩ rfl hl.1 rfl (Nat.le_of_ble_eq_true rfl) dX11_changed_110 ⟨Nat.le_refl 0, Nat.le_refl 0⟩) X634 (fun v650 t649 H lc q647 X648 => ?_)
              unfold po_X10_isLevel at q647
              obtain ⟨q651, q652⟩ := q647
              rw [q651] at X648
              refine r_if_eq (tgt := 125) S dX11_changed_113 (by decide) (fun c653 => ?_) (fun c653 => ?_)
              ·
                have r654 : R (0) (0) v650 := ⟨by omega, by omega⟩
                refine r_iinc (k := 5) S dX11_changed_125 hl rfl (by decide) (by decide) (fun v655 d656 ls z657 z658 hl => ?_)
                obtain ⟨e659, r660⟩ := i_add (lo := 1) (hi := 10) z657 r610 (R_eq z658) rfl
                have hl : lv_has ls 7 [(6, .int v655), (0, .ref (G.2.2.2.1 0)), (2, .int v15), (3, .int v22), (4, .int v42), (5, .int i599)] := hl
                refine r_goto (tgt := 66) S dX11_changed_128 (by decide) ?_
                exact ih605 _ _ _ i599 v655 X648 r600 (R_of r660 rfl) (lv_sub hl [1, 2, 3, 4, 5, 0] rfl) (by omega)
              ·
                have r661 : R (1) (1) v650 := ⟨by omega, by omega⟩
                refine r_iload S dX11_changed_116 (lv_at hl 4 rfl) ?_
                refine r_iconst S dX11_changed_118 (by decide) (fun v662 z663 => ?_)
                have r664 := R_eq z663
                refine r_iload S dX11_changed_119 (lv_at hl 5 rfl) ?_
                refine r_ishl S dX11_changed_121 (fun v665 z666 => ?_)
                have r668 : R (1) (512) v665 := i_shl z666 r664 r610 rfl
                refine r_ior S dX11_changed_122 (fun v669 z670 => ?_)
                have r672 : R (0) (1023) v669 := i_or 10 z670 r600 r668 rfl
                refine r_istore (lv' := [(5, .int v669), (0, .ref (G.2.2.2.1 0)), (2, .int v15), (3, .int v22), (4, .int v42), (6, .int i601)]) S dX11_changed_123 hl (by decide) rfl (fun ls hl => ?_)
                refine r_iinc (k := 5) S dX11_changed_125 hl rfl (by decide) (by decide) (fun v673 d674 ls z675 z676 hl => ?_)
                obtain ⟨e677, r678⟩ := i_add (lo := 1) (hi := 10) z675 r610 (R_eq z676) rfl
                have hl : lv_has ls 7 [(6, .int v673), (5, .int v669), (0, .ref (G.2.2.2.1 0)), (2, .int v15), (3, .int v22), (4, .int v42)] := hl
                refine r_goto (tgt := 66) S dX11_changed_128 (by decide) ?_
                exact ih605 _ _ _ v669 v673 X648 r672 (R_of r678 rfl) (lv_sub hl [2, 3, 4, 5, 1, 0] rfl) (by omega)
      exact L604 _ _ _ _ v47 v50 X26 (R_of r49 rfl) (R_of r52 rfl) (lv_sub hl [5, 4, 3, 2, 1, 0] rfl) (Nat.lt_succ_self _)
    ·
      have r679 : R (1) (1) v28 := ⟨by omega, by omega⟩
      refine r_iconst S dX11_changed_42 (by decide) (fun v680 z681 => ?_)
      have r682 := R_eq z681
      exact r_ret S hr hlk X26 rfl rfl dX11_changed_43
  ·
    have r683 : R (0) (0) v4 := ⟨by omega, by omega⟩
    refine r_iconst S dX11_changed_8 (by decide) (fun v684 z685 => ?_)
    have r686 := R_eq z685
    exact r_ret S hr hlk X2 rfl rfl dX11_changed_9
def po_X11_holdsSets (τ : Tau)  (a0 : Int32)   (r : Int32) (u : Tau) : Prop := u = τ ∧ R (0) (1) r ∧ (r.toInt = 1 → R (2) (40) a0)
set_option maxHeartbeats 4000000 in
set_option maxRecDepth 100000 in
theorem c_X11_holdsSets (l : Launch) (G : Gx) (τ : Tau) (hI : Inv τ) (a0 : Int32) (h_a0 : R (0) (940) a0) : Ci l G yX11_holdsSets cX11_holdsSets 3 (some .boolean) 2 41 [.ref (G.2.2.2.1 0), .int a0] τ (po_X11_holdsSets τ  a0  ) := by
  unfold Ci
  refine C_of (own := RX11) (by decide) rfl (Nat.le_of_ble_eq_true rfl) ?_
  intro p e s m below meth c ls S hr hlk X hl
  have hl : lv_has ls 3 [(0, .ref (G.2.2.2.1 0)), (1, .int a0)] := hl
  refine r_iload_n S dX11_holdsSets_0 rfl (lv_at hl 1 rfl) ?_
  refine r_iconst S dX11_holdsSets_1 (by decide) (fun v1 z2 => ?_)
  have r3 := R_eq z2
  refine r_icmp_lt (tgt := 17) S dX11_holdsSets_2 (by decide) (fun c4 => ?_) (fun c4 => ?_)
  ·
    have r5 : R (0) (1) a0 := ⟨by omega, by omega⟩
    refine r_iconst S dX11_holdsSets_17 (by decide) (fun v6 z7 => ?_)
    have r8 := R_eq z7
    exact r_ret S hr hlk X ⟨rfl, (R_of r8 rfl), (fun h => by exfalso; omega)⟩ (nr_bool (R_of (lo := 0) (hi := 1) r8 rfl)) dX11_holdsSets_18
  ·
    have r9 : R (2) (940) a0 := ⟨by omega, by omega⟩
    refine r_iload_n S dX11_holdsSets_5 rfl (lv_at hl 1 rfl) ?_
    refine r_bipush S dX11_holdsSets_6 (by decide) (fun v10 z11 => ?_)
    have r12 := R_eq z11
    refine r_icmp_gt (tgt := 17) S dX11_holdsSets_8 (by decide) (fun c13 => ?_) (fun c13 => ?_)
    ·
      have r14 : R (41) (940) a0 := ⟨by omega, by omega⟩
      refine r_iconst S dX11_holdsSets_17 (by decide) (fun v15 z16 => ?_)
      have r17 := R_eq z16
      exact r_ret S hr hlk X ⟨rfl, (R_of r17 rfl), (fun h => by exfalso; omega)⟩ (nr_bool (R_of (lo := 0) (hi := 1) r17 rfl)) dX11_holdsSets_18
    ·
      have r18 : R (2) (40) a0 := ⟨by omega, by omega⟩
      refine r_iload_n S dX11_holdsSets_11 rfl (lv_at hl 1 rfl) ?_
      refine r_iconst S dX11_holdsSets_12 (by decide) (fun v19 z20 => ?_)
      have r21 := R_eq z20
      refine r_irem S dX11_holdsSets_13 (by omega) (fun v22 z23 => ?_)
      have r25 : R (0) (1) v22 := i_rem0 z23 r18 r21 rfl
      have e26 : v22.toInt = a0.toInt % 2 := i_remc z23 r18 r21 rfl
      refine r_if_eq (tgt := 19) S dX11_holdsSets_14 (by decide) (fun c27 => ?_) (fun c27 => ?_)
      ·
        have r28 : R (0) (0) v22 := ⟨by omega, by omega⟩
        refine r_iconst S dX11_holdsSets_19 (by decide) (fun v29 z30 => ?_)
        have r31 := R_eq z30
        refine r_istore_n (lv' := [(2, .int v29), (0, .ref (G.2.2.2.1 0)), (1, .int a0)]) S dX11_holdsSets_20 rfl hl (by decide) rfl (fun ls hl => ?_)
        have L303 : ∀ (n : Nat) (H : Heap) (lc : List Loc) (ls : Array Slot) (i300 : Int32), Xd G s H lc τ → R (0) (41) i300 → lv_has ls 3 [(0, .ref (G.2.2.2.1 0)), (1, .int a0), (2, .int i300)] → (41 - i300.toInt).toNat < n → W p l e (Rm 2 41) s m ([.ref (G.2.2.2.1 0), .int a0] : List Value).toArray below meth c H lc 0 0 (MQ below (va_Qi (po_X11_holdsSets τ  a0  ) (Bs G) G.2.2.2.2) ([.ref (G.2.2.2.1 0), .int a0] : List Value).toArray s 0 0 G.2.2.2.2) (F0 m 21 ls []) := by
          intro n
          induction n with
          | zero => intros; omega
          | succ n ih304 =>
            intro H lc ls i300 X302 r301 hl hm
            refine r_iload_n S dX11_holdsSets_21 rfl (lv_at hl 2 rfl) ?_
            refine r_iload_n S dX11_holdsSets_22 rfl (lv_at hl 1 rfl) ?_
            refine r_icmp_ge (tgt := 52) S dX11_holdsSets_23 (by decide) (fun c305 => ?_) (fun c305 => ?_)
            ·
              have r306 : R (2) (41) i300 := ⟨by omega, by omega⟩
              refine r_iconst S dX11_holdsSets_52 (by decide) (fun v307 z308 => ?_)
              have r309 := R_eq z308
              exact r_ret S hr hlk X302 ⟨rfl, (R_of r309 rfl), (fun h => ⟨by omega, by omega⟩)⟩ (nr_bool (R_of (lo := 0) (hi := 1) r309 rfl)) dX11_holdsSets_53
            ·
              have r310 : R (0) (39) i300 := ⟨by omega, by omega⟩
              refine r_aload_n S dX11_holdsSets_26 rfl (lv_at hl 0 rfl) ?_
              refine r_get (K := 0) (v := .ref (G.2.2.2.1 22)) S X302 (Nat.le_of_ble_eq_true rfl) rfl lk11_42_9 (fun _ => ⟨_, rfl, rfl⟩) dX11_holdsSets_27 ?_
              refine r_aload_n S dX11_holdsSets_30 rfl (lv_at hl 0 rfl) ?_
              refine r_get (K := 0) (v := .ref (G.2.2.2.1 1)) S X302 (Nat.le_of_ble_eq_true rfl) rfl lk11_12_9 (fun _ => ⟨_, rfl, rfl⟩) dX11_holdsSets_31 ?_
              refine r_iload_n S dX11_holdsSets_34 rfl (lv_at hl 2 rfl) ?_
              refine r_ki (q_V (As := [.int i300]) (rest := [.ref (G.2.2.2.1 22)]) (K := 1) (ci := 7) S X302 (c_X7_pairAt l G τ hI i300 (R_of (lo := 0) (hi := 400) r310 rfl)) ck11_327 (Nat.le_of_ble_eq_true rfl) rfl (fun _ => ⟨_, rfl⟩) ⟨_, _, rfl⟩ ⟨Nat.le_of_ble_eq_true rfl, Nat.le_of_ble_eq_true rfl⟩ rfl hl.1 rfl (Nat.le_of_ble_eq_true rfl) dX11_holdsSets_35 ⟨Nat.le_refl 0, Nat.le_refl 0⟩) X302 (fun v314 t313 H lc q311 X312 => ?_)
              unfold po_X7_pairAt at q311
              obtain ⟨q315, q316⟩ := q311
              rw [q315] at X312
              refine r_ki (q_V (As := [.int v314]) (rest := []) (K := 22) (ci := 8) S X312 (c_X10_hasSet l G τ hI v314 (R_of (lo := -2147483648) (hi := 2147483647) q316 rfl)) ck11_188 (Nat.le_of_ble_eq_true rfl) rfl (fun _ => ⟨_, rfl⟩) ⟨_, _, rfl⟩ ⟨Nat.le_of_ble_eq_true rfl, Nat.le_of_ble_eq_true rfl⟩ rfl hl.1 rfl (Nat.le_of_ble_eq_true rfl) dX11_holdsSets_38 ⟨Nat.le_refl 0, Nat.le_refl 0⟩) X312 (fun v320 t319 H lc q317 X318 => ?_)
              unfold po_X10_hasSet at q317
              obtain ⟨q321, q322, q323⟩ := q317
              rw [q321] at X318
              refine r_if_ne (tgt := 46) S dX11_holdsSets_41 (by decide) (fun c324 => ?_) (fun c324 => ?_)
              ·
                have r325 : R (1) (1) v320 := ⟨by omega, by omega⟩
                have p326 := q323 (by omega)
                have r327 : R (0) (1023) v314 := ⟨by omega, by omega⟩
                refine r_iinc (k := 2) S dX11_holdsSets_46 hl rfl (by decide) (by decide) (fun v328 d329 ls z330 z331 hl => ?_)
                obtain ⟨e332, r333⟩ := i_add (lo := 2) (hi := 41) z330 r310 (R_eq z331) rfl
                have hl : lv_has ls 3 [(2, .int v328), (0, .ref (G.2.2.2.1 0)), (1, .int a0)] := hl
                refine r_goto (tgt := 21) S dX11_holdsSets_49 (by decide) ?_
                exact ih304 _ _ _ v328 X318 (R_of r333 rfl) (lv_sub hl [1, 2, 0] rfl) (by omega)
              ·
                have r334 : R (0) (0) v320 := ⟨by omega, by omega⟩
                refine r_iconst S dX11_holdsSets_44 (by decide) (fun v335 z336 => ?_)
                have r337 := R_eq z336
                exact r_ret S hr hlk X318 ⟨rfl, (R_of r337 rfl), (fun h => by exfalso; omega)⟩ (nr_bool (R_of (lo := 0) (hi := 1) r337 rfl)) dX11_holdsSets_45
        exact L303 _ _ _ _ v29 X (R_of r31 rfl) (lv_sub hl [1, 2, 0] rfl) (Nat.lt_succ_self _)
      ·
        have r338 : R (1) (1) v22 := ⟨by omega, by omega⟩
        refine r_iconst S dX11_holdsSets_17 (by decide) (fun v339 z340 => ?_)
        have r341 := R_eq z340
        exact r_ret S hr hlk X ⟨rfl, (R_of r341 rfl), (fun h => by exfalso; omega)⟩ (nr_bool (R_of (lo := 0) (hi := 1) r341 rfl)) dX11_holdsSets_18
def po_X11_wouldFit (τ : Tau)  (a0 a1 a2 : Int32)   (r : Int32) (u : Tau) : Prop := u = τ ∧ R (0) (1) r
set_option maxHeartbeats 4000000 in
set_option maxRecDepth 100000 in
theorem c_X11_wouldFit (l : Launch) (G : Gx) (τ : Tau) (hI : Inv τ) (a0 : Int32) (a1 : Int32) (a2 : Int32) (h_a0 : R (0) (9) a0) (h_a1 : R (-9) (9) a1) (h_a2 : R (2) (40) a2) (hf_0 : R (1) (9) (τ 23 2)) (hWI : WI τ) : Ci l G yX11_wouldFit cX11_wouldFit 8 (some .boolean) 3 72 [.ref (G.2.2.2.1 0), .int a0, .int a1, .int a2] τ (po_X11_wouldFit τ  a0 a1 a2  ) := by
  unfold Ci
  refine C_of (own := RX11) (by decide) rfl (Nat.le_of_ble_eq_true rfl) ?_
  intro p e s m below meth c ls S hr hlk X hl
  have hl : lv_has ls 8 [(0, .ref (G.2.2.2.1 0)), (1, .int a0), (2, .int a1), (3, .int a2)] := hl
  obtain ⟨v1, z2⟩ : ∃ x, τ 23 2 = x := ⟨_, rfl⟩
  rw [z2] at hf_0
  refine r_aload_n S dX11_wouldFit_0 rfl (lv_at hl 0 rfl) ?_
  refine r_get (K := 0) (v := .ref (G.2.2.2.1 22)) S X (Nat.le_of_ble_eq_true rfl) rfl lk11_42_9 (fun _ => ⟨_, rfl, rfl⟩) dX11_wouldFit_1 ?_
  refine r_get (K := 22) (v := .ref (G.2.2.2.1 30)) S X (Nat.le_of_ble_eq_true rfl) rfl lk11_129_8 (fun _ => ⟨_, rfl, rfl⟩) dX11_wouldFit_4 ?_
  refine r_getn (K := 23) S X (Nat.le_of_ble_eq_true rfl) rfl lk11_175_3 (fun _ => ⟨_, rfl, rfl⟩) dX11_wouldFit_7 (fun v3 z4 => ?_)
  have r5 : R (-1) (8) v3 := rd hI rfl z4
  have r6 : R 0 8 v3 := WI_r hWI z2 z4 (R_of hf_0 rfl) (R_of r5 rfl)
  refine r_istore (lv' := [(4, .int v3), (0, .ref (G.2.2.2.1 0)), (1, .int a0), (2, .int a1), (3, .int a2)]) S dX11_wouldFit_10 hl (by decide) rfl (fun ls hl => ?_)
  refine r_aload_n S dX11_wouldFit_12 rfl (lv_at hl 1 rfl) ?_
  refine r_get (K := 0) (v := .ref (G.2.2.2.1 22)) S X (Nat.le_of_ble_eq_true rfl) rfl lk11_42_9 (fun _ => ⟨_, rfl, rfl⟩) dX11_wouldFit_13 ?_
  refine r_get (K := 22) (v := .ref (G.2.2.2.1 30)) S X (Nat.le_of_ble_eq_true rfl) rfl lk11_129_8 (fun _ => ⟨_, rfl, rfl⟩) dX11_wouldFit_16 ?_
  refine r_getn (K := 23) S X (Nat.le_of_ble_eq_true rfl) rfl lk11_145_3 (fun _ => ⟨_, rfl, rfl⟩) dX11_wouldFit_19 (fun v7 z8 => ?_)
  have r9 : R (0) (1023) v7 := rd hI rfl z8
  refine r_iload_n S dX11_wouldFit_22 rfl (lv_at hl 2 rfl) ?_
  refine r_ki (q_S (As := [.int v7, .int a0]) (rest := []) S X (c_X11_bit l G τ hI v7 a0 (R_of (lo := -2147483648) (hi := 2147483647) r9 rfl) (R_of (lo := -2147483648) (hi := 2147483647) h_a0 rfl)) ck11_135 ⟨Nat.le_of_ble_eq_true rfl, Nat.le_of_ble_eq_true rfl⟩ rfl hl.1 rfl (Nat.le_of_ble_eq_true rfl) dX11_wouldFit_23 ⟨Nat.le_refl 0, Nat.le_refl 0⟩) X (fun v13 t12 H lc q10 X11 => ?_)
  unfold po_X11_bit at q10
  obtain ⟨q14, q15⟩ := q10
  rw [q14] at X11
  refine r_iconst S dX11_wouldFit_26 (by decide) (fun v16 z17 => ?_)
  have r18 := R_eq z17
  refine r_icmp_ne (tgt := 34) S dX11_wouldFit_27 (by decide) (fun c19 => ?_) (fun c19 => ?_)
  ·
    have r20 : R (0) (0) v13 := ⟨by omega, by omega⟩
    refine r_iload_n S dX11_wouldFit_34 rfl (lv_at hl 3 rfl) ?_
    refine r_aload_n S dX11_wouldFit_35 rfl (lv_at hl 1 rfl) ?_
    refine r_get (K := 0) (v := .ref (G.2.2.2.1 22)) S X11 (Nat.le_of_ble_eq_true rfl) rfl lk11_42_9 (fun _ => ⟨_, rfl, rfl⟩) dX11_wouldFit_36 ?_
    refine r_iload_n S dX11_wouldFit_39 rfl (lv_at hl 2 rfl) ?_
    refine r_iload S dX11_wouldFit_40 (lv_at hl 0 rfl) ?_
    refine r_ki (q_V (As := [.int a0, .int v3]) (rest := [.int a1]) (K := 22) (ci := 8) S X11 (c_X10_spoken l G τ hI a0 v3 h_a0 r6) ck11_169 (Nat.le_of_ble_eq_true rfl) rfl (fun _ => ⟨_, rfl⟩) ⟨_, _, rfl⟩ ⟨Nat.le_of_ble_eq_true rfl, Nat.le_of_ble_eq_true rfl⟩ rfl hl.1 rfl (Nat.le_of_ble_eq_true rfl) dX11_wouldFit_42 ⟨Nat.le_refl 0, Nat.le_refl 0⟩) X11 (fun v24 t23 H lc q21 X22 => ?_)
    unfold po_X10_spoken at q21
    obtain ⟨q25, q26⟩ := q21
    rw [q25] at X22
    refine r_isub S dX11_wouldFit_45 (fun v27 z28 => ?_)
    obtain ⟨e29, r30⟩ := i_sub (lo := -18) (hi := 18) z28 h_a1 q26 rfl
    refine r_istore (lv' := [(5, .int v27), (4, .int v3), (0, .ref (G.2.2.2.1 0)), (1, .int a0), (2, .int a1), (3, .int a2)]) S dX11_wouldFit_46 hl (by decide) rfl (fun ls hl => ?_)
    refine r_iconst S dX11_wouldFit_48 (by decide) (fun v31 z32 => ?_)
    have r33 := R_eq z32
    refine r_istore (lv' := [(6, .int v31), (5, .int v27), (4, .int v3), (0, .ref (G.2.2.2.1 0)), (1, .int a0), (2, .int a1), (3, .int a2)]) S dX11_wouldFit_49 hl (by decide) rfl (fun ls hl => ?_)
    have L521 : ∀ (n : Nat) (H : Heap) (lc : List Loc) (ls : Array Slot) (i518 : Int32), Xd G s H lc τ → R (0) (41) i518 → lv_has ls 8 [(0, .ref (G.2.2.2.1 0)), (1, .int a0), (3, .int a2), (4, .int v3), (5, .int v27), (6, .int i518)] → (41 - i518.toInt).toNat < n → W p l e (Rm 3 72) s m ([.ref (G.2.2.2.1 0), .int a0, .int a1, .int a2] : List Value).toArray below meth c H lc 0 0 (MQ below (va_Qi (po_X11_wouldFit τ  a0 a1 a2  ) (Bs G) G.2.2.2.2) ([.ref (G.2.2.2.1 0), .int a0, .int a1, .int a2] : List Value).toArray s 0 0 G.2.2.2.2) (F0 m 51 ls []) := by
      intro n
      induction n with
      | zero => intros; omega
      | succ n ih522 =>
        intro H lc ls i518 X520 r519 hl hm
        refine r_iload S dX11_wouldFit_51 (lv_at hl 5 rfl) ?_
        refine r_iload_n S dX11_wouldFit_53 rfl (lv_at hl 2 rfl) ?_
        refine r_icmp_ge (tgt := 110) S dX11_wouldFit_54 (by decide) (fun c523 => ?_) (fun c523 => ?_)
        ·
          have r524 : R (2) (41) i518 := ⟨by omega, by omega⟩
          refine r_iconst S dX11_wouldFit_110 (by decide) (fun v525 z526 => ?_)
          have r527 := R_eq z526
          exact r_ret S hr hlk X520 ⟨rfl, (R_of r527 rfl)⟩ (nr_bool (R_of (lo := 0) (hi := 1) r527 rfl)) dX11_wouldFit_111
        ·
          have r528 : R (0) (39) i518 := ⟨by omega, by omega⟩
          refine r_aload_n S dX11_wouldFit_57 rfl (lv_at hl 0 rfl) ?_
          refine r_get (K := 0) (v := .ref (G.2.2.2.1 1)) S X520 (Nat.le_of_ble_eq_true rfl) rfl lk11_12_9 (fun _ => ⟨_, rfl, rfl⟩) dX11_wouldFit_58 ?_
          refine r_iload S dX11_wouldFit_61 (lv_at hl 5 rfl) ?_
          refine r_ki (q_V (As := [.int i518]) (rest := []) (K := 1) (ci := 7) S X520 (c_X7_pairAt l G τ hI i518 (R_of (lo := 0) (hi := 400) r528 rfl)) ck11_327 (Nat.le_of_ble_eq_true rfl) rfl (fun _ => ⟨_, rfl⟩) ⟨_, _, rfl⟩ ⟨Nat.le_of_ble_eq_true rfl, Nat.le_of_ble_eq_true rfl⟩ rfl hl.1 rfl (Nat.le_of_ble_eq_true rfl) dX11_wouldFit_63 ⟨Nat.le_refl 0, Nat.le_refl 0⟩) X520 (fun v532 t531 H lc q529 X530 => ?_)
          unfold po_X7_pairAt at q529
          obtain ⟨q533, q534⟩ := q529
          rw [q533] at X530
          refine r_istore (lv' := [(7, .int v532), (0, .ref (G.2.2.2.1 0)), (1, .int a0), (3, .int a2), (4, .int v3), (5, .int v27), (6, .int i518)]) S dX11_wouldFit_66 hl (by decide) rfl (fun ls hl => ?_)
          refine r_iload S dX11_wouldFit_68 (lv_at hl 0 rfl) ?_
          refine r_iload_n S dX11_wouldFit_70 rfl (lv_at hl 2 rfl) ?_
          refine r_ki (q_S (As := [.int v532, .int a0]) (rest := []) S X530 (c_X11_bit l G τ hI v532 a0 (R_of (lo := -2147483648) (hi := 2147483647) q534 rfl) (R_of (lo := -2147483648) (hi := 2147483647) h_a0 rfl)) ck11_135 ⟨Nat.le_of_ble_eq_true rfl, Nat.le_of_ble_eq_true rfl⟩ rfl hl.1 rfl (Nat.le_of_ble_eq_true rfl) dX11_wouldFit_71 ⟨Nat.le_refl 0, Nat.le_refl 0⟩) X530 (fun v538 t537 H lc q535 X536 => ?_)
          unfold po_X11_bit at q535
          obtain ⟨q539, q540⟩ := q535
          rw [q539] at X536
          refine r_iconst S dX11_wouldFit_74 (by decide) (fun v541 z542 => ?_)
          have r543 := R_eq z542
          refine r_icmp_ne (tgt := 104) S dX11_wouldFit_75 (by decide) (fun c544 => ?_) (fun c544 => ?_)
          ·
            have r545 : R (0) (0) v538 := ⟨by omega, by omega⟩
            refine r_iinc (k := 6) S dX11_wouldFit_104 hl rfl (by decide) (by decide) (fun v546 d547 ls z548 z549 hl => ?_)
            obtain ⟨e550, r551⟩ := i_add (lo := 2) (hi := 41) z548 r528 (R_eq z549) rfl
            have hl : lv_has ls 8 [(6, .int v546), (7, .int v532), (0, .ref (G.2.2.2.1 0)), (1, .int a0), (3, .int a2), (4, .int v3), (5, .int v27)] := hl
            refine r_goto (tgt := 51) S dX11_wouldFit_107 (by decide) ?_
            exact ih522 _ _ _ v546 X536 (R_of r551 rfl) (lv_sub hl [2, 3, 4, 5, 6, 0] rfl) (by omega)
          ·
            have r552 : R (1) (1) v538 := ⟨by omega, by omega⟩
            refine r_aload_n S dX11_wouldFit_78 rfl (lv_at hl 1 rfl) ?_
            refine r_get (K := 0) (v := .ref (G.2.2.2.1 22)) S X536 (Nat.le_of_ble_eq_true rfl) rfl lk11_42_9 (fun _ => ⟨_, rfl, rfl⟩) dX11_wouldFit_79 ?_
            refine r_aload_n S dX11_wouldFit_82 rfl (lv_at hl 1 rfl) ?_
            refine r_get (K := 0) (v := .ref (G.2.2.2.1 22)) S X536 (Nat.le_of_ble_eq_true rfl) rfl lk11_42_9 (fun _ => ⟨_, rfl, rfl⟩) dX11_wouldFit_83 ?_
            refine r_iload S dX11_wouldFit_86 (lv_at hl 0 rfl) ?_
            refine r_iload S dX11_wouldFit_88 (lv_at hl 4 rfl) ?_
            refine r_ki (q_V (As := [.int v532, .int v3]) (rest := [.ref (G.2.2.2.1 22)]) (K := 22) (ci := 8) S X536 (c_X10_together l G τ hI v532 v3 (R_of (lo := -2147483648) (hi := 2147483647) q534 rfl) r6) ck11_213 (Nat.le_of_ble_eq_true rfl) rfl (fun _ => ⟨_, rfl⟩) ⟨_, _, rfl⟩ ⟨Nat.le_of_ble_eq_true rfl, Nat.le_of_ble_eq_true rfl⟩ rfl hl.1 rfl (Nat.le_of_ble_eq_true rfl) dX11_wouldFit_90 ⟨Nat.le_refl 0, Nat.le_refl 0⟩) X536 (fun v556 t555 H lc q553 X554 => ?_)
            unfold po_X10_together at q553
            have q557 := q553
            rw [q557] at X554
            have r558 := R_any v556
            refine r_iload S dX11_wouldFit_93 (lv_at hl 5 rfl) ?_
            refine r_iadd S dX11_wouldFit_95 (fun v559 z560 => ?_)
            have r561 := R_any v559
            refine r_ki (q_V (As := [.int v559]) (rest := []) (K := 22) (ci := 8) S X554 (c_X10_isLevel l G τ hI v559 r561) ck11_241 (Nat.le_of_ble_eq_true rfl) rfl (fun _ => ⟨_, rfl⟩) ⟨_, _, rfl⟩ ⟨Nat.le_of_ble_eq_true rfl, Nat.le_of_ble_eq_true rfl⟩ rfl hl.1 rfl (Nat.le_of_ble_eq_true rfl) dX11_wouldFit_96 ⟨Nat.le_refl 0, Nat.le_refl 0⟩) X554 (fun v565 t564 H lc q562 X563 => ?_)
            unfold po_X10_isLevel at q562
            obtain ⟨q566, q567⟩ := q562
            rw [q566] at X563
            refine r_if_ne (tgt := 104) S dX11_wouldFit_99 (by decide) (fun c568 => ?_) (fun c568 => ?_)
            ·
              have r569 : R (1) (1) v565 := ⟨by omega, by omega⟩
              refine r_iinc (k := 6) S dX11_wouldFit_104 hl rfl (by decide) (by decide) (fun v570 d571 ls z572 z573 hl => ?_)
              obtain ⟨e574, r575⟩ := i_add (lo := 2) (hi := 41) z572 r528 (R_eq z573) rfl
              have hl : lv_has ls 8 [(6, .int v570), (7, .int v532), (0, .ref (G.2.2.2.1 0)), (1, .int a0), (3, .int a2), (4, .int v3), (5, .int v27)] := hl
              refine r_goto (tgt := 51) S dX11_wouldFit_107 (by decide) ?_
              exact ih522 _ _ _ v570 X563 (R_of r575 rfl) (lv_sub hl [2, 3, 4, 5, 6, 0] rfl) (by omega)
            ·
              have r576 : R (0) (0) v565 := ⟨by omega, by omega⟩
              refine r_iconst S dX11_wouldFit_102 (by decide) (fun v577 z578 => ?_)
              have r579 := R_eq z578
              exact r_ret S hr hlk X563 ⟨rfl, (R_of r579 rfl)⟩ (nr_bool (R_of (lo := 0) (hi := 1) r579 rfl)) dX11_wouldFit_103
    exact L521 _ _ _ _ v31 X22 (R_of r33 rfl) (lv_sub hl [3, 4, 6, 2, 1, 0] rfl) (Nat.lt_succ_self _)
  ·
    have r580 : R (1) (1) v13 := ⟨by omega, by omega⟩
    refine r_iconst S dX11_wouldFit_30 (by decide) (fun v581 z582 => ?_)
    have r583 := R_eq z582
    refine r_goto (tgt := 46) S dX11_wouldFit_31 (by decide) ?_
    refine r_istore (lv' := [(5, .int v581), (4, .int v3), (0, .ref (G.2.2.2.1 0)), (1, .int a0), (2, .int a1), (3, .int a2)]) S dX11_wouldFit_46 hl (by decide) rfl (fun ls hl => ?_)
    refine r_iconst S dX11_wouldFit_48 (by decide) (fun v584 z585 => ?_)
    have r586 := R_eq z585
    refine r_istore (lv' := [(6, .int v584), (5, .int v581), (4, .int v3), (0, .ref (G.2.2.2.1 0)), (1, .int a0), (2, .int a1), (3, .int a2)]) S dX11_wouldFit_49 hl (by decide) rfl (fun ls hl => ?_)
    have L1083 : ∀ (n : Nat) (H : Heap) (lc : List Loc) (ls : Array Slot) (i1080 : Int32), Xd G s H lc τ → R (0) (41) i1080 → lv_has ls 8 [(0, .ref (G.2.2.2.1 0)), (1, .int a0), (3, .int a2), (4, .int v3), (5, .int v581), (6, .int i1080)] → (41 - i1080.toInt).toNat < n → W p l e (Rm 3 72) s m ([.ref (G.2.2.2.1 0), .int a0, .int a1, .int a2] : List Value).toArray below meth c H lc 0 0 (MQ below (va_Qi (po_X11_wouldFit τ  a0 a1 a2  ) (Bs G) G.2.2.2.2) ([.ref (G.2.2.2.1 0), .int a0, .int a1, .int a2] : List Value).toArray s 0 0 G.2.2.2.2) (F0 m 51 ls []) := by
      intro n
      induction n with
      | zero => intros; omega
      | succ n ih1084 =>
        intro H lc ls i1080 X1082 r1081 hl hm
        refine r_iload S dX11_wouldFit_51 (lv_at hl 5 rfl) ?_
        refine r_iload_n S dX11_wouldFit_53 rfl (lv_at hl 2 rfl) ?_
        refine r_icmp_ge (tgt := 110) S dX11_wouldFit_54 (by decide) (fun c1085 => ?_) (fun c1085 => ?_)
        ·
          have r1086 : R (2) (41) i1080 := ⟨by omega, by omega⟩
          refine r_iconst S dX11_wouldFit_110 (by decide) (fun v1087 z1088 => ?_)
          have r1089 := R_eq z1088
          exact r_ret S hr hlk X1082 ⟨rfl, (R_of r1089 rfl)⟩ (nr_bool (R_of (lo := 0) (hi := 1) r1089 rfl)) dX11_wouldFit_111
        ·
          have r1090 : R (0) (39) i1080 := ⟨by omega, by omega⟩
          refine r_aload_n S dX11_wouldFit_57 rfl (lv_at hl 0 rfl) ?_
          refine r_get (K := 0) (v := .ref (G.2.2.2.1 1)) S X1082 (Nat.le_of_ble_eq_true rfl) rfl lk11_12_9 (fun _ => ⟨_, rfl, rfl⟩) dX11_wouldFit_58 ?_
          refine r_iload S dX11_wouldFit_61 (lv_at hl 5 rfl) ?_
          refine r_ki (q_V (As := [.int i1080]) (rest := []) (K := 1) (ci := 7) S X1082 (c_X7_pairAt l G τ hI i1080 (R_of (lo := 0) (hi := 400) r1090 rfl)) ck11_327 (Nat.le_of_ble_eq_true rfl) rfl (fun _ => ⟨_, rfl⟩) ⟨_, _, rfl⟩ ⟨Nat.le_of_ble_eq_true rfl, Nat.le_of_ble_eq_true rfl⟩ rfl hl.1 rfl (Nat.le_of_ble_eq_true rfl) dX11_wouldFit_63 ⟨Nat.le_refl 0, Nat.le_refl 0⟩) X1082 (fun v1094 t1093 H lc q1091 X1092 => ?_)
          unfold po_X7_pairAt at q1091
          obtain ⟨q1095, q1096⟩ := q1091
          rw [q1095] at X1092
          refine r_istore (lv' := [(7, .int v1094), (0, .ref (G.2.2.2.1 0)), (1, .int a0), (3, .int a2), (4, .int v3), (5, .int v581), (6, .int i1080)]) S dX11_wouldFit_66 hl (by decide) rfl (fun ls hl => ?_)
          refine r_iload S dX11_wouldFit_68 (lv_at hl 0 rfl) ?_
          refine r_iload_n S dX11_wouldFit_70 rfl (lv_at hl 2 rfl) ?_
          refine r_ki (q_S (As := [.int v1094, .int a0]) (rest := []) S X1092 (c_X11_bit l G τ hI v1094 a0 (R_of (lo := -2147483648) (hi := 2147483647) q1096 rfl) (R_of (lo := -2147483648) (hi := 2147483647) h_a0 rfl)) ck11_135 ⟨Nat.le_of_ble_eq_true rfl, Nat.le_of_ble_eq_true rfl⟩ rfl hl.1 rfl (Nat.le_of_ble_eq_true rfl) dX11_wouldFit_71 ⟨Nat.le_refl 0, Nat.le_refl 0⟩) X1092 (fun v1100 t1099 H lc q1097 X1098 => ?_)
          unfold po_X11_bit at q1097
          obtain ⟨q1101, q1102⟩ := q1097
          rw [q1101] at X1098
          refine r_iconst S dX11_wouldFit_74 (by decide) (fun v1103 z1104 => ?_)
          have r1105 := R_eq z1104
          refine r_icmp_ne (tgt := 104) S dX11_wouldFit_75 (by decide) (fun c1106 => ?_) (fun c1106 => ?_)
          ·
            have r1107 : R (0) (0) v1100 := ⟨by omega, by omega⟩
            refine r_iinc (k := 6) S dX11_wouldFit_104 hl rfl (by decide) (by decide) (fun v1108 d1109 ls z1110 z1111 hl => ?_)
            obtain ⟨e1112, r1113⟩ := i_add (lo := 2) (hi := 41) z1110 r1090 (R_eq z1111) rfl
            have hl : lv_has ls 8 [(6, .int v1108), (7, .int v1094), (0, .ref (G.2.2.2.1 0)), (1, .int a0), (3, .int a2), (4, .int v3), (5, .int v581)] := hl
            refine r_goto (tgt := 51) S dX11_wouldFit_107 (by decide) ?_
            exact ih1084 _ _ _ v1108 X1098 (R_of r1113 rfl) (lv_sub hl [2, 3, 4, 5, 6, 0] rfl) (by omega)
          ·
            have r1114 : R (1) (1) v1100 := ⟨by omega, by omega⟩
            refine r_aload_n S dX11_wouldFit_78 rfl (lv_at hl 1 rfl) ?_
            refine r_get (K := 0) (v := .ref (G.2.2.2.1 22)) S X1098 (Nat.le_of_ble_eq_true rfl) rfl lk11_42_9 (fun _ => ⟨_, rfl, rfl⟩) dX11_wouldFit_79 ?_
            refine r_aload_n S dX11_wouldFit_82 rfl (lv_at hl 1 rfl) ?_
            refine r_get (K := 0) (v := .ref (G.2.2.2.1 22)) S X1098 (Nat.le_of_ble_eq_true rfl) rfl lk11_42_9 (fun _ => ⟨_, rfl, rfl⟩) dX11_wouldFit_83 ?_
            refine r_iload S dX11_wouldFit_86 (lv_at hl 0 rfl) ?_
            refine r_iload S dX11_wouldFit_88 (lv_at hl 4 rfl) ?_
            refine r_ki (q_V (As := [.int v1094, .int v3]) (rest := [.ref (G.2.2.2.1 22)]) (K := 22) (ci := 8) S X1098 (c_X10_together l G τ hI v1094 v3 (R_of (lo := -2147483648) (hi := 2147483647) q1096 rfl) r6) ck11_213 (Nat.le_of_ble_eq_true rfl) rfl (fun _ => ⟨_, rfl⟩) ⟨_, _, rfl⟩ ⟨Nat.le_of_ble_eq_true rfl, Nat.le_of_ble_eq_true rfl⟩ rfl hl.1 rfl (Nat.le_of_ble_eq_true rfl) dX11_wouldFit_90 ⟨Nat.le_refl 0, Nat.le_refl 0⟩) X1098 (fun v1118 t1117 H lc q1115 X1116 => ?_)
            unfold po_X10_together at q1115
            have q1119 := q1115
            rw [q1119] at X1116
            have r1120 := R_any v1118
            refine r_iload S dX11_wouldFit_93 (lv_at hl 5 rfl) ?_
            refine r_iadd S dX11_wouldFit_95 (fun v1121 z1122 => ?_)
            obtain ⟨e1123, r1124⟩ := i_add (lo := -2147483648) (hi := 2147483647) z1122 r1120 r583 rfl
            refine r_ki (q_V (As := [.int v1121]) (rest := []) (K := 22) (ci := 8) S X1116 (c_X10_isLevel l G τ hI v1121 r1124) ck11_241 (Nat.le_of_ble_eq_true rfl) rfl (fun _ => ⟨_, rfl⟩) ⟨_, _, rfl⟩ ⟨Nat.le_of_ble_eq_true rfl, Nat.le_of_ble_eq_true rfl⟩ rfl hl.1 rfl (Nat.le_of_ble_eq_true rfl) dX11_wouldFit_96 ⟨Nat.le_refl 0, Nat.le_refl 0⟩) X1116 (fun v1128 t1127 H lc q1125 X1126 => ?_)
            unfold po_X10_isLevel at q1125
            obtain ⟨q1129, q1130⟩ := q1125
            rw [q1129] at X1126
            refine r_if_ne (tgt := 104) S dX11_wouldFit_99 (by decide) (fun c1131 => ?_) (fun c1131 => ?_)
            ·
              have r1132 : R (1) (1) v1128 := ⟨by omega, by omega⟩
              refine r_iinc (k := 6) S dX11_wouldFit_104 hl rfl (by decide) (by decide) (fun v1133 d1134 ls z1135 z1136 hl => ?_)
              obtain ⟨e1137, r1138⟩ := i_add (lo := 2) (hi := 41) z1135 r1090 (R_eq z1136) rfl
              have hl : lv_has ls 8 [(6, .int v1133), (7, .int v1094), (0, .ref (G.2.2.2.1 0)), (1, .int a0), (3, .int a2), (4, .int v3), (5, .int v581)] := hl
              refine r_goto (tgt := 51) S dX11_wouldFit_107 (by decide) ?_
              exact ih1084 _ _ _ v1133 X1126 (R_of r1138 rfl) (lv_sub hl [2, 3, 4, 5, 6, 0] rfl) (by omega)
            ·
              have r1139 : R (0) (0) v1128 := ⟨by omega, by omega⟩
              refine r_iconst S dX11_wouldFit_102 (by decide) (fun v1140 z1141 => ?_)
              have r1142 := R_eq z1141
              exact r_ret S hr hlk X1126 ⟨rfl, (R_of r1142 rfl)⟩ (nr_bool (R_of (lo := 0) (hi := 1) r1142 rfl)) dX11_wouldFit_103
    exact L1083 _ _ _ _ v584 X11 (R_of r586 rfl) (lv_sub hl [3, 4, 6, 2, 1, 0] rfl) (Nat.lt_succ_self _)
def po_X11_fits (τ : Tau)  (a0 : Int32)   (r : Int32) (u : Tau) : Prop := Inv u ∧ Fr [(1, 1), (0, 13), (0, 14)] [] τ u ∧ (u 1 1).toInt = 0
set_option maxHeartbeats 4000000 in
set_option maxRecDepth 100000 in
theorem c_X11_fits (l : Launch) (G : Gx) (τ : Tau) (hI : Inv τ) (a0 : Int32) (h_a0 : R (-2147483648) (2147483647) a0) (hWI : WI τ) : Ci l G yX11_fits cX11_fits 7 (some .int) 4 99 [.ref (G.2.2.2.1 0), .int a0] τ (po_X11_fits τ  a0  ) := by
  unfold Ci
  refine C_of (own := RX11) (by decide) rfl (Nat.le_of_ble_eq_true rfl) ?_
  intro p e s m below meth c ls S hr hlk X hl
  have hl : lv_has ls 7 [(0, .ref (G.2.2.2.1 0)), (1, .int a0)] := hl
  refine r_aload_n S dX11_fits_0 rfl (lv_at hl 0 rfl) ?_
  refine r_get (K := 0) (v := .ref (G.2.2.2.1 1)) S X (Nat.le_of_ble_eq_true rfl) rfl lk11_12_9 (fun _ => ⟨_, rfl, rfl⟩) dX11_fits_1 ?_
  refine r_getn (K := 1) S X (Nat.le_of_ble_eq_true rfl) rfl lk11_88_7 (fun _ => ⟨_, rfl, rfl⟩) dX11_fits_4 (fun v1 z2 => ?_)
  have r3 : R (0) (940) v1 := rd hI rfl z2
  refine r_istore_n (lv' := [(2, .int v1), (0, .ref (G.2.2.2.1 0)), (1, .int a0)]) S dX11_fits_7 rfl hl (by decide) rfl (fun ls hl => ?_)
  refine r_aload_n S dX11_fits_8 rfl (lv_at hl 1 rfl) ?_
  refine r_get (K := 0) (v := .ref (G.2.2.2.1 1)) S X (Nat.le_of_ble_eq_true rfl) rfl lk11_12_9 (fun _ => ⟨_, rfl, rfl⟩) dX11_fits_9 ?_
  refine r_iconst S dX11_fits_12 (by decide) (fun v4 z5 => ?_)
  have r6 := R_eq z5
  refine r_put (K := 1) (ty := .int) S X (Nat.le_of_ble_eq_true rfl) rfl lk11_88_7 (fun _ => ⟨_, rfl, Nat.le_of_ble_eq_true rfl, rfl⟩) (fun _ _ _ h => by cases h; exact ⟨rfl, rfl⟩) rfl rfl dX11_fits_13 (fun t7 H lc M8 X9 => ?_)
  have I10 := Inv_mu hI M8 (show Rg (kd 1) 1 v4 from (R_of (lo := 0) (hi := 940) r6 rfl))
  have F11 : Fr [(1, 1), (0, 13), (0, 14)] [] τ t7 := Fr_mu Fr_rfl M8 (by decide)
  refine r_aload_n S dX11_fits_16 rfl (lv_at hl 1 rfl) ?_
  refine r_get (K := 0) (v := .ref (G.2.2.2.1 22)) S X9 (Nat.le_of_ble_eq_true rfl) rfl lk11_42_9 (fun _ => ⟨_, rfl, rfl⟩) dX11_fits_17 ?_
  refine r_iload_n S dX11_fits_20 rfl (lv_at hl 2 rfl) ?_
  refine r_ki (q_V (As := [.int a0]) (rest := []) (K := 22) (ci := 8) S X9 (c_X10_hasMan l G t7 I10 a0 h_a0) ck11_122 (Nat.le_of_ble_eq_true rfl) rfl (fun _ => ⟨_, rfl⟩) ⟨_, _, rfl⟩ ⟨Nat.le_of_ble_eq_true rfl, Nat.le_of_ble_eq_true rfl⟩ rfl hl.1 rfl (Nat.le_of_ble_eq_true rfl) dX11_fits_21 ⟨Nat.le_refl 0, Nat.le_refl 0⟩) X9 (fun v15 t14 H lc q12 X13 => ?_)
  unfold po_X10_hasMan at q12
  obtain ⟨q16, q17, q18⟩ := q12
  rw [q16] at X13
  rw [q16] at q18
  refine r_if_eq (tgt := 48) S dX11_fits_24 (by decide) (fun c19 => ?_) (fun c19 => ?_)
  ·
    have r20 : R (0) (0) v15 := ⟨by omega, by omega⟩
    refine r_iconst S dX11_fits_48 (by decide) (fun v21 z22 => ?_)
    have r23 := R_eq z22
    exact r_ret S hr hlk X13 ⟨I10, F11, (by have h1_0 := congrArg Int32.toInt M8.1; have h2_0 := congrArg Int32.toInt z2; omega)⟩ rfl dX11_fits_49
  ·
    have r24 : R (1) (1) v15 := ⟨by omega, by omega⟩
    obtain ⟨p25, p26⟩ := q18 (by omega)
    have r27 : R (0) (9) a0 := ⟨by omega, by omega⟩
    obtain ⟨v28, z29⟩ : ∃ x, t7 23 3 = x := ⟨_, rfl⟩
    rw [z29] at p26
    refine r_aload_n S dX11_fits_27 rfl (lv_at hl 1 rfl) ?_
    refine r_get (K := 0) (v := .ref (G.2.2.2.1 22)) S X13 (Nat.le_of_ble_eq_true rfl) rfl lk11_42_9 (fun _ => ⟨_, rfl, rfl⟩) dX11_fits_28 ?_
    refine r_get (K := 22) (v := .ref (G.2.2.2.1 23)) S X13 (Nat.le_of_ble_eq_true rfl) rfl lk11_139_8 (fun _ => ⟨_, rfl, rfl⟩) dX11_fits_31 ?_
    refine r_getn (K := 4) S X13 (Nat.le_of_ble_eq_true rfl) rfl lk11_235_2 (fun _ => ⟨_, rfl, rfl⟩) dX11_fits_34 (fun v30 z31 => ?_)
    have r32 : R (0) (9) v30 := rd I10 rfl z31
    refine r_if_eq (tgt := 48) S dX11_fits_37 (by decide) (fun c33 => ?_) (fun c33 => ?_)
    ·
      have r34 : R (0) (0) v30 := ⟨by omega, by omega⟩
      refine r_iconst S dX11_fits_48 (by decide) (fun v35 z36 => ?_)
      have r37 := R_eq z36
      exact r_ret S hr hlk X13 ⟨I10, F11, (by have h1_0 := congrArg Int32.toInt M8.1; have h2_0 := congrArg Int32.toInt z2; omega)⟩ rfl dX11_fits_49
    ·
      have r38 : R (1) (9) v30 := ⟨by omega, by omega⟩
      refine r_aload_n S dX11_fits_40 rfl (lv_at hl 1 rfl) ?_
      refine r_iload_n S dX11_fits_41 rfl (lv_at hl 0 rfl) ?_
      refine r_ki (q_V (As := [.int v1]) (rest := []) (K := 0) (ci := 9) S X13 (c_X11_holdsSets l G t7 I10 v1 r3) ck11_247 (Nat.le_of_ble_eq_true rfl) rfl (fun _ => ⟨_, rfl⟩) ⟨_, _, rfl⟩ ⟨Nat.le_of_ble_eq_true rfl, Nat.le_of_ble_eq_true rfl⟩ rfl hl.1 rfl (Nat.le_of_ble_eq_true rfl) dX11_fits_42 ⟨Nat.le_refl 0, Nat.le_refl 0⟩) X13 (fun v42 t41 H lc q39 X40 => ?_)
      unfold po_X11_holdsSets at q39
      obtain ⟨q43, q44, q45⟩ := q39
      rw [q43] at X40
      refine r_if_ne (tgt := 50) S dX11_fits_45 (by decide) (fun c46 => ?_) (fun c46 => ?_)
      ·
        have r47 : R (1) (1) v42 := ⟨by omega, by omega⟩
        have p48 := q45 (by omega)
        have r49 : R (2) (40) v1 := ⟨by omega, by omega⟩
        refine r_iconst S dX11_fits_50 (by decide) (fun v50 z51 => ?_)
        have r52 := R_eq z51
        refine r_istore_n (lv' := [(3, .int v50), (2, .int v1), (0, .ref (G.2.2.2.1 0)), (1, .int a0)]) S dX11_fits_51 rfl hl (by decide) rfl (fun ls hl => ?_)
        refine r_bipush S dX11_fits_52 (by decide) (fun v53 z54 => ?_)
        have r55 := R_eq z54
        refine r_istore (lv' := [(4, .int v53), (3, .int v50), (2, .int v1), (0, .ref (G.2.2.2.1 0)), (1, .int a0)]) S dX11_fits_54 hl (by decide) rfl (fun ls hl => ?_)
        refine r_bipush S dX11_fits_56 (by decide) (fun v56 z57 => ?_)
        have r58 := R_eq z57
        refine r_istore (lv' := [(5, .int v56), (4, .int v53), (3, .int v50), (2, .int v1), (0, .ref (G.2.2.2.1 0)), (1, .int a0)]) S dX11_fits_58 hl (by decide) rfl (fun ls hl => ?_)
        refine r_bipush S dX11_fits_60 (by decide) (fun v59 z60 => ?_)
        have r61 := R_eq z60
        refine r_istore (lv' := [(6, .int v59), (5, .int v56), (4, .int v53), (3, .int v50), (2, .int v1), (0, .ref (G.2.2.2.1 0)), (1, .int a0)]) S dX11_fits_62 hl (by decide) rfl (fun ls hl => ?_)
        have L2434 : ∀ (n : Nat) (H : Heap) (lc : List Loc) (ls : Array Slot) (i2425 : Int32) (i2427 : Int32) (i2429 : Int32) (i2431 : Int32), Xd G s H lc t7 → R (-2147483648) (2147483647) i2425 → R (-101) (9) i2427 → R (-101) (9) i2429 → R (-9) (10) i2431 → lv_has ls 7 [(0, .ref (G.2.2.2.1 0)), (1, .int a0), (2, .int v1), (3, .int i2425), (4, .int i2427), (5, .int i2429), (6, .int i2431)] → (10 - i2431.toInt).toNat < n → W p l e (Rm 4 99) s m ([.ref (G.2.2.2.1 0), .int a0] : List Value).toArray below meth c H lc 0 0 (MQ below (va_Qi (po_X11_fits τ  a0  ) (Bs G) G.2.2.2.2) ([.ref (G.2.2.2.1 0), .int a0] : List Value).toArray s 0 0 G.2.2.2.2) (F0 m 64 ls []) := by
          intro n
          induction n with
          | zero => intros; omega
          | succ n ih2435 =>
            intro H lc ls i2425 i2427 i2429 i2431 X2433 r2426 r2428 r2430 r2432 hl hm
            refine r_iload S dX11_fits_64 (lv_at hl 6 rfl) ?_
            refine r_bipush S dX11_fits_66 (by decide) (fun v2436 z2437 => ?_)
            have r2438 := R_eq z2437
            refine r_icmp_gt (tgt := 108) S dX11_fits_68 (by decide) (fun c2439 => ?_) (fun c2439 => ?_)
            ·
              have r2440 : R (10) (10) i2431 := ⟨by omega, by omega⟩
              refine r_iload_n S dX11_fits_108 rfl (lv_at hl 3 rfl) ?_
              refine r_if_le (tgt := 124) S dX11_fits_109 (by decide) (fun c2441 => ?_) (fun c2441 => ?_)
              ·
                have r2442 : R (-2147483648) (0) i2425 := ⟨by omega, by omega⟩
                refine r_iload_n S dX11_fits_124 rfl (lv_at hl 3 rfl) ?_
                exact r_ret S hr hlk X2433 ⟨I10, F11, (by have h1_0 := congrArg Int32.toInt M8.1; have h2_0 := congrArg Int32.toInt z2; omega)⟩ rfl dX11_fits_125
              ·
                have r2443 : R (1) (2147483647) i2425 := ⟨by omega, by omega⟩
                refine r_aload_n S dX11_fits_112 rfl (lv_at hl 0 rfl) ?_
                refine r_iload S dX11_fits_113 (lv_at hl 4 rfl) ?_
                refine r_put (K := 0) (ty := .int) S X2433 (Nat.le_of_ble_eq_true rfl) rfl lk11_68_9 (fun _ => ⟨_, rfl, Nat.le_of_ble_eq_true rfl, rfl⟩) (fun _ _ _ h => by cases h; exact ⟨rfl, rfl⟩) rfl rfl dX11_fits_115 (fun t2444 H lc M2445 X2446 => ?_)
                have I2447 := Inv_mu I10 M2445 (R_any i2427)
                have F2448 : Fr [(1, 1), (0, 13), (0, 14)] [] τ t2444 := Fr_mu F11 M2445 (by decide)
                refine r_aload_n S dX11_fits_118 rfl (lv_at hl 0 rfl) ?_
                refine r_iload S dX11_fits_119 (lv_at hl 5 rfl) ?_
                refine r_put (K := 0) (ty := .int) S X2446 (Nat.le_of_ble_eq_true rfl) rfl lk11_72_9 (fun _ => ⟨_, rfl, Nat.le_of_ble_eq_true rfl, rfl⟩) (fun _ _ _ h => by cases h; exact ⟨rfl, rfl⟩) rfl rfl dX11_fits_121 (fun t2449 H lc M2450 X2451 => ?_)
                have I2452 := Inv_mu I2447 M2450 (R_any i2429)
                have F2453 : Fr [(1, 1), (0, 13), (0, 14)] [] τ t2449 := Fr_mu F2448 M2450 (by decide)
                refine r_iload_n S dX11_fits_124 rfl (lv_at hl 3 rfl) ?_
                exact r_ret S hr hlk X2451 ⟨I2452, F2453, (by have h1_0 := congrArg Int32.toInt ((M2450.2 1 1 (Or.inl (by decide))).trans ((M2445.2 1 1 (Or.inl (by decide))).trans M8.1)); have h2_0 := congrArg Int32.toInt z2; omega)⟩ rfl dX11_fits_125
            ·
              have r2454 : R (-9) (9) i2431 := ⟨by omega, by omega⟩
              refine r_aload_n S dX11_fits_71 rfl (lv_at hl 0 rfl) ?_
              refine r_iload_n S dX11_fits_72 rfl (lv_at hl 1 rfl) ?_
              refine r_iload S dX11_fits_73 (lv_at hl 6 rfl) ?_
              refine r_iload_n S dX11_fits_75 rfl (lv_at hl 2 rfl) ?_
              refine r_ki (q_V (As := [.int a0, .int i2431, .int v1]) (rest := []) (K := 0) (ci := 9) S X2433 (c_X11_wouldFit l G t7 I10 a0 i2431 v1 r27 r2454 r49 (by rw [z31]; exact R_of r38 rfl) (WI_eq hWI ((M8.2 23 2 (Or.inl (by decide))).trans rfl) ((M8.2 30 8 (Or.inl (by decide))).trans rfl))) ck11_250 (Nat.le_of_ble_eq_true rfl) rfl (fun _ => ⟨_, rfl⟩) ⟨_, _, rfl⟩ ⟨Nat.le_of_ble_eq_true rfl, Nat.le_of_ble_eq_true rfl⟩ rfl hl.1 rfl (Nat.le_of_ble_eq_true rfl) dX11_fits_76 ⟨Nat.le_refl 0, Nat.le_refl 0⟩) X2433 (fun v2458 t2457 H lc q2455 X2456 => ?_)
              unfold po_X11_wouldFit at q2455
              obtain ⟨q2459, q2460⟩ := q2455
              rw [q2459] at X2456
              refine r_if_eq (tgt := 102) S dX11_fits_79 (by decide) (fun c2461 => ?_) (fun c2461 => ?_)
              ·
                have r2462 : R (0) (0) v2458 := ⟨by omega, by omega⟩
                refine r_iinc (k := 6) S dX11_fits_102 hl rfl (by decide) (by decide) (fun v2463 d2464 ls z2465 z2466 hl => ?_)
                obtain ⟨e2467, r2468⟩ := i_add (lo := -8) (hi := 10) z2465 r2454 (R_eq z2466) rfl
                have hl : lv_has ls 7 [(6, .int v2463), (0, .ref (G.2.2.2.1 0)), (1, .int a0), (2, .int v1), (3, .int i2425), (4, .int i2427), (5, .int i2429)] := hl
                refine r_goto (tgt := 64) S dX11_fits_105 (by decide) ?_
                exact ih2435 _ _ _ i2425 i2427 i2429 v2463 X2456 r2426 r2428 r2430 (R_of r2468 rfl) (lv_sub hl [1, 2, 3, 4, 5, 6, 0] rfl) (by omega)
              ·
                have r2469 : R (1) (1) v2458 := ⟨by omega, by omega⟩
                refine r_iload_n S dX11_fits_82 rfl (lv_at hl 3 rfl) ?_
                refine r_if_ne (tgt := 91) S dX11_fits_83 (by decide) (fun c2470 => ?_) (fun c2470 => ?_)
                ·
                  refine r_iload S dX11_fits_91 (lv_at hl 4 rfl) ?_
                  refine r_istore (lv' := [(4, .int i2427), (0, .ref (G.2.2.2.1 0)), (1, .int a0), (2, .int v1), (3, .int i2425), (5, .int i2429), (6, .int i2431)]) S dX11_fits_93 hl (by decide) rfl (fun ls hl => ?_)
                  refine r_iload S dX11_fits_95 (lv_at hl 6 rfl) ?_
                  refine r_istore (lv' := [(5, .int i2431), (4, .int i2427), (0, .ref (G.2.2.2.1 0)), (1, .int a0), (2, .int v1), (3, .int i2425), (6, .int i2431)]) S dX11_fits_97 hl (by decide) rfl (fun ls hl => ?_)
                  refine r_iinc (k := 5) S dX11_fits_99 hl rfl (by decide) (by decide) (fun v2471 d2472 ls z2473 z2474 hl => ?_)
                  have r2475 := R_any v2471
                  have hl : lv_has ls 7 [(3, .int v2471), (5, .int i2431), (4, .int i2427), (0, .ref (G.2.2.2.1 0)), (1, .int a0), (2, .int v1), (6, .int i2431)] := hl
                  refine r_iinc (k := 6) S dX11_fits_102 hl rfl (by decide) (by decide) (fun v2476 d2477 ls z2478 z2479 hl => ?_)
                  obtain ⟨e2480, r2481⟩ := i_add (lo := -8) (hi := 10) z2478 r2454 (R_eq z2479) rfl
                  have hl : lv_has ls 7 [(6, .int v2476), (3, .int v2471), (5, .int i2431), (4, .int i2427), (0, .ref (G.2.2.2.1 0)), (1, .int a0), (2, .int v1)] := hl
                  refine r_goto (tgt := 64) S dX11_fits_105 (by decide) ?_
                  exact ih2435 _ _ _ v2471 i2427 i2431 v2476 X2456 r2475 r2428 (R_of r2454 rfl) (R_of r2481 rfl) (lv_sub hl [4, 5, 6, 1, 3, 2, 0] rfl) (by omega)
                ·
                  have r2482 : R (0) (0) i2425 := ⟨by omega, by omega⟩
                  refine r_iload S dX11_fits_86 (lv_at hl 6 rfl) ?_
                  refine r_goto (tgt := 93) S dX11_fits_88 (by decide) ?_
                  refine r_istore (lv' := [(4, .int i2431), (0, .ref (G.2.2.2.1 0)), (1, .int a0), (2, .int v1), (3, .int i2425), (5, .int i2429), (6, .int i2431)]) S dX11_fits_93 hl (by decide) rfl (fun ls hl => ?_)
                  refine r_iload S dX11_fits_95 (lv_at hl 6 rfl) ?_
                  refine r_istore (lv' := [(5, .int i2431), (4, .int i2431), (0, .ref (G.2.2.2.1 0)), (1, .int a0), (2, .int v1), (3, .int i2425), (6, .int i2431)]) S dX11_fits_97 hl (by decide) rfl (fun ls hl => ?_)
                  refine r_iinc (k := 5) S dX11_fits_99 hl rfl (by decide) (by decide) (fun v2483 d2484 ls z2485 z2486 hl => ?_)
                  obtain ⟨e2487, r2488⟩ := i_add (lo := 1) (hi := 1) z2485 r2482 (R_eq z2486) rfl
                  have hl : lv_has ls 7 [(3, .int v2483), (5, .int i2431), (4, .int i2431), (0, .ref (G.2.2.2.1 0)), (1, .int a0), (2, .int v1), (6, .int i2431)] := hl
                  refine r_iinc (k := 6) S dX11_fits_102 hl rfl (by decide) (by decide) (fun v2489 d2490 ls z2491 z2492 hl => ?_)
                  obtain ⟨e2493, r2494⟩ := i_add (lo := -8) (hi := 10) z2491 r2454 (R_eq z2492) rfl
                  have hl : lv_has ls 7 [(6, .int v2489), (3, .int v2483), (5, .int i2431), (4, .int i2431), (0, .ref (G.2.2.2.1 0)), (1, .int a0), (2, .int v1)] := hl
                  refine r_goto (tgt := 64) S dX11_fits_105 (by decide) ?_
                  exact ih2435 _ _ _ v2483 i2431 i2431 v2489 X2456 (R_of r2488 rfl) (R_of r2454 rfl) (R_of r2454 rfl) (R_of r2494 rfl) (lv_sub hl [4, 5, 6, 1, 3, 2, 0] rfl) (by omega)
        exact L2434 _ _ _ _ v50 v53 v56 v59 X40 (R_of r52 rfl) (R_of r55 rfl) (R_of r58 rfl) (R_of r61 rfl) (lv_sub hl [5, 6, 4, 3, 2, 1, 0] rfl) (Nat.lt_succ_self _)
      ·
        have r2495 : R (0) (0) v42 := ⟨by omega, by omega⟩
        refine r_iconst S dX11_fits_48 (by decide) (fun v2496 z2497 => ?_)
        have r2498 := R_eq z2497
        exact r_ret S hr hlk X40 ⟨I10, F11, (by have h1_0 := congrArg Int32.toInt M8.1; have h2_0 := congrArg Int32.toInt z2; omega)⟩ rfl dX11_fits_49
def po_X11_fit (τ : Tau)  (a0 : Int32)   (r : Int32) (u : Tau) : Prop := u = τ
set_option maxHeartbeats 4000000 in
set_option maxRecDepth 100000 in
theorem c_X11_fit (l : Launch) (G : Gx) (τ : Tau) (hI : Inv τ) (a0 : Int32) (h_a0 : R (-2147483648) (2147483647) a0) : Ci l G yX11_fit cX11_fit 2 (some .int) 0 0 [.ref (G.2.2.2.1 0), .int a0] τ (po_X11_fit τ  a0  ) := by
  unfold Ci
  refine C_of (own := RX11) (by decide) rfl (Nat.le_of_ble_eq_true rfl) ?_
  intro p e s m below meth c ls S hr hlk X hl
  have hl : lv_has ls 2 [(0, .ref (G.2.2.2.1 0)), (1, .int a0)] := hl
  refine r_iload_n S dX11_fit_0 rfl (lv_at hl 1 rfl) ?_
  rcases (show a0.toInt = 0 ∨ a0.toInt = 1 ∨ (a0.toInt ≠ 0 ∧ a0.toInt ≠ 1) by omega) with c1 | c1 | c1
  ·
    refine lv_lookup (tgt := 28) (off := 27) S.1.1 S.1.2.1 dX11_fit_1 (by decide) (by rw [c1]; rfl) (by decide) ?_
    have r2 : R (0) (0) a0 := ⟨by omega, by omega⟩
    refine r_aload_n S dX11_fit_28 rfl (lv_at hl 0 rfl) ?_
    refine r_getn (K := 0) S X (Nat.le_of_ble_eq_true rfl) rfl lk11_68_9 (fun _ => ⟨_, rfl, rfl⟩) dX11_fit_29 (fun v3 z4 => ?_)
    have r6 := R_any v3
    exact r_ret S hr hlk X rfl rfl dX11_fit_32
  ·
    refine lv_lookup (tgt := 33) (off := 32) S.1.1 S.1.2.1 dX11_fit_1 (by decide) (by rw [c1]; rfl) (by decide) ?_
    have r7 : R (1) (1) a0 := ⟨by omega, by omega⟩
    refine r_aload_n S dX11_fit_33 rfl (lv_at hl 0 rfl) ?_
    refine r_getn (K := 0) S X (Nat.le_of_ble_eq_true rfl) rfl lk11_72_9 (fun _ => ⟨_, rfl, rfl⟩) dX11_fit_34 (fun v8 z9 => ?_)
    have r11 := R_any v8
    exact r_ret S hr hlk X rfl rfl dX11_fit_37
  ·
    refine lv_lookup (tgt := 38) (off := 37) S.1.1 S.1.2.1 dX11_fit_1 (by decide) (by have k0 := c1.1.symm; have k1 := c1.2.symm; simp [Op.lookupswitch.offset, k0, k1]) (by decide) ?_
    refine r_bipush S dX11_fit_38 (by decide) (fun v12 z13 => ?_)
    have r14 := R_eq z13
    exact r_ret S hr hlk X rfl rfl dX11_fit_40
def po_X11_couples (τ : Tau)     (r : Int32) (u : Tau) : Prop := Inv u ∧ Fr [] [46, 47, 48, 49, 129] τ u
set_option maxHeartbeats 4000000 in
set_option maxRecDepth 100000 in
theorem c_X11_couples (l : Launch) (G : Gx) (τ : Tau) (hI : Inv τ) (hWI : WI τ) : Ci l G yX11_couples cX11_couples 1 (some .int) 6 152 [.ref (G.2.2.2.1 0)] τ (po_X11_couples τ    ) := by
  unfold Ci
  refine C_of (own := RX11) (by decide) rfl (Nat.le_of_ble_eq_true rfl) ?_
  intro p e s m below meth c ls S hr hlk X hl
  have hl : lv_has ls 1 [(0, .ref (G.2.2.2.1 0))] := hl
  refine r_aload_n S dX11_couples_0 rfl (lv_at hl 0 rfl) ?_
  refine r_get (K := 0) (v := .ref (G.2.2.2.1 129)) S X (Nat.le_of_ble_eq_true rfl) rfl lk11_75_9 (fun _ => ⟨_, rfl, rfl⟩) dX11_couples_1 ?_
  refine r_iconst S dX11_couples_4 (by decide) (fun v1 z2 => ?_)
  have r3 := R_eq z2
  refine r_kv (q_S (As := [.ref (G.2.2.2.1 129), .int v1]) (rest := []) S X (c_fill_mates l G τ hI 129 (Nat.le_of_ble_eq_true rfl) rfl v1 (R_of (lo := -1) (hi := 9) r3 rfl)) ck11_79 ⟨Nat.le_of_ble_eq_true rfl, Nat.le_of_ble_eq_true rfl⟩ rfl hl.1 rfl (Nat.le_of_ble_eq_true rfl) dX11_couples_5 ⟨Nat.le_refl 0, Nat.le_refl 0⟩) X (fun t6 H lc q4 X5 => ?_)
  unfold po_fill_mates at q4
  obtain ⟨q7, q8⟩ := q4
  have F9 : Fr [] [46, 47, 48, 49, 129] τ t6 := Fr_call Fr_rfl q8 (by decide)
  refine r_aload_n S dX11_couples_8 rfl (lv_at hl 0 rfl) ?_
  refine r_get (K := 0) (v := .ref (G.2.2.2.1 22)) S X5 (Nat.le_of_ble_eq_true rfl) rfl lk11_42_9 (fun _ => ⟨_, rfl, rfl⟩) dX11_couples_9 ?_
  refine r_get (K := 22) (v := .ref (G.2.2.2.1 23)) S X5 (Nat.le_of_ble_eq_true rfl) rfl lk11_139_8 (fun _ => ⟨_, rfl, rfl⟩) dX11_couples_12 ?_
  refine r_getn (K := 4) S X5 (Nat.le_of_ble_eq_true rfl) rfl lk11_235_2 (fun _ => ⟨_, rfl, rfl⟩) dX11_couples_15 (fun v10 z11 => ?_)
  have r12 : R (0) (9) v10 := rd q7 rfl z11
  refine r_if_ne (tgt := 25) S dX11_couples_18 (by decide) (fun c13 => ?_) (fun c13 => ?_)
  ·
    have r14 : R (1) (9) v10 := ⟨by omega, by omega⟩
    refine r_aload_n S dX11_couples_25 rfl (lv_at hl 0 rfl) ?_
    refine r_get (K := 0) (v := .ref (G.2.2.2.1 45)) S X5 (Nat.le_of_ble_eq_true rfl) rfl lk11_56_9 (fun _ => ⟨_, rfl, rfl⟩) dX11_couples_26 ?_
    refine r_aload_n S dX11_couples_29 rfl (lv_at hl 0 rfl) ?_
    refine r_get (K := 0) (v := .ref (G.2.2.2.1 22)) S X5 (Nat.le_of_ble_eq_true rfl) rfl lk11_42_9 (fun _ => ⟨_, rfl, rfl⟩) dX11_couples_30 ?_
    refine r_aload_n S dX11_couples_33 rfl (lv_at hl 0 rfl) ?_
    refine r_get (K := 0) (v := .ref (G.2.2.2.1 129)) S X5 (Nat.le_of_ble_eq_true rfl) rfl lk11_75_9 (fun _ => ⟨_, rfl, rfl⟩) dX11_couples_34 ?_
    refine r_ki (q_V (As := [.ref (G.2.2.2.1 22), .ref (G.2.2.2.1 129)]) (rest := []) (K := 28) (ci := 4) S X5 (c_X4_pairUp l G t6 q7 (by rw [z11]; exact R_of r14 rfl) (WI_eq hWI ((q8 23 2 (by decide)).trans rfl) ((q8 30 8 (by decide)).trans rfl))) ck11_253 (Nat.le_of_ble_eq_true rfl) rfl (fun _ => ⟨_, rfl⟩) ⟨_, _, rfl⟩ ⟨Nat.le_of_ble_eq_true rfl, Nat.le_of_ble_eq_true rfl⟩ rfl hl.1 rfl (Nat.le_of_ble_eq_true rfl) dX11_couples_37 ⟨Nat.le_refl 0, Nat.le_refl 0⟩) X5 (fun v18 t17 H lc q15 X16 => ?_)
    unfold po_X4_pairUp at q15
    obtain ⟨q19, q20⟩ := q15
    have F21 : Fr [] [46, 47, 48, 49, 129] τ t17 := Fr_call F9 q20 (by decide)
    have r22 := R_any v18
    exact r_ret S hr hlk X16 ⟨q19, F21⟩ rfl dX11_couples_40
  ·
    have r23 : R (0) (0) v10 := ⟨by omega, by omega⟩
    refine r_iconst S dX11_couples_21 (by decide) (fun v24 z25 => ?_)
    have r26 := R_eq z25
    refine r_goto (tgt := 40) S dX11_couples_22 (by decide) ?_
    exact r_ret S hr hlk X5 ⟨q7, F9⟩ rfl dX11_couples_40
def po_X11_couple (τ : Tau)  (a0 : Int32)   (r : Int32) (u : Tau) : Prop := u = τ
set_option maxHeartbeats 4000000 in
set_option maxRecDepth 100000 in
theorem c_X11_couple (l : Launch) (G : Gx) (τ : Tau) (hI : Inv τ) (a0 : Int32) (h_a0 : R (-2147483648) (2147483647) a0) : Ci l G yX11_couple cX11_couple 2 (some .int) 1 21 [.ref (G.2.2.2.1 0), .int a0] τ (po_X11_couple τ  a0  ) := by
  unfold Ci
  refine C_of (own := RX11) (by decide) rfl (Nat.le_of_ble_eq_true rfl) ?_
  intro p e s m below meth c ls S hr hlk X hl
  have hl : lv_has ls 2 [(0, .ref (G.2.2.2.1 0)), (1, .int a0)] := hl
  refine r_aload_n S dX11_couple_0 rfl (lv_at hl 0 rfl) ?_
  refine r_get (K := 0) (v := .ref (G.2.2.2.1 22)) S X (Nat.le_of_ble_eq_true rfl) rfl lk11_42_9 (fun _ => ⟨_, rfl, rfl⟩) dX11_couple_1 ?_
  refine r_iload_n S dX11_couple_4 rfl (lv_at hl 1 rfl) ?_
  refine r_ki (q_V (As := [.int a0]) (rest := []) (K := 22) (ci := 8) S X (c_X10_hasMan l G τ hI a0 h_a0) ck11_122 (Nat.le_of_ble_eq_true rfl) rfl (fun _ => ⟨_, rfl⟩) ⟨_, _, rfl⟩ ⟨Nat.le_of_ble_eq_true rfl, Nat.le_of_ble_eq_true rfl⟩ rfl hl.1 rfl (Nat.le_of_ble_eq_true rfl) dX11_couple_5 ⟨Nat.le_refl 0, Nat.le_refl 0⟩) X (fun v4 t3 H lc q1 X2 => ?_)
  unfold po_X10_hasMan at q1
  obtain ⟨q5, q6, q7⟩ := q1
  rw [q5] at X2
  rw [q5] at q7
  refine r_if_eq (tgt := 20) S dX11_couple_8 (by decide) (fun c8 => ?_) (fun c8 => ?_)
  ·
    have r9 : R (0) (0) v4 := ⟨by omega, by omega⟩
    refine r_iconst S dX11_couple_20 (by decide) (fun v10 z11 => ?_)
    have r12 := R_eq z11
    exact r_ret S hr hlk X2 rfl rfl dX11_couple_21
  ·
    have r13 : R (1) (1) v4 := ⟨by omega, by omega⟩
    obtain ⟨p14, p15⟩ := q7 (by omega)
    have r16 : R (0) (9) a0 := ⟨by omega, by omega⟩
    obtain ⟨v17, z18⟩ : ∃ x, τ 23 3 = x := ⟨_, rfl⟩
    rw [z18] at p15
    refine r_aload_n S dX11_couple_11 rfl (lv_at hl 0 rfl) ?_
    refine r_get (K := 0) (v := .ref (G.2.2.2.1 129)) S X2 (Nat.le_of_ble_eq_true rfl) rfl lk11_75_9 (fun _ => ⟨_, rfl, rfl⟩) dX11_couple_12 ?_
    refine r_iload_n S dX11_couple_15 rfl (lv_at hl 1 rfl) ?_
    refine r_aldn (n := 10) (K := 36) S X2 (Nat.le_of_ble_eq_true rfl) rfl (fun _ => rfl) (ix_of r16 rfl) dX11_couple_16 (fun v19 z20 => ?_)
    have r21 : R (-1) (9) v19 := rd hI rfl z20
    refine r_goto (tgt := 21) S dX11_couple_17 (by decide) ?_
    exact r_ret S hr hlk X2 rfl rfl dX11_couple_21
def po_X11_doubters (τ : Tau)  (a0 : Int32)   (r : Int32) (u : Tau) : Prop := Inv u ∧ Fr [] [46, 47, 48] τ u
set_option maxHeartbeats 4000000 in
set_option maxRecDepth 100000 in
theorem c_X11_doubters (l : Launch) (G : Gx) (τ : Tau) (hI : Inv τ) (a0 : Int32) (h_a0 : R (-2147483648) (2147483647) a0) (hWI : WI τ) : Ci l G yX11_doubters cX11_doubters 2 (some .int) 6 152 [.ref (G.2.2.2.1 0), .int a0] τ (po_X11_doubters τ  a0  ) := by
  unfold Ci
  refine C_of (own := RX11) (by decide) rfl (Nat.le_of_ble_eq_true rfl) ?_
  intro p e s m below meth c ls S hr hlk X hl
  have hl : lv_has ls 2 [(0, .ref (G.2.2.2.1 0)), (1, .int a0)] := hl
  refine r_aload_n S dX11_doubters_0 rfl (lv_at hl 0 rfl) ?_
  refine r_iload_n S dX11_doubters_1 rfl (lv_at hl 1 rfl) ?_
  refine r_ki (q_V (As := [.int a0]) (rest := []) (K := 0) (ci := 9) S X (c_X11_canSum l G τ hI a0 h_a0) ck11_210 (Nat.le_of_ble_eq_true rfl) rfl (fun _ => ⟨_, rfl⟩) ⟨_, _, rfl⟩ ⟨Nat.le_of_ble_eq_true rfl, Nat.le_of_ble_eq_true rfl⟩ rfl hl.1 rfl (Nat.le_of_ble_eq_true rfl) dX11_doubters_2 ⟨Nat.le_refl 0, Nat.le_refl 0⟩) X (fun v4 t3 H lc q1 X2 => ?_)
  unfold po_X11_canSum at q1
  obtain ⟨q5, q6, q7⟩ := q1
  rw [q5] at X2
  rw [q5] at q7
  refine r_if_eq (tgt := 23) S dX11_doubters_5 (by decide) (fun c8 => ?_) (fun c8 => ?_)
  ·
    have r9 : R (0) (0) v4 := ⟨by omega, by omega⟩
    refine r_iconst S dX11_doubters_23 (by decide) (fun v10 z11 => ?_)
    have r12 := R_eq z11
    exact r_ret S hr hlk X2 ⟨hI, Fr_rfl⟩ rfl dX11_doubters_24
  ·
    have r13 : R (1) (1) v4 := ⟨by omega, by omega⟩
    obtain ⟨p14, p15⟩ := q7 (by omega)
    have r16 : R (0) (1023) a0 := ⟨by omega, by omega⟩
    obtain ⟨v17, z18⟩ : ∃ x, τ 23 2 = x := ⟨_, rfl⟩
    rw [z18] at p15
    refine r_aload_n S dX11_doubters_8 rfl (lv_at hl 0 rfl) ?_
    refine r_get (K := 0) (v := .ref (G.2.2.2.1 45)) S X2 (Nat.le_of_ble_eq_true rfl) rfl lk11_56_9 (fun _ => ⟨_, rfl, rfl⟩) dX11_doubters_9 ?_
    refine r_aload_n S dX11_doubters_12 rfl (lv_at hl 0 rfl) ?_
    refine r_get (K := 0) (v := .ref (G.2.2.2.1 22)) S X2 (Nat.le_of_ble_eq_true rfl) rfl lk11_42_9 (fun _ => ⟨_, rfl, rfl⟩) dX11_doubters_13 ?_
    refine r_iload_n S dX11_doubters_16 rfl (lv_at hl 1 rfl) ?_
    refine r_ki (q_V (As := [.ref (G.2.2.2.1 22), .int a0]) (rest := []) (K := 28) (ci := 4) S X2 (c_X4_cheapestDoubters l G τ hI a0 r16 (by rw [z18]; exact R_of p15 rfl) hWI) ck11_257 (Nat.le_of_ble_eq_true rfl) rfl (fun _ => ⟨_, rfl⟩) ⟨_, _, rfl⟩ ⟨Nat.le_of_ble_eq_true rfl, Nat.le_of_ble_eq_true rfl⟩ rfl hl.1 rfl (Nat.le_of_ble_eq_true rfl) dX11_doubters_17 ⟨Nat.le_refl 0, Nat.le_refl 0⟩) X2 (fun v22 t21 H lc q19 X20 => ?_)
    unfold po_X4_cheapestDoubters at q19
    obtain ⟨q23, q24⟩ := q19
    have F25 : Fr [] [46, 47, 48] τ t21 := Fr_call Fr_rfl q24 (by decide)
    have r26 := R_any v22
    refine r_goto (tgt := 24) S dX11_doubters_20 (by decide) ?_
    exact r_ret S hr hlk X20 ⟨q23, F25⟩ rfl dX11_doubters_24
def po_X11_waysToBalance (τ : Tau)  (a0 a1 : Int32)   (r : Int32) (u : Tau) : Prop := u = τ
set_option maxHeartbeats 4000000 in
set_option maxRecDepth 100000 in
theorem c_X11_waysToBalance (l : Launch) (G : Gx) (τ : Tau) (hI : Inv τ) (a0 : Int32) (a1 : Int32) (h_a0 : R (0) (63) a0) (h_a1 : R (-2147483648) (2147483647) a1) : Ci l G yX11_waysToBalance cX11_waysToBalance 6 (some .int) 1 21 [.ref (G.2.2.2.1 0), .int a0, .int a1] τ (po_X11_waysToBalance τ  a0 a1  ) := by
  unfold Ci
  refine C_of (own := RX11) (by decide) rfl (Nat.le_of_ble_eq_true rfl) ?_
  intro p e s m below meth c ls S hr hlk X hl
  have hl : lv_has ls 6 [(0, .ref (G.2.2.2.1 0)), (1, .int a0), (2, .int a1)] := hl
  refine r_iconst S dX11_waysToBalance_0 (by decide) (fun v1 z2 => ?_)
  have r3 := R_eq z2
  refine r_istore_n (lv' := [(3, .int v1), (0, .ref (G.2.2.2.1 0)), (1, .int a0), (2, .int a1)]) S dX11_waysToBalance_1 rfl hl (by decide) rfl (fun ls hl => ?_)
  refine r_iconst S dX11_waysToBalance_2 (by decide) (fun v4 z5 => ?_)
  have r6 := R_eq z5
  refine r_istore (lv' := [(4, .int v4), (3, .int v1), (0, .ref (G.2.2.2.1 0)), (1, .int a0), (2, .int a1)]) S dX11_waysToBalance_3 hl (by decide) rfl (fun ls hl => ?_)
  refine r_iconst S dX11_waysToBalance_5 (by decide) (fun v7 z8 => ?_)
  have r9 := R_eq z8
  refine r_istore (lv' := [(5, .int v7), (4, .int v4), (3, .int v1), (0, .ref (G.2.2.2.1 0)), (1, .int a0), (2, .int a1)]) S dX11_waysToBalance_6 hl (by decide) rfl (fun ls hl => ?_)
  have L2004 : ∀ (n : Nat) (H : Heap) (lc : List Loc) (ls : Array Slot) (i1997 : Int32) (i1999 : Int32) (i2001 : Int32), Xd G s H lc τ → R (-2147483648) (2147483647) i1997 → R (-2147483648) (2147483647) i1999 → R (0) (160) i2001 → lv_has ls 6 [(0, .ref (G.2.2.2.1 0)), (1, .int a0), (2, .int a1), (3, .int i1997), (4, .int i1999), (5, .int i2001)] → (160 - i2001.toInt).toNat < n → W p l e (Rm 1 21) s m ([.ref (G.2.2.2.1 0), .int a0, .int a1] : List Value).toArray below meth c H lc 0 0 (MQ below (va_Qi (po_X11_waysToBalance τ  a0 a1  ) (Bs G) G.2.2.2.2) ([.ref (G.2.2.2.1 0), .int a0, .int a1] : List Value).toArray s 0 0 G.2.2.2.2) (F0 m 8 ls []) := by
    intro n
    induction n with
    | zero => intros; omega
    | succ n ih2005 =>
      intro H lc ls i1997 i1999 i2001 X2003 r1998 r2000 r2002 hl hm
      refine r_iload S dX11_waysToBalance_8 (lv_at hl 5 rfl) ?_
      refine r_iconst S dX11_waysToBalance_10 (by decide) (fun v2006 z2007 => ?_)
      have r2008 := R_eq z2007
      refine r_iload_n S dX11_waysToBalance_11 rfl (lv_at hl 1 rfl) ?_
      refine r_imul S dX11_waysToBalance_12 (fun v2009 z2010 => ?_)
      obtain ⟨e2011, r2012⟩ := i_mul (lo := 0) (hi := 126) z2010 r2008 h_a0 rfl rfl
      have e2013 : v2009.toInt = 2 * a0.toInt := by rw [e2011, show v2006.toInt = 2 by omega]
      refine r_icmp_gt (tgt := 59) S dX11_waysToBalance_13 (by decide) (fun c2014 => ?_) (fun c2014 => ?_)
      ·
        have r2015 : R (1) (160) i2001 := ⟨by omega, by omega⟩
        refine r_iload_n S dX11_waysToBalance_59 rfl (lv_at hl 3 rfl) ?_
        exact r_ret S hr hlk X2003 rfl rfl dX11_waysToBalance_60
      ·
        have r2016 : R (0) (126) i2001 := ⟨by omega, by omega⟩
        refine r_aload_n S dX11_waysToBalance_16 rfl (lv_at hl 0 rfl) ?_
        refine r_get (K := 0) (v := .ref (G.2.2.2.1 22)) S X2003 (Nat.le_of_ble_eq_true rfl) rfl lk11_42_9 (fun _ => ⟨_, rfl, rfl⟩) dX11_waysToBalance_17 ?_
        refine r_iload_n S dX11_waysToBalance_20 rfl (lv_at hl 2 rfl) ?_
        refine r_iload S dX11_waysToBalance_21 (lv_at hl 5 rfl) ?_
        refine r_iadd S dX11_waysToBalance_23 (fun v2017 z2018 => ?_)
        have r2019 := R_any v2017
        refine r_iload_n S dX11_waysToBalance_24 rfl (lv_at hl 1 rfl) ?_
        refine r_isub S dX11_waysToBalance_25 (fun v2020 z2021 => ?_)
        have r2022 := R_any v2020
        refine r_ki (q_V (As := [.int v2020]) (rest := []) (K := 22) (ci := 8) S X2003 (c_X10_isLevel l G τ hI v2020 r2022) ck11_241 (Nat.le_of_ble_eq_true rfl) rfl (fun _ => ⟨_, rfl⟩) ⟨_, _, rfl⟩ ⟨Nat.le_of_ble_eq_true rfl, Nat.le_of_ble_eq_true rfl⟩ rfl hl.1 rfl (Nat.le_of_ble_eq_true rfl) dX11_waysToBalance_26 ⟨Nat.le_refl 0, Nat.le_refl 0⟩) X2003 (fun v2026 t2025 H lc q2023 X2024 => ?_)
        unfold po_X10_isLevel at q2023
        obtain ⟨q2027, q2028⟩ := q2023
        rw [q2027] at X2024
        refine r_if_eq (tgt := 37) S dX11_waysToBalance_29 (by decide) (fun c2029 => ?_) (fun c2029 => ?_)
        ·
          have r2030 : R (0) (0) v2026 := ⟨by omega, by omega⟩
          refine r_iload S dX11_waysToBalance_37 (lv_at hl 4 rfl) ?_
          refine r_iconst S dX11_waysToBalance_39 (by decide) (fun v2031 z2032 => ?_)
          have r2033 := R_eq z2032
          refine r_iload_n S dX11_waysToBalance_40 rfl (lv_at hl 1 rfl) ?_
          refine r_imul S dX11_waysToBalance_41 (fun v2034 z2035 => ?_)
          obtain ⟨e2036, r2037⟩ := i_mul (lo := 0) (hi := 126) z2035 r2033 h_a0 rfl rfl
          have e2038 : v2034.toInt = 2 * a0.toInt := by rw [e2036, show v2031.toInt = 2 by omega]
          refine r_iload S dX11_waysToBalance_42 (lv_at hl 5 rfl) ?_
          refine r_isub S dX11_waysToBalance_44 (fun v2039 z2040 => ?_)
          obtain ⟨e2041, r2042⟩ := i_sub (lo := -126) (hi := 126) z2040 r2037 r2016 rfl
          refine r_imul S dX11_waysToBalance_45 (fun v2043 z2044 => ?_)
          have r2045 := R_any v2043
          refine r_iload S dX11_waysToBalance_46 (lv_at hl 5 rfl) ?_
          refine r_iconst S dX11_waysToBalance_48 (by decide) (fun v2046 z2047 => ?_)
          have r2048 := R_eq z2047
          refine r_iadd S dX11_waysToBalance_49 (fun v2049 z2050 => ?_)
          obtain ⟨e2051, r2052⟩ := i_add (lo := 1) (hi := 127) z2050 r2016 r2048 rfl
          refine r_idiv S dX11_waysToBalance_50 (by omega) (fun v2053 z2054 => ?_)
          have r2055 := R_any v2053
          refine r_istore (lv' := [(4, .int v2053), (0, .ref (G.2.2.2.1 0)), (1, .int a0), (2, .int a1), (3, .int i1997), (5, .int i2001)]) S dX11_waysToBalance_51 hl (by decide) rfl (fun ls hl => ?_)
          refine r_iinc (k := 5) S dX11_waysToBalance_53 hl rfl (by decide) (by decide) (fun v2056 d2057 ls z2058 z2059 hl => ?_)
          obtain ⟨e2060, r2061⟩ := i_add (lo := 1) (hi := 127) z2058 r2016 (R_eq z2059) rfl
          have hl : lv_has ls 6 [(5, .int v2056), (4, .int v2053), (0, .ref (G.2.2.2.1 0)), (1, .int a0), (2, .int a1), (3, .int i1997)] := hl
          refine r_goto (tgt := 8) S dX11_waysToBalance_56 (by decide) ?_
          exact ih2005 _ _ _ i1997 v2053 v2056 X2024 r1998 r2055 (R_of r2061 rfl) (lv_sub hl [2, 3, 4, 5, 1, 0] rfl) (by omega)
        ·
          have r2062 : R (1) (1) v2026 := ⟨by omega, by omega⟩
          refine r_iload_n S dX11_waysToBalance_32 rfl (lv_at hl 3 rfl) ?_
          refine r_iload S dX11_waysToBalance_33 (lv_at hl 4 rfl) ?_
          refine r_iadd S dX11_waysToBalance_35 (fun v2063 z2064 => ?_)
          have r2065 := R_any v2063
          refine r_istore_n (lv' := [(3, .int v2063), (0, .ref (G.2.2.2.1 0)), (1, .int a0), (2, .int a1), (4, .int i1999), (5, .int i2001)]) S dX11_waysToBalance_36 rfl hl (by decide) rfl (fun ls hl => ?_)
          refine r_iload S dX11_waysToBalance_37 (lv_at hl 4 rfl) ?_
          refine r_iconst S dX11_waysToBalance_39 (by decide) (fun v2066 z2067 => ?_)
          have r2068 := R_eq z2067
          refine r_iload_n S dX11_waysToBalance_40 rfl (lv_at hl 2 rfl) ?_
          refine r_imul S dX11_waysToBalance_41 (fun v2069 z2070 => ?_)
          obtain ⟨e2071, r2072⟩ := i_mul (lo := 0) (hi := 126) z2070 r2068 h_a0 rfl rfl
          have e2073 : v2069.toInt = 2 * a0.toInt := by rw [e2071, show v2066.toInt = 2 by omega]
          refine r_iload S dX11_waysToBalance_42 (lv_at hl 5 rfl) ?_
          refine r_isub S dX11_waysToBalance_44 (fun v2074 z2075 => ?_)
          obtain ⟨e2076, r2077⟩ := i_sub (lo := -126) (hi := 126) z2075 r2072 r2016 rfl
          refine r_imul S dX11_waysToBalance_45 (fun v2078 z2079 => ?_)
          have r2080 := R_any v2078
          refine r_iload S dX11_waysToBalance_46 (lv_at hl 5 rfl) ?_
          refine r_iconst S dX11_waysToBalance_48 (by decide) (fun v2081 z2082 => ?_)
          have r2083 := R_eq z2082
          refine r_iadd S dX11_waysToBalance_49 (fun v2084 z2085 => ?_)
          obtain ⟨e2086, r2087⟩ := i_add (lo := 1) (hi := 127) z2085 r2016 r2083 rfl
          refine r_idiv S dX11_waysToBalance_50 (by omega) (fun v2088 z2089 => ?_)
          have r2090 := R_any v2088
          refine r_istore (lv' := [(4, .int v2088), (3, .int v2063), (0, .ref (G.2.2.2.1 0)), (1, .int a0), (2, .int a1), (5, .int i2001)]) S dX11_waysToBalance_51 hl (by decide) rfl (fun ls hl => ?_)
          refine r_iinc (k := 5) S dX11_waysToBalance_53 hl rfl (by decide) (by decide) (fun v2091 d2092 ls z2093 z2094 hl => ?_)
          obtain ⟨e2095, r2096⟩ := i_add (lo := 1) (hi := 127) z2093 r2016 (R_eq z2094) rfl
          have hl : lv_has ls 6 [(5, .int v2091), (4, .int v2088), (3, .int v2063), (0, .ref (G.2.2.2.1 0)), (1, .int a0), (2, .int a1)] := hl
          refine r_goto (tgt := 8) S dX11_waysToBalance_56 (by decide) ?_
          exact ih2005 _ _ _ v2063 v2088 v2091 X2024 r2065 r2090 (R_of r2096 rfl) (lv_sub hl [3, 4, 5, 2, 1, 0] rfl) (by omega)
  exact L2004 _ _ _ _ v1 v4 v7 X (R_of r3 rfl) (R_of r6 rfl) (R_of r9 rfl) (lv_sub hl [3, 4, 5, 2, 1, 0] rfl) (Nat.lt_succ_self _)
def po_X11_foes (τ : Tau)  (a0 : Int32)   (r : Int32) (u : Tau) : Prop := u = τ
set_option maxHeartbeats 4000000 in
set_option maxRecDepth 100000 in
theorem c_X11_foes (l : Launch) (G : Gx) (τ : Tau) (hI : Inv τ) (a0 : Int32) (h_a0 : R (-2147483648) (2147483647) a0) : Ci l G yX11_foes cX11_foes 5 (some .int) 3 74 [.ref (G.2.2.2.1 0), .int a0] τ (po_X11_foes τ  a0  ) := by
  unfold Ci
  refine C_of (own := RX11) (by decide) rfl (Nat.le_of_ble_eq_true rfl) ?_
  intro p e s m below meth c ls S hr hlk X hl
  have hl : lv_has ls 5 [(0, .ref (G.2.2.2.1 0)), (1, .int a0)] := hl
  refine r_iconst S dX11_foes_0 (by decide) (fun v1 z2 => ?_)
  have r3 := R_eq z2
  refine r_istore_n (lv' := [(2, .int v1), (0, .ref (G.2.2.2.1 0)), (1, .int a0)]) S dX11_foes_1 rfl hl (by decide) rfl (fun ls hl => ?_)
  refine r_iconst S dX11_foes_2 (by decide) (fun v4 z5 => ?_)
  have r6 := R_eq z5
  refine r_istore_n (lv' := [(3, .int v4), (2, .int v1), (0, .ref (G.2.2.2.1 0)), (1, .int a0)]) S dX11_foes_3 rfl hl (by decide) rfl (fun ls hl => ?_)
  have L2620 : ∀ (n : Nat) (H : Heap) (lc : List Loc) (ls : Array Slot) (i2615 : Int32) (i2617 : Int32), Xd G s H lc τ → R (-2147483648) (2147483647) i2615 → R (0) (10) i2617 → lv_has ls 5 [(0, .ref (G.2.2.2.1 0)), (1, .int a0), (2, .int i2615), (3, .int i2617)] → (10 - i2617.toInt).toNat < n → W p l e (Rm 3 74) s m ([.ref (G.2.2.2.1 0), .int a0] : List Value).toArray below meth c H lc 0 0 (MQ below (va_Qi (po_X11_foes τ  a0  ) (Bs G) G.2.2.2.2) ([.ref (G.2.2.2.1 0), .int a0] : List Value).toArray s 0 0 G.2.2.2.2) (F0 m 4 ls []) := by
    intro n
    induction n with
    | zero => intros; omega
    | succ n ih2621 =>
      intro H lc ls i2615 i2617 X2619 r2616 r2618 hl hm
      refine r_iload_n S dX11_foes_4 rfl (lv_at hl 3 rfl) ?_
      refine r_aload_n S dX11_foes_5 rfl (lv_at hl 0 rfl) ?_
      refine r_get (K := 0) (v := .ref (G.2.2.2.1 22)) S X2619 (Nat.le_of_ble_eq_true rfl) rfl lk11_42_9 (fun _ => ⟨_, rfl, rfl⟩) dX11_foes_6 ?_
      refine r_get (K := 22) (v := .ref (G.2.2.2.1 23)) S X2619 (Nat.le_of_ble_eq_true rfl) rfl lk11_139_8 (fun _ => ⟨_, rfl, rfl⟩) dX11_foes_9 ?_
      refine r_getn (K := 4) S X2619 (Nat.le_of_ble_eq_true rfl) rfl lk11_244_2 (fun _ => ⟨_, rfl, rfl⟩) dX11_foes_12 (fun v2622 z2623 => ?_)
      have r2624 : R (0) (10) v2622 := rd hI rfl z2623
      refine r_icmp_ge (tgt := 79) S dX11_foes_15 (by decide) (fun c2625 => ?_) (fun c2625 => ?_)
      ·
        refine r_iload_n S dX11_foes_79 rfl (lv_at hl 1 rfl) ?_
        refine r_iconst S dX11_foes_80 (by decide) (fun v2626 z2627 => ?_)
        have r2628 := R_eq z2627
        refine r_icmp_ne (tgt := 88) S dX11_foes_81 (by decide) (fun c2629 => ?_) (fun c2629 => ?_)
        ·
          refine r_iconst S dX11_foes_88 (by decide) (fun v2630 z2631 => ?_)
          have r2632 := R_eq z2631
          exact r_ret S hr hlk X2619 rfl rfl dX11_foes_89
        ·
          have r2633 : R (-1) (-1) a0 := ⟨by omega, by omega⟩
          refine r_iload_n S dX11_foes_84 rfl (lv_at hl 2 rfl) ?_
          refine r_goto (tgt := 89) S dX11_foes_85 (by decide) ?_
          exact r_ret S hr hlk X2619 rfl rfl dX11_foes_89
      ·
        have r2634 : R (0) (9) i2617 := ⟨by omega, by omega⟩
        have r2635 : R (1) (10) v2622 := ⟨by omega, by omega⟩
        refine r_iload_n S dX11_foes_18 rfl (lv_at hl 3 rfl) ?_
        refine r_iconst S dX11_foes_19 (by decide) (fun v2636 z2637 => ?_)
        have r2638 := R_eq z2637
        refine r_iadd S dX11_foes_20 (fun v2639 z2640 => ?_)
        obtain ⟨e2641, r2642⟩ := i_add (lo := 1) (hi := 10) z2640 r2634 r2638 rfl
        refine r_istore (lv' := [(4, .int v2639), (0, .ref (G.2.2.2.1 0)), (1, .int a0), (2, .int i2615), (3, .int i2617)]) S dX11_foes_21 hl (by decide) rfl (fun ls hl => ?_)
        have L2683 : ∀ (n : Nat) (H : Heap) (lc : List Loc) (ls : Array Slot) (i2678 : Int32) (i2680 : Int32), Xd G s H lc τ → R (-2147483648) (2147483647) i2678 → R (1) (10) i2680 → lv_has ls 5 [(0, .ref (G.2.2.2.1 0)), (1, .int a0), (2, .int i2678), (3, .int i2617), (4, .int i2680)] → (10 - i2680.toInt).toNat < n → W p l e (Rm 3 74) s m ([.ref (G.2.2.2.1 0), .int a0] : List Value).toArray below meth c H lc 0 0 (MQ below (va_Qi (po_X11_foes τ  a0  ) (Bs G) G.2.2.2.2) ([.ref (G.2.2.2.1 0), .int a0] : List Value).toArray s 0 0 G.2.2.2.2) (F0 m 23 ls []) := by
          intro n
          induction n with
          | zero => intros; omega
          | succ n ih2684 =>
            intro H lc ls i2678 i2680 X2682 r2679 r2681 hl hm
            refine r_iload S dX11_foes_23 (lv_at hl 4 rfl) ?_
            refine r_aload_n S dX11_foes_25 rfl (lv_at hl 0 rfl) ?_
            refine r_get (K := 0) (v := .ref (G.2.2.2.1 22)) S X2682 (Nat.le_of_ble_eq_true rfl) rfl lk11_42_9 (fun _ => ⟨_, rfl, rfl⟩) dX11_foes_26 ?_
            refine r_get (K := 22) (v := .ref (G.2.2.2.1 23)) S X2682 (Nat.le_of_ble_eq_true rfl) rfl lk11_139_8 (fun _ => ⟨_, rfl, rfl⟩) dX11_foes_29 ?_
            refine r_geti (K := 4) S X2682 (Nat.le_of_ble_eq_true rfl) rfl lk11_244_2 (fun _ => ⟨_, rfl, rfl⟩) z2623 dX11_foes_32 ?_
            refine r_icmp_ge (tgt := 73) S dX11_foes_35 (by decide) (fun c2685 => ?_) (fun c2685 => ?_)
            ·
              refine r_iinc (k := 3) S dX11_foes_73 hl rfl (by decide) (by decide) (fun v2686 d2687 ls z2688 z2689 hl => ?_)
              obtain ⟨e2690, r2691⟩ := i_add (lo := 1) (hi := 10) z2688 r2634 (R_eq z2689) rfl
              have hl : lv_has ls 5 [(3, .int v2686), (0, .ref (G.2.2.2.1 0)), (1, .int a0), (2, .int i2678), (4, .int i2680)] := hl
              refine r_goto (tgt := 4) S dX11_foes_76 (by decide) ?_
              exact ih2621 _ _ _ i2678 v2686 X2682 r2679 (R_of r2691 rfl) (lv_sub hl [1, 2, 3, 0] rfl) (by omega)
            ·
              have r2692 : R (1) (9) i2680 := ⟨by omega, by omega⟩
              have r2693 : R (2) (10) v2622 := ⟨by omega, by omega⟩
              refine r_aload_n S dX11_foes_38 rfl (lv_at hl 0 rfl) ?_
              refine r_get (K := 0) (v := .ref (G.2.2.2.1 22)) S X2682 (Nat.le_of_ble_eq_true rfl) rfl lk11_42_9 (fun _ => ⟨_, rfl, rfl⟩) dX11_foes_39 ?_
              refine r_iload_n S dX11_foes_42 rfl (lv_at hl 3 rfl) ?_
              refine r_iload S dX11_foes_43 (lv_at hl 4 rfl) ?_
              refine r_ki (q_V (As := [.int i2617, .int i2680]) (rest := []) (K := 22) (ci := 8) S X2682 (c_X10_areFoes l G τ hI i2617 i2680 r2634 (R_of (lo := 0) (hi := 9) r2692 rfl)) ck11_263 (Nat.le_of_ble_eq_true rfl) rfl (fun _ => ⟨_, rfl⟩) ⟨_, _, rfl⟩ ⟨Nat.le_of_ble_eq_true rfl, Nat.le_of_ble_eq_true rfl⟩ rfl hl.1 rfl (Nat.le_of_ble_eq_true rfl) dX11_foes_45 ⟨Nat.le_refl 0, Nat.le_refl 0⟩) X2682 (fun v2697 t2696 H lc q2694 X2695 => ?_)
              unfold po_X10_areFoes at q2694
              obtain ⟨q2698, q2699⟩ := q2694
              rw [q2698] at X2695
              refine r_if_eq (tgt := 67) S dX11_foes_48 (by decide) (fun c2700 => ?_) (fun c2700 => ?_)
              ·
                have r2701 : R (0) (0) v2697 := ⟨by omega, by omega⟩
                refine r_iinc (k := 4) S dX11_foes_67 hl rfl (by decide) (by decide) (fun v2702 d2703 ls z2704 z2705 hl => ?_)
                obtain ⟨e2706, r2707⟩ := i_add (lo := 2) (hi := 10) z2704 r2692 (R_eq z2705) rfl
                have hl : lv_has ls 5 [(4, .int v2702), (0, .ref (G.2.2.2.1 0)), (1, .int a0), (2, .int i2678), (3, .int i2617)] := hl
                refine r_goto (tgt := 23) S dX11_foes_70 (by decide) ?_
                exact ih2684 _ _ _ i2678 v2702 X2695 r2679 (R_of r2707 rfl) (lv_sub hl [1, 2, 3, 4, 0] rfl) (by omega)
              ·
                have r2708 : R (1) (1) v2697 := ⟨by omega, by omega⟩
                refine r_iload_n S dX11_foes_51 rfl (lv_at hl 2 rfl) ?_
                refine r_iload_n S dX11_foes_52 rfl (lv_at hl 1 rfl) ?_
                refine r_icmp_ne (tgt := 64) S dX11_foes_53 (by decide) (fun c2709 => ?_) (fun c2709 => ?_)
                ·
                  refine r_iinc (k := 2) S dX11_foes_64 hl rfl (by decide) (by decide) (fun v2710 d2711 ls z2712 z2713 hl => ?_)
                  have r2714 := R_any v2710
                  have hl : lv_has ls 5 [(2, .int v2710), (0, .ref (G.2.2.2.1 0)), (1, .int a0), (3, .int i2617), (4, .int i2680)] := hl
                  refine r_iinc (k := 4) S dX11_foes_67 hl rfl (by decide) (by decide) (fun v2715 d2716 ls z2717 z2718 hl => ?_)
                  obtain ⟨e2719, r2720⟩ := i_add (lo := 2) (hi := 10) z2717 r2692 (R_eq z2718) rfl
                  have hl : lv_has ls 5 [(4, .int v2715), (2, .int v2710), (0, .ref (G.2.2.2.1 0)), (1, .int a0), (3, .int i2617)] := hl
                  refine r_goto (tgt := 23) S dX11_foes_70 (by decide) ?_
                  exact ih2684 _ _ _ v2710 v2715 X2695 r2714 (R_of r2720 rfl) (lv_sub hl [2, 3, 1, 4, 0] rfl) (by omega)
                ·
                  refine r_bipush S dX11_foes_56 (by decide) (fun v2721 z2722 => ?_)
                  have r2723 := R_eq z2722
                  refine r_iload_n S dX11_foes_58 rfl (lv_at hl 3 rfl) ?_
                  refine r_imul S dX11_foes_59 (fun v2724 z2725 => ?_)
                  obtain ⟨e2726, r2727⟩ := i_mul (lo := 0) (hi := 90) z2725 r2723 r2634 rfl rfl
                  have e2728 : v2724.toInt = 10 * i2617.toInt := by rw [e2726, show v2721.toInt = 10 by omega]
                  refine r_iload S dX11_foes_60 (lv_at hl 4 rfl) ?_
                  refine r_iadd S dX11_foes_62 (fun v2729 z2730 => ?_)
                  obtain ⟨e2731, r2732⟩ := i_add (lo := 1) (hi := 99) z2730 r2727 r2692 rfl
                  exact r_ret S hr hlk X2695 rfl rfl dX11_foes_63
        exact L2683 _ _ _ _ i2615 v2639 X2619 r2616 r2642 (lv_sub hl [1, 2, 3, 4, 0] rfl) (Nat.lt_succ_self _)
  exact L2620 _ _ _ _ v1 v4 X (R_of r3 rfl) (R_of r6 rfl) (lv_sub hl [2, 3, 1, 0] rfl) (Nat.lt_succ_self _)
def po_X11_logged (τ : Tau)  (a0 : Int32)   (r : Int32) (u : Tau) : Prop := u = τ
set_option maxHeartbeats 4000000 in
set_option maxRecDepth 100000 in
theorem c_X11_logged (l : Launch) (G : Gx) (τ : Tau) (hI : Inv τ) (a0 : Int32) (h_a0 : R (-2147483648) (2147483647) a0) : Ci l G yX11_logged cX11_logged 2 (some .int) 0 0 [.ref (G.2.2.2.1 0), .int a0] τ (po_X11_logged τ  a0  ) := by
  unfold Ci
  refine C_of (own := RX11) (by decide) rfl (Nat.le_of_ble_eq_true rfl) ?_
  intro p e s m below meth c ls S hr hlk X hl
  have hl : lv_has ls 2 [(0, .ref (G.2.2.2.1 0)), (1, .int a0)] := hl
  refine r_iload_n S dX11_logged_0 rfl (lv_at hl 1 rfl) ?_
  refine r_if_lt (tgt := 13) S dX11_logged_1 (by decide) (fun c1 => ?_) (fun c1 => ?_)
  ·
    have r2 : R (-2147483648) (-1) a0 := ⟨by omega, by omega⟩
    refine r_iconst S dX11_logged_13 (by decide) (fun v3 z4 => ?_)
    have r5 := R_eq z4
    refine r_goto (tgt := 23) S dX11_logged_14 (by decide) ?_
    exact r_ret S hr hlk X rfl rfl dX11_logged_23
  ·
    have r6 : R (0) (2147483647) a0 := ⟨by omega, by omega⟩
    refine r_iload_n S dX11_logged_4 rfl (lv_at hl 1 rfl) ?_
    refine r_aload_n S dX11_logged_5 rfl (lv_at hl 0 rfl) ?_
    refine r_get (K := 0) (v := .ref (G.2.2.2.1 130)) S X (Nat.le_of_ble_eq_true rfl) rfl lk11_85_9 (fun _ => ⟨_, rfl, rfl⟩) dX11_logged_6 ?_
    refine r_alen (x := (0, .inl fun _ => 0)) (n := 4) (K := 37) (t0 := 0) S X (Nat.le_of_ble_eq_true rfl) rfl (fun _ => ⟨_, rfl⟩) rfl (by decide) dX11_logged_9 (fun v7 z8 => ?_)
    have r9 := R_eq z8
    refine r_icmp_lt (tgt := 17) S dX11_logged_10 (by decide) (fun c10 => ?_) (fun c10 => ?_)
    ·
      have r11 : R (0) (3) a0 := ⟨by omega, by omega⟩
      refine r_aload_n S dX11_logged_17 rfl (lv_at hl 0 rfl) ?_
      refine r_get (K := 0) (v := .ref (G.2.2.2.1 130)) S X (Nat.le_of_ble_eq_true rfl) rfl lk11_85_9 (fun _ => ⟨_, rfl, rfl⟩) dX11_logged_18 ?_
      refine r_iload_n S dX11_logged_21 rfl (lv_at hl 1 rfl) ?_
      refine r_aldn (n := 4) (K := 37) S X (Nat.le_of_ble_eq_true rfl) rfl (fun _ => rfl) (ix_of r11 rfl) dX11_logged_22 (fun v12 z13 => ?_)
      have r15 := R_any v12
      exact r_ret S hr hlk X rfl rfl dX11_logged_23
    ·
      have r16 : R (4) (2147483647) a0 := ⟨by omega, by omega⟩
      refine r_iconst S dX11_logged_13 (by decide) (fun v17 z18 => ?_)
      have r19 := R_eq z18
      refine r_goto (tgt := 23) S dX11_logged_14 (by decide) ?_
      exact r_ret S hr hlk X rfl rfl dX11_logged_23
def po_X11_count (τ : Tau)  (a0 : Int32)   (r : Int32) (u : Tau) : Prop := u = τ
set_option maxHeartbeats 4000000 in
set_option maxRecDepth 100000 in
theorem c_X11_count (l : Launch) (G : Gx) (τ : Tau) (hI : Inv τ) (a0 : Int32) (h_a0 : R (-2147483648) (2147483647) a0) : Ci l G yX11_count cX11_count 2 (some .int) 0 0 [.ref (G.2.2.2.1 0), .int a0] τ (po_X11_count τ  a0  ) := by
  unfold Ci
  refine C_of (own := RX11) (by decide) rfl (Nat.le_of_ble_eq_true rfl) ?_
  intro p e s m below meth c ls S hr hlk X hl
  have hl : lv_has ls 2 [(0, .ref (G.2.2.2.1 0)), (1, .int a0)] := hl
  refine r_iload_n S dX11_count_0 rfl (lv_at hl 1 rfl) ?_
  rcases (show (a0.toInt < 0 ∨ 5 < a0.toInt) ∨ a0.toInt = 0 ∨ a0.toInt = 1 ∨ a0.toInt = 2 ∨ a0.toInt = 3 ∨ a0.toInt = 4 ∨ a0.toInt = 5 by omega) with c1 | c1 | c1 | c1 | c1 | c1 | c1
  ·
    refine lv_tableOut (tgt := 103) S.1.1 S.1.2.1 dX11_count_1 c1 (by decide) ?_
    refine r_iconst S dX11_count_103 (by decide) (fun v2 z3 => ?_)
    have r4 := R_eq z3
    exact r_ret S hr hlk X rfl rfl dX11_count_104
  ·
    refine lv_tableIn (tgt := 40) S.1.1 S.1.2.1 dX11_count_1 (by omega) (by omega) (by rw [c1]; rfl) (by decide) ?_
    have r5 : R (0) (0) a0 := ⟨by omega, by omega⟩
    refine r_aload_n S dX11_count_40 rfl (lv_at hl 0 rfl) ?_
    refine r_get (K := 0) (v := .ref (G.2.2.2.1 22)) S X (Nat.le_of_ble_eq_true rfl) rfl lk11_42_9 (fun _ => ⟨_, rfl, rfl⟩) dX11_count_41 ?_
    refine r_get (K := 22) (v := .ref (G.2.2.2.1 23)) S X (Nat.le_of_ble_eq_true rfl) rfl lk11_139_8 (fun _ => ⟨_, rfl, rfl⟩) dX11_count_44 ?_
    refine r_getn (K := 4) S X (Nat.le_of_ble_eq_true rfl) rfl lk11_235_2 (fun _ => ⟨_, rfl, rfl⟩) dX11_count_47 (fun v6 z7 => ?_)
    have r8 : R (0) (9) v6 := rd hI rfl z7
    exact r_ret S hr hlk X rfl rfl dX11_count_50
  ·
    refine lv_tableIn (tgt := 51) S.1.1 S.1.2.1 dX11_count_1 (by omega) (by omega) (by rw [c1]; rfl) (by decide) ?_
    have r9 : R (1) (1) a0 := ⟨by omega, by omega⟩
    refine r_aload_n S dX11_count_51 rfl (lv_at hl 0 rfl) ?_
    refine r_get (K := 0) (v := .ref (G.2.2.2.1 22)) S X (Nat.le_of_ble_eq_true rfl) rfl lk11_42_9 (fun _ => ⟨_, rfl, rfl⟩) dX11_count_52 ?_
    refine r_get (K := 22) (v := .ref (G.2.2.2.1 23)) S X (Nat.le_of_ble_eq_true rfl) rfl lk11_139_8 (fun _ => ⟨_, rfl, rfl⟩) dX11_count_55 ?_
    refine r_getn (K := 4) S X (Nat.le_of_ble_eq_true rfl) rfl lk11_244_2 (fun _ => ⟨_, rfl, rfl⟩) dX11_count_58 (fun v10 z11 => ?_)
    have r12 : R (0) (10) v10 := rd hI rfl z11
    exact r_ret S hr hlk X rfl rfl dX11_count_61
  ·
    refine lv_tableIn (tgt := 62) S.1.1 S.1.2.1 dX11_count_1 (by omega) (by omega) (by rw [c1]; rfl) (by decide) ?_
    have r13 : R (2) (2) a0 := ⟨by omega, by omega⟩
    refine r_aload_n S dX11_count_62 rfl (lv_at hl 0 rfl) ?_
    refine r_get (K := 0) (v := .ref (G.2.2.2.1 22)) S X (Nat.le_of_ble_eq_true rfl) rfl lk11_42_9 (fun _ => ⟨_, rfl, rfl⟩) dX11_count_63 ?_
    refine r_get (K := 22) (v := .ref (G.2.2.2.1 23)) S X (Nat.le_of_ble_eq_true rfl) rfl lk11_139_8 (fun _ => ⟨_, rfl, rfl⟩) dX11_count_66 ?_
    refine r_getn (K := 4) S X (Nat.le_of_ble_eq_true rfl) rfl lk11_307_2 (fun _ => ⟨_, rfl, rfl⟩) dX11_count_69 (fun v14 z15 => ?_)
    have r16 : R (0) (8) v14 := rd hI rfl z15
    exact r_ret S hr hlk X rfl rfl dX11_count_72
  ·
    refine lv_tableIn (tgt := 73) S.1.1 S.1.2.1 dX11_count_1 (by omega) (by omega) (by rw [c1]; rfl) (by decide) ?_
    have r17 : R (3) (3) a0 := ⟨by omega, by omega⟩
    refine r_aload_n S dX11_count_73 rfl (lv_at hl 0 rfl) ?_
    refine r_get (K := 0) (v := .ref (G.2.2.2.1 22)) S X (Nat.le_of_ble_eq_true rfl) rfl lk11_42_9 (fun _ => ⟨_, rfl, rfl⟩) dX11_count_74 ?_
    refine r_get (K := 22) (v := .ref (G.2.2.2.1 23)) S X (Nat.le_of_ble_eq_true rfl) rfl lk11_139_8 (fun _ => ⟨_, rfl, rfl⟩) dX11_count_77 ?_
    refine r_getn (K := 4) S X (Nat.le_of_ble_eq_true rfl) rfl lk11_310_2 (fun _ => ⟨_, rfl, rfl⟩) dX11_count_80 (fun v18 z19 => ?_)
    have r20 : R (0) (9) v18 := rd hI rfl z19
    exact r_ret S hr hlk X rfl rfl dX11_count_83
  ·
    refine lv_tableIn (tgt := 84) S.1.1 S.1.2.1 dX11_count_1 (by omega) (by omega) (by rw [c1]; rfl) (by decide) ?_
    have r21 : R (4) (4) a0 := ⟨by omega, by omega⟩
    refine r_aload_n S dX11_count_84 rfl (lv_at hl 0 rfl) ?_
    refine r_get (K := 0) (v := .ref (G.2.2.2.1 22)) S X (Nat.le_of_ble_eq_true rfl) rfl lk11_42_9 (fun _ => ⟨_, rfl, rfl⟩) dX11_count_85 ?_
    refine r_get (K := 22) (v := .ref (G.2.2.2.1 23)) S X (Nat.le_of_ble_eq_true rfl) rfl lk11_139_8 (fun _ => ⟨_, rfl, rfl⟩) dX11_count_88 ?_
    refine r_getn (K := 4) S X (Nat.le_of_ble_eq_true rfl) rfl lk11_313_2 (fun _ => ⟨_, rfl, rfl⟩) dX11_count_91 (fun v22 z23 => ?_)
    have r25 := R_any v22
    exact r_ret S hr hlk X rfl rfl dX11_count_94
  ·
    refine lv_tableIn (tgt := 95) S.1.1 S.1.2.1 dX11_count_1 (by omega) (by omega) (by rw [c1]; rfl) (by decide) ?_
    have r26 : R (5) (5) a0 := ⟨by omega, by omega⟩
    refine r_aload_n S dX11_count_95 rfl (lv_at hl 0 rfl) ?_
    refine r_get (K := 0) (v := .ref (G.2.2.2.1 1)) S X (Nat.le_of_ble_eq_true rfl) rfl lk11_12_9 (fun _ => ⟨_, rfl, rfl⟩) dX11_count_96 ?_
    refine r_getn (K := 1) S X (Nat.le_of_ble_eq_true rfl) rfl lk11_88_7 (fun _ => ⟨_, rfl, rfl⟩) dX11_count_99 (fun v27 z28 => ?_)
    have r29 : R (0) (940) v27 := rd hI rfl z28
    exact r_ret S hr hlk X rfl rfl dX11_count_102
