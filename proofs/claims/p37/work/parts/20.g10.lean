def po_X12_isMan (τ : Tau)  (a0 : Int32)   (r : Int32) (u : Tau) : Prop := u = τ ∧ R (0) (1) r ∧ (r.toInt = 1 → R (0) (9) a0 ∧ R (1) (10) (u 133 1))
set_option maxHeartbeats 4000000 in
set_option maxRecDepth 100000 in
theorem c_X12_isMan (l : Launch) (G : Gx) (τ : Tau) (hI : Inv τ) (a0 : Int32) (h_a0 : R (-2147483648) (2147483647) a0) : Ci l G yX12_isMan cX12_isMan 2 (some .boolean) 1 22 [.ref (G.2.2.2.1 131), .int a0] τ (po_X12_isMan τ  a0  ) := by
  unfold Ci
  refine C_of (own := RX12) (by decide) rfl (Nat.le_of_ble_eq_true rfl) ?_
  intro p e s m below meth c ls S hr hlk X hl
  have hl : lv_has ls 2 [(0, .ref (G.2.2.2.1 131)), (1, .int a0)] := hl
  refine r_iload_n S dX12_isMan_0 rfl (lv_at hl 1 rfl) ?_
  refine r_iconst S dX12_isMan_1 (by decide) (fun v1 z2 => ?_)
  have r3 := R_eq z2
  refine r_aload_n S dX12_isMan_2 rfl (lv_at hl 0 rfl) ?_
  refine r_get (K := 38) (v := .ref (G.2.2.2.1 133)) S X (Nat.le_of_ble_eq_true rfl) rfl lk12_33_10 (fun _ => ⟨_, rfl, rfl⟩) dX12_isMan_3 ?_
  refine r_iconst S dX12_isMan_6 (by decide) (fun v4 z5 => ?_)
  have r6 := R_eq z5
  refine r_aldn (n := 513) (K := 40) S X (Nat.le_of_ble_eq_true rfl) rfl (fun _ => rfl) (ix_of r6 rfl) dX12_isMan_7 (fun v7 z8 => ?_)
  have r9 : R (0) (10) v7 := rds (K := 40) (a := 1) (n := 1) hI rfl z8 (R_of r6 rfl) (by decide +kernel)
  refine r_iconst S dX12_isMan_8 (by decide) (fun v10 z11 => ?_)
  have r12 := R_eq z11
  refine r_isub S dX12_isMan_9 (fun v13 z14 => ?_)
  obtain ⟨e15, r16⟩ := i_sub (lo := -1) (hi := 9) z14 r9 r12 rfl
  refine r_ki (q_S (As := [.int a0, .int v1, .int v13]) (rest := []) S X (c_X12_isIn l G τ hI a0 v1 v13 h_a0 (R_of (lo := -2147483648) (hi := 2147483647) r3 rfl) (R_of (lo := -2147483648) (hi := 2147483647) r16 rfl)) ck12_189 ⟨Nat.le_of_ble_eq_true rfl, Nat.le_of_ble_eq_true rfl⟩ rfl hl.1 rfl (Nat.le_of_ble_eq_true rfl) dX12_isMan_10 ⟨Nat.le_refl 0, Nat.le_refl 0⟩) X (fun v20 t19 H lc q17 X18 => ?_)
  unfold po_X12_isIn at q17
  obtain ⟨q21, q22, q23⟩ := q17
  rw [q21] at X18
  exact r_ret S hr hlk X18 ⟨rfl, q22, (fun h => by have q := q23 h; exact ⟨⟨by omega, by omega⟩, (by rw [(zc (n := 1) (by omega) z8)]; exact ⟨by omega, by omega⟩)⟩)⟩ (nr_bool (R_of (lo := 0) (hi := 1) q22 rfl)) dX12_isMan_13
def po_X12_isAsk (τ : Tau)  (a0 : Int32)   (r : Int32) (u : Tau) : Prop := u = τ ∧ R (0) (1) r ∧ (r.toInt = 1 → R (0) (8) a0)
set_option maxHeartbeats 4000000 in
set_option maxRecDepth 100000 in
theorem c_X12_isAsk (l : Launch) (G : Gx) (τ : Tau) (hI : Inv τ) (a0 : Int32) (h_a0 : R (-2147483648) (2147483647) a0) : Ci l G yX12_isAsk cX12_isAsk 2 (some .boolean) 1 22 [.ref (G.2.2.2.1 131), .int a0] τ (po_X12_isAsk τ  a0  ) := by
  unfold Ci
  refine C_of (own := RX12) (by decide) rfl (Nat.le_of_ble_eq_true rfl) ?_
  intro p e s m below meth c ls S hr hlk X hl
  have hl : lv_has ls 2 [(0, .ref (G.2.2.2.1 131)), (1, .int a0)] := hl
  refine r_iload_n S dX12_isAsk_0 rfl (lv_at hl 1 rfl) ?_
  refine r_iconst S dX12_isAsk_1 (by decide) (fun v1 z2 => ?_)
  have r3 := R_eq z2
  refine r_aload_n S dX12_isAsk_2 rfl (lv_at hl 0 rfl) ?_
  refine r_get (K := 38) (v := .ref (G.2.2.2.1 133)) S X (Nat.le_of_ble_eq_true rfl) rfl lk12_33_10 (fun _ => ⟨_, rfl, rfl⟩) dX12_isAsk_3 ?_
  refine r_iconst S dX12_isAsk_6 (by decide) (fun v4 z5 => ?_)
  have r6 := R_eq z5
  refine r_aldn (n := 513) (K := 40) S X (Nat.le_of_ble_eq_true rfl) rfl (fun _ => rfl) (ix_of r6 rfl) dX12_isAsk_7 (fun v7 z8 => ?_)
  have r9 : R (0) (9) v7 := rds (K := 40) (a := 0) (n := 1) hI rfl z8 (R_of r6 rfl) (by decide +kernel)
  refine r_iconst S dX12_isAsk_8 (by decide) (fun v10 z11 => ?_)
  have r12 := R_eq z11
  refine r_isub S dX12_isAsk_9 (fun v13 z14 => ?_)
  obtain ⟨e15, r16⟩ := i_sub (lo := -1) (hi := 8) z14 r9 r12 rfl
  refine r_ki (q_S (As := [.int a0, .int v1, .int v13]) (rest := []) S X (c_X12_isIn l G τ hI a0 v1 v13 h_a0 (R_of (lo := -2147483648) (hi := 2147483647) r3 rfl) (R_of (lo := -2147483648) (hi := 2147483647) r16 rfl)) ck12_189 ⟨Nat.le_of_ble_eq_true rfl, Nat.le_of_ble_eq_true rfl⟩ rfl hl.1 rfl (Nat.le_of_ble_eq_true rfl) dX12_isAsk_10 ⟨Nat.le_refl 0, Nat.le_refl 0⟩) X (fun v20 t19 H lc q17 X18 => ?_)
  unfold po_X12_isIn at q17
  obtain ⟨q21, q22, q23⟩ := q17
  rw [q21] at X18
  exact r_ret S hr hlk X18 ⟨rfl, q22, (fun h => by have q := q23 h; exact ⟨by omega, by omega⟩)⟩ (nr_bool (R_of (lo := 0) (hi := 1) q22 rfl)) dX12_isAsk_13
def po_X12_isSet (τ : Tau)  (a0 : Int32)   (r : Int32) (u : Tau) : Prop := u = τ ∧ R (0) (1) r ∧ (r.toInt = 1 → R (0) (1023) a0)
set_option maxHeartbeats 4000000 in
set_option maxRecDepth 100000 in
theorem c_X12_isSet (l : Launch) (G : Gx) (τ : Tau) (hI : Inv τ) (a0 : Int32) (h_a0 : R (-2147483648) (2147483647) a0) : Ci l G yX12_isSet cX12_isSet 2 (some .boolean) 0 0 [.ref (G.2.2.2.1 131), .int a0] τ (po_X12_isSet τ  a0  ) := by
  unfold Ci
  refine C_of (own := RX12) (by decide) rfl (Nat.le_of_ble_eq_true rfl) ?_
  intro p e s m below meth c ls S hr hlk X hl
  have hl : lv_has ls 2 [(0, .ref (G.2.2.2.1 131)), (1, .int a0)] := hl
  refine r_iload_n S dX12_isSet_0 rfl (lv_at hl 1 rfl) ?_
  refine r_if_lt (tgt := 20) S dX12_isSet_1 (by decide) (fun c1 => ?_) (fun c1 => ?_)
  ·
    have r2 : R (-2147483648) (-1) a0 := ⟨by omega, by omega⟩
    refine r_iconst S dX12_isSet_20 (by decide) (fun v3 z4 => ?_)
    have r5 := R_eq z4
    exact r_ret S hr hlk X ⟨rfl, (R_of r5 rfl), (fun h => by exfalso; omega)⟩ (nr_bool (R_of (lo := 0) (hi := 1) r5 rfl)) dX12_isSet_21
  ·
    have r6 : R (0) (2147483647) a0 := ⟨by omega, by omega⟩
    refine r_iload_n S dX12_isSet_4 rfl (lv_at hl 1 rfl) ?_
    refine r_iconst S dX12_isSet_5 (by decide) (fun v7 z8 => ?_)
    have r9 := R_eq z8
    refine r_aload_n S dX12_isSet_6 rfl (lv_at hl 0 rfl) ?_
    refine r_get (K := 38) (v := .ref (G.2.2.2.1 133)) S X (Nat.le_of_ble_eq_true rfl) rfl lk12_33_10 (fun _ => ⟨_, rfl, rfl⟩) dX12_isSet_7 ?_
    refine r_iconst S dX12_isSet_10 (by decide) (fun v10 z11 => ?_)
    have r12 := R_eq z11
    refine r_aldn (n := 513) (K := 40) S X (Nat.le_of_ble_eq_true rfl) rfl (fun _ => rfl) (ix_of r12 rfl) dX12_isSet_11 (fun v13 z14 => ?_)
    have r15 : R (0) (10) v13 := rds (K := 40) (a := 1) (n := 1) hI rfl z14 (R_of r12 rfl) (by decide +kernel)
    refine r_ishl S dX12_isSet_12 (fun v16 z17 => ?_)
    have r19 : R (1) (1024) v16 := i_shl z17 r9 r15 rfl
    refine r_icmp_ge (tgt := 20) S dX12_isSet_13 (by decide) (fun c20 => ?_) (fun c20 => ?_)
    ·
      have r21 : R (1) (2147483647) a0 := ⟨by omega, by omega⟩
      refine r_iconst S dX12_isSet_20 (by decide) (fun v22 z23 => ?_)
      have r24 := R_eq z23
      exact r_ret S hr hlk X ⟨rfl, (R_of r24 rfl), (fun h => by exfalso; omega)⟩ (nr_bool (R_of (lo := 0) (hi := 1) r24 rfl)) dX12_isSet_21
    ·
      have r25 : R (0) (1023) a0 := ⟨by omega, by omega⟩
      refine r_iconst S dX12_isSet_16 (by decide) (fun v26 z27 => ?_)
      have r28 := R_eq z27
      refine r_goto (tgt := 21) S dX12_isSet_17 (by decide) ?_
      exact r_ret S hr hlk X ⟨rfl, (R_of r28 rfl), (fun h => ⟨by omega, by omega⟩)⟩ (nr_bool (R_of (lo := 0) (hi := 1) r28 rfl)) dX12_isSet_21
def po_X12_bankOf (τ : Tau)  (a0 : Int32)   (r : Int32) (u : Tau) : Prop := u = τ ∧ R (0) (1) r
set_option maxHeartbeats 4000000 in
set_option maxRecDepth 100000 in
theorem c_X12_bankOf (l : Launch) (G : Gx) (τ : Tau) (hI : Inv τ) (a0 : Int32) (h_a0 : R (-2147483648) (2147483647) a0) : Ci l G yX12_bankOf cX12_bankOf 2 (some .int) 0 0 [.ref (G.2.2.2.1 131), .int a0] τ (po_X12_bankOf τ  a0  ) := by
  unfold Ci
  refine C_of (own := RX12) (by decide) rfl (Nat.le_of_ble_eq_true rfl) ?_
  intro p e s m below meth c ls S hr hlk X hl
  have hl : lv_has ls 2 [(0, .ref (G.2.2.2.1 131)), (1, .int a0)] := hl
  refine r_aload_n S dX12_bankOf_0 rfl (lv_at hl 0 rfl) ?_
  refine r_get (K := 38) (v := .ref (G.2.2.2.1 133)) S X (Nat.le_of_ble_eq_true rfl) rfl lk12_33_10 (fun _ => ⟨_, rfl, rfl⟩) dX12_bankOf_1 ?_
  refine r_sipush S dX12_bankOf_4 (by decide) (fun v1 z2 => ?_)
  have r3 := R_eq z2
  refine r_aldn (n := 513) (K := 40) S X (Nat.le_of_ble_eq_true rfl) rfl (fun _ => rfl) (ix_of r3 rfl) dX12_bankOf_7 (fun v4 z5 => ?_)
  have r6 : R (0) (1023) v4 := rds (K := 40) (a := 129) (n := 1) hI rfl z5 (R_of r3 rfl) (by decide +kernel)
  refine r_iload_n S dX12_bankOf_8 rfl (lv_at hl 1 rfl) ?_
  refine r_ishr S dX12_bankOf_9 (fun v7 z8 => ?_)
  have r9 := R_any v7
  refine r_iconst S dX12_bankOf_10 (by decide) (fun v10 z11 => ?_)
  have r12 := R_eq z11
  refine r_iand S dX12_bankOf_11 (fun v13 z14 => ?_)
  have r16 : R (0) (1) v13 := i_and2 z14 r9 r12 rfl
  exact r_ret S hr hlk X ⟨rfl, r16⟩ rfl dX12_bankOf_12
def po_X12_ashore (τ : Tau)     (r : Int32) (u : Tau) : Prop := u = τ ∧ R (0) (1023) r
set_option maxHeartbeats 4000000 in
set_option maxRecDepth 100000 in
theorem c_X12_ashore (l : Launch) (G : Gx) (τ : Tau) (hI : Inv τ) : Ci l G yX12_ashore cX12_ashore 1 (some .int) 0 0 [.ref (G.2.2.2.1 131)] τ (po_X12_ashore τ    ) := by
  unfold Ci
  refine C_of (own := RX12) (by decide) rfl (Nat.le_of_ble_eq_true rfl) ?_
  intro p e s m below meth c ls S hr hlk X hl
  have hl : lv_has ls 1 [(0, .ref (G.2.2.2.1 131))] := hl
  refine r_aload_n S dX12_ashore_0 rfl (lv_at hl 0 rfl) ?_
  refine r_get (K := 38) (v := .ref (G.2.2.2.1 133)) S X (Nat.le_of_ble_eq_true rfl) rfl lk12_33_10 (fun _ => ⟨_, rfl, rfl⟩) dX12_ashore_1 ?_
  refine r_bipush S dX12_ashore_4 (by decide) (fun v1 z2 => ?_)
  have r3 := R_eq z2
  refine r_aldn (n := 513) (K := 40) S X (Nat.le_of_ble_eq_true rfl) rfl (fun _ => rfl) (ix_of r3 rfl) dX12_ashore_6 (fun v4 z5 => ?_)
  have r6 : R (0) (1) v4 := rds (K := 40) (a := 125) (n := 1) hI rfl z5 (R_of r3 rfl) (by decide +kernel)
  refine r_iconst S dX12_ashore_7 (by decide) (fun v7 z8 => ?_)
  have r9 := R_eq z8
  refine r_icmp_ne (tgt := 22) S dX12_ashore_8 (by decide) (fun c10 => ?_) (fun c10 => ?_)
  ·
    have r11 : R (0) (0) v4 := ⟨by omega, by omega⟩
    refine r_iconst S dX12_ashore_22 (by decide) (fun v12 z13 => ?_)
    have r14 := R_eq z13
    refine r_aload_n S dX12_ashore_23 rfl (lv_at hl 0 rfl) ?_
    refine r_get (K := 38) (v := .ref (G.2.2.2.1 133)) S X (Nat.le_of_ble_eq_true rfl) rfl lk12_33_10 (fun _ => ⟨_, rfl, rfl⟩) dX12_ashore_24 ?_
    refine r_iconst S dX12_ashore_27 (by decide) (fun v15 z16 => ?_)
    have r17 := R_eq z16
    refine r_aldn (n := 513) (K := 40) S X (Nat.le_of_ble_eq_true rfl) rfl (fun _ => rfl) (ix_of r17 rfl) dX12_ashore_28 (fun v18 z19 => ?_)
    have r20 : R (0) (10) v18 := rds (K := 40) (a := 1) (n := 1) hI rfl z19 (R_of r17 rfl) (by decide +kernel)
    refine r_ishl S dX12_ashore_29 (fun v21 z22 => ?_)
    have r24 : R (1) (1024) v21 := i_shl z22 r14 r20 rfl
    refine r_iconst S dX12_ashore_30 (by decide) (fun v25 z26 => ?_)
    have r27 := R_eq z26
    refine r_isub S dX12_ashore_31 (fun v28 z29 => ?_)
    obtain ⟨e30, r31⟩ := i_sub (lo := 0) (hi := 1023) z29 r24 r27 rfl
    refine r_aload_n S dX12_ashore_32 rfl (lv_at hl 0 rfl) ?_
    refine r_get (K := 38) (v := .ref (G.2.2.2.1 133)) S X (Nat.le_of_ble_eq_true rfl) rfl lk12_33_10 (fun _ => ⟨_, rfl, rfl⟩) dX12_ashore_33 ?_
    refine r_sipush S dX12_ashore_36 (by decide) (fun v32 z33 => ?_)
    have r34 := R_eq z33
    refine r_aldn (n := 513) (K := 40) S X (Nat.le_of_ble_eq_true rfl) rfl (fun _ => rfl) (ix_of r34 rfl) dX12_ashore_39 (fun v35 z36 => ?_)
    have r37 : R (0) (1023) v35 := rds (K := 40) (a := 129) (n := 1) hI rfl z36 (R_of r34 rfl) (by decide +kernel)
    refine r_iconst S dX12_ashore_40 (by decide) (fun v38 z39 => ?_)
    have r40 := R_eq z39
    refine r_ixor S dX12_ashore_41 (fun v41 z42 => ?_)
    have r43 := R_any v41
    refine r_iand S dX12_ashore_42 (fun v44 z45 => ?_)
    have r47 : R (0) (1023) v44 := i_and1 z45 r31 r43 rfl
    have e48 := i_andle z45 r31 rfl
    exact r_ret S hr hlk X ⟨rfl, r47⟩ rfl dX12_ashore_43
  ·
    have r49 : R (1) (1) v4 := ⟨by omega, by omega⟩
    refine r_aload_n S dX12_ashore_11 rfl (lv_at hl 0 rfl) ?_
    refine r_get (K := 38) (v := .ref (G.2.2.2.1 133)) S X (Nat.le_of_ble_eq_true rfl) rfl lk12_33_10 (fun _ => ⟨_, rfl, rfl⟩) dX12_ashore_12 ?_
    refine r_sipush S dX12_ashore_15 (by decide) (fun v50 z51 => ?_)
    have r52 := R_eq z51
    refine r_aldn (n := 513) (K := 40) S X (Nat.le_of_ble_eq_true rfl) rfl (fun _ => rfl) (ix_of r52 rfl) dX12_ashore_18 (fun v53 z54 => ?_)
    have r55 : R (0) (1023) v53 := rds (K := 40) (a := 129) (n := 1) hI rfl z54 (R_of r52 rfl) (by decide +kernel)
    refine r_goto (tgt := 43) S dX12_ashore_19 (by decide) ?_
    exact r_ret S hr hlk X ⟨rfl, r55⟩ rfl dX12_ashore_43
def po_X12_byHimself (τ : Tau)  (a0 a1 : Int32)   (r : Int32) (u : Tau) : Prop := u = τ ∧ R (-9) (9) r
set_option maxHeartbeats 4000000 in
set_option maxRecDepth 100000 in
theorem c_X12_byHimself (l : Launch) (G : Gx) (τ : Tau) (hI : Inv τ) (a0 : Int32) (a1 : Int32) (h_a0 : R (0) (9) a0) (h_a1 : R (0) (8) a1) : Ci l G yX12_byHimself cX12_byHimself 3 (some .int) 1 21 [.ref (G.2.2.2.1 131), .int a0, .int a1] τ (po_X12_byHimself τ  a0 a1  ) := by
  unfold Ci
  refine C_of (own := RX12) (by decide) rfl (Nat.le_of_ble_eq_true rfl) ?_
  intro p e s m below meth c ls S hr hlk X hl
  have hl : lv_has ls 3 [(0, .ref (G.2.2.2.1 131)), (1, .int a0), (2, .int a1)] := hl
  refine r_aload_n S dX12_byHimself_0 rfl (lv_at hl 0 rfl) ?_
  refine r_get (K := 38) (v := .ref (G.2.2.2.1 133)) S X (Nat.le_of_ble_eq_true rfl) rfl lk12_33_10 (fun _ => ⟨_, rfl, rfl⟩) dX12_byHimself_1 ?_
  refine r_sipush S dX12_byHimself_4 (by decide) (fun v1 z2 => ?_)
  have r3 := R_eq z2
  refine r_iload_n S dX12_byHimself_7 rfl (lv_at hl 1 rfl) ?_
  refine r_iadd S dX12_byHimself_8 (fun v4 z5 => ?_)
  obtain ⟨e6, r7⟩ := i_add (lo := 232) (hi := 241) z5 r3 h_a0 rfl
  refine r_aldn (n := 513) (K := 40) S X (Nat.le_of_ble_eq_true rfl) rfl (fun _ => rfl) (ix_of r7 rfl) dX12_byHimself_9 (fun v8 z9 => ?_)
  have r10 : R (0) (511) v8 := rds (K := 40) (a := 232) (n := 10) hI rfl z9 (R_of r7 rfl) (by decide +kernel)
  have g11 : Rg 40 v4.toNatClampNeg v8 := rd hI rfl z9
  refine r_iload_n S dX12_byHimself_10 rfl (lv_at hl 2 rfl) ?_
  refine r_ki (q_S (As := [.int v8, .int a1]) (rest := []) S X (c_X12_bitOf l G τ hI v8 a1 (R_of (lo := -2147483648) (hi := 2147483647) r10 rfl) (R_of (lo := -2147483648) (hi := 2147483647) h_a1 rfl)) ck12_221 ⟨Nat.le_of_ble_eq_true rfl, Nat.le_of_ble_eq_true rfl⟩ rfl hl.1 rfl (Nat.le_of_ble_eq_true rfl) dX12_byHimself_11 ⟨Nat.le_refl 0, Nat.le_refl 0⟩) X (fun v15 t14 H lc q12 X13 => ?_)
  unfold po_X12_bitOf at q12
  obtain ⟨q16, q17⟩ := q12
  rw [q16] at X13
  refine r_if_eq (tgt := 35) S dX12_byHimself_14 (by decide) (fun c18 => ?_) (fun c18 => ?_)
  ·
    have r19 : R (0) (0) v15 := ⟨by omega, by omega⟩
    refine r_aload_n S dX12_byHimself_35 rfl (lv_at hl 0 rfl) ?_
    refine r_get (K := 38) (v := .ref (G.2.2.2.1 133)) S X13 (Nat.le_of_ble_eq_true rfl) rfl lk12_33_10 (fun _ => ⟨_, rfl, rfl⟩) dX12_byHimself_36 ?_
    refine r_sipush S dX12_byHimself_39 (by decide) (fun v20 z21 => ?_)
    have r22 := R_eq z21
    refine r_bipush S dX12_byHimself_42 (by decide) (fun v23 z24 => ?_)
    have r25 := R_eq z24
    refine r_iload_n S dX12_byHimself_44 rfl (lv_at hl 1 rfl) ?_
    refine r_imul S dX12_byHimself_45 (fun v26 z27 => ?_)
    obtain ⟨e28, r29⟩ := i_mul (lo := 0) (hi := 81) z27 r25 h_a0 rfl rfl
    have e30 : v26.toInt = 9 * a0.toInt := by rw [e28, show v23.toInt = 9 by omega]
    refine r_iadd S dX12_byHimself_46 (fun v31 z32 => ?_)
    obtain ⟨e33, r34⟩ := i_add (lo := 142) (hi := 223) z32 r22 r29 rfl
    refine r_iload_n S dX12_byHimself_47 rfl (lv_at hl 2 rfl) ?_
    refine r_iadd S dX12_byHimself_48 (fun v35 z36 => ?_)
    obtain ⟨e37, r38⟩ := i_add (lo := 142) (hi := 231) z36 r34 h_a1 rfl
    refine r_aldn (n := 513) (K := 40) S X13 (Nat.le_of_ble_eq_true rfl) rfl (fun _ => rfl) (ix_of r38 rfl) dX12_byHimself_49 (fun v39 z40 => ?_)
    have r41 : R (-9) (9) v39 := rds (K := 40) (a := 142) (n := 90) hI rfl z40 (R_of r38 rfl) (by decide +kernel)
    have g42 : Rg 40 v35.toNatClampNeg v39 := rd hI rfl z40
    exact r_ret S hr hlk X13 ⟨rfl, r41⟩ rfl dX12_byHimself_50
  ·
    have r43 : R (1) (1) v15 := ⟨by omega, by omega⟩
    refine r_aload_n S dX12_byHimself_17 rfl (lv_at hl 0 rfl) ?_
    refine r_get (K := 38) (v := .ref (G.2.2.2.1 133)) S X13 (Nat.le_of_ble_eq_true rfl) rfl lk12_33_10 (fun _ => ⟨_, rfl, rfl⟩) dX12_byHimself_18 ?_
    refine r_sipush S dX12_byHimself_21 (by decide) (fun v44 z45 => ?_)
    have r46 := R_eq z45
    refine r_bipush S dX12_byHimself_24 (by decide) (fun v47 z48 => ?_)
    have r49 := R_eq z48
    refine r_iload_n S dX12_byHimself_26 rfl (lv_at hl 1 rfl) ?_
    refine r_imul S dX12_byHimself_27 (fun v50 z51 => ?_)
    obtain ⟨e52, r53⟩ := i_mul (lo := 0) (hi := 81) z51 r49 h_a0 rfl rfl
    have e54 : v50.toInt = 9 * a0.toInt := by rw [e52, show v47.toInt = 9 by omega]
    refine r_iadd S dX12_byHimself_28 (fun v55 z56 => ?_)
    obtain ⟨e57, r58⟩ := i_add (lo := 242) (hi := 323) z56 r46 r53 rfl
    refine r_iload_n S dX12_byHimself_29 rfl (lv_at hl 2 rfl) ?_
    refine r_iadd S dX12_byHimself_30 (fun v59 z60 => ?_)
    obtain ⟨e61, r62⟩ := i_add (lo := 242) (hi := 331) z60 r58 h_a1 rfl
    refine r_aldn (n := 513) (K := 40) S X13 (Nat.le_of_ble_eq_true rfl) rfl (fun _ => rfl) (ix_of r62 rfl) dX12_byHimself_31 (fun v63 z64 => ?_)
    have r65 : R (-9) (9) v63 := rds (K := 40) (a := 242) (n := 90) hI rfl z64 (R_of r62 rfl) (by decide +kernel)
    have g66 : Rg 40 v59.toNatClampNeg v63 := rd hI rfl z64
    refine r_goto (tgt := 50) S dX12_byHimself_32 (by decide) ?_
    exact r_ret S hr hlk X13 ⟨rfl, r65⟩ rfl dX12_byHimself_50
def po_X12_saysOf (τ : Tau)  (a0 a1 : Int32)   (r : Int32) (u : Tau) : Prop := u = τ ∧ R (-9) (9) r
set_option maxHeartbeats 4000000 in
set_option maxRecDepth 100000 in
theorem c_X12_saysOf (l : Launch) (G : Gx) (τ : Tau) (hI : Inv τ) (a0 : Int32) (a1 : Int32) (h_a0 : R (0) (9) a0) (h_a1 : R (0) (8) a1) : Ci l G yX12_saysOf cX12_saysOf 4 (some .int) 2 43 [.ref (G.2.2.2.1 131), .int a0, .int a1] τ (po_X12_saysOf τ  a0 a1  ) := by
  unfold Ci
  refine C_of (own := RX12) (by decide) rfl (Nat.le_of_ble_eq_true rfl) ?_
  intro p e s m below meth c ls S hr hlk X hl
  have hl : lv_has ls 4 [(0, .ref (G.2.2.2.1 131)), (1, .int a0), (2, .int a1)] := hl
  refine r_aload_n S dX12_saysOf_0 rfl (lv_at hl 0 rfl) ?_
  refine r_get (K := 38) (v := .ref (G.2.2.2.1 133)) S X (Nat.le_of_ble_eq_true rfl) rfl lk12_33_10 (fun _ => ⟨_, rfl, rfl⟩) dX12_saysOf_1 ?_
  refine r_bipush S dX12_saysOf_4 (by decide) (fun v1 z2 => ?_)
  have r3 := R_eq z2
  refine r_iload_n S dX12_saysOf_6 rfl (lv_at hl 1 rfl) ?_
  refine r_iadd S dX12_saysOf_7 (fun v4 z5 => ?_)
  obtain ⟨e6, r7⟩ := i_add (lo := 105) (hi := 114) z5 r3 h_a0 rfl
  refine r_aldn (n := 513) (K := 40) S X (Nat.le_of_ble_eq_true rfl) rfl (fun _ => rfl) (ix_of r7 rfl) dX12_saysOf_8 (fun v8 z9 => ?_)
  have r10 : R (0) (10) v8 := rds (K := 40) (a := 105) (n := 10) hI rfl z9 (R_of r7 rfl) (by decide +kernel)
  have g11 : Rg 40 v4.toNatClampNeg v8 := rd hI rfl z9
  refine r_iconst S dX12_saysOf_9 (by decide) (fun v12 z13 => ?_)
  have r14 := R_eq z13
  refine r_isub S dX12_saysOf_10 (fun v15 z16 => ?_)
  obtain ⟨e17, r18⟩ := i_sub (lo := -1) (hi := 9) z16 r10 r14 rfl
  refine r_istore_n (lv' := [(3, .int v15), (0, .ref (G.2.2.2.1 131)), (1, .int a0), (2, .int a1)]) S dX12_saysOf_11 rfl hl (by decide) rfl (fun ls hl => ?_)
  refine r_aload_n S dX12_saysOf_12 rfl (lv_at hl 1 rfl) ?_
  refine r_get (K := 38) (v := .ref (G.2.2.2.1 133)) S X (Nat.le_of_ble_eq_true rfl) rfl lk12_33_10 (fun _ => ⟨_, rfl, rfl⟩) dX12_saysOf_13 ?_
  refine r_sipush S dX12_saysOf_16 (by decide) (fun v19 z20 => ?_)
  have r21 := R_eq z20
  refine r_iload_n S dX12_saysOf_19 rfl (lv_at hl 2 rfl) ?_
  refine r_iadd S dX12_saysOf_20 (fun v22 z23 => ?_)
  obtain ⟨e24, r25⟩ := i_add (lo := 232) (hi := 241) z23 r21 h_a0 rfl
  refine r_aldn (n := 513) (K := 40) S X (Nat.le_of_ble_eq_true rfl) rfl (fun _ => rfl) (ix_of r25 rfl) dX12_saysOf_21 (fun v26 z27 => ?_)
  have r28 : R (0) (511) v26 := rds (K := 40) (a := 232) (n := 10) hI rfl z27 (R_of r25 rfl) (by decide +kernel)
  have g29 : Rg 40 v22.toNatClampNeg v26 := rd hI rfl z27
  refine r_iload_n S dX12_saysOf_22 rfl (lv_at hl 3 rfl) ?_
  refine r_ki (q_S (As := [.int v26, .int a1]) (rest := []) S X (c_X12_bitOf l G τ hI v26 a1 (R_of (lo := -2147483648) (hi := 2147483647) r28 rfl) (R_of (lo := -2147483648) (hi := 2147483647) h_a1 rfl)) ck12_221 ⟨Nat.le_of_ble_eq_true rfl, Nat.le_of_ble_eq_true rfl⟩ rfl hl.1 rfl (Nat.le_of_ble_eq_true rfl) dX12_saysOf_23 ⟨Nat.le_refl 0, Nat.le_refl 0⟩) X (fun v33 t32 H lc q30 X31 => ?_)
  unfold po_X12_bitOf at q30
  obtain ⟨q34, q35⟩ := q30
  rw [q34] at X31
  refine r_if_ne (tgt := 46) S dX12_saysOf_26 (by decide) (fun c36 => ?_) (fun c36 => ?_)
  ·
    have r37 : R (1) (1) v33 := ⟨by omega, by omega⟩
    refine r_aload_n S dX12_saysOf_46 rfl (lv_at hl 1 rfl) ?_
    refine r_iload_n S dX12_saysOf_47 rfl (lv_at hl 2 rfl) ?_
    refine r_iload_n S dX12_saysOf_48 rfl (lv_at hl 3 rfl) ?_
    refine r_ki (q_V (As := [.int a0, .int a1]) (rest := []) (K := 38) (ci := 10) S X31 (c_X12_byHimself l G τ hI a0 a1 h_a0 h_a1) ck12_263 (Nat.le_of_ble_eq_true rfl) rfl (fun _ => ⟨_, rfl⟩) ⟨_, _, rfl⟩ ⟨Nat.le_of_ble_eq_true rfl, Nat.le_of_ble_eq_true rfl⟩ rfl hl.1 rfl (Nat.le_of_ble_eq_true rfl) dX12_saysOf_49 ⟨Nat.le_refl 0, Nat.le_refl 0⟩) X31 (fun v41 t40 H lc q38 X39 => ?_)
    unfold po_X12_byHimself at q38
    obtain ⟨q42, q43⟩ := q38
    rw [q42] at X39
    exact r_ret S hr hlk X39 ⟨rfl, q43⟩ rfl dX12_saysOf_52
  ·
    have r44 : R (0) (0) v33 := ⟨by omega, by omega⟩
    refine r_iload_n S dX12_saysOf_29 rfl (lv_at hl 0 rfl) ?_
    refine r_if_lt (tgt := 46) S dX12_saysOf_30 (by decide) (fun c45 => ?_) (fun c45 => ?_)
    ·
      have r46 : R (-1) (-1) v15 := ⟨by omega, by omega⟩
      refine r_aload_n S dX12_saysOf_46 rfl (lv_at hl 1 rfl) ?_
      refine r_iload_n S dX12_saysOf_47 rfl (lv_at hl 2 rfl) ?_
      refine r_iload_n S dX12_saysOf_48 rfl (lv_at hl 3 rfl) ?_
      refine r_ki (q_V (As := [.int a0, .int a1]) (rest := []) (K := 38) (ci := 10) S X31 (c_X12_byHimself l G τ hI a0 a1 h_a0 h_a1) ck12_263 (Nat.le_of_ble_eq_true rfl) rfl (fun _ => ⟨_, rfl⟩) ⟨_, _, rfl⟩ ⟨Nat.le_of_ble_eq_true rfl, Nat.le_of_ble_eq_true rfl⟩ rfl hl.1 rfl (Nat.le_of_ble_eq_true rfl) dX12_saysOf_49 ⟨Nat.le_refl 0, Nat.le_refl 0⟩) X31 (fun v50 t49 H lc q47 X48 => ?_)
      unfold po_X12_byHimself at q47
      obtain ⟨q51, q52⟩ := q47
      rw [q51] at X48
      exact r_ret S hr hlk X48 ⟨rfl, q52⟩ rfl dX12_saysOf_52
    ·
      have r53 : R (0) (9) v15 := ⟨by omega, by omega⟩
      refine r_aload_n S dX12_saysOf_33 rfl (lv_at hl 1 rfl) ?_
      refine r_iload_n S dX12_saysOf_34 rfl (lv_at hl 0 rfl) ?_
      refine r_ki (q_V (As := [.int v15]) (rest := []) (K := 38) (ci := 10) S X31 (c_X12_bankOf l G τ hI v15 (R_of (lo := -2147483648) (hi := 2147483647) r53 rfl)) ck12_259 (Nat.le_of_ble_eq_true rfl) rfl (fun _ => ⟨_, rfl⟩) ⟨_, _, rfl⟩ ⟨Nat.le_of_ble_eq_true rfl, Nat.le_of_ble_eq_true rfl⟩ rfl hl.1 rfl (Nat.le_of_ble_eq_true rfl) dX12_saysOf_35 ⟨Nat.le_refl 0, Nat.le_refl 0⟩) X31 (fun v57 t56 H lc q54 X55 => ?_)
      unfold po_X12_bankOf at q54
      obtain ⟨q58, q59⟩ := q54
      rw [q58] at X55
      refine r_aload_n S dX12_saysOf_38 rfl (lv_at hl 1 rfl) ?_
      refine r_iload_n S dX12_saysOf_39 rfl (lv_at hl 2 rfl) ?_
      refine r_ki (q_V (As := [.int a0]) (rest := [.int v57]) (K := 38) (ci := 10) S X55 (c_X12_bankOf l G τ hI a0 (R_of (lo := -2147483648) (hi := 2147483647) h_a0 rfl)) ck12_259 (Nat.le_of_ble_eq_true rfl) rfl (fun _ => ⟨_, rfl⟩) ⟨_, _, rfl⟩ ⟨Nat.le_of_ble_eq_true rfl, Nat.le_of_ble_eq_true rfl⟩ rfl hl.1 rfl (Nat.le_of_ble_eq_true rfl) dX12_saysOf_40 ⟨Nat.le_refl 0, Nat.le_refl 0⟩) X55 (fun v63 t62 H lc q60 X61 => ?_)
      unfold po_X12_bankOf at q60
      obtain ⟨q64, q65⟩ := q60
      rw [q64] at X61
      refine r_icmp_eq (tgt := 53) S dX12_saysOf_43 (by decide) (fun c66 => ?_) (fun c66 => ?_)
      ·
        refine r_aload_n S dX12_saysOf_53 rfl (lv_at hl 1 rfl) ?_
        refine r_iload_n S dX12_saysOf_54 rfl (lv_at hl 0 rfl) ?_
        refine r_iload_n S dX12_saysOf_55 rfl (lv_at hl 3 rfl) ?_
        refine r_ki (q_V (As := [.int v15, .int a1]) (rest := []) (K := 38) (ci := 10) S X61 (c_X12_byHimself l G τ hI v15 a1 r53 h_a1) ck12_263 (Nat.le_of_ble_eq_true rfl) rfl (fun _ => ⟨_, rfl⟩) ⟨_, _, rfl⟩ ⟨Nat.le_of_ble_eq_true rfl, Nat.le_of_ble_eq_true rfl⟩ rfl hl.1 rfl (Nat.le_of_ble_eq_true rfl) dX12_saysOf_56 ⟨Nat.le_refl 0, Nat.le_refl 0⟩) X61 (fun v70 t69 H lc q67 X68 => ?_)
        unfold po_X12_byHimself at q67
        obtain ⟨q71, q72⟩ := q67
        rw [q71] at X68
        exact r_ret S hr hlk X68 ⟨rfl, q72⟩ rfl dX12_saysOf_59
      ·
        refine r_aload_n S dX12_saysOf_46 rfl (lv_at hl 1 rfl) ?_
        refine r_iload_n S dX12_saysOf_47 rfl (lv_at hl 2 rfl) ?_
        refine r_iload_n S dX12_saysOf_48 rfl (lv_at hl 3 rfl) ?_
        refine r_ki (q_V (As := [.int a0, .int a1]) (rest := []) (K := 38) (ci := 10) S X61 (c_X12_byHimself l G τ hI a0 a1 h_a0 h_a1) ck12_263 (Nat.le_of_ble_eq_true rfl) rfl (fun _ => ⟨_, rfl⟩) ⟨_, _, rfl⟩ ⟨Nat.le_of_ble_eq_true rfl, Nat.le_of_ble_eq_true rfl⟩ rfl hl.1 rfl (Nat.le_of_ble_eq_true rfl) dX12_saysOf_49 ⟨Nat.le_refl 0, Nat.le_refl 0⟩) X61 (fun v76 t75 H lc q73 X74 => ?_)
        unfold po_X12_byHimself at q73
        obtain ⟨q77, q78⟩ := q73
        rw [q77] at X74
        exact r_ret S hr hlk X74 ⟨rfl, q78⟩ rfl dX12_saysOf_52
def po_X12_fault (τ : Tau)     (r : Int32) (u : Tau) : Prop := Inv u ∧ Fr [(131, 0)] [] τ u
set_option maxHeartbeats 4000000 in
set_option maxRecDepth 100000 in
theorem c_X12_fault (l : Launch) (G : Gx) (τ : Tau) (hI : Inv τ) : Ci l G yX12_fault cX12_fault 1 (some .int) 0 0 [.ref (G.2.2.2.1 131)] τ (po_X12_fault τ    ) := by
  unfold Ci
  refine C_of (own := RX12) (by decide) rfl (Nat.le_of_ble_eq_true rfl) ?_
  intro p e s m below meth c ls S hr hlk X hl
  have hl : lv_has ls 1 [(0, .ref (G.2.2.2.1 131))] := hl
  refine r_aload_n S dX12_fault_0 rfl (lv_at hl 0 rfl) ?_
  refine r_iconst S dX12_fault_1 (by decide) (fun v1 z2 => ?_)
  have r3 := R_eq z2
  refine r_put (K := 38) (ty := .int) S X (Nat.le_of_ble_eq_true rfl) rfl lk12_1_10 (fun _ => ⟨_, rfl, Nat.le_of_ble_eq_true rfl, rfl⟩) (fun _ _ _ h => by cases h; exact ⟨rfl, rfl⟩) rfl rfl dX12_fault_2 (fun t4 H lc M5 X6 => ?_)
  have I7 := Inv_mu hI M5 (R_any v1)
  have F8 : Fr [(131, 0)] [] τ t4 := Fr_mu Fr_rfl M5 (by decide)
  refine r_aload_n S dX12_fault_5 rfl (lv_at hl 0 rfl) ?_
  refine r_getn (K := 38) S X6 (Nat.le_of_ble_eq_true rfl) rfl lk12_174_10 (fun _ => ⟨_, rfl, rfl⟩) dX12_fault_6 (fun v9 z10 => ?_)
  have r12 := R_any v9
  exact r_ret S hr hlk X6 ⟨I7, F8⟩ rfl dX12_fault_9
def po_X12_man (τ : Tau)  (a0 a1 : Int32)   (r : Int32) (u : Tau) : Prop := Inv u ∧ Fr [(131, 0)] [] τ u
set_option maxHeartbeats 4000000 in
set_option maxRecDepth 100000 in
theorem c_X12_man (l : Launch) (G : Gx) (τ : Tau) (hI : Inv τ) (a0 : Int32) (a1 : Int32) (h_a0 : R (-2147483648) (2147483647) a0) (h_a1 : R (-2147483648) (2147483647) a1) : Ci l G yX12_man cX12_man 3 (some .int) 2 43 [.ref (G.2.2.2.1 131), .int a0, .int a1] τ (po_X12_man τ  a0 a1  ) := by
  unfold Ci
  refine C_of (own := RX12) (by decide) rfl (Nat.le_of_ble_eq_true rfl) ?_
  intro p e s m below meth c ls S hr hlk X hl
  have hl : lv_has ls 3 [(0, .ref (G.2.2.2.1 131)), (1, .int a0), (2, .int a1)] := hl
  refine r_aload_n S dX12_man_0 rfl (lv_at hl 0 rfl) ?_
  refine r_aload_n S dX12_man_1 rfl (lv_at hl 0 rfl) ?_
  refine r_iload_n S dX12_man_2 rfl (lv_at hl 1 rfl) ?_
  refine r_ki (q_V (As := [.int a0]) (rest := [.ref (G.2.2.2.1 131)]) (K := 38) (ci := 10) S X (c_X12_isMan l G τ hI a0 h_a0) ck12_252 (Nat.le_of_ble_eq_true rfl) rfl (fun _ => ⟨_, rfl⟩) ⟨_, _, rfl⟩ ⟨Nat.le_of_ble_eq_true rfl, Nat.le_of_ble_eq_true rfl⟩ rfl hl.1 rfl (Nat.le_of_ble_eq_true rfl) dX12_man_3 ⟨Nat.le_refl 0, Nat.le_refl 0⟩) X (fun v4 t3 H lc q1 X2 => ?_)
  unfold po_X12_isMan at q1
  obtain ⟨q5, q6, q7⟩ := q1
  rw [q5] at X2
  rw [q5] at q7
  refine r_if_eq (tgt := 19) S dX12_man_6 (by decide) (fun c8 => ?_) (fun c8 => ?_)
  ·
    have r9 : R (0) (0) v4 := ⟨by omega, by omega⟩
    refine r_iconst S dX12_man_19 (by decide) (fun v10 z11 => ?_)
    have r12 := R_eq z11
    refine r_goto (tgt := 24) S dX12_man_20 (by decide) ?_
    refine r_ki (q_V (As := [.int v10]) (rest := []) (K := 38) (ci := 10) S X2 (c_X12_throwsIf l G τ hI v10 (R_of (lo := 0) (hi := 1) r12 rfl)) ck12_255 (Nat.le_of_ble_eq_true rfl) rfl (fun _ => ⟨_, rfl⟩) ⟨_, _, rfl⟩ ⟨Nat.le_of_ble_eq_true rfl, Nat.le_of_ble_eq_true rfl⟩ rfl hl.1 rfl (Nat.le_of_ble_eq_true rfl) dX12_man_24 ⟨Nat.le_refl 0, Nat.le_refl 0⟩) X2 (fun v16 t15 H lc q13 X14 => ?_)
    unfold po_X12_throwsIf at q13
    obtain ⟨q17, q18, q19, q20, q21⟩ := q13
    have F22 : Fr [(131, 0)] [] τ t15 := Fr_call Fr_rfl q18 (by decide)
    refine r_if_eq (tgt := 32) S dX12_man_27 (by decide) (fun c23 => ?_) (fun c23 => ?_)
    ·
      exfalso; omega
    ·
      have r26 : R (1) (1) v16 := ⟨by omega, by omega⟩
      have p27 := q20 (by omega)
      have r28 : R (1) (1) v10 := ⟨by omega, by omega⟩
      refine r_iconst S dX12_man_30 (by decide) (fun v29 z30 => ?_)
      have r31 := R_eq z30
      exact r_ret S hr hlk X14 ⟨q17, F22⟩ rfl dX12_man_31
  ·
    have r32 : R (1) (1) v4 := ⟨by omega, by omega⟩
    obtain ⟨p33, p34⟩ := q7 (by omega)
    have r35 : R (0) (9) a0 := ⟨by omega, by omega⟩
    obtain ⟨v36, z37⟩ : ∃ x, τ 133 1 = x := ⟨_, rfl⟩
    rw [z37] at p34
    refine r_iload_n S dX12_man_9 rfl (lv_at hl 2 rfl) ?_
    refine r_iconst S dX12_man_10 (by decide) (fun v38 z39 => ?_)
    have r40 := R_eq z39
    refine r_bipush S dX12_man_11 (by decide) (fun v41 z42 => ?_)
    have r43 := R_eq z42
    refine r_ki (q_S (As := [.int a1, .int v38, .int v41]) (rest := [.ref (G.2.2.2.1 131)]) S X2 (c_X12_isIn l G τ hI a1 v38 v41 h_a1 (R_of (lo := -2147483648) (hi := 2147483647) r40 rfl) (R_of (lo := -2147483648) (hi := 2147483647) r43 rfl)) ck12_189 ⟨Nat.le_of_ble_eq_true rfl, Nat.le_of_ble_eq_true rfl⟩ rfl hl.1 rfl (Nat.le_of_ble_eq_true rfl) dX12_man_13 ⟨Nat.le_refl 0, Nat.le_refl 0⟩) X2 (fun v47 t46 H lc q44 X45 => ?_)
    unfold po_X12_isIn at q44
    obtain ⟨q48, q49, q50⟩ := q44
    rw [q48] at X45
    refine r_if_ne (tgt := 23) S dX12_man_16 (by decide) (fun c51 => ?_) (fun c51 => ?_)
    ·
      have r52 : R (1) (1) v47 := ⟨by omega, by omega⟩
      obtain ⟨p53, p54⟩ := q50 (by omega)
      have r55 : R (0) (7) a1 := ⟨by omega, by omega⟩
      refine r_iconst S dX12_man_23 (by decide) (fun v56 z57 => ?_)
      have r58 := R_eq z57
      refine r_ki (q_V (As := [.int v56]) (rest := []) (K := 38) (ci := 10) S X45 (c_X12_throwsIf l G τ hI v56 (R_of (lo := 0) (hi := 1) r58 rfl)) ck12_255 (Nat.le_of_ble_eq_true rfl) rfl (fun _ => ⟨_, rfl⟩) ⟨_, _, rfl⟩ ⟨Nat.le_of_ble_eq_true rfl, Nat.le_of_ble_eq_true rfl⟩ rfl hl.1 rfl (Nat.le_of_ble_eq_true rfl) dX12_man_24 ⟨Nat.le_refl 0, Nat.le_refl 0⟩) X45 (fun v62 t61 H lc q59 X60 => ?_)
      unfold po_X12_throwsIf at q59
      obtain ⟨q63, q64, q65, q66, q67⟩ := q59
      have F68 : Fr [(131, 0)] [] τ t61 := Fr_call Fr_rfl q64 (by decide)
      refine r_if_eq (tgt := 32) S dX12_man_27 (by decide) (fun c69 => ?_) (fun c69 => ?_)
      ·
        have r70 : R (0) (0) v62 := ⟨by omega, by omega⟩
        have p71 := q67 (by omega)
        have r72 : R (0) (0) v56 := ⟨by omega, by omega⟩
        refine r_iload_n S dX12_man_32 rfl (lv_at hl 2 rfl) ?_
        rcases (show (a1.toInt < 0 ∨ 6 < a1.toInt) ∨ a1.toInt = 0 ∨ a1.toInt = 1 ∨ a1.toInt = 2 ∨ a1.toInt = 3 ∨ a1.toInt = 4 ∨ a1.toInt = 5 ∨ a1.toInt = 6 by omega) with c73 | c73 | c73 | c73 | c73 | c73 | c73 | c73
        ·
          refine lv_tableOut (tgt := 150) S.1.1 S.1.2.1 dX12_man_33 c73 (by decide) ?_
          refine r_aload_n S dX12_man_150 rfl (lv_at hl 0 rfl) ?_
          refine r_get (K := 38) (v := .ref (G.2.2.2.1 133)) S X60 (Nat.le_of_ble_eq_true rfl) rfl lk12_33_10 (fun _ => ⟨_, rfl, rfl⟩) dX12_man_151 ?_
          refine r_sipush S dX12_man_154 (by decide) (fun v74 z75 => ?_)
          have r76 := R_eq z75
          refine r_iload_n S dX12_man_157 rfl (lv_at hl 1 rfl) ?_
          refine r_iadd S dX12_man_158 (fun v77 z78 => ?_)
          obtain ⟨e79, r80⟩ := i_add (lo := 232) (hi := 241) z78 r76 r35 rfl
          refine r_aldn (n := 513) (K := 40) S X60 (Nat.le_of_ble_eq_true rfl) rfl (fun _ => rfl) (ix_of r80 rfl) dX12_man_159 (fun v81 z82 => ?_)
          have r83 : R (0) (511) v81 := rds (K := 40) (a := 232) (n := 10) q63 rfl z82 (R_of r80 rfl) (by decide +kernel)
          have g84 : Rg 40 v77.toNatClampNeg v81 := rd q63 rfl z82
          exact r_ret S hr hlk X60 ⟨q63, F68⟩ rfl dX12_man_160
        ·
          refine lv_tableIn (tgt := 76) S.1.1 S.1.2.1 dX12_man_33 (by omega) (by omega) (by rw [c73]; rfl) (by decide) ?_
          have r85 : R (0) (0) a1 := ⟨by omega, by omega⟩
          refine r_aload_n S dX12_man_76 rfl (lv_at hl 0 rfl) ?_
          refine r_iload_n S dX12_man_77 rfl (lv_at hl 1 rfl) ?_
          refine r_ki (q_V (As := [.int a0]) (rest := []) (K := 38) (ci := 10) S X60 (c_X12_bankOf l G t61 q63 a0 (R_of (lo := -2147483648) (hi := 2147483647) r35 rfl)) ck12_259 (Nat.le_of_ble_eq_true rfl) rfl (fun _ => ⟨_, rfl⟩) ⟨_, _, rfl⟩ ⟨Nat.le_of_ble_eq_true rfl, Nat.le_of_ble_eq_true rfl⟩ rfl hl.1 rfl (Nat.le_of_ble_eq_true rfl) dX12_man_78 ⟨Nat.le_refl 0, Nat.le_refl 0⟩) X60 (fun v89 t88 H lc q86 X87 => ?_)
          unfold po_X12_bankOf at q86
          obtain ⟨q90, q91⟩ := q86
          rw [q90] at X87
          exact r_ret S hr hlk X87 ⟨q63, F68⟩ rfl dX12_man_81
        ·
          refine lv_tableIn (tgt := 82) S.1.1 S.1.2.1 dX12_man_33 (by omega) (by omega) (by rw [c73]; rfl) (by decide) ?_
          have r92 : R (1) (1) a1 := ⟨by omega, by omega⟩
          refine r_aload_n S dX12_man_82 rfl (lv_at hl 0 rfl) ?_
          refine r_get (K := 38) (v := .ref (G.2.2.2.1 133)) S X60 (Nat.le_of_ble_eq_true rfl) rfl lk12_33_10 (fun _ => ⟨_, rfl, rfl⟩) dX12_man_83 ?_
          refine r_iconst S dX12_man_86 (by decide) (fun v93 z94 => ?_)
          have r95 := R_eq z94
          refine r_iload_n S dX12_man_87 rfl (lv_at hl 1 rfl) ?_
          refine r_iadd S dX12_man_88 (fun v96 z97 => ?_)
          obtain ⟨e98, r99⟩ := i_add (lo := 5) (hi := 14) z97 r95 r35 rfl
          refine r_aldn (n := 513) (K := 40) S X60 (Nat.le_of_ble_eq_true rfl) rfl (fun _ => rfl) (ix_of r99 rfl) dX12_man_89 (fun v100 z101 => ?_)
          have r102 : R (0) (20) v100 := rds (K := 40) (a := 5) (n := 10) q63 rfl z101 (R_of r99 rfl) (by decide +kernel)
          have g103 : Rg 40 v96.toNatClampNeg v100 := rd q63 rfl z101
          exact r_ret S hr hlk X60 ⟨q63, F68⟩ rfl dX12_man_90
        ·
          refine lv_tableIn (tgt := 91) S.1.1 S.1.2.1 dX12_man_33 (by omega) (by omega) (by rw [c73]; rfl) (by decide) ?_
          have r104 : R (2) (2) a1 := ⟨by omega, by omega⟩
          refine r_aload_n S dX12_man_91 rfl (lv_at hl 0 rfl) ?_
          refine r_get (K := 38) (v := .ref (G.2.2.2.1 133)) S X60 (Nat.le_of_ble_eq_true rfl) rfl lk12_33_10 (fun _ => ⟨_, rfl, rfl⟩) dX12_man_92 ?_
          refine r_sipush S dX12_man_95 (by decide) (fun v105 z106 => ?_)
          have r107 := R_eq z106
          refine r_aldn (n := 513) (K := 40) S X60 (Nat.le_of_ble_eq_true rfl) rfl (fun _ => rfl) (ix_of r107 rfl) dX12_man_98 (fun v108 z109 => ?_)
          have r110 : R (0) (1023) v108 := rds (K := 40) (a := 131) (n := 1) q63 rfl z109 (R_of r107 rfl) (by decide +kernel)
          refine r_iload_n S dX12_man_99 rfl (lv_at hl 1 rfl) ?_
          refine r_ishr S dX12_man_100 (fun v111 z112 => ?_)
          have r114 : R (0) (1023) v111 := i_shr z112 r110 r35 rfl
          refine r_iconst S dX12_man_101 (by decide) (fun v115 z116 => ?_)
          have r117 := R_eq z116
          refine r_iand S dX12_man_102 (fun v118 z119 => ?_)
          have r121 : R (0) (1) v118 := i_and2 z119 r114 r117 rfl
          have e122 := i_andle z119 r114 rfl
          exact r_ret S hr hlk X60 ⟨q63, F68⟩ rfl dX12_man_103
        ·
          refine lv_tableIn (tgt := 104) S.1.1 S.1.2.1 dX12_man_33 (by omega) (by omega) (by rw [c73]; rfl) (by decide) ?_
          have r123 : R (3) (3) a1 := ⟨by omega, by omega⟩
          refine r_aload_n S dX12_man_104 rfl (lv_at hl 0 rfl) ?_
          refine r_get (K := 38) (v := .ref (G.2.2.2.1 133)) S X60 (Nat.le_of_ble_eq_true rfl) rfl lk12_33_10 (fun _ => ⟨_, rfl, rfl⟩) dX12_man_105 ?_
          refine r_sipush S dX12_man_108 (by decide) (fun v124 z125 => ?_)
          have r126 := R_eq z125
          refine r_aldn (n := 513) (K := 40) S X60 (Nat.le_of_ble_eq_true rfl) rfl (fun _ => rfl) (ix_of r126 rfl) dX12_man_111 (fun v127 z128 => ?_)
          have r129 : R (0) (1023) v127 := rds (K := 40) (a := 130) (n := 1) q63 rfl z128 (R_of r126 rfl) (by decide +kernel)
          refine r_iload_n S dX12_man_112 rfl (lv_at hl 1 rfl) ?_
          refine r_ishr S dX12_man_113 (fun v130 z131 => ?_)
          have r133 : R (0) (1023) v130 := i_shr z131 r129 r35 rfl
          refine r_iconst S dX12_man_114 (by decide) (fun v134 z135 => ?_)
          have r136 := R_eq z135
          refine r_iand S dX12_man_115 (fun v137 z138 => ?_)
          have r140 : R (0) (1) v137 := i_and2 z138 r133 r136 rfl
          have e141 := i_andle z138 r133 rfl
          exact r_ret S hr hlk X60 ⟨q63, F68⟩ rfl dX12_man_116
        ·
          refine lv_tableIn (tgt := 117) S.1.1 S.1.2.1 dX12_man_33 (by omega) (by omega) (by rw [c73]; rfl) (by decide) ?_
          have r142 : R (4) (4) a1 := ⟨by omega, by omega⟩
          refine r_aload_n S dX12_man_117 rfl (lv_at hl 0 rfl) ?_
          refine r_get (K := 38) (v := .ref (G.2.2.2.1 133)) S X60 (Nat.le_of_ble_eq_true rfl) rfl lk12_33_10 (fun _ => ⟨_, rfl, rfl⟩) dX12_man_118 ?_
          refine r_bipush S dX12_man_121 (by decide) (fun v143 z144 => ?_)
          have r145 := R_eq z144
          refine r_iload_n S dX12_man_123 rfl (lv_at hl 1 rfl) ?_
          refine r_iadd S dX12_man_124 (fun v146 z147 => ?_)
          obtain ⟨e148, r149⟩ := i_add (lo := 105) (hi := 114) z147 r145 r35 rfl
          refine r_aldn (n := 513) (K := 40) S X60 (Nat.le_of_ble_eq_true rfl) rfl (fun _ => rfl) (ix_of r149 rfl) dX12_man_125 (fun v150 z151 => ?_)
          have r152 : R (0) (10) v150 := rds (K := 40) (a := 105) (n := 10) q63 rfl z151 (R_of r149 rfl) (by decide +kernel)
          have g153 : Rg 40 v146.toNatClampNeg v150 := rd q63 rfl z151
          refine r_iconst S dX12_man_126 (by decide) (fun v154 z155 => ?_)
          have r156 := R_eq z155
          refine r_isub S dX12_man_127 (fun v157 z158 => ?_)
          obtain ⟨e159, r160⟩ := i_sub (lo := -1) (hi := 9) z158 r152 r156 rfl
          exact r_ret S hr hlk X60 ⟨q63, F68⟩ rfl dX12_man_128
        ·
          refine lv_tableIn (tgt := 129) S.1.1 S.1.2.1 dX12_man_33 (by omega) (by omega) (by rw [c73]; rfl) (by decide) ?_
          have r161 : R (5) (5) a1 := ⟨by omega, by omega⟩
          refine r_aload_n S dX12_man_129 rfl (lv_at hl 0 rfl) ?_
          refine r_get (K := 38) (v := .ref (G.2.2.2.1 133)) S X60 (Nat.le_of_ble_eq_true rfl) rfl lk12_33_10 (fun _ => ⟨_, rfl, rfl⟩) dX12_man_130 ?_
          refine r_sipush S dX12_man_133 (by decide) (fun v162 z163 => ?_)
          have r164 := R_eq z163
          refine r_iload_n S dX12_man_136 rfl (lv_at hl 1 rfl) ?_
          refine r_iadd S dX12_man_137 (fun v165 z166 => ?_)
          obtain ⟨e167, r168⟩ := i_add (lo := 132) (hi := 141) z166 r164 r35 rfl
          refine r_aldn (n := 513) (K := 40) S X60 (Nat.le_of_ble_eq_true rfl) rfl (fun _ => rfl) (ix_of r168 rfl) dX12_man_138 (fun v169 z170 => ?_)
          have r172 := R_any v169
          have g173 : Rg 40 v165.toNatClampNeg v169 := rd q63 rfl z170
          exact r_ret S hr hlk X60 ⟨q63, F68⟩ rfl dX12_man_139
        ·
          refine lv_tableIn (tgt := 140) S.1.1 S.1.2.1 dX12_man_33 (by omega) (by omega) (by rw [c73]; rfl) (by decide) ?_
          have r174 : R (6) (6) a1 := ⟨by omega, by omega⟩
          refine r_aload_n S dX12_man_140 rfl (lv_at hl 0 rfl) ?_
          refine r_get (K := 38) (v := .ref (G.2.2.2.1 133)) S X60 (Nat.le_of_ble_eq_true rfl) rfl lk12_33_10 (fun _ => ⟨_, rfl, rfl⟩) dX12_man_141 ?_
          refine r_bipush S dX12_man_144 (by decide) (fun v175 z176 => ?_)
          have r177 := R_eq z176
          refine r_iload_n S dX12_man_146 rfl (lv_at hl 1 rfl) ?_
          refine r_iadd S dX12_man_147 (fun v178 z179 => ?_)
          obtain ⟨e180, r181⟩ := i_add (lo := 115) (hi := 124) z179 r177 r35 rfl
          refine r_aldn (n := 513) (K := 40) S X60 (Nat.le_of_ble_eq_true rfl) rfl (fun _ => rfl) (ix_of r181 rfl) dX12_man_148 (fun v182 z183 => ?_)
          have r184 : R (0) (1023) v182 := rds (K := 40) (a := 115) (n := 10) q63 rfl z183 (R_of r181 rfl) (by decide +kernel)
          have g185 : Rg 40 v178.toNatClampNeg v182 := rd q63 rfl z183
          exact r_ret S hr hlk X60 ⟨q63, F68⟩ rfl dX12_man_149
      ·
        exfalso; omega
    ·
      have r188 : R (0) (0) v47 := ⟨by omega, by omega⟩
      refine r_iconst S dX12_man_19 (by decide) (fun v189 z190 => ?_)
      have r191 := R_eq z190
      refine r_goto (tgt := 24) S dX12_man_20 (by decide) ?_
      refine r_ki (q_V (As := [.int v189]) (rest := []) (K := 38) (ci := 10) S X45 (c_X12_throwsIf l G τ hI v189 (R_of (lo := 0) (hi := 1) r191 rfl)) ck12_255 (Nat.le_of_ble_eq_true rfl) rfl (fun _ => ⟨_, rfl⟩) ⟨_, _, rfl⟩ ⟨Nat.le_of_ble_eq_true rfl, Nat.le_of_ble_eq_true rfl⟩ rfl hl.1 rfl (Nat.le_of_ble_eq_true rfl) dX12_man_24 ⟨Nat.le_refl 0, Nat.le_refl 0⟩) X45 (fun v195 t194 H lc q192 X193 => ?_)
      unfold po_X12_throwsIf at q192
      obtain ⟨q196, q197, q198, q199, q200⟩ := q192
      have F201 : Fr [(131, 0)] [] τ t194 := Fr_call Fr_rfl q197 (by decide)
      refine r_if_eq (tgt := 32) S dX12_man_27 (by decide) (fun c202 => ?_) (fun c202 => ?_)
      ·
        exfalso; omega
      ·
        have r205 : R (1) (1) v195 := ⟨by omega, by omega⟩
        have p206 := q199 (by omega)
        have r207 : R (1) (1) v189 := ⟨by omega, by omega⟩
        refine r_iconst S dX12_man_30 (by decide) (fun v208 z209 => ?_)
        have r210 := R_eq z209
        exact r_ret S hr hlk X193 ⟨q196, F201⟩ rfl dX12_man_31
def po_X12_thinks (τ : Tau)  (a0 a1 : Int32)   (r : Int32) (u : Tau) : Prop := Inv u ∧ Fr [(131, 0)] [] τ u
set_option maxHeartbeats 4000000 in
set_option maxRecDepth 100000 in
theorem c_X12_thinks (l : Launch) (G : Gx) (τ : Tau) (hI : Inv τ) (a0 : Int32) (a1 : Int32) (h_a0 : R (-2147483648) (2147483647) a0) (h_a1 : R (-2147483648) (2147483647) a1) : Ci l G yX12_thinks cX12_thinks 3 (some .int) 2 43 [.ref (G.2.2.2.1 131), .int a0, .int a1] τ (po_X12_thinks τ  a0 a1  ) := by
  unfold Ci
  refine C_of (own := RX12) (by decide) rfl (Nat.le_of_ble_eq_true rfl) ?_
  intro p e s m below meth c ls S hr hlk X hl
  have hl : lv_has ls 3 [(0, .ref (G.2.2.2.1 131)), (1, .int a0), (2, .int a1)] := hl
  refine r_aload_n S dX12_thinks_0 rfl (lv_at hl 0 rfl) ?_
  refine r_aload_n S dX12_thinks_1 rfl (lv_at hl 0 rfl) ?_
  refine r_iload_n S dX12_thinks_2 rfl (lv_at hl 1 rfl) ?_
  refine r_ki (q_V (As := [.int a0]) (rest := [.ref (G.2.2.2.1 131)]) (K := 38) (ci := 10) S X (c_X12_isMan l G τ hI a0 h_a0) ck12_252 (Nat.le_of_ble_eq_true rfl) rfl (fun _ => ⟨_, rfl⟩) ⟨_, _, rfl⟩ ⟨Nat.le_of_ble_eq_true rfl, Nat.le_of_ble_eq_true rfl⟩ rfl hl.1 rfl (Nat.le_of_ble_eq_true rfl) dX12_thinks_3 ⟨Nat.le_refl 0, Nat.le_refl 0⟩) X (fun v4 t3 H lc q1 X2 => ?_)
  unfold po_X12_isMan at q1
  obtain ⟨q5, q6, q7⟩ := q1
  rw [q5] at X2
  rw [q5] at q7
  refine r_if_eq (tgt := 17) S dX12_thinks_6 (by decide) (fun c8 => ?_) (fun c8 => ?_)
  ·
    have r9 : R (0) (0) v4 := ⟨by omega, by omega⟩
    refine r_iconst S dX12_thinks_17 (by decide) (fun v10 z11 => ?_)
    have r12 := R_eq z11
    refine r_goto (tgt := 22) S dX12_thinks_18 (by decide) ?_
    refine r_ki (q_V (As := [.int v10]) (rest := []) (K := 38) (ci := 10) S X2 (c_X12_throwsIf l G τ hI v10 (R_of (lo := 0) (hi := 1) r12 rfl)) ck12_255 (Nat.le_of_ble_eq_true rfl) rfl (fun _ => ⟨_, rfl⟩) ⟨_, _, rfl⟩ ⟨Nat.le_of_ble_eq_true rfl, Nat.le_of_ble_eq_true rfl⟩ rfl hl.1 rfl (Nat.le_of_ble_eq_true rfl) dX12_thinks_22 ⟨Nat.le_refl 0, Nat.le_refl 0⟩) X2 (fun v16 t15 H lc q13 X14 => ?_)
    unfold po_X12_throwsIf at q13
    obtain ⟨q17, q18, q19, q20, q21⟩ := q13
    have F22 : Fr [(131, 0)] [] τ t15 := Fr_call Fr_rfl q18 (by decide)
    refine r_if_eq (tgt := 32) S dX12_thinks_25 (by decide) (fun c23 => ?_) (fun c23 => ?_)
    ·
      exfalso; omega
    ·
      have r26 : R (1) (1) v16 := ⟨by omega, by omega⟩
      have p27 := q20 (by omega)
      have r28 : R (1) (1) v10 := ⟨by omega, by omega⟩
      refine r_iconst S dX12_thinks_28 (by decide) (fun v29 z30 => ?_)
      have r31 := R_eq z30
      refine r_goto (tgt := 47) S dX12_thinks_29 (by decide) ?_
      exact r_ret S hr hlk X14 ⟨q17, F22⟩ rfl dX12_thinks_47
  ·
    have r32 : R (1) (1) v4 := ⟨by omega, by omega⟩
    obtain ⟨p33, p34⟩ := q7 (by omega)
    have r35 : R (0) (9) a0 := ⟨by omega, by omega⟩
    obtain ⟨v36, z37⟩ : ∃ x, τ 133 1 = x := ⟨_, rfl⟩
    rw [z37] at p34
    refine r_aload_n S dX12_thinks_9 rfl (lv_at hl 0 rfl) ?_
    refine r_iload_n S dX12_thinks_10 rfl (lv_at hl 2 rfl) ?_
    refine r_ki (q_V (As := [.int a1]) (rest := [.ref (G.2.2.2.1 131)]) (K := 38) (ci := 10) S X2 (c_X12_isAsk l G τ hI a1 h_a1) ck12_266 (Nat.le_of_ble_eq_true rfl) rfl (fun _ => ⟨_, rfl⟩) ⟨_, _, rfl⟩ ⟨Nat.le_of_ble_eq_true rfl, Nat.le_of_ble_eq_true rfl⟩ rfl hl.1 rfl (Nat.le_of_ble_eq_true rfl) dX12_thinks_11 ⟨Nat.le_refl 0, Nat.le_refl 0⟩) X2 (fun v41 t40 H lc q38 X39 => ?_)
    unfold po_X12_isAsk at q38
    obtain ⟨q42, q43, q44⟩ := q38
    rw [q42] at X39
    refine r_if_ne (tgt := 21) S dX12_thinks_14 (by decide) (fun c45 => ?_) (fun c45 => ?_)
    ·
      have r46 : R (1) (1) v41 := ⟨by omega, by omega⟩
      have p47 := q44 (by omega)
      have r48 : R (0) (8) a1 := ⟨by omega, by omega⟩
      refine r_iconst S dX12_thinks_21 (by decide) (fun v49 z50 => ?_)
      have r51 := R_eq z50
      refine r_ki (q_V (As := [.int v49]) (rest := []) (K := 38) (ci := 10) S X39 (c_X12_throwsIf l G τ hI v49 (R_of (lo := 0) (hi := 1) r51 rfl)) ck12_255 (Nat.le_of_ble_eq_true rfl) rfl (fun _ => ⟨_, rfl⟩) ⟨_, _, rfl⟩ ⟨Nat.le_of_ble_eq_true rfl, Nat.le_of_ble_eq_true rfl⟩ rfl hl.1 rfl (Nat.le_of_ble_eq_true rfl) dX12_thinks_22 ⟨Nat.le_refl 0, Nat.le_refl 0⟩) X39 (fun v55 t54 H lc q52 X53 => ?_)
      unfold po_X12_throwsIf at q52
      obtain ⟨q56, q57, q58, q59, q60⟩ := q52
      have F61 : Fr [(131, 0)] [] τ t54 := Fr_call Fr_rfl q57 (by decide)
      refine r_if_eq (tgt := 32) S dX12_thinks_25 (by decide) (fun c62 => ?_) (fun c62 => ?_)
      ·
        have r63 : R (0) (0) v55 := ⟨by omega, by omega⟩
        have p64 := q60 (by omega)
        have r65 : R (0) (0) v49 := ⟨by omega, by omega⟩
        refine r_aload_n S dX12_thinks_32 rfl (lv_at hl 0 rfl) ?_
        refine r_get (K := 38) (v := .ref (G.2.2.2.1 133)) S X53 (Nat.le_of_ble_eq_true rfl) rfl lk12_33_10 (fun _ => ⟨_, rfl, rfl⟩) dX12_thinks_33 ?_
        refine r_sipush S dX12_thinks_36 (by decide) (fun v66 z67 => ?_)
        have r68 := R_eq z67
        refine r_bipush S dX12_thinks_39 (by decide) (fun v69 z70 => ?_)
        have r71 := R_eq z70
        refine r_iload_n S dX12_thinks_41 rfl (lv_at hl 1 rfl) ?_
        refine r_imul S dX12_thinks_42 (fun v72 z73 => ?_)
        obtain ⟨e74, r75⟩ := i_mul (lo := 0) (hi := 81) z73 r71 r35 rfl rfl
        have e76 : v72.toInt = 9 * a0.toInt := by rw [e74, show v69.toInt = 9 by omega]
        refine r_iadd S dX12_thinks_43 (fun v77 z78 => ?_)
        obtain ⟨e79, r80⟩ := i_add (lo := 142) (hi := 223) z78 r68 r75 rfl
        refine r_iload_n S dX12_thinks_44 rfl (lv_at hl 2 rfl) ?_
        refine r_iadd S dX12_thinks_45 (fun v81 z82 => ?_)
        obtain ⟨e83, r84⟩ := i_add (lo := 142) (hi := 231) z82 r80 r48 rfl
        refine r_aldn (n := 513) (K := 40) S X53 (Nat.le_of_ble_eq_true rfl) rfl (fun _ => rfl) (ix_of r84 rfl) dX12_thinks_46 (fun v85 z86 => ?_)
        have r87 : R (-9) (9) v85 := rds (K := 40) (a := 142) (n := 90) q56 rfl z86 (R_of r84 rfl) (by decide +kernel)
        have g88 : Rg 40 v81.toNatClampNeg v85 := rd q56 rfl z86
        exact r_ret S hr hlk X53 ⟨q56, F61⟩ rfl dX12_thinks_47
      ·
        exfalso; omega
    ·
      have r91 : R (0) (0) v41 := ⟨by omega, by omega⟩
      refine r_iconst S dX12_thinks_17 (by decide) (fun v92 z93 => ?_)
      have r94 := R_eq z93
      refine r_goto (tgt := 22) S dX12_thinks_18 (by decide) ?_
      refine r_ki (q_V (As := [.int v92]) (rest := []) (K := 38) (ci := 10) S X39 (c_X12_throwsIf l G τ hI v92 (R_of (lo := 0) (hi := 1) r94 rfl)) ck12_255 (Nat.le_of_ble_eq_true rfl) rfl (fun _ => ⟨_, rfl⟩) ⟨_, _, rfl⟩ ⟨Nat.le_of_ble_eq_true rfl, Nat.le_of_ble_eq_true rfl⟩ rfl hl.1 rfl (Nat.le_of_ble_eq_true rfl) dX12_thinks_22 ⟨Nat.le_refl 0, Nat.le_refl 0⟩) X39 (fun v98 t97 H lc q95 X96 => ?_)
      unfold po_X12_throwsIf at q95
      obtain ⟨q99, q100, q101, q102, q103⟩ := q95
      have F104 : Fr [(131, 0)] [] τ t97 := Fr_call Fr_rfl q100 (by decide)
      refine r_if_eq (tgt := 32) S dX12_thinks_25 (by decide) (fun c105 => ?_) (fun c105 => ?_)
      ·
        exfalso; omega
      ·
        have r108 : R (1) (1) v98 := ⟨by omega, by omega⟩
        have p109 := q102 (by omega)
        have r110 : R (1) (1) v92 := ⟨by omega, by omega⟩
        refine r_iconst S dX12_thinks_28 (by decide) (fun v111 z112 => ?_)
        have r113 := R_eq z112
        refine r_goto (tgt := 47) S dX12_thinks_29 (by decide) ?_
        exact r_ret S hr hlk X96 ⟨q99, F104⟩ rfl dX12_thinks_47
def po_X12_says (τ : Tau)  (a0 a1 : Int32)   (r : Int32) (u : Tau) : Prop := Inv u ∧ Fr [(131, 0)] [] τ u
set_option maxHeartbeats 4000000 in
set_option maxRecDepth 100000 in
theorem c_X12_says (l : Launch) (G : Gx) (τ : Tau) (hI : Inv τ) (a0 : Int32) (a1 : Int32) (h_a0 : R (-2147483648) (2147483647) a0) (h_a1 : R (-2147483648) (2147483647) a1) : Ci l G yX12_says cX12_says 3 (some .int) 3 66 [.ref (G.2.2.2.1 131), .int a0, .int a1] τ (po_X12_says τ  a0 a1  ) := by
  unfold Ci
  refine C_of (own := RX12) (by decide) rfl (Nat.le_of_ble_eq_true rfl) ?_
  intro p e s m below meth c ls S hr hlk X hl
  have hl : lv_has ls 3 [(0, .ref (G.2.2.2.1 131)), (1, .int a0), (2, .int a1)] := hl
  refine r_aload_n S dX12_says_0 rfl (lv_at hl 0 rfl) ?_
  refine r_aload_n S dX12_says_1 rfl (lv_at hl 0 rfl) ?_
  refine r_iload_n S dX12_says_2 rfl (lv_at hl 1 rfl) ?_
  refine r_ki (q_V (As := [.int a0]) (rest := [.ref (G.2.2.2.1 131)]) (K := 38) (ci := 10) S X (c_X12_isMan l G τ hI a0 h_a0) ck12_252 (Nat.le_of_ble_eq_true rfl) rfl (fun _ => ⟨_, rfl⟩) ⟨_, _, rfl⟩ ⟨Nat.le_of_ble_eq_true rfl, Nat.le_of_ble_eq_true rfl⟩ rfl hl.1 rfl (Nat.le_of_ble_eq_true rfl) dX12_says_3 ⟨Nat.le_refl 0, Nat.le_refl 0⟩) X (fun v4 t3 H lc q1 X2 => ?_)
  unfold po_X12_isMan at q1
  obtain ⟨q5, q6, q7⟩ := q1
  rw [q5] at X2
  rw [q5] at q7
  refine r_if_eq (tgt := 17) S dX12_says_6 (by decide) (fun c8 => ?_) (fun c8 => ?_)
  ·
    have r9 : R (0) (0) v4 := ⟨by omega, by omega⟩
    refine r_iconst S dX12_says_17 (by decide) (fun v10 z11 => ?_)
    have r12 := R_eq z11
    refine r_goto (tgt := 22) S dX12_says_18 (by decide) ?_
    refine r_ki (q_V (As := [.int v10]) (rest := []) (K := 38) (ci := 10) S X2 (c_X12_throwsIf l G τ hI v10 (R_of (lo := 0) (hi := 1) r12 rfl)) ck12_255 (Nat.le_of_ble_eq_true rfl) rfl (fun _ => ⟨_, rfl⟩) ⟨_, _, rfl⟩ ⟨Nat.le_of_ble_eq_true rfl, Nat.le_of_ble_eq_true rfl⟩ rfl hl.1 rfl (Nat.le_of_ble_eq_true rfl) dX12_says_22 ⟨Nat.le_refl 0, Nat.le_refl 0⟩) X2 (fun v16 t15 H lc q13 X14 => ?_)
    unfold po_X12_throwsIf at q13
    obtain ⟨q17, q18, q19, q20, q21⟩ := q13
    have F22 : Fr [(131, 0)] [] τ t15 := Fr_call Fr_rfl q18 (by decide)
    refine r_if_eq (tgt := 32) S dX12_says_25 (by decide) (fun c23 => ?_) (fun c23 => ?_)
    ·
      exfalso; omega
    ·
      have r26 : R (1) (1) v16 := ⟨by omega, by omega⟩
      have p27 := q20 (by omega)
      have r28 : R (1) (1) v10 := ⟨by omega, by omega⟩
      refine r_iconst S dX12_says_28 (by decide) (fun v29 z30 => ?_)
      have r31 := R_eq z30
      refine r_goto (tgt := 38) S dX12_says_29 (by decide) ?_
      exact r_ret S hr hlk X14 ⟨q17, F22⟩ rfl dX12_says_38
  ·
    have r32 : R (1) (1) v4 := ⟨by omega, by omega⟩
    obtain ⟨p33, p34⟩ := q7 (by omega)
    have r35 : R (0) (9) a0 := ⟨by omega, by omega⟩
    obtain ⟨v36, z37⟩ : ∃ x, τ 133 1 = x := ⟨_, rfl⟩
    rw [z37] at p34
    refine r_aload_n S dX12_says_9 rfl (lv_at hl 0 rfl) ?_
    refine r_iload_n S dX12_says_10 rfl (lv_at hl 2 rfl) ?_
    refine r_ki (q_V (As := [.int a1]) (rest := [.ref (G.2.2.2.1 131)]) (K := 38) (ci := 10) S X2 (c_X12_isAsk l G τ hI a1 h_a1) ck12_266 (Nat.le_of_ble_eq_true rfl) rfl (fun _ => ⟨_, rfl⟩) ⟨_, _, rfl⟩ ⟨Nat.le_of_ble_eq_true rfl, Nat.le_of_ble_eq_true rfl⟩ rfl hl.1 rfl (Nat.le_of_ble_eq_true rfl) dX12_says_11 ⟨Nat.le_refl 0, Nat.le_refl 0⟩) X2 (fun v41 t40 H lc q38 X39 => ?_)
    unfold po_X12_isAsk at q38
    obtain ⟨q42, q43, q44⟩ := q38
    rw [q42] at X39
    refine r_if_ne (tgt := 21) S dX12_says_14 (by decide) (fun c45 => ?_) (fun c45 => ?_)
    ·
      have r46 : R (1) (1) v41 := ⟨by omega, by omega⟩
      have p47 := q44 (by omega)
      have r48 : R (0) (8) a1 := ⟨by omega, by omega⟩
      refine r_iconst S dX12_says_21 (by decide) (fun v49 z50 => ?_)
      have r51 := R_eq z50
      refine r_ki (q_V (As := [.int v49]) (rest := []) (K := 38) (ci := 10) S X39 (c_X12_throwsIf l G τ hI v49 (R_of (lo := 0) (hi := 1) r51 rfl)) ck12_255 (Nat.le_of_ble_eq_true rfl) rfl (fun _ => ⟨_, rfl⟩) ⟨_, _, rfl⟩ ⟨Nat.le_of_ble_eq_true rfl, Nat.le_of_ble_eq_true rfl⟩ rfl hl.1 rfl (Nat.le_of_ble_eq_true rfl) dX12_says_22 ⟨Nat.le_refl 0, Nat.le_refl 0⟩) X39 (fun v55 t54 H lc q52 X53 => ?_)
      unfold po_X12_throwsIf at q52
      obtain ⟨q56, q57, q58, q59, q60⟩ := q52
      have F61 : Fr [(131, 0)] [] τ t54 := Fr_call Fr_rfl q57 (by decide)
      refine r_if_eq (tgt := 32) S dX12_says_25 (by decide) (fun c62 => ?_) (fun c62 => ?_)
      ·
        have r63 : R (0) (0) v55 := ⟨by omega, by omega⟩
        have p64 := q60 (by omega)
        have r65 : R (0) (0) v49 := ⟨by omega, by omega⟩
        refine r_aload_n S dX12_says_32 rfl (lv_at hl 0 rfl) ?_
        refine r_iload_n S dX12_says_33 rfl (lv_at hl 1 rfl) ?_
        refine r_iload_n S dX12_says_34 rfl (lv_at hl 2 rfl) ?_
        refine r_ki (q_V (As := [.int a0, .int a1]) (rest := []) (K := 38) (ci := 10) S X53 (c_X12_saysOf l G t54 q56 a0 a1 r35 r48) ck12_269 (Nat.le_of_ble_eq_true rfl) rfl (fun _ => ⟨_, rfl⟩) ⟨_, _, rfl⟩ ⟨Nat.le_of_ble_eq_true rfl, Nat.le_of_ble_eq_true rfl⟩ rfl hl.1 rfl (Nat.le_of_ble_eq_true rfl) dX12_says_35 ⟨Nat.le_refl 0, Nat.le_refl 0⟩) X53 (fun v69 t68 H lc q66 X67 => ?_)
        unfold po_X12_saysOf at q66
        obtain ⟨q70, q71⟩ := q66
        rw [q70] at X67
        exact r_ret S hr hlk X67 ⟨q56, F61⟩ rfl dX12_says_38
      ·
        exfalso; omega
    ·
      have r74 : R (0) (0) v41 := ⟨by omega, by omega⟩
      refine r_iconst S dX12_says_17 (by decide) (fun v75 z76 => ?_)
      have r77 := R_eq z76
      refine r_goto (tgt := 22) S dX12_says_18 (by decide) ?_
      refine r_ki (q_V (As := [.int v75]) (rest := []) (K := 38) (ci := 10) S X39 (c_X12_throwsIf l G τ hI v75 (R_of (lo := 0) (hi := 1) r77 rfl)) ck12_255 (Nat.le_of_ble_eq_true rfl) rfl (fun _ => ⟨_, rfl⟩) ⟨_, _, rfl⟩ ⟨Nat.le_of_ble_eq_true rfl, Nat.le_of_ble_eq_true rfl⟩ rfl hl.1 rfl (Nat.le_of_ble_eq_true rfl) dX12_says_22 ⟨Nat.le_refl 0, Nat.le_refl 0⟩) X39 (fun v81 t80 H lc q78 X79 => ?_)
      unfold po_X12_throwsIf at q78
      obtain ⟨q82, q83, q84, q85, q86⟩ := q78
      have F87 : Fr [(131, 0)] [] τ t80 := Fr_call Fr_rfl q83 (by decide)
      refine r_if_eq (tgt := 32) S dX12_says_25 (by decide) (fun c88 => ?_) (fun c88 => ?_)
      ·
        exfalso; omega
      ·
        have r91 : R (1) (1) v81 := ⟨by omega, by omega⟩
        have p92 := q85 (by omega)
        have r93 : R (1) (1) v75 := ⟨by omega, by omega⟩
        refine r_iconst S dX12_says_28 (by decide) (fun v94 z95 => ?_)
        have r96 := R_eq z95
        refine r_goto (tgt := 38) S dX12_says_29 (by decide) ?_
        exact r_ret S hr hlk X79 ⟨q82, F87⟩ rfl dX12_says_38
def po_X12_apart (τ : Tau)     (r : Int32) (u : Tau) : Prop := u = τ
set_option maxHeartbeats 4000000 in
set_option maxRecDepth 100000 in
theorem c_X12_apart (l : Launch) (G : Gx) (τ : Tau) (hI : Inv τ) : Ci l G yX12_apart cX12_apart 4 (some .int) 1 21 [.ref (G.2.2.2.1 131)] τ (po_X12_apart τ    ) := by
  unfold Ci
  refine C_of (own := RX12) (by decide) rfl (Nat.le_of_ble_eq_true rfl) ?_
  intro p e s m below meth c ls S hr hlk X hl
  have hl : lv_has ls 4 [(0, .ref (G.2.2.2.1 131))] := hl
  refine r_iconst S dX12_apart_0 (by decide) (fun v1 z2 => ?_)
  have r3 := R_eq z2
  refine r_istore_n (lv' := [(1, .int v1), (0, .ref (G.2.2.2.1 131))]) S dX12_apart_1 rfl hl (by decide) rfl (fun ls hl => ?_)
  refine r_iconst S dX12_apart_2 (by decide) (fun v4 z5 => ?_)
  have r6 := R_eq z5
  refine r_istore_n (lv' := [(2, .int v4), (1, .int v1), (0, .ref (G.2.2.2.1 131))]) S dX12_apart_3 rfl hl (by decide) rfl (fun ls hl => ?_)
  have L5884 : ∀ (n : Nat) (H : Heap) (lc : List Loc) (ls : Array Slot) (i5879 : Int32) (i5881 : Int32), Xd G s H lc τ → R (-2147483648) (2147483647) i5879 → R (0) (10) i5881 → lv_has ls 4 [(0, .ref (G.2.2.2.1 131)), (1, .int i5879), (2, .int i5881)] → (10 - i5881.toInt).toNat < n → W p l e (Rm 1 21) s m ([.ref (G.2.2.2.1 131)] : List Value).toArray below meth c H lc 0 0 (MQ below (va_Qi (po_X12_apart τ    ) (Bs G) G.2.2.2.2) ([.ref (G.2.2.2.1 131)] : List Value).toArray s 0 0 G.2.2.2.2) (F0 m 4 ls []) := by
    intro n
    induction n with
    | zero => intros; omega
    | succ n ih5885 =>
      intro H lc ls i5879 i5881 X5883 r5880 r5882 hl hm
      refine r_iload_n S dX12_apart_4 rfl (lv_at hl 2 rfl) ?_
      refine r_aload_n S dX12_apart_5 rfl (lv_at hl 0 rfl) ?_
      refine r_get (K := 38) (v := .ref (G.2.2.2.1 133)) S X5883 (Nat.le_of_ble_eq_true rfl) rfl lk12_33_10 (fun _ => ⟨_, rfl, rfl⟩) dX12_apart_6 ?_
      refine r_iconst S dX12_apart_9 (by decide) (fun v5886 z5887 => ?_)
      have r5888 := R_eq z5887
      refine r_aldn (n := 513) (K := 40) S X5883 (Nat.le_of_ble_eq_true rfl) rfl (fun _ => rfl) (ix_of r5888 rfl) dX12_apart_10 (fun v5889 z5890 => ?_)
      have r5891 : R (0) (10) v5889 := rds (K := 40) (a := 1) (n := 1) hI rfl z5890 (R_of r5888 rfl) (by decide +kernel)
      refine r_icmp_ge (tgt := 70) S dX12_apart_11 (by decide) (fun c5892 => ?_) (fun c5892 => ?_)
      ·
        refine r_iload_n S dX12_apart_70 rfl (lv_at hl 1 rfl) ?_
        exact r_ret S hr hlk X5883 rfl rfl dX12_apart_71
      ·
        have r5893 : R (0) (9) i5881 := ⟨by omega, by omega⟩
        have r5894 : R (1) (10) v5889 := ⟨by omega, by omega⟩
        refine r_iconst S dX12_apart_14 (by decide) (fun v5895 z5896 => ?_)
        have r5897 := R_eq z5896
        refine r_istore_n (lv' := [(3, .int v5895), (0, .ref (G.2.2.2.1 131)), (1, .int i5879), (2, .int i5881)]) S dX12_apart_15 rfl hl (by decide) rfl (fun ls hl => ?_)
        have L6377 : ∀ (n : Nat) (H : Heap) (lc : List Loc) (ls : Array Slot) (i6372 : Int32) (i6374 : Int32), Xd G s H lc τ → R (-2147483648) (2147483647) i6372 → R (0) (9) i6374 → lv_has ls 4 [(0, .ref (G.2.2.2.1 131)), (1, .int i6372), (2, .int i5881), (3, .int i6374)] → (9 - i6374.toInt).toNat < n → W p l e (Rm 1 21) s m ([.ref (G.2.2.2.1 131)] : List Value).toArray below meth c H lc 0 0 (MQ below (va_Qi (po_X12_apart τ    ) (Bs G) G.2.2.2.2) ([.ref (G.2.2.2.1 131)] : List Value).toArray s 0 0 G.2.2.2.2) (F0 m 16 ls []) := by
          intro n
          induction n with
          | zero => intros; omega
          | succ n ih6378 =>
            intro H lc ls i6372 i6374 X6376 r6373 r6375 hl hm
            refine r_iload_n S dX12_apart_16 rfl (lv_at hl 3 rfl) ?_
            refine r_iload_n S dX12_apart_17 rfl (lv_at hl 2 rfl) ?_
            refine r_icmp_ge (tgt := 64) S dX12_apart_18 (by decide) (fun c6379 => ?_) (fun c6379 => ?_)
            ·
              refine r_iinc (k := 2) S dX12_apart_64 hl rfl (by decide) (by decide) (fun v6380 d6381 ls z6382 z6383 hl => ?_)
              obtain ⟨e6384, r6385⟩ := i_add (lo := 1) (hi := 10) z6382 r5893 (R_eq z6383) rfl
              have hl : lv_has ls 4 [(2, .int v6380), (0, .ref (G.2.2.2.1 131)), (1, .int i6372), (3, .int i6374)] := hl
              refine r_goto (tgt := 4) S dX12_apart_67 (by decide) ?_
              exact ih5885 _ _ _ i6372 v6380 X6376 r6373 (R_of r6385 rfl) (lv_sub hl [1, 2, 0] rfl) (by omega)
            ·
              have r6386 : R (0) (8) i6374 := ⟨by omega, by omega⟩
              have r6387 : R (1) (9) i5881 := ⟨by omega, by omega⟩
              refine r_iload_n S dX12_apart_21 rfl (lv_at hl 1 rfl) ?_
              refine r_aload_n S dX12_apart_22 rfl (lv_at hl 0 rfl) ?_
              refine r_get (K := 38) (v := .ref (G.2.2.2.1 133)) S X6376 (Nat.le_of_ble_eq_true rfl) rfl lk12_33_10 (fun _ => ⟨_, rfl, rfl⟩) dX12_apart_23 ?_
              refine r_bipush S dX12_apart_26 (by decide) (fun v6388 z6389 => ?_)
              have r6390 := R_eq z6389
              refine r_iload_n S dX12_apart_28 rfl (lv_at hl 2 rfl) ?_
              refine r_iadd S dX12_apart_29 (fun v6391 z6392 => ?_)
              obtain ⟨e6393, r6394⟩ := i_add (lo := 116) (hi := 124) z6392 r6390 r6387 rfl
              refine r_aldn (n := 513) (K := 40) S X6376 (Nat.le_of_ble_eq_true rfl) rfl (fun _ => rfl) (ix_of r6394 rfl) dX12_apart_30 (fun v6395 z6396 => ?_)
              have r6397 : R (0) (1023) v6395 := rds (K := 40) (a := 116) (n := 9) hI rfl z6396 (R_of r6394 rfl) (by decide +kernel)
              have g6398 : Rg 40 v6391.toNatClampNeg v6395 := rd hI rfl z6396
              refine r_iload_n S dX12_apart_31 rfl (lv_at hl 3 rfl) ?_
              refine r_ki (q_S (As := [.int v6395, .int i6374]) (rest := [.int i6372]) S X6376 (c_X12_bitOf l G τ hI v6395 i6374 (R_of (lo := -2147483648) (hi := 2147483647) r6397 rfl) (R_of (lo := -2147483648) (hi := 2147483647) r6386 rfl)) ck12_221 ⟨Nat.le_of_ble_eq_true rfl, Nat.le_of_ble_eq_true rfl⟩ rfl hl.1 rfl (Nat.le_of_ble_eq_true rfl) dX12_apart_32 ⟨Nat.le_refl 0, Nat.le_refl 0⟩) X6376 (fun v6402 t6401 H lc q6399 X6400 => ?_)
              unfold po_X12_bitOf at q6399
              obtain ⟨q6403, q6404⟩ := q6399
              rw [q6403] at X6400
              refine r_if_eq (tgt := 55) S dX12_apart_35 (by decide) (fun c6405 => ?_) (fun c6405 => ?_)
              ·
                have r6406 : R (0) (0) v6402 := ⟨by omega, by omega⟩
                refine r_iconst S dX12_apart_55 (by decide) (fun v6407 z6408 => ?_)
                have r6409 := R_eq z6408
                refine r_iadd S dX12_apart_56 (fun v6410 z6411 => ?_)
                obtain ⟨e6412, r6413⟩ := i_add (lo := -2147483648) (hi := 2147483647) z6411 r6373 r6409 rfl
                refine r_istore_n (lv' := [(1, .int v6410), (0, .ref (G.2.2.2.1 131)), (2, .int i5881), (3, .int i6374)]) S dX12_apart_57 rfl hl (by decide) rfl (fun ls hl => ?_)
                refine r_iinc (k := 3) S dX12_apart_58 hl rfl (by decide) (by decide) (fun v6414 d6415 ls z6416 z6417 hl => ?_)
                obtain ⟨e6418, r6419⟩ := i_add (lo := 1) (hi := 9) z6416 r6386 (R_eq z6417) rfl
                have hl : lv_has ls 4 [(3, .int v6414), (1, .int v6410), (0, .ref (G.2.2.2.1 131)), (2, .int i5881)] := hl
                refine r_goto (tgt := 16) S dX12_apart_61 (by decide) ?_
                exact ih6378 _ _ _ v6410 v6414 X6400 r6413 (R_of r6419 rfl) (lv_sub hl [2, 1, 3, 0] rfl) (by omega)
              ·
                have r6420 : R (1) (1) v6402 := ⟨by omega, by omega⟩
                refine r_aload_n S dX12_apart_38 rfl (lv_at hl 0 rfl) ?_
                refine r_iload_n S dX12_apart_39 rfl (lv_at hl 2 rfl) ?_
                refine r_ki (q_V (As := [.int i5881]) (rest := [.int i6372]) (K := 38) (ci := 10) S X6400 (c_X12_bankOf l G τ hI i5881 (R_of (lo := -2147483648) (hi := 2147483647) r6387 rfl)) ck12_259 (Nat.le_of_ble_eq_true rfl) rfl (fun _ => ⟨_, rfl⟩) ⟨_, _, rfl⟩ ⟨Nat.le_of_ble_eq_true rfl, Nat.le_of_ble_eq_true rfl⟩ rfl hl.1 rfl (Nat.le_of_ble_eq_true rfl) dX12_apart_40 ⟨Nat.le_refl 0, Nat.le_refl 0⟩) X6400 (fun v6424 t6423 H lc q6421 X6422 => ?_)
                unfold po_X12_bankOf at q6421
                obtain ⟨q6425, q6426⟩ := q6421
                rw [q6425] at X6422
                refine r_aload_n S dX12_apart_43 rfl (lv_at hl 0 rfl) ?_
                refine r_iload_n S dX12_apart_44 rfl (lv_at hl 3 rfl) ?_
                refine r_ki (q_V (As := [.int i6374]) (rest := [.int v6424, .int i6372]) (K := 38) (ci := 10) S X6422 (c_X12_bankOf l G τ hI i6374 (R_of (lo := -2147483648) (hi := 2147483647) r6386 rfl)) ck12_259 (Nat.le_of_ble_eq_true rfl) rfl (fun _ => ⟨_, rfl⟩) ⟨_, _, rfl⟩ ⟨Nat.le_of_ble_eq_true rfl, Nat.le_of_ble_eq_true rfl⟩ rfl hl.1 rfl (Nat.le_of_ble_eq_true rfl) dX12_apart_45 ⟨Nat.le_refl 0, Nat.le_refl 0⟩) X6422 (fun v6430 t6429 H lc q6427 X6428 => ?_)
                unfold po_X12_bankOf at q6427
                obtain ⟨q6431, q6432⟩ := q6427
                rw [q6431] at X6428
                refine r_icmp_eq (tgt := 55) S dX12_apart_48 (by decide) (fun c6433 => ?_) (fun c6433 => ?_)
                ·
                  refine r_iconst S dX12_apart_55 (by decide) (fun v6434 z6435 => ?_)
                  have r6436 := R_eq z6435
                  refine r_iadd S dX12_apart_56 (fun v6437 z6438 => ?_)
                  obtain ⟨e6439, r6440⟩ := i_add (lo := -2147483648) (hi := 2147483647) z6438 r6373 r6436 rfl
                  refine r_istore_n (lv' := [(1, .int v6437), (0, .ref (G.2.2.2.1 131)), (2, .int i5881), (3, .int i6374)]) S dX12_apart_57 rfl hl (by decide) rfl (fun ls hl => ?_)
                  refine r_iinc (k := 3) S dX12_apart_58 hl rfl (by decide) (by decide) (fun v6441 d6442 ls z6443 z6444 hl => ?_)
                  obtain ⟨e6445, r6446⟩ := i_add (lo := 1) (hi := 9) z6443 r6386 (R_eq z6444) rfl
                  have hl : lv_has ls 4 [(3, .int v6441), (1, .int v6437), (0, .ref (G.2.2.2.1 131)), (2, .int i5881)] := hl
                  refine r_goto (tgt := 16) S dX12_apart_61 (by decide) ?_
                  exact ih6378 _ _ _ v6437 v6441 X6428 r6440 (R_of r6446 rfl) (lv_sub hl [2, 1, 3, 0] rfl) (by omega)
                ·
                  refine r_iconst S dX12_apart_51 (by decide) (fun v6447 z6448 => ?_)
                  have r6449 := R_eq z6448
                  refine r_goto (tgt := 56) S dX12_apart_52 (by decide) ?_
                  refine r_iadd S dX12_apart_56 (fun v6450 z6451 => ?_)
                  have r6452 := R_any v6450
                  refine r_istore_n (lv' := [(1, .int v6450), (0, .ref (G.2.2.2.1 131)), (2, .int i5881), (3, .int i6374)]) S dX12_apart_57 rfl hl (by decide) rfl (fun ls hl => ?_)
                  refine r_iinc (k := 3) S dX12_apart_58 hl rfl (by decide) (by decide) (fun v6453 d6454 ls z6455 z6456 hl => ?_)
                  obtain ⟨e6457, r6458⟩ := i_add (lo := 1) (hi := 9) z6455 r6386 (R_eq z6456) rfl
                  have hl : lv_has ls 4 [(3, .int v6453), (1, .int v6450), (0, .ref (G.2.2.2.1 131)), (2, .int i5881)] := hl
                  refine r_goto (tgt := 16) S dX12_apart_61 (by decide) ?_
                  exact ih6378 _ _ _ v6450 v6453 X6428 r6452 (R_of r6458 rfl) (lv_sub hl [2, 1, 3, 0] rfl) (by omega)
        exact L6377 _ _ _ _ i5879 v5895 X5883 r5880 (R_of r5897 rfl) (lv_sub hl [1, 2, 3, 0] rfl) (Nat.lt_succ_self _)
  exact L5884 _ _ _ _ v1 v4 X (R_of r3 rfl) (R_of r6 rfl) (lv_sub hl [2, 1, 0] rfl) (Nat.lt_succ_self _)
def po_X12_now (τ : Tau)  (a0 : Int32)   (r : Int32) (u : Tau) : Prop := Inv u ∧ Fr [(131, 0)] [] τ u
set_option maxHeartbeats 4000000 in
set_option maxRecDepth 100000 in
theorem c_X12_now (l : Launch) (G : Gx) (τ : Tau) (hI : Inv τ) (a0 : Int32) (h_a0 : R (-2147483648) (2147483647) a0) : Ci l G yX12_now cX12_now 2 (some .int) 2 44 [.ref (G.2.2.2.1 131), .int a0] τ (po_X12_now τ  a0  ) := by
  unfold Ci
  refine C_of (own := RX12) (by decide) rfl (Nat.le_of_ble_eq_true rfl) ?_
  intro p e s m below meth c ls S hr hlk X hl
  have hl : lv_has ls 2 [(0, .ref (G.2.2.2.1 131)), (1, .int a0)] := hl
  refine r_aload_n S dX12_now_0 rfl (lv_at hl 0 rfl) ?_
  refine r_iconst S dX12_now_1 (by decide) (fun v1 z2 => ?_)
  have r3 := R_eq z2
  refine r_put (K := 38) (ty := .int) S X (Nat.le_of_ble_eq_true rfl) rfl lk12_1_10 (fun _ => ⟨_, rfl, Nat.le_of_ble_eq_true rfl, rfl⟩) (fun _ _ _ h => by cases h; exact ⟨rfl, rfl⟩) rfl rfl dX12_now_2 (fun t4 H lc M5 X6 => ?_)
  have I7 := Inv_mu hI M5 (R_any v1)
  have F8 : Fr [(131, 0)] [] τ t4 := Fr_mu Fr_rfl M5 (by decide)
  refine r_iload_n S dX12_now_5 rfl (lv_at hl 1 rfl) ?_
  rcases (show (a0.toInt < 0 ∨ 7 < a0.toInt) ∨ a0.toInt = 0 ∨ a0.toInt = 1 ∨ a0.toInt = 2 ∨ a0.toInt = 3 ∨ a0.toInt = 4 ∨ a0.toInt = 5 ∨ a0.toInt = 6 ∨ a0.toInt = 7 by omega) with c9 | c9 | c9 | c9 | c9 | c9 | c9 | c9 | c9
  ·
    refine lv_tableOut (tgt := 130) S.1.1 S.1.2.1 dX12_now_6 c9 (by decide) ?_
    refine r_iconst S dX12_now_130 (by decide) (fun v10 z11 => ?_)
    have r12 := R_eq z11
    exact r_ret S hr hlk X6 ⟨I7, F8⟩ rfl dX12_now_131
  ·
    refine lv_tableIn (tgt := 52) S.1.1 S.1.2.1 dX12_now_6 (by omega) (by omega) (by rw [c9]; rfl) (by decide) ?_
    have r13 : R (0) (0) a0 := ⟨by omega, by omega⟩
    refine r_aload_n S dX12_now_52 rfl (lv_at hl 0 rfl) ?_
    refine r_get (K := 38) (v := .ref (G.2.2.2.1 133)) S X6 (Nat.le_of_ble_eq_true rfl) rfl lk12_33_10 (fun _ => ⟨_, rfl, rfl⟩) dX12_now_53 ?_
    refine r_bipush S dX12_now_56 (by decide) (fun v14 z15 => ?_)
    have r16 := R_eq z15
    refine r_aldn (n := 513) (K := 40) S X6 (Nat.le_of_ble_eq_true rfl) rfl (fun _ => rfl) (ix_of r16 rfl) dX12_now_58 (fun v17 z18 => ?_)
    have r19 : R (0) (1) v17 := rds (K := 40) (a := 125) (n := 1) I7 rfl z18 (R_of r16 rfl) (by decide +kernel)
    exact r_ret S hr hlk X6 ⟨I7, F8⟩ rfl dX12_now_59
  ·
    refine lv_tableIn (tgt := 60) S.1.1 S.1.2.1 dX12_now_6 (by omega) (by omega) (by rw [c9]; rfl) (by decide) ?_
    have r20 : R (1) (1) a0 := ⟨by omega, by omega⟩
    refine r_aload_n S dX12_now_60 rfl (lv_at hl 0 rfl) ?_
    refine r_get (K := 38) (v := .ref (G.2.2.2.1 133)) S X6 (Nat.le_of_ble_eq_true rfl) rfl lk12_33_10 (fun _ => ⟨_, rfl, rfl⟩) dX12_now_61 ?_
    refine r_iconst S dX12_now_64 (by decide) (fun v21 z22 => ?_)
    have r23 := R_eq z22
    refine r_aldn (n := 513) (K := 40) S X6 (Nat.le_of_ble_eq_true rfl) rfl (fun _ => rfl) (ix_of r23 rfl) dX12_now_65 (fun v24 z25 => ?_)
    have r26 : R (0) (9) v24 := rds (K := 40) (a := 0) (n := 1) I7 rfl z25 (R_of r23 rfl) (by decide +kernel)
    refine r_if_ne (tgt := 73) S dX12_now_66 (by decide) (fun c27 => ?_) (fun c27 => ?_)
    ·
      have r28 : R (1) (9) v24 := ⟨by omega, by omega⟩
      refine r_aload_n S dX12_now_73 rfl (lv_at hl 0 rfl) ?_
      refine r_get (K := 38) (v := .ref (G.2.2.2.1 133)) S X6 (Nat.le_of_ble_eq_true rfl) rfl lk12_33_10 (fun _ => ⟨_, rfl, rfl⟩) dX12_now_74 ?_
      refine r_bipush S dX12_now_77 (by decide) (fun v29 z30 => ?_)
      have r31 := R_eq z30
      refine r_aldn (n := 513) (K := 40) S X6 (Nat.le_of_ble_eq_true rfl) rfl (fun _ => rfl) (ix_of r31 rfl) dX12_now_79 (fun v32 z33 => ?_)
      have r34 : R (0) (8) v32 := rds (K := 40) (a := 126) (n := 1) I7 rfl z33 (R_of r31 rfl) (by decide +kernel)
      exact r_ret S hr hlk X6 ⟨I7, F8⟩ rfl dX12_now_80
    ·
      have r35 : R (0) (0) v24 := ⟨by omega, by omega⟩
      refine r_iconst S dX12_now_69 (by decide) (fun v36 z37 => ?_)
      have r38 := R_eq z37
      refine r_goto (tgt := 80) S dX12_now_70 (by decide) ?_
      exact r_ret S hr hlk X6 ⟨I7, F8⟩ rfl dX12_now_80
  ·
    refine lv_tableIn (tgt := 81) S.1.1 S.1.2.1 dX12_now_6 (by omega) (by omega) (by rw [c9]; rfl) (by decide) ?_
    have r39 : R (2) (2) a0 := ⟨by omega, by omega⟩
    refine r_aload_n S dX12_now_81 rfl (lv_at hl 0 rfl) ?_
    refine r_get (K := 38) (v := .ref (G.2.2.2.1 133)) S X6 (Nat.le_of_ble_eq_true rfl) rfl lk12_33_10 (fun _ => ⟨_, rfl, rfl⟩) dX12_now_82 ?_
    refine r_bipush S dX12_now_85 (by decide) (fun v40 z41 => ?_)
    have r42 := R_eq z41
    refine r_aldn (n := 513) (K := 40) S X6 (Nat.le_of_ble_eq_true rfl) rfl (fun _ => rfl) (ix_of r42 rfl) dX12_now_87 (fun v43 z44 => ?_)
    have r46 := R_any v43
    exact r_ret S hr hlk X6 ⟨I7, F8⟩ rfl dX12_now_88
  ·
    refine lv_tableIn (tgt := 89) S.1.1 S.1.2.1 dX12_now_6 (by omega) (by omega) (by rw [c9]; rfl) (by decide) ?_
    have r47 : R (3) (3) a0 := ⟨by omega, by omega⟩
    refine r_aload_n S dX12_now_89 rfl (lv_at hl 0 rfl) ?_
    refine r_get (K := 38) (v := .ref (G.2.2.2.1 133)) S X6 (Nat.le_of_ble_eq_true rfl) rfl lk12_33_10 (fun _ => ⟨_, rfl, rfl⟩) dX12_now_90 ?_
    refine r_sipush S dX12_now_93 (by decide) (fun v48 z49 => ?_)
    have r50 := R_eq z49
    refine r_aldn (n := 513) (K := 40) S X6 (Nat.le_of_ble_eq_true rfl) rfl (fun _ => rfl) (ix_of r50 rfl) dX12_now_96 (fun v51 z52 => ?_)
    have r54 := R_any v51
    exact r_ret S hr hlk X6 ⟨I7, F8⟩ rfl dX12_now_97
  ·
    refine lv_tableIn (tgt := 98) S.1.1 S.1.2.1 dX12_now_6 (by omega) (by omega) (by rw [c9]; rfl) (by decide) ?_
    have r55 : R (4) (4) a0 := ⟨by omega, by omega⟩
    refine r_aload_n S dX12_now_98 rfl (lv_at hl 0 rfl) ?_
    refine r_get (K := 38) (v := .ref (G.2.2.2.1 133)) S X6 (Nat.le_of_ble_eq_true rfl) rfl lk12_33_10 (fun _ => ⟨_, rfl, rfl⟩) dX12_now_99 ?_
    refine r_sipush S dX12_now_102 (by decide) (fun v56 z57 => ?_)
    have r58 := R_eq z57
    refine r_aldn (n := 513) (K := 40) S X6 (Nat.le_of_ble_eq_true rfl) rfl (fun _ => rfl) (ix_of r58 rfl) dX12_now_105 (fun v59 z60 => ?_)
    have r61 : R (0) (1023) v59 := rds (K := 40) (a := 129) (n := 1) I7 rfl z60 (R_of r58 rfl) (by decide +kernel)
    exact r_ret S hr hlk X6 ⟨I7, F8⟩ rfl dX12_now_106
  ·
    refine lv_tableIn (tgt := 107) S.1.1 S.1.2.1 dX12_now_6 (by omega) (by omega) (by rw [c9]; rfl) (by decide) ?_
    have r62 : R (5) (5) a0 := ⟨by omega, by omega⟩
    refine r_aload_n S dX12_now_107 rfl (lv_at hl 0 rfl) ?_
    refine r_get (K := 38) (v := .ref (G.2.2.2.1 133)) S X6 (Nat.le_of_ble_eq_true rfl) rfl lk12_33_10 (fun _ => ⟨_, rfl, rfl⟩) dX12_now_108 ?_
    refine r_sipush S dX12_now_111 (by decide) (fun v63 z64 => ?_)
    have r65 := R_eq z64
    refine r_aldn (n := 513) (K := 40) S X6 (Nat.le_of_ble_eq_true rfl) rfl (fun _ => rfl) (ix_of r65 rfl) dX12_now_114 (fun v66 z67 => ?_)
    have r68 : R (0) (1023) v66 := rds (K := 40) (a := 130) (n := 1) I7 rfl z67 (R_of r65 rfl) (by decide +kernel)
    exact r_ret S hr hlk X6 ⟨I7, F8⟩ rfl dX12_now_115
  ·
    refine lv_tableIn (tgt := 116) S.1.1 S.1.2.1 dX12_now_6 (by omega) (by omega) (by rw [c9]; rfl) (by decide) ?_
    have r69 : R (6) (6) a0 := ⟨by omega, by omega⟩
    refine r_aload_n S dX12_now_116 rfl (lv_at hl 0 rfl) ?_
    refine r_ki (q_V (As := []) (rest := []) (K := 38) (ci := 10) S X6 (c_X12_apart l G t4 I7 ) ck12_272 (Nat.le_of_ble_eq_true rfl) rfl (fun _ => ⟨_, rfl⟩) ⟨_, _, rfl⟩ ⟨Nat.le_of_ble_eq_true rfl, Nat.le_of_ble_eq_true rfl⟩ rfl hl.1 rfl (Nat.le_of_ble_eq_true rfl) dX12_now_117 ⟨Nat.le_refl 0, Nat.le_refl 0⟩) X6 (fun v73 t72 H lc q70 X71 => ?_)
    unfold po_X12_apart at q70
    have q74 := q70
    rw [q74] at X71
    have r75 := R_any v73
    exact r_ret S hr hlk X71 ⟨I7, F8⟩ rfl dX12_now_120
  ·
    refine lv_tableIn (tgt := 121) S.1.1 S.1.2.1 dX12_now_6 (by omega) (by omega) (by rw [c9]; rfl) (by decide) ?_
    have r76 : R (7) (7) a0 := ⟨by omega, by omega⟩
    refine r_aload_n S dX12_now_121 rfl (lv_at hl 0 rfl) ?_
    refine r_get (K := 38) (v := .ref (G.2.2.2.1 133)) S X6 (Nat.le_of_ble_eq_true rfl) rfl lk12_33_10 (fun _ => ⟨_, rfl, rfl⟩) dX12_now_122 ?_
    refine r_sipush S dX12_now_125 (by decide) (fun v77 z78 => ?_)
    have r79 := R_eq z78
    refine r_aldn (n := 513) (K := 40) S X6 (Nat.le_of_ble_eq_true rfl) rfl (fun _ => rfl) (ix_of r79 rfl) dX12_now_128 (fun v80 z81 => ?_)
    have r82 : R (0) (1023) v80 := rds (K := 40) (a := 131) (n := 1) I7 rfl z81 (R_of r79 rfl) (by decide +kernel)
    exact r_ret S hr hlk X6 ⟨I7, F8⟩ rfl dX12_now_129
def po_X12_sumOf (τ : Tau)  (a0 a1 : Int32)   (r : Int32) (u : Tau) : Prop := u = τ
set_option maxHeartbeats 4000000 in
set_option maxRecDepth 100000 in
theorem c_X12_sumOf (l : Launch) (G : Gx) (τ : Tau) (hI : Inv τ) (a0 : Int32) (a1 : Int32) (h_a0 : R (-2147483648) (2147483647) a0) (h_a1 : R (0) (8) a1) : Ci l G yX12_sumOf cX12_sumOf 5 (some .int) 3 66 [.ref (G.2.2.2.1 131), .int a0, .int a1] τ (po_X12_sumOf τ  a0 a1  ) := by
  unfold Ci
  refine C_of (own := RX12) (by decide) rfl (Nat.le_of_ble_eq_true rfl) ?_
  intro p e s m below meth c ls S hr hlk X hl
  have hl : lv_has ls 5 [(0, .ref (G.2.2.2.1 131)), (1, .int a0), (2, .int a1)] := hl
  refine r_iconst S dX12_sumOf_0 (by decide) (fun v1 z2 => ?_)
  have r3 := R_eq z2
  refine r_istore_n (lv' := [(3, .int v1), (0, .ref (G.2.2.2.1 131)), (1, .int a0), (2, .int a1)]) S dX12_sumOf_1 rfl hl (by decide) rfl (fun ls hl => ?_)
  refine r_iconst S dX12_sumOf_2 (by decide) (fun v4 z5 => ?_)
  have r6 := R_eq z5
  refine r_istore (lv' := [(4, .int v4), (3, .int v1), (0, .ref (G.2.2.2.1 131)), (1, .int a0), (2, .int a1)]) S dX12_sumOf_3 hl (by decide) rfl (fun ls hl => ?_)
  have L477 : ∀ (n : Nat) (H : Heap) (lc : List Loc) (ls : Array Slot) (i472 : Int32) (i474 : Int32), Xd G s H lc τ → R (-2147483648) (2147483647) i472 → R (0) (10) i474 → lv_has ls 5 [(0, .ref (G.2.2.2.1 131)), (1, .int a0), (2, .int a1), (3, .int i472), (4, .int i474)] → (10 - i474.toInt).toNat < n → W p l e (Rm 3 66) s m ([.ref (G.2.2.2.1 131), .int a0, .int a1] : List Value).toArray below meth c H lc 0 0 (MQ below (va_Qi (po_X12_sumOf τ  a0 a1  ) (Bs G) G.2.2.2.2) ([.ref (G.2.2.2.1 131), .int a0, .int a1] : List Value).toArray s 0 0 G.2.2.2.2) (F0 m 5 ls []) := by
    intro n
    induction n with
    | zero => intros; omega
    | succ n ih478 =>
      intro H lc ls i472 i474 X476 r473 r475 hl hm
      refine r_iload S dX12_sumOf_5 (lv_at hl 4 rfl) ?_
      refine r_aload_n S dX12_sumOf_7 rfl (lv_at hl 0 rfl) ?_
      refine r_get (K := 38) (v := .ref (G.2.2.2.1 133)) S X476 (Nat.le_of_ble_eq_true rfl) rfl lk12_33_10 (fun _ => ⟨_, rfl, rfl⟩) dX12_sumOf_8 ?_
      refine r_iconst S dX12_sumOf_11 (by decide) (fun v479 z480 => ?_)
      have r481 := R_eq z480
      refine r_aldn (n := 513) (K := 40) S X476 (Nat.le_of_ble_eq_true rfl) rfl (fun _ => rfl) (ix_of r481 rfl) dX12_sumOf_12 (fun v482 z483 => ?_)
      have r484 : R (0) (10) v482 := rds (K := 40) (a := 1) (n := 1) hI rfl z483 (R_of r481 rfl) (by decide +kernel)
      refine r_icmp_ge (tgt := 56) S dX12_sumOf_13 (by decide) (fun c485 => ?_) (fun c485 => ?_)
      ·
        refine r_iload_n S dX12_sumOf_56 rfl (lv_at hl 3 rfl) ?_
        exact r_ret S hr hlk X476 rfl rfl dX12_sumOf_57
      ·
        have r486 : R (0) (9) i474 := ⟨by omega, by omega⟩
        have r487 : R (1) (10) v482 := ⟨by omega, by omega⟩
        refine r_iload_n S dX12_sumOf_16 rfl (lv_at hl 3 rfl) ?_
        refine r_iload_n S dX12_sumOf_17 rfl (lv_at hl 1 rfl) ?_
        refine r_aload_n S dX12_sumOf_18 rfl (lv_at hl 0 rfl) ?_
        refine r_get (K := 38) (v := .ref (G.2.2.2.1 133)) S X476 (Nat.le_of_ble_eq_true rfl) rfl lk12_33_10 (fun _ => ⟨_, rfl, rfl⟩) dX12_sumOf_19 ?_
        refine r_sipush S dX12_sumOf_22 (by decide) (fun v488 z489 => ?_)
        have r490 := R_eq z489
        refine r_aldn (n := 513) (K := 40) S X476 (Nat.le_of_ble_eq_true rfl) rfl (fun _ => rfl) (ix_of r490 rfl) dX12_sumOf_25 (fun v491 z492 => ?_)
        have r493 : R (0) (1023) v491 := rds (K := 40) (a := 131) (n := 1) hI rfl z492 (R_of r490 rfl) (by decide +kernel)
        refine r_iconst S dX12_sumOf_26 (by decide) (fun v494 z495 => ?_)
        have r496 := R_eq z495
        refine r_ixor S dX12_sumOf_27 (fun v497 z498 => ?_)
        have r499 := R_any v497
        refine r_iand S dX12_sumOf_28 (fun v500 z501 => ?_)
        have r502 := R_any v500
        refine r_iload S dX12_sumOf_29 (lv_at hl 4 rfl) ?_
        refine r_ki (q_S (As := [.int v500, .int i474]) (rest := [.int i472]) S X476 (c_X12_bitOf l G τ hI v500 i474 r502 (R_of (lo := -2147483648) (hi := 2147483647) r486 rfl)) ck12_221 ⟨Nat.le_of_ble_eq_true rfl, Nat.le_of_ble_eq_true rfl⟩ rfl hl.1 rfl (Nat.le_of_ble_eq_true rfl) dX12_sumOf_31 ⟨Nat.le_refl 0, Nat.le_refl 0⟩) X476 (fun v506 t505 H lc q503 X504 => ?_)
        unfold po_X12_bitOf at q503
        obtain ⟨q507, q508⟩ := q503
        rw [q507] at X504
        refine r_if_eq (tgt := 47) S dX12_sumOf_34 (by decide) (fun c509 => ?_) (fun c509 => ?_)
        ·
          have r510 : R (0) (0) v506 := ⟨by omega, by omega⟩
          refine r_iconst S dX12_sumOf_47 (by decide) (fun v511 z512 => ?_)
          have r513 := R_eq z512
          refine r_iadd S dX12_sumOf_48 (fun v514 z515 => ?_)
          obtain ⟨e516, r517⟩ := i_add (lo := -2147483648) (hi := 2147483647) z515 r473 r513 rfl
          refine r_istore_n (lv' := [(3, .int v514), (0, .ref (G.2.2.2.1 131)), (1, .int a0), (2, .int a1), (4, .int i474)]) S dX12_sumOf_49 rfl hl (by decide) rfl (fun ls hl => ?_)
          refine r_iinc (k := 4) S dX12_sumOf_50 hl rfl (by decide) (by decide) (fun v518 d519 ls z520 z521 hl => ?_)
          obtain ⟨e522, r523⟩ := i_add (lo := 1) (hi := 10) z520 r486 (R_eq z521) rfl
          have hl : lv_has ls 5 [(4, .int v518), (3, .int v514), (0, .ref (G.2.2.2.1 131)), (1, .int a0), (2, .int a1)] := hl
          refine r_goto (tgt := 5) S dX12_sumOf_53 (by decide) ?_
          exact ih478 _ _ _ v514 v518 X504 r517 (R_of r523 rfl) (lv_sub hl [2, 3, 4, 1, 0] rfl) (by omega)
        ·
          have r524 : R (1) (1) v506 := ⟨by omega, by omega⟩
          refine r_aload_n S dX12_sumOf_37 rfl (lv_at hl 0 rfl) ?_
          refine r_iload S dX12_sumOf_38 (lv_at hl 4 rfl) ?_
          refine r_iload_n S dX12_sumOf_40 rfl (lv_at hl 2 rfl) ?_
          refine r_ki (q_V (As := [.int i474, .int a1]) (rest := [.int i472]) (K := 38) (ci := 10) S X504 (c_X12_saysOf l G τ hI i474 a1 r486 h_a1) ck12_269 (Nat.le_of_ble_eq_true rfl) rfl (fun _ => ⟨_, rfl⟩) ⟨_, _, rfl⟩ ⟨Nat.le_of_ble_eq_true rfl, Nat.le_of_ble_eq_true rfl⟩ rfl hl.1 rfl (Nat.le_of_ble_eq_true rfl) dX12_sumOf_41 ⟨Nat.le_refl 0, Nat.le_refl 0⟩) X504 (fun v528 t527 H lc q525 X526 => ?_)
          unfold po_X12_saysOf at q525
          obtain ⟨q529, q530⟩ := q525
          rw [q529] at X526
          refine r_goto (tgt := 48) S dX12_sumOf_44 (by decide) ?_
          refine r_iadd S dX12_sumOf_48 (fun v531 z532 => ?_)
          have r533 := R_any v531
          refine r_istore_n (lv' := [(3, .int v531), (0, .ref (G.2.2.2.1 131)), (1, .int a0), (2, .int a1), (4, .int i474)]) S dX12_sumOf_49 rfl hl (by decide) rfl (fun ls hl => ?_)
          refine r_iinc (k := 4) S dX12_sumOf_50 hl rfl (by decide) (by decide) (fun v534 d535 ls z536 z537 hl => ?_)
          obtain ⟨e538, r539⟩ := i_add (lo := 1) (hi := 10) z536 r486 (R_eq z537) rfl
          have hl : lv_has ls 5 [(4, .int v534), (3, .int v531), (0, .ref (G.2.2.2.1 131)), (1, .int a0), (2, .int a1)] := hl
          refine r_goto (tgt := 5) S dX12_sumOf_53 (by decide) ?_
          exact ih478 _ _ _ v531 v534 X526 r533 (R_of r539 rfl) (lv_sub hl [2, 3, 4, 1, 0] rfl) (by omega)
  exact L477 _ _ _ _ v1 v4 X (R_of r3 rfl) (R_of r6 rfl) (lv_sub hl [2, 3, 4, 1, 0] rfl) (Nat.lt_succ_self _)
def po_X12_balances (τ : Tau)  (a0 : Int32)   (r : Int32) (u : Tau) : Prop := u = τ ∧ R (0) (1) r
set_option maxHeartbeats 4000000 in
set_option maxRecDepth 100000 in
theorem c_X12_balances (l : Launch) (G : Gx) (τ : Tau) (hI : Inv τ) (a0 : Int32) (h_a0 : R (-2147483648) (2147483647) a0) : Ci l G yX12_balances cX12_balances 2 (some .boolean) 1 20 [.ref (G.2.2.2.1 131), .int a0] τ (po_X12_balances τ  a0  ) := by
  unfold Ci
  refine C_of (own := RX12) (by decide) rfl (Nat.le_of_ble_eq_true rfl) ?_
  intro p e s m below meth c ls S hr hlk X hl
  have hl : lv_has ls 2 [(0, .ref (G.2.2.2.1 131)), (1, .int a0)] := hl
  refine r_iload_n S dX12_balances_0 rfl (lv_at hl 1 rfl) ?_
  refine r_ki (q_S (As := [.int a0]) (rest := []) S X (c_X12_sizeOf l G τ hI a0 h_a0) ck12_275 ⟨Nat.le_of_ble_eq_true rfl, Nat.le_of_ble_eq_true rfl⟩ rfl hl.1 rfl (Nat.le_of_ble_eq_true rfl) dX12_balances_1 ⟨Nat.le_refl 0, Nat.le_refl 0⟩) X (fun v4 t3 H lc q1 X2 => ?_)
  unfold po_X12_sizeOf at q1
  have q5 := q1
  rw [q5] at X2
  have r6 := R_any v4
  refine r_aload_n S dX12_balances_4 rfl (lv_at hl 0 rfl) ?_
  refine r_get (K := 38) (v := .ref (G.2.2.2.1 133)) S X2 (Nat.le_of_ble_eq_true rfl) rfl lk12_33_10 (fun _ => ⟨_, rfl, rfl⟩) dX12_balances_5 ?_
  refine r_iconst S dX12_balances_8 (by decide) (fun v7 z8 => ?_)
  have r9 := R_eq z8
  refine r_aldn (n := 513) (K := 40) S X2 (Nat.le_of_ble_eq_true rfl) rfl (fun _ => rfl) (ix_of r9 rfl) dX12_balances_9 (fun v10 z11 => ?_)
  have r12 : R (0) (9) v10 := rds (K := 40) (a := 3) (n := 1) hI rfl z11 (R_of r9 rfl) (by decide +kernel)
  refine r_icmp_gt (tgt := 17) S dX12_balances_10 (by decide) (fun c13 => ?_) (fun c13 => ?_)
  ·
    have r14 : R (1) (2147483647) v4 := ⟨by omega, by omega⟩
    refine r_iconst S dX12_balances_17 (by decide) (fun v15 z16 => ?_)
    have r17 := R_eq z16
    exact r_ret S hr hlk X2 ⟨rfl, (R_of r17 rfl)⟩ (nr_bool (R_of (lo := 0) (hi := 1) r17 rfl)) dX12_balances_18
  ·
    have r18 : R (-2147483648) (9) v4 := ⟨by omega, by omega⟩
    refine r_iconst S dX12_balances_13 (by decide) (fun v19 z20 => ?_)
    have r21 := R_eq z20
    refine r_goto (tgt := 18) S dX12_balances_14 (by decide) ?_
    exact r_ret S hr hlk X2 ⟨rfl, (R_of r21 rfl)⟩ (nr_bool (R_of (lo := 0) (hi := 1) r21 rfl)) dX12_balances_18
def po_X12_areFoes (τ : Tau)  (a0 a1 : Int32)   (r : Int32) (u : Tau) : Prop := u = τ ∧ R (0) (1) r
set_option maxHeartbeats 4000000 in
set_option maxRecDepth 100000 in
theorem c_X12_areFoes (l : Launch) (G : Gx) (τ : Tau) (hI : Inv τ) (a0 : Int32) (a1 : Int32) (h_a0 : R (0) (9) a0) (h_a1 : R (0) (9) a1) : Ci l G yX12_areFoes cX12_areFoes 8 (some .boolean) 3 66 [.ref (G.2.2.2.1 131), .int a0, .int a1] τ (po_X12_areFoes τ  a0 a1  ) := by
  unfold Ci
  refine C_of (own := RX12) (by decide) rfl (Nat.le_of_ble_eq_true rfl) ?_
  intro p e s m below meth c ls S hr hlk X hl
  have hl : lv_has ls 8 [(0, .ref (G.2.2.2.1 131)), (1, .int a0), (2, .int a1)] := hl
  refine r_iconst S dX12_areFoes_0 (by decide) (fun v1 z2 => ?_)
  have r3 := R_eq z2
  refine r_istore_n (lv' := [(3, .int v1), (0, .ref (G.2.2.2.1 131)), (1, .int a0), (2, .int a1)]) S dX12_areFoes_1 rfl hl (by decide) rfl (fun ls hl => ?_)
  refine r_iconst S dX12_areFoes_2 (by decide) (fun v4 z5 => ?_)
  have r6 := R_eq z5
  refine r_istore (lv' := [(4, .int v4), (3, .int v1), (0, .ref (G.2.2.2.1 131)), (1, .int a0), (2, .int a1)]) S dX12_areFoes_3 hl (by decide) rfl (fun ls hl => ?_)
  refine r_iconst S dX12_areFoes_5 (by decide) (fun v7 z8 => ?_)
  have r9 := R_eq z8
  refine r_istore (lv' := [(5, .int v7), (4, .int v4), (3, .int v1), (0, .ref (G.2.2.2.1 131)), (1, .int a0), (2, .int a1)]) S dX12_areFoes_6 hl (by decide) rfl (fun ls hl => ?_)
  have L1761 : ∀ (n : Nat) (H : Heap) (lc : List Loc) (ls : Array Slot) (i1754 : Int32) (i1756 : Int32) (i1758 : Int32), Xd G s H lc τ → R (0) (1) i1754 → R (0) (1) i1756 → R (0) (9) i1758 → lv_has ls 8 [(0, .ref (G.2.2.2.1 131)), (1, .int a0), (2, .int a1), (3, .int i1754), (4, .int i1756), (5, .int i1758)] → (9 - i1758.toInt).toNat < n → W p l e (Rm 3 66) s m ([.ref (G.2.2.2.1 131), .int a0, .int a1] : List Value).toArray below meth c H lc 0 0 (MQ below (va_Qi (po_X12_areFoes τ  a0 a1  ) (Bs G) G.2.2.2.2) ([.ref (G.2.2.2.1 131), .int a0, .int a1] : List Value).toArray s 0 0 G.2.2.2.2) (F0 m 8 ls []) := by
    intro n
    induction n with
    | zero => intros; omega
    | succ n ih1762 =>
      intro H lc ls i1754 i1756 i1758 X1760 r1755 r1757 r1759 hl hm
      refine r_iload S dX12_areFoes_8 (lv_at hl 5 rfl) ?_
      refine r_aload_n S dX12_areFoes_10 rfl (lv_at hl 0 rfl) ?_
      refine r_get (K := 38) (v := .ref (G.2.2.2.1 133)) S X1760 (Nat.le_of_ble_eq_true rfl) rfl lk12_33_10 (fun _ => ⟨_, rfl, rfl⟩) dX12_areFoes_11 ?_
      refine r_iconst S dX12_areFoes_14 (by decide) (fun v1763 z1764 => ?_)
      have r1765 := R_eq z1764
      refine r_aldn (n := 513) (K := 40) S X1760 (Nat.le_of_ble_eq_true rfl) rfl (fun _ => rfl) (ix_of r1765 rfl) dX12_areFoes_15 (fun v1766 z1767 => ?_)
      have r1768 : R (0) (9) v1766 := rds (K := 40) (a := 0) (n := 1) hI rfl z1767 (R_of r1765 rfl) (by decide +kernel)
      refine r_icmp_ge (tgt := 132) S dX12_areFoes_16 (by decide) (fun c1769 => ?_) (fun c1769 => ?_)
      ·
        refine r_iload_n S dX12_areFoes_132 rfl (lv_at hl 3 rfl) ?_
        refine r_if_eq (tgt := 145) S dX12_areFoes_133 (by decide) (fun c1770 => ?_) (fun c1770 => ?_)
        ·
          have r1771 : R (0) (0) i1754 := ⟨by omega, by omega⟩
          refine r_iconst S dX12_areFoes_145 (by decide) (fun v1772 z1773 => ?_)
          have r1774 := R_eq z1773
          exact r_ret S hr hlk X1760 ⟨rfl, (R_of r1774 rfl)⟩ (nr_bool (R_of (lo := 0) (hi := 1) r1774 rfl)) dX12_areFoes_146
        ·
          have r1775 : R (1) (1) i1754 := ⟨by omega, by omega⟩
          refine r_iload S dX12_areFoes_136 (lv_at hl 4 rfl) ?_
          refine r_if_eq (tgt := 145) S dX12_areFoes_138 (by decide) (fun c1776 => ?_) (fun c1776 => ?_)
          ·
            have r1777 : R (0) (0) i1756 := ⟨by omega, by omega⟩
            refine r_iconst S dX12_areFoes_145 (by decide) (fun v1778 z1779 => ?_)
            have r1780 := R_eq z1779
            exact r_ret S hr hlk X1760 ⟨rfl, (R_of r1780 rfl)⟩ (nr_bool (R_of (lo := 0) (hi := 1) r1780 rfl)) dX12_areFoes_146
          ·
            have r1781 : R (1) (1) i1756 := ⟨by omega, by omega⟩
            refine r_iconst S dX12_areFoes_141 (by decide) (fun v1782 z1783 => ?_)
            have r1784 := R_eq z1783
            refine r_goto (tgt := 146) S dX12_areFoes_142 (by decide) ?_
            exact r_ret S hr hlk X1760 ⟨rfl, (R_of r1784 rfl)⟩ (nr_bool (R_of (lo := 0) (hi := 1) r1784 rfl)) dX12_areFoes_146
      ·
        have r1785 : R (0) (8) i1758 := ⟨by omega, by omega⟩
        have r1786 : R (1) (9) v1766 := ⟨by omega, by omega⟩
        refine r_aload_n S dX12_areFoes_19 rfl (lv_at hl 0 rfl) ?_
        refine r_iload_n S dX12_areFoes_20 rfl (lv_at hl 1 rfl) ?_
        refine r_iload S dX12_areFoes_21 (lv_at hl 5 rfl) ?_
        refine r_ki (q_V (As := [.int a0, .int i1758]) (rest := []) (K := 38) (ci := 10) S X1760 (c_X12_saysOf l G τ hI a0 i1758 h_a0 r1785) ck12_269 (Nat.le_of_ble_eq_true rfl) rfl (fun _ => ⟨_, rfl⟩) ⟨_, _, rfl⟩ ⟨Nat.le_of_ble_eq_true rfl, Nat.le_of_ble_eq_true rfl⟩ rfl hl.1 rfl (Nat.le_of_ble_eq_true rfl) dX12_areFoes_23 ⟨Nat.le_refl 0, Nat.le_refl 0⟩) X1760 (fun v1790 t1789 H lc q1787 X1788 => ?_)
        unfold po_X12_saysOf at q1787
        obtain ⟨q1791, q1792⟩ := q1787
        rw [q1791] at X1788
        refine r_istore (lv' := [(6, .int v1790), (0, .ref (G.2.2.2.1 131)), (1, .int a0), (2, .int a1), (3, .int i1754), (4, .int i1756), (5, .int i1758)]) S dX12_areFoes_26 hl (by decide) rfl (fun ls hl => ?_)
        refine r_aload_n S dX12_areFoes_28 rfl (lv_at hl 1 rfl) ?_
        refine r_iload_n S dX12_areFoes_29 rfl (lv_at hl 3 rfl) ?_
        refine r_iload S dX12_areFoes_30 (lv_at hl 6 rfl) ?_
        refine r_ki (q_V (As := [.int a1, .int i1758]) (rest := []) (K := 38) (ci := 10) S X1788 (c_X12_saysOf l G τ hI a1 i1758 h_a1 r1785) ck12_269 (Nat.le_of_ble_eq_true rfl) rfl (fun _ => ⟨_, rfl⟩) ⟨_, _, rfl⟩ ⟨Nat.le_of_ble_eq_true rfl, Nat.le_of_ble_eq_true rfl⟩ rfl hl.1 rfl (Nat.le_of_ble_eq_true rfl) dX12_areFoes_32 ⟨Nat.le_refl 0, Nat.le_refl 0⟩) X1788 (fun v1796 t1795 H lc q1793 X1794 => ?_)
        unfold po_X12_saysOf at q1793
        obtain ⟨q1797, q1798⟩ := q1793
        rw [q1797] at X1794
        refine r_istore (lv' := [(7, .int v1796), (6, .int v1790), (0, .ref (G.2.2.2.1 131)), (1, .int a0), (2, .int a1), (3, .int i1754), (4, .int i1756), (5, .int i1758)]) S dX12_areFoes_35 hl (by decide) rfl (fun ls hl => ?_)
        refine r_iload S dX12_areFoes_37 (lv_at hl 1 rfl) ?_
        refine r_ki (q_S (As := [.int v1790]) (rest := []) S X1794 (c_X12_sizeOf_9 l G τ hI v1790 q1792) ck12_275 ⟨Nat.le_of_ble_eq_true rfl, Nat.le_of_ble_eq_true rfl⟩ rfl hl.1 rfl (Nat.le_of_ble_eq_true rfl) dX12_areFoes_39 ⟨Nat.le_refl 0, Nat.le_refl 0⟩) X1794 (fun v1802 t1801 H lc q1799 X1800 => ?_)
        unfold po_X12_sizeOf_9 at q1799
        obtain ⟨q1803, q1804⟩ := q1799
        rw [q1803] at X1800
        refine r_iconst S dX12_areFoes_42 (by decide) (fun v1805 z1806 => ?_)
        have r1807 := R_eq z1806
        refine r_icmp_lt (tgt := 126) S dX12_areFoes_43 (by decide) (fun c1808 => ?_) (fun c1808 => ?_)
        ·
          have r1809 : R (0) (4) v1802 := ⟨by omega, by omega⟩
          refine r_iinc (k := 7) S dX12_areFoes_126 hl rfl (by decide) (by decide) (fun v1810 d1811 ls z1812 z1813 hl => ?_)
          obtain ⟨e1814, r1815⟩ := i_add (lo := 1) (hi := 9) z1812 r1785 (R_eq z1813) rfl
          have hl : lv_has ls 8 [(5, .int v1810), (7, .int v1796), (6, .int v1790), (0, .ref (G.2.2.2.1 131)), (1, .int a0), (2, .int a1), (3, .int i1754), (4, .int i1756)] := hl
          refine r_goto (tgt := 8) S dX12_areFoes_129 (by decide) ?_
          exact ih1762 _ _ _ i1754 i1756 v1810 X1800 r1755 r1757 (R_of r1815 rfl) (lv_sub hl [3, 4, 5, 6, 7, 0] rfl) (by omega)
        ·
          have r1816 : R (5) (9) v1802 := ⟨by omega, by omega⟩
          refine r_iload S dX12_areFoes_46 (lv_at hl 0 rfl) ?_
          refine r_ki (q_S (As := [.int v1796]) (rest := []) S X1800 (c_X12_sizeOf_9 l G τ hI v1796 q1798) ck12_275 ⟨Nat.le_of_ble_eq_true rfl, Nat.le_of_ble_eq_true rfl⟩ rfl hl.1 rfl (Nat.le_of_ble_eq_true rfl) dX12_areFoes_48 ⟨Nat.le_refl 0, Nat.le_refl 0⟩) X1800 (fun v1820 t1819 H lc q1817 X1818 => ?_)
          unfold po_X12_sizeOf_9 at q1817
          obtain ⟨q1821, q1822⟩ := q1817
          rw [q1821] at X1818
          refine r_iconst S dX12_areFoes_51 (by decide) (fun v1823 z1824 => ?_)
          have r1825 := R_eq z1824
          refine r_icmp_ge (tgt := 58) S dX12_areFoes_52 (by decide) (fun c1826 => ?_) (fun c1826 => ?_)
          ·
            have r1827 : R (5) (9) v1820 := ⟨by omega, by omega⟩
            refine r_iload_n S dX12_areFoes_58 rfl (lv_at hl 5 rfl) ?_
            refine r_if_ne (tgt := 85) S dX12_areFoes_59 (by decide) (fun c1828 => ?_) (fun c1828 => ?_)
            ·
              have r1829 : R (1) (1) i1754 := ⟨by omega, by omega⟩
              refine r_iconst S dX12_areFoes_85 (by decide) (fun v1830 z1831 => ?_)
              have r1832 := R_eq z1831
              refine r_goto (tgt := 90) S dX12_areFoes_86 (by decide) ?_
              refine r_istore_n (lv' := [(3, .int v1830), (7, .int v1796), (6, .int v1790), (0, .ref (G.2.2.2.1 131)), (1, .int a0), (2, .int a1), (4, .int i1756), (5, .int i1758)]) S dX12_areFoes_90 rfl hl (by decide) rfl (fun ls hl => ?_)
              refine r_iload S dX12_areFoes_91 (lv_at hl 6 rfl) ?_
              refine r_if_ne (tgt := 119) S dX12_areFoes_93 (by decide) (fun c1833 => ?_) (fun c1833 => ?_)
              ·
                have r1834 : R (1) (1) i1756 := ⟨by omega, by omega⟩
                refine r_iconst S dX12_areFoes_119 (by decide) (fun v1835 z1836 => ?_)
                have r1837 := R_eq z1836
                refine r_goto (tgt := 124) S dX12_areFoes_120 (by decide) ?_
                refine r_istore (lv' := [(4, .int v1835), (3, .int v1830), (7, .int v1796), (6, .int v1790), (0, .ref (G.2.2.2.1 131)), (1, .int a0), (2, .int a1), (5, .int i1758)]) S dX12_areFoes_124 hl (by decide) rfl (fun ls hl => ?_)
                refine r_iinc (k := 7) S dX12_areFoes_126 hl rfl (by decide) (by decide) (fun v1838 d1839 ls z1840 z1841 hl => ?_)
                obtain ⟨e1842, r1843⟩ := i_add (lo := 1) (hi := 9) z1840 r1785 (R_eq z1841) rfl
                have hl : lv_has ls 8 [(5, .int v1838), (4, .int v1835), (3, .int v1830), (7, .int v1796), (6, .int v1790), (0, .ref (G.2.2.2.1 131)), (1, .int a0), (2, .int a1)] := hl
                refine r_goto (tgt := 8) S dX12_areFoes_129 (by decide) ?_
                exact ih1762 _ _ _ v1830 v1835 v1838 X1818 (R_of r1832 rfl) (R_of r1837 rfl) (R_of r1843 rfl) (lv_sub hl [5, 6, 7, 2, 1, 0] rfl) (by omega)
              ·
                have r1844 : R (0) (0) i1756 := ⟨by omega, by omega⟩
                refine r_iload S dX12_areFoes_96 (lv_at hl 2 rfl) ?_
                refine r_if_le (tgt := 105) S dX12_areFoes_98 (by decide) (fun c1845 => ?_) (fun c1845 => ?_)
                ·
                  have r1846 : R (-9) (0) v1790 := ⟨by omega, by omega⟩
                  refine r_iconst S dX12_areFoes_105 (by decide) (fun v1847 z1848 => ?_)
                  have r1849 := R_eq z1848
                  refine r_iload S dX12_areFoes_106 (lv_at hl 1 rfl) ?_
                  refine r_if_le (tgt := 115) S dX12_areFoes_108 (by decide) (fun c1850 => ?_) (fun c1850 => ?_)
                  ·
                    have r1851 : R (-9) (0) v1796 := ⟨by omega, by omega⟩
                    refine r_iconst S dX12_areFoes_115 (by decide) (fun v1852 z1853 => ?_)
                    have r1854 := R_eq z1853
                    refine r_icmp_ne (tgt := 123) S dX12_areFoes_116 (by decide) (fun c1855 => ?_) (fun c1855 => ?_)
                    ·
                      exfalso; omega
                    ·
                      refine r_iconst S dX12_areFoes_119 (by decide) (fun v1856 z1857 => ?_)
                      have r1858 := R_eq z1857
                      refine r_goto (tgt := 124) S dX12_areFoes_120 (by decide) ?_
                      refine r_istore (lv' := [(4, .int v1856), (3, .int v1830), (7, .int v1796), (6, .int v1790), (0, .ref (G.2.2.2.1 131)), (1, .int a0), (2, .int a1), (5, .int i1758)]) S dX12_areFoes_124 hl (by decide) rfl (fun ls hl => ?_)
                      refine r_iinc (k := 7) S dX12_areFoes_126 hl rfl (by decide) (by decide) (fun v1859 d1860 ls z1861 z1862 hl => ?_)
                      obtain ⟨e1863, r1864⟩ := i_add (lo := 1) (hi := 9) z1861 r1785 (R_eq z1862) rfl
                      have hl : lv_has ls 8 [(5, .int v1859), (4, .int v1856), (3, .int v1830), (7, .int v1796), (6, .int v1790), (0, .ref (G.2.2.2.1 131)), (1, .int a0), (2, .int a1)] := hl
                      refine r_goto (tgt := 8) S dX12_areFoes_129 (by decide) ?_
                      exact ih1762 _ _ _ v1830 v1856 v1859 X1818 (R_of r1832 rfl) (R_of r1858 rfl) (R_of r1864 rfl) (lv_sub hl [5, 6, 7, 2, 1, 0] rfl) (by omega)
                  ·
                    have r1865 : R (1) (9) v1796 := ⟨by omega, by omega⟩
                    refine r_iconst S dX12_areFoes_111 (by decide) (fun v1866 z1867 => ?_)
                    have r1868 := R_eq z1867
                    refine r_goto (tgt := 116) S dX12_areFoes_112 (by decide) ?_
                    refine r_icmp_ne (tgt := 123) S dX12_areFoes_116 (by decide) (fun c1869 => ?_) (fun c1869 => ?_)
                    ·
                      refine r_iconst S dX12_areFoes_123 (by decide) (fun v1870 z1871 => ?_)
                      have r1872 := R_eq z1871
                      refine r_istore (lv' := [(4, .int v1870), (3, .int v1830), (7, .int v1796), (6, .int v1790), (0, .ref (G.2.2.2.1 131)), (1, .int a0), (2, .int a1), (5, .int i1758)]) S dX12_areFoes_124 hl (by decide) rfl (fun ls hl => ?_)
                      refine r_iinc (k := 7) S dX12_areFoes_126 hl rfl (by decide) (by decide) (fun v1873 d1874 ls z1875 z1876 hl => ?_)
                      obtain ⟨e1877, r1878⟩ := i_add (lo := 1) (hi := 9) z1875 r1785 (R_eq z1876) rfl
                      have hl : lv_has ls 8 [(5, .int v1873), (4, .int v1870), (3, .int v1830), (7, .int v1796), (6, .int v1790), (0, .ref (G.2.2.2.1 131)), (1, .int a0), (2, .int a1)] := hl
                      refine r_goto (tgt := 8) S dX12_areFoes_129 (by decide) ?_
                      exact ih1762 _ _ _ v1830 v1870 v1873 X1818 (R_of r1832 rfl) (R_of r1872 rfl) (R_of r1878 rfl) (lv_sub hl [5, 6, 7, 2, 1, 0] rfl) (by omega)
                    ·
                      exfalso; omega
                ·
                  have r1879 : R (1) (9) v1790 := ⟨by omega, by omega⟩
                  refine r_iconst S dX12_areFoes_101 (by decide) (fun v1880 z1881 => ?_)
                  have r1882 := R_eq z1881
                  refine r_goto (tgt := 106) S dX12_areFoes_102 (by decide) ?_
                  refine r_iload S dX12_areFoes_106 (lv_at hl 1 rfl) ?_
                  refine r_if_le (tgt := 115) S dX12_areFoes_108 (by decide) (fun c1883 => ?_) (fun c1883 => ?_)
                  ·
                    have r1884 : R (-9) (0) v1796 := ⟨by omega, by omega⟩
                    refine r_iconst S dX12_areFoes_115 (by decide) (fun v1885 z1886 => ?_)
                    have r1887 := R_eq z1886
                    refine r_icmp_ne (tgt := 123) S dX12_areFoes_116 (by decide) (fun c1888 => ?_) (fun c1888 => ?_)
                    ·
                      refine r_iconst S dX12_areFoes_123 (by decide) (fun v1889 z1890 => ?_)
                      have r1891 := R_eq z1890
                      refine r_istore (lv' := [(4, .int v1889), (3, .int v1830), (7, .int v1796), (6, .int v1790), (0, .ref (G.2.2.2.1 131)), (1, .int a0), (2, .int a1), (5, .int i1758)]) S dX12_areFoes_124 hl (by decide) rfl (fun ls hl => ?_)
                      refine r_iinc (k := 7) S dX12_areFoes_126 hl rfl (by decide) (by decide) (fun v1892 d1893 ls z1894 z1895 hl => ?_)
                      obtain ⟨e1896, r1897⟩ := i_add (lo := 1) (hi := 9) z1894 r1785 (R_eq z1895) rfl
                      have hl : lv_has ls 8 [(5, .int v1892), (4, .int v1889), (3, .int v1830), (7, .int v1796), (6, .int v1790), (0, .ref (G.2.2.2.1 131)), (1, .int a0), (2, .int a1)] := hl
                      refine r_goto (tgt := 8) S dX12_areFoes_129 (by decide) ?_
                      exact ih1762 _ _ _ v1830 v1889 v1892 X1818 (R_of r1832 rfl) (R_of r1891 rfl) (R_of r1897 rfl) (lv_sub hl [5, 6, 7, 2, 1, 0] rfl) (by omega)
                    ·
                      exfalso; omega
                  ·
                    have r1898 : R (1) (9) v1796 := ⟨by omega, by omega⟩
                    refine r_iconst S dX12_areFoes_111 (by decide) (fun v1899 z1900 => ?_)
                    have r1901 := R_eq z1900
                    refine r_goto (tgt := 116) S dX12_areFoes_112 (by decide) ?_
                    refine r_icmp_ne (tgt := 123) S dX12_areFoes_116 (by decide) (fun c1902 => ?_) (fun c1902 => ?_)
                    ·
                      exfalso; omega
                    ·
                      refine r_iconst S dX12_areFoes_119 (by decide) (fun v1903 z1904 => ?_)
                      have r1905 := R_eq z1904
                      refine r_goto (tgt := 124) S dX12_areFoes_120 (by decide) ?_
                      refine r_istore (lv' := [(4, .int v1903), (3, .int v1830), (7, .int v1796), (6, .int v1790), (0, .ref (G.2.2.2.1 131)), (1, .int a0), (2, .int a1), (5, .int i1758)]) S dX12_areFoes_124 hl (by decide) rfl (fun ls hl => ?_)
                      refine r_iinc (k := 7) S dX12_areFoes_126 hl rfl (by decide) (by decide) (fun v1906 d1907 ls z1908 z1909 hl => ?_)
                      obtain ⟨e1910, r1911⟩ := i_add (lo := 1) (hi := 9) z1908 r1785 (R_eq z1909) rfl
                      have hl : lv_has ls 8 [(5, .int v1906), (4, .int v1903), (3, .int v1830), (7, .int v1796), (6, .int v1790), (0, .ref (G.2.2.2.1 131)), (1, .int a0), (2, .int a1)] := hl
                      refine r_goto (tgt := 8) S dX12_areFoes_129 (by decide) ?_
                      exact ih1762 _ _ _ v1830 v1903 v1906 X1818 (R_of r1832 rfl) (R_of r1905 rfl) (R_of r1911 rfl) (lv_sub hl [5, 6, 7, 2, 1, 0] rfl) (by omega)
            ·
              have r1912 : R (0) (0) i1754 := ⟨by omega, by omega⟩
              refine r_iload S dX12_areFoes_62 (lv_at hl 1 rfl) ?_
              refine r_if_le (tgt := 71) S dX12_areFoes_64 (by decide) (fun c1913 => ?_) (fun c1913 => ?_)
              ·
                have r1914 : R (-9) (0) v1790 := ⟨by omega, by omega⟩
                refine r_iconst S dX12_areFoes_71 (by decide) (fun v1915 z1916 => ?_)
                have r1917 := R_eq z1916
                refine r_iload S dX12_areFoes_72 (lv_at hl 0 rfl) ?_
                refine r_if_le (tgt := 81) S dX12_areFoes_74 (by decide) (fun c1918 => ?_) (fun c1918 => ?_)
                ·
                  have r1919 : R (-9) (0) v1796 := ⟨by omega, by omega⟩
                  refine r_iconst S dX12_areFoes_81 (by decide) (fun v1920 z1921 => ?_)
                  have r1922 := R_eq z1921
                  refine r_icmp_eq (tgt := 89) S dX12_areFoes_82 (by decide) (fun c1923 => ?_) (fun c1923 => ?_)
                  ·
                    refine r_iconst S dX12_areFoes_89 (by decide) (fun v1924 z1925 => ?_)
                    have r1926 := R_eq z1925
                    refine r_istore_n (lv' := [(3, .int v1924), (7, .int v1796), (6, .int v1790), (0, .ref (G.2.2.2.1 131)), (1, .int a0), (2, .int a1), (4, .int i1756), (5, .int i1758)]) S dX12_areFoes_90 rfl hl (by decide) rfl (fun ls hl => ?_)
                    refine r_iload S dX12_areFoes_91 (lv_at hl 6 rfl) ?_
                    refine r_if_ne (tgt := 119) S dX12_areFoes_93 (by decide) (fun c1927 => ?_) (fun c1927 => ?_)
                    ·
                      have r1928 : R (1) (1) i1756 := ⟨by omega, by omega⟩
                      refine r_iconst S dX12_areFoes_119 (by decide) (fun v1929 z1930 => ?_)
                      have r1931 := R_eq z1930
                      refine r_goto (tgt := 124) S dX12_areFoes_120 (by decide) ?_
                      refine r_istore (lv' := [(4, .int v1929), (3, .int v1924), (7, .int v1796), (6, .int v1790), (0, .ref (G.2.2.2.1 131)), (1, .int a0), (2, .int a1), (5, .int i1758)]) S dX12_areFoes_124 hl (by decide) rfl (fun ls hl => ?_)
                      refine r_iinc (k := 7) S dX12_areFoes_126 hl rfl (by decide) (by decide) (fun v1932 d1933 ls z1934 z1935 hl => ?_)
                      obtain ⟨e1936, r1937⟩ := i_add (lo := 1) (hi := 9) z1934 r1785 (R_eq z1935) rfl
                      have hl : lv_has ls 8 [(5, .int v1932), (4, .int v1929), (3, .int v1924), (7, .int v1796), (6, .int v1790), (0, .ref (G.2.2.2.1 131)), (1, .int a0), (2, .int a1)] := hl
                      refine r_goto (tgt := 8) S dX12_areFoes_129 (by decide) ?_
                      exact ih1762 _ _ _ v1924 v1929 v1932 X1818 (R_of r1926 rfl) (R_of r1931 rfl) (R_of r1937 rfl) (lv_sub hl [5, 6, 7, 2, 1, 0] rfl) (by omega)
                    ·
                      have r1938 : R (0) (0) i1756 := ⟨by omega, by omega⟩
                      refine r_iload S dX12_areFoes_96 (lv_at hl 2 rfl) ?_
                      refine r_if_le (tgt := 105) S dX12_areFoes_98 (by decide) (fun c1939 => ?_) (fun c1939 => ?_)
                      ·
                        refine r_iconst S dX12_areFoes_105 (by decide) (fun v1940 z1941 => ?_)
                        have r1942 := R_eq z1941
                        refine r_iload S dX12_areFoes_106 (lv_at hl 1 rfl) ?_
                        refine r_if_le (tgt := 115) S dX12_areFoes_108 (by decide) (fun c1943 => ?_) (fun c1943 => ?_)
                        ·
                          refine r_iconst S dX12_areFoes_115 (by decide) (fun v1944 z1945 => ?_)
                          have r1946 := R_eq z1945
                          refine r_icmp_ne (tgt := 123) S dX12_areFoes_116 (by decide) (fun c1947 => ?_) (fun c1947 => ?_)
                          ·
                            exfalso; omega
                          ·
                            refine r_iconst S dX12_areFoes_119 (by decide) (fun v1948 z1949 => ?_)
                            have r1950 := R_eq z1949
                            refine r_goto (tgt := 124) S dX12_areFoes_120 (by decide) ?_
                            refine r_istore (lv' := [(4, .int v1948), (3, .int v1924), (7, .int v1796), (6, .int v1790), (0, .ref (G.2.2.2.1 131)), (1, .int a0), (2, .int a1), (5, .int i1758)]) S dX12_areFoes_124 hl (by decide) rfl (fun ls hl => ?_)
                            refine r_iinc (k := 7) S dX12_areFoes_126 hl rfl (by decide) (by decide) (fun v1951 d1952 ls z1953 z1954 hl => ?_)
                            obtain ⟨e1955, r1956⟩ := i_add (lo := 1) (hi := 9) z1953 r1785 (R_eq z1954) rfl
                            have hl : lv_has ls 8 [(5, .int v1951), (4, .int v1948), (3, .int v1924), (7, .int v1796), (6, .int v1790), (0, .ref (G.2.2.2.1 131)), (1, .int a0), (2, .int a1)] := hl
                            refine r_goto (tgt := 8) S dX12_areFoes_129 (by decide) ?_
                            exact ih1762 _ _ _ v1924 v1948 v1951 X1818 (R_of r1926 rfl) (R_of r1950 rfl) (R_of r1956 rfl) (lv_sub hl [5, 6, 7, 2, 1, 0] rfl) (by omega)
                        ·
                          exfalso; omega
                      ·
                        exfalso; omega
                  ·
                    exfalso; omega
                ·
                  have r1957 : R (1) (9) v1796 := ⟨by omega, by omega⟩
                  refine r_iconst S dX12_areFoes_77 (by decide) (fun v1958 z1959 => ?_)
                  have r1960 := R_eq z1959
                  refine r_goto (tgt := 82) S dX12_areFoes_78 (by decide) ?_
                  refine r_icmp_eq (tgt := 89) S dX12_areFoes_82 (by decide) (fun c1961 => ?_) (fun c1961 => ?_)
                  ·
                    exfalso; omega
                  ·
                    refine r_iconst S dX12_areFoes_85 (by decide) (fun v1962 z1963 => ?_)
                    have r1964 := R_eq z1963
                    refine r_goto (tgt := 90) S dX12_areFoes_86 (by decide) ?_
                    refine r_istore_n (lv' := [(3, .int v1962), (7, .int v1796), (6, .int v1790), (0, .ref (G.2.2.2.1 131)), (1, .int a0), (2, .int a1), (4, .int i1756), (5, .int i1758)]) S dX12_areFoes_90 rfl hl (by decide) rfl (fun ls hl => ?_)
                    refine r_iload S dX12_areFoes_91 (lv_at hl 6 rfl) ?_
                    refine r_if_ne (tgt := 119) S dX12_areFoes_93 (by decide) (fun c1965 => ?_) (fun c1965 => ?_)
                    ·
                      have r1966 : R (1) (1) i1756 := ⟨by omega, by omega⟩
                      refine r_iconst S dX12_areFoes_119 (by decide) (fun v1967 z1968 => ?_)
                      have r1969 := R_eq z1968
                      refine r_goto (tgt := 124) S dX12_areFoes_120 (by decide) ?_
                      refine r_istore (lv' := [(4, .int v1967), (3, .int v1962), (7, .int v1796), (6, .int v1790), (0, .ref (G.2.2.2.1 131)), (1, .int a0), (2, .int a1), (5, .int i1758)]) S dX12_areFoes_124 hl (by decide) rfl (fun ls hl => ?_)
                      refine r_iinc (k := 7) S dX12_areFoes_126 hl rfl (by decide) (by decide) (fun v1970 d1971 ls z1972 z1973 hl => ?_)
                      obtain ⟨e1974, r1975⟩ := i_add (lo := 1) (hi := 9) z1972 r1785 (R_eq z1973) rfl
                      have hl : lv_has ls 8 [(5, .int v1970), (4, .int v1967), (3, .int v1962), (7, .int v1796), (6, .int v1790), (0, .ref (G.2.2.2.1 131)), (1, .int a0), (2, .int a1)] := hl
                      refine r_goto (tgt := 8) S dX12_areFoes_129 (by decide) ?_
                      exact ih1762 _ _ _ v1962 v1967 v1970 X1818 (R_of r1964 rfl) (R_of r1969 rfl) (R_of r1975 rfl) (lv_sub hl [5, 6, 7, 2, 1, 0] rfl) (by omega)
                    ·
                      have r1976 : R (0) (0) i1756 := ⟨by omega, by omega⟩
                      refine r_iload S dX12_areFoes_96 (lv_at hl 2 rfl) ?_
                      refine r_if_le (tgt := 105) S dX12_areFoes_98 (by decide) (fun c1977 => ?_) (fun c1977 => ?_)
                      ·
                        refine r_iconst S dX12_areFoes_105 (by decide) (fun v1978 z1979 => ?_)
                        have r1980 := R_eq z1979
                        refine r_iload S dX12_areFoes_106 (lv_at hl 1 rfl) ?_
                        refine r_if_le (tgt := 115) S dX12_areFoes_108 (by decide) (fun c1981 => ?_) (fun c1981 => ?_)
                        ·
                          exfalso; omega
                        ·
                          refine r_iconst S dX12_areFoes_111 (by decide) (fun v1982 z1983 => ?_)
                          have r1984 := R_eq z1983
                          refine r_goto (tgt := 116) S dX12_areFoes_112 (by decide) ?_
                          refine r_icmp_ne (tgt := 123) S dX12_areFoes_116 (by decide) (fun c1985 => ?_) (fun c1985 => ?_)
                          ·
                            refine r_iconst S dX12_areFoes_123 (by decide) (fun v1986 z1987 => ?_)
                            have r1988 := R_eq z1987
                            refine r_istore (lv' := [(4, .int v1986), (3, .int v1962), (7, .int v1796), (6, .int v1790), (0, .ref (G.2.2.2.1 131)), (1, .int a0), (2, .int a1), (5, .int i1758)]) S dX12_areFoes_124 hl (by decide) rfl (fun ls hl => ?_)
                            refine r_iinc (k := 7) S dX12_areFoes_126 hl rfl (by decide) (by decide) (fun v1989 d1990 ls z1991 z1992 hl => ?_)
                            obtain ⟨e1993, r1994⟩ := i_add (lo := 1) (hi := 9) z1991 r1785 (R_eq z1992) rfl
                            have hl : lv_has ls 8 [(5, .int v1989), (4, .int v1986), (3, .int v1962), (7, .int v1796), (6, .int v1790), (0, .ref (G.2.2.2.1 131)), (1, .int a0), (2, .int a1)] := hl
                            refine r_goto (tgt := 8) S dX12_areFoes_129 (by decide) ?_
                            exact ih1762 _ _ _ v1962 v1986 v1989 X1818 (R_of r1964 rfl) (R_of r1988 rfl) (R_of r1994 rfl) (lv_sub hl [5, 6, 7, 2, 1, 0] rfl) (by omega)
                          ·
                            exfalso; omega
                      ·
                        exfalso; omega
              ·
                have r1995 : R (1) (9) v1790 := ⟨by omega, by omega⟩
                refine r_iconst S dX12_areFoes_67 (by decide) (fun v1996 z1997 => ?_)
                have r1998 := R_eq z1997
                refine r_goto (tgt := 72) S dX12_areFoes_68 (by decide) ?_
                refine r_iload S dX12_areFoes_72 (lv_at hl 0 rfl) ?_
                refine r_if_le (tgt := 81) S dX12_areFoes_74 (by decide) (fun c1999 => ?_) (fun c1999 => ?_)
                ·
                  have r2000 : R (-9) (0) v1796 := ⟨by omega, by omega⟩
                  refine r_iconst S dX12_areFoes_81 (by decide) (fun v2001 z2002 => ?_)
                  have r2003 := R_eq z2002
                  refine r_icmp_eq (tgt := 89) S dX12_areFoes_82 (by decide) (fun c2004 => ?_) (fun c2004 => ?_)
                  ·
                    exfalso; omega
                  ·
                    refine r_iconst S dX12_areFoes_85 (by decide) (fun v2005 z2006 => ?_)
                    have r2007 := R_eq z2006
                    refine r_goto (tgt := 90) S dX12_areFoes_86 (by decide) ?_
                    refine r_istore_n (lv' := [(3, .int v2005), (7, .int v1796), (6, .int v1790), (0, .ref (G.2.2.2.1 131)), (1, .int a0), (2, .int a1), (4, .int i1756), (5, .int i1758)]) S dX12_areFoes_90 rfl hl (by decide) rfl (fun ls hl => ?_)
                    refine r_iload S dX12_areFoes_91 (lv_at hl 6 rfl) ?_
                    refine r_if_ne (tgt := 119) S dX12_areFoes_93 (by decide) (fun c2008 => ?_) (fun c2008 => ?_)
                    ·
                      have r2009 : R (1) (1) i1756 := ⟨by omega, by omega⟩
                      refine r_iconst S dX12_areFoes_119 (by decide) (fun v2010 z2011 => ?_)
                      have r2012 := R_eq z2011
                      refine r_goto (tgt := 124) S dX12_areFoes_120 (by decide) ?_
                      refine r_istore (lv' := [(4, .int v2010), (3, .int v2005), (7, .int v1796), (6, .int v1790), (0, .ref (G.2.2.2.1 131)), (1, .int a0), (2, .int a1), (5, .int i1758)]) S dX12_areFoes_124 hl (by decide) rfl (fun ls hl => ?_)
                      refine r_iinc (k := 7) S dX12_areFoes_126 hl rfl (by decide) (by decide) (fun v2013 d2014 ls z2015 z2016 hl => ?_)
                      obtain ⟨e2017, r2018⟩ := i_add (lo := 1) (hi := 9) z2015 r1785 (R_eq z2016) rfl
                      have hl : lv_has ls 8 [(5, .int v2013), (4, .int v2010), (3, .int v2005), (7, .int v1796), (6, .int v1790), (0, .ref (G.2.2.2.1 131)), (1, .int a0), (2, .int a1)] := hl
                      refine r_goto (tgt := 8) S dX12_areFoes_129 (by decide) ?_
                      exact ih1762 _ _ _ v2005 v2010 v2013 X1818 (R_of r2007 rfl) (R_of r2012 rfl) (R_of r2018 rfl) (lv_sub hl [5, 6, 7, 2, 1, 0] rfl) (by omega)
                    ·
                      have r2019 : R (0) (0) i1756 := ⟨by omega, by omega⟩
                      refine r_iload S dX12_areFoes_96 (lv_at hl 2 rfl) ?_
                      refine r_if_le (tgt := 105) S dX12_areFoes_98 (by decide) (fun c2020 => ?_) (fun c2020 => ?_)
                      ·
                        exfalso; omega
                      ·
                        refine r_iconst S dX12_areFoes_101 (by decide) (fun v2021 z2022 => ?_)
                        have r2023 := R_eq z2022
                        refine r_goto (tgt := 106) S dX12_areFoes_102 (by decide) ?_
                        refine r_iload S dX12_areFoes_106 (lv_at hl 1 rfl) ?_
                        refine r_if_le (tgt := 115) S dX12_areFoes_108 (by decide) (fun c2024 => ?_) (fun c2024 => ?_)
                        ·
                          refine r_iconst S dX12_areFoes_115 (by decide) (fun v2025 z2026 => ?_)
                          have r2027 := R_eq z2026
                          refine r_icmp_ne (tgt := 123) S dX12_areFoes_116 (by decide) (fun c2028 => ?_) (fun c2028 => ?_)
                          ·
                            refine r_iconst S dX12_areFoes_123 (by decide) (fun v2029 z2030 => ?_)
                            have r2031 := R_eq z2030
                            refine r_istore (lv' := [(4, .int v2029), (3, .int v2005), (7, .int v1796), (6, .int v1790), (0, .ref (G.2.2.2.1 131)), (1, .int a0), (2, .int a1), (5, .int i1758)]) S dX12_areFoes_124 hl (by decide) rfl (fun ls hl => ?_)
                            refine r_iinc (k := 7) S dX12_areFoes_126 hl rfl (by decide) (by decide) (fun v2032 d2033 ls z2034 z2035 hl => ?_)
                            obtain ⟨e2036, r2037⟩ := i_add (lo := 1) (hi := 9) z2034 r1785 (R_eq z2035) rfl
                            have hl : lv_has ls 8 [(5, .int v2032), (4, .int v2029), (3, .int v2005), (7, .int v1796), (6, .int v1790), (0, .ref (G.2.2.2.1 131)), (1, .int a0), (2, .int a1)] := hl
                            refine r_goto (tgt := 8) S dX12_areFoes_129 (by decide) ?_
                            exact ih1762 _ _ _ v2005 v2029 v2032 X1818 (R_of r2007 rfl) (R_of r2031 rfl) (R_of r2037 rfl) (lv_sub hl [5, 6, 7, 2, 1, 0] rfl) (by omega)
                          ·
                            exfalso; omega
                        ·
                          exfalso; omega
                ·
                  have r2038 : R (1) (9) v1796 := ⟨by omega, by omega⟩
                  refine r_iconst S dX12_areFoes_77 (by decide) (fun v2039 z2040 => ?_)
                  have r2041 := R_eq z2040
                  refine r_goto (tgt := 82) S dX12_areFoes_78 (by decide) ?_
                  refine r_icmp_eq (tgt := 89) S dX12_areFoes_82 (by decide) (fun c2042 => ?_) (fun c2042 => ?_)
                  ·
                    refine r_iconst S dX12_areFoes_89 (by decide) (fun v2043 z2044 => ?_)
                    have r2045 := R_eq z2044
                    refine r_istore_n (lv' := [(3, .int v2043), (7, .int v1796), (6, .int v1790), (0, .ref (G.2.2.2.1 131)), (1, .int a0), (2, .int a1), (4, .int i1756), (5, .int i1758)]) S dX12_areFoes_90 rfl hl (by decide) rfl (fun ls hl => ?_)
                    refine r_iload S dX12_areFoes_91 (lv_at hl 6 rfl) ?_
                    refine r_if_ne (tgt := 119) S dX12_areFoes_93 (by decide) (fun c2046 => ?_) (fun c2046 => ?_)
                    ·
                      have r2047 : R (1) (1) i1756 := ⟨by omega, by omega⟩
                      refine r_iconst S dX12_areFoes_119 (by decide) (fun v2048 z2049 => ?_)
                      have r2050 := R_eq z2049
                      refine r_goto (tgt := 124) S dX12_areFoes_120 (by decide) ?_
                      refine r_istore (lv' := [(4, .int v2048), (3, .int v2043), (7, .int v1796), (6, .int v1790), (0, .ref (G.2.2.2.1 131)), (1, .int a0), (2, .int a1), (5, .int i1758)]) S dX12_areFoes_124 hl (by decide) rfl (fun ls hl => ?_)
                      refine r_iinc (k := 7) S dX12_areFoes_126 hl rfl (by decide) (by decide) (fun v2051 d2052 ls z2053 z2054 hl => ?_)
                      obtain ⟨e2055, r2056⟩ := i_add (lo := 1) (hi := 9) z2053 r1785 (R_eq z2054) rfl
                      have hl : lv_has ls 8 [(5, .int v2051), (4, .int v2048), (3, .int v2043), (7, .int v1796), (6, .int v1790), (0, .ref (G.2.2.2.1 131)), (1, .int a0), (2, .int a1)] := hl
                      refine r_goto (tgt := 8) S dX12_areFoes_129 (by decide) ?_
                      exact ih1762 _ _ _ v2043 v2048 v2051 X1818 (R_of r2045 rfl) (R_of r2050 rfl) (R_of r2056 rfl) (lv_sub hl [5, 6, 7, 2, 1, 0] rfl) (by omega)
                    ·
                      have r2057 : R (0) (0) i1756 := ⟨by omega, by omega⟩
                      refine r_iload S dX12_areFoes_96 (lv_at hl 2 rfl) ?_
                      refine r_if_le (tgt := 105) S dX12_areFoes_98 (by decide) (fun c2058 => ?_) (fun c2058 => ?_)
                      ·
                        exfalso; omega
                      ·
                        refine r_iconst S dX12_areFoes_101 (by decide) (fun v2059 z2060 => ?_)
                        have r2061 := R_eq z2060
                        refine r_goto (tgt := 106) S dX12_areFoes_102 (by decide) ?_
                        refine r_iload S dX12_areFoes_106 (lv_at hl 1 rfl) ?_
                        refine r_if_le (tgt := 115) S dX12_areFoes_108 (by decide) (fun c2062 => ?_) (fun c2062 => ?_)
                        ·
                          exfalso; omega
                        ·
                          refine r_iconst S dX12_areFoes_111 (by decide) (fun v2063 z2064 => ?_)
                          have r2065 := R_eq z2064
                          refine r_goto (tgt := 116) S dX12_areFoes_112 (by decide) ?_
                          refine r_icmp_ne (tgt := 123) S dX12_areFoes_116 (by decide) (fun c2066 => ?_) (fun c2066 => ?_)
                          ·
                            exfalso; omega
                          ·
                            refine r_iconst S dX12_areFoes_119 (by decide) (fun v2067 z2068 => ?_)
                            have r2069 := R_eq z2068
                            refine r_goto (tgt := 124) S dX12_areFoes_120 (by decide) ?_
                            refine r_istore (lv' := [(4, .int v2067), (3, .int v2043), (7, .int v1796), (6, .int v1790), (0, .ref (G.2.2.2.1 131)), (1, .int a0), (2, .int a1), (5, .int i1758)]) S dX12_areFoes_124 hl (by decide) rfl (fun ls hl => ?_)
                            refine r_iinc (k := 7) S dX12_areFoes_126 hl rfl (by decide) (by decide) (fun v2070 d2071 ls z2072 z2073 hl => ?_)
                            obtain ⟨e2074, r2075⟩ := i_add (lo := 1) (hi := 9) z2072 r1785 (R_eq z2073) rfl
                            have hl : lv_has ls 8 [(5, .int v2070), (4, .int v2067), (3, .int v2043), (7, .int v1796), (6, .int v1790), (0, .ref (G.2.2.2.1 131)), (1, .int a0), (2, .int a1)] := hl
                            refine r_goto (tgt := 8) S dX12_areFoes_129 (by decide) ?_
                            exact ih1762 _ _ _ v2043 v2067 v2070 X1818 (R_of r2045 rfl) (R_of r2069 rfl) (R_of r2075 rfl) (lv_sub hl [5, 6, 7, 2, 1, 0] rfl) (by omega)
                  ·
                    exfalso; omega
          ·
            have r2076 : R (0) (4) v1820 := ⟨by omega, by omega⟩
            refine r_goto (tgt := 126) S dX12_areFoes_55 (by decide) ?_
            refine r_iinc (k := 7) S dX12_areFoes_126 hl rfl (by decide) (by decide) (fun v2077 d2078 ls z2079 z2080 hl => ?_)
            obtain ⟨e2081, r2082⟩ := i_add (lo := 1) (hi := 9) z2079 r1785 (R_eq z2080) rfl
            have hl : lv_has ls 8 [(5, .int v2077), (7, .int v1796), (6, .int v1790), (0, .ref (G.2.2.2.1 131)), (1, .int a0), (2, .int a1), (3, .int i1754), (4, .int i1756)] := hl
            refine r_goto (tgt := 8) S dX12_areFoes_129 (by decide) ?_
            exact ih1762 _ _ _ i1754 i1756 v2077 X1818 r1755 r1757 (R_of r2082 rfl) (lv_sub hl [3, 4, 5, 6, 7, 0] rfl) (by omega)
  exact L1761 _ _ _ _ v1 v4 v7 X (R_of r3 rfl) (R_of r6 rfl) (R_of r9 rfl) (lv_sub hl [3, 4, 5, 2, 1, 0] rfl) (Nat.lt_succ_self _)
def po_X12_hasFoes (τ : Tau)  (a0 : Int32)   (r : Int32) (u : Tau) : Prop := u = τ ∧ R (0) (1) r
set_option maxHeartbeats 4000000 in
set_option maxRecDepth 100000 in
theorem c_X12_hasFoes (l : Launch) (G : Gx) (τ : Tau) (hI : Inv τ) (a0 : Int32) (h_a0 : R (-2147483648) (2147483647) a0) : Ci l G yX12_hasFoes cX12_hasFoes 4 (some .boolean) 4 93 [.ref (G.2.2.2.1 131), .int a0] τ (po_X12_hasFoes τ  a0  ) := by
  unfold Ci
  refine C_of (own := RX12) (by decide) rfl (Nat.le_of_ble_eq_true rfl) ?_
  intro p e s m below meth c ls S hr hlk X hl
  have hl : lv_has ls 4 [(0, .ref (G.2.2.2.1 131)), (1, .int a0)] := hl
  refine r_iconst S dX12_hasFoes_0 (by decide) (fun v1 z2 => ?_)
  have r3 := R_eq z2
  refine r_istore_n (lv' := [(2, .int v1), (0, .ref (G.2.2.2.1 131)), (1, .int a0)]) S dX12_hasFoes_1 rfl hl (by decide) rfl (fun ls hl => ?_)
  have L1808 : ∀ (n : Nat) (H : Heap) (lc : List Loc) (ls : Array Slot) (i1805 : Int32), Xd G s H lc τ → R (0) (10) i1805 → lv_has ls 4 [(0, .ref (G.2.2.2.1 131)), (1, .int a0), (2, .int i1805)] → (10 - i1805.toInt).toNat < n → W p l e (Rm 4 93) s m ([.ref (G.2.2.2.1 131), .int a0] : List Value).toArray below meth c H lc 0 0 (MQ below (va_Qi (po_X12_hasFoes τ  a0  ) (Bs G) G.2.2.2.2) ([.ref (G.2.2.2.1 131), .int a0] : List Value).toArray s 0 0 G.2.2.2.2) (F0 m 2 ls []) := by
    intro n
    induction n with
    | zero => intros; omega
    | succ n ih1809 =>
      intro H lc ls i1805 X1807 r1806 hl hm
      refine r_iload_n S dX12_hasFoes_2 rfl (lv_at hl 2 rfl) ?_
      refine r_aload_n S dX12_hasFoes_3 rfl (lv_at hl 0 rfl) ?_
      refine r_get (K := 38) (v := .ref (G.2.2.2.1 133)) S X1807 (Nat.le_of_ble_eq_true rfl) rfl lk12_33_10 (fun _ => ⟨_, rfl, rfl⟩) dX12_hasFoes_4 ?_
      refine r_iconst S dX12_hasFoes_7 (by decide) (fun v1810 z1811 => ?_)
      have r1812 := R_eq z1811
      refine r_aldn (n := 513) (K := 40) S X1807 (Nat.le_of_ble_eq_true rfl) rfl (fun _ => rfl) (ix_of r1812 rfl) dX12_hasFoes_8 (fun v1813 z1814 => ?_)
      have r1815 : R (0) (10) v1813 := rds (K := 40) (a := 1) (n := 1) hI rfl z1814 (R_of r1812 rfl) (by decide +kernel)
      refine r_icmp_ge (tgt := 58) S dX12_hasFoes_9 (by decide) (fun c1816 => ?_) (fun c1816 => ?_)
      ·
        refine r_iconst S dX12_hasFoes_58 (by decide) (fun v1817 z1818 => ?_)
        have r1819 := R_eq z1818
        exact r_ret S hr hlk X1807 ⟨rfl, (R_of r1819 rfl)⟩ (nr_bool (R_of (lo := 0) (hi := 1) r1819 rfl)) dX12_hasFoes_59
      ·
        have r1820 : R (0) (9) i1805 := ⟨by omega, by omega⟩
        have r1821 : R (1) (10) v1813 := ⟨by omega, by omega⟩
        refine r_iconst S dX12_hasFoes_12 (by decide) (fun v1822 z1823 => ?_)
        have r1824 := R_eq z1823
        refine r_istore_n (lv' := [(3, .int v1822), (0, .ref (G.2.2.2.1 131)), (1, .int a0), (2, .int i1805)]) S dX12_hasFoes_13 rfl hl (by decide) rfl (fun ls hl => ?_)
        have L2134 : ∀ (n : Nat) (H : Heap) (lc : List Loc) (ls : Array Slot) (i2131 : Int32), Xd G s H lc τ → R (0) (9) i2131 → lv_has ls 4 [(0, .ref (G.2.2.2.1 131)), (1, .int a0), (2, .int i1805), (3, .int i2131)] → (9 - i2131.toInt).toNat < n → W p l e (Rm 4 93) s m ([.ref (G.2.2.2.1 131), .int a0] : List Value).toArray below meth c H lc 0 0 (MQ below (va_Qi (po_X12_hasFoes τ  a0  ) (Bs G) G.2.2.2.2) ([.ref (G.2.2.2.1 131), .int a0] : List Value).toArray s 0 0 G.2.2.2.2) (F0 m 14 ls []) := by
          intro n
          induction n with
          | zero => intros; omega
          | succ n ih2135 =>
            intro H lc ls i2131 X2133 r2132 hl hm
            refine r_iload_n S dX12_hasFoes_14 rfl (lv_at hl 3 rfl) ?_
            refine r_iload_n S dX12_hasFoes_15 rfl (lv_at hl 2 rfl) ?_
            refine r_icmp_ge (tgt := 52) S dX12_hasFoes_16 (by decide) (fun c2136 => ?_) (fun c2136 => ?_)
            ·
              refine r_iinc (k := 2) S dX12_hasFoes_52 hl rfl (by decide) (by decide) (fun v2137 d2138 ls z2139 z2140 hl => ?_)
              obtain ⟨e2141, r2142⟩ := i_add (lo := 1) (hi := 10) z2139 r1820 (R_eq z2140) rfl
              have hl : lv_has ls 4 [(2, .int v2137), (0, .ref (G.2.2.2.1 131)), (1, .int a0), (3, .int i2131)] := hl
              refine r_goto (tgt := 2) S dX12_hasFoes_55 (by decide) ?_
              exact ih1809 _ _ _ v2137 X2133 (R_of r2142 rfl) (lv_sub hl [1, 2, 0] rfl) (by omega)
            ·
              have r2143 : R (0) (8) i2131 := ⟨by omega, by omega⟩
              have r2144 : R (1) (9) i1805 := ⟨by omega, by omega⟩
              refine r_iload_n S dX12_hasFoes_19 rfl (lv_at hl 1 rfl) ?_
              refine r_iload_n S dX12_hasFoes_20 rfl (lv_at hl 2 rfl) ?_
              refine r_ki (q_S (As := [.int a0, .int i1805]) (rest := []) S X2133 (c_X12_bitOf l G τ hI a0 i1805 h_a0 (R_of (lo := -2147483648) (hi := 2147483647) r2144 rfl)) ck12_221 ⟨Nat.le_of_ble_eq_true rfl, Nat.le_of_ble_eq_true rfl⟩ rfl hl.1 rfl (Nat.le_of_ble_eq_true rfl) dX12_hasFoes_21 ⟨Nat.le_refl 0, Nat.le_refl 0⟩) X2133 (fun v2148 t2147 H lc q2145 X2146 => ?_)
              unfold po_X12_bitOf at q2145
              obtain ⟨q2149, q2150⟩ := q2145
              rw [q2149] at X2146
              refine r_if_eq (tgt := 46) S dX12_hasFoes_24 (by decide) (fun c2151 => ?_) (fun c2151 => ?_)
              ·
                have r2152 : R (0) (0) v2148 := ⟨by omega, by omega⟩
                refine r_iinc (k := 3) S dX12_hasFoes_46 hl rfl (by decide) (by decide) (fun v2153 d2154 ls z2155 z2156 hl => ?_)
                obtain ⟨e2157, r2158⟩ := i_add (lo := 1) (hi := 9) z2155 r2143 (R_eq z2156) rfl
                have hl : lv_has ls 4 [(3, .int v2153), (0, .ref (G.2.2.2.1 131)), (1, .int a0), (2, .int i1805)] := hl
                refine r_goto (tgt := 14) S dX12_hasFoes_49 (by decide) ?_
                exact ih2135 _ _ _ v2153 X2146 (R_of r2158 rfl) (lv_sub hl [1, 2, 3, 0] rfl) (by omega)
              ·
                have r2159 : R (1) (1) v2148 := ⟨by omega, by omega⟩
                refine r_iload_n S dX12_hasFoes_27 rfl (lv_at hl 1 rfl) ?_
                refine r_iload_n S dX12_hasFoes_28 rfl (lv_at hl 3 rfl) ?_
                refine r_ki (q_S (As := [.int a0, .int i2131]) (rest := []) S X2146 (c_X12_bitOf l G τ hI a0 i2131 h_a0 (R_of (lo := -2147483648) (hi := 2147483647) r2143 rfl)) ck12_221 ⟨Nat.le_of_ble_eq_true rfl, Nat.le_of_ble_eq_true rfl⟩ rfl hl.1 rfl (Nat.le_of_ble_eq_true rfl) dX12_hasFoes_29 ⟨Nat.le_refl 0, Nat.le_refl 0⟩) X2146 (fun v2163 t2162 H lc q2160 X2161 => ?_)
                unfold po_X12_bitOf at q2160
                obtain ⟨q2164, q2165⟩ := q2160
                rw [q2164] at X2161
                refine r_if_eq (tgt := 46) S dX12_hasFoes_32 (by decide) (fun c2166 => ?_) (fun c2166 => ?_)
                ·
                  have r2167 : R (0) (0) v2163 := ⟨by omega, by omega⟩
                  refine r_iinc (k := 3) S dX12_hasFoes_46 hl rfl (by decide) (by decide) (fun v2168 d2169 ls z2170 z2171 hl => ?_)
                  obtain ⟨e2172, r2173⟩ := i_add (lo := 1) (hi := 9) z2170 r2143 (R_eq z2171) rfl
                  have hl : lv_has ls 4 [(3, .int v2168), (0, .ref (G.2.2.2.1 131)), (1, .int a0), (2, .int i1805)] := hl
                  refine r_goto (tgt := 14) S dX12_hasFoes_49 (by decide) ?_
                  exact ih2135 _ _ _ v2168 X2161 (R_of r2173 rfl) (lv_sub hl [1, 2, 3, 0] rfl) (by omega)
                ·
                  have r2174 : R (1) (1) v2163 := ⟨by omega, by omega⟩
                  refine r_aload_n S dX12_hasFoes_35 rfl (lv_at hl 0 rfl) ?_
                  refine r_iload_n S dX12_hasFoes_36 rfl (lv_at hl 2 rfl) ?_
                  refine r_iload_n S dX12_hasFoes_37 rfl (lv_at hl 3 rfl) ?_
                  refine r_ki (q_V (As := [.int i1805, .int i2131]) (rest := []) (K := 38) (ci := 10) S X2161 (c_X12_areFoes l G τ hI i1805 i2131 (R_of (lo := 0) (hi := 9) r2144 rfl) (R_of (lo := 0) (hi := 9) r2143 rfl)) ck12_278 (Nat.le_of_ble_eq_true rfl) rfl (fun _ => ⟨_, rfl⟩) ⟨_, _, rfl⟩ ⟨Nat.le_of_ble_eq_true rfl, Nat.le_of_ble_eq_true rfl⟩ rfl hl.1 rfl (Nat.le_of_ble_eq_true rfl) dX12_hasFoes_38 ⟨Nat.le_refl 0, Nat.le_refl 0⟩) X2161 (fun v2178 t2177 H lc q2175 X2176 => ?_)
                  unfold po_X12_areFoes at q2175
                  obtain ⟨q2179, q2180⟩ := q2175
                  rw [q2179] at X2176
                  refine r_if_eq (tgt := 46) S dX12_hasFoes_41 (by decide) (fun c2181 => ?_) (fun c2181 => ?_)
                  ·
                    have r2182 : R (0) (0) v2178 := ⟨by omega, by omega⟩
                    refine r_iinc (k := 3) S dX12_hasFoes_46 hl rfl (by decide) (by decide) (fun v2183 d2184 ls z2185 z2186 hl => ?_)
                    obtain ⟨e2187, r2188⟩ := i_add (lo := 1) (hi := 9) z2185 r2143 (R_eq z2186) rfl
                    have hl : lv_has ls 4 [(3, .int v2183), (0, .ref (G.2.2.2.1 131)), (1, .int a0), (2, .int i1805)] := hl
                    refine r_goto (tgt := 14) S dX12_hasFoes_49 (by decide) ?_
                    exact ih2135 _ _ _ v2183 X2176 (R_of r2188 rfl) (lv_sub hl [1, 2, 3, 0] rfl) (by omega)
                  ·
                    have r2189 : R (1) (1) v2178 := ⟨by omega, by omega⟩
                    refine r_iconst S dX12_hasFoes_44 (by decide) (fun v2190 z2191 => ?_)
                    have r2192 := R_eq z2191
                    exact r_ret S hr hlk X2176 ⟨rfl, (R_of r2192 rfl)⟩ (nr_bool (R_of (lo := 0) (hi := 1) r2192 rfl)) dX12_hasFoes_45
        exact L2134 _ _ _ _ v1822 X1807 (R_of r1824 rfl) (lv_sub hl [1, 2, 3, 0] rfl) (Nat.lt_succ_self _)
  exact L1808 _ _ _ _ v1 X (R_of r3 rfl) (lv_sub hl [1, 2, 0] rfl) (Nat.lt_succ_self _)
def po_X12_whyCross (τ : Tau)  (a0 : Int32)   (r : Int32) (u : Tau) : Prop := u = τ ∧ R (0) (4) r
set_option maxHeartbeats 4000000 in
set_option maxRecDepth 100000 in
theorem c_X12_whyCross (l : Launch) (G : Gx) (τ : Tau) (hI : Inv τ) (a0 : Int32) (h_a0 : R (-2147483648) (2147483647) a0) : Ci l G yX12_whyCross cX12_whyCross 2 (some .int) 5 116 [.ref (G.2.2.2.1 131), .int a0] τ (po_X12_whyCross τ  a0  ) := by
  unfold Ci
  refine C_of (own := RX12) (by decide) rfl (Nat.le_of_ble_eq_true rfl) ?_
  intro p e s m below meth c ls S hr hlk X hl
  have hl : lv_has ls 2 [(0, .ref (G.2.2.2.1 131)), (1, .int a0)] := hl
  refine r_iload_n S dX12_whyCross_0 rfl (lv_at hl 1 rfl) ?_
  refine r_if_eq (tgt := 15) S dX12_whyCross_1 (by decide) (fun c1 => ?_) (fun c1 => ?_)
  ·
    have r2 : R (0) (0) a0 := ⟨by omega, by omega⟩
    refine r_iconst S dX12_whyCross_15 (by decide) (fun v3 z4 => ?_)
    have r5 := R_eq z4
    exact r_ret S hr hlk X ⟨rfl, (R_of r5 rfl)⟩ rfl dX12_whyCross_16
  ·
    refine r_iload_n S dX12_whyCross_4 rfl (lv_at hl 1 rfl) ?_
    refine r_aload_n S dX12_whyCross_5 rfl (lv_at hl 0 rfl) ?_
    refine r_ki (q_V (As := []) (rest := [.int a0]) (K := 38) (ci := 10) S X (c_X12_ashore l G τ hI ) ck12_281 (Nat.le_of_ble_eq_true rfl) rfl (fun _ => ⟨_, rfl⟩) ⟨_, _, rfl⟩ ⟨Nat.le_of_ble_eq_true rfl, Nat.le_of_ble_eq_true rfl⟩ rfl hl.1 rfl (Nat.le_of_ble_eq_true rfl) dX12_whyCross_6 ⟨Nat.le_refl 0, Nat.le_refl 0⟩) X (fun v9 t8 H lc q6 X7 => ?_)
    unfold po_X12_ashore at q6
    obtain ⟨q10, q11⟩ := q6
    rw [q10] at X7
    refine r_iconst S dX12_whyCross_9 (by decide) (fun v12 z13 => ?_)
    have r14 := R_eq z13
    refine r_ixor S dX12_whyCross_10 (fun v15 z16 => ?_)
    have r17 := R_any v15
    refine r_iand S dX12_whyCross_11 (fun v18 z19 => ?_)
    have r20 := R_any v18
    refine r_if_eq (tgt := 17) S dX12_whyCross_12 (by decide) (fun c21 => ?_) (fun c21 => ?_)
    ·
      have r22 : R (0) (0) v18 := ⟨by omega, by omega⟩
      refine r_iload_n S dX12_whyCross_17 rfl (lv_at hl 1 rfl) ?_
      refine r_ki (q_S (As := [.int a0]) (rest := []) S X7 (c_X12_bits l G τ hI a0 h_a0) ck12_284 ⟨Nat.le_of_ble_eq_true rfl, Nat.le_of_ble_eq_true rfl⟩ rfl hl.1 rfl (Nat.le_of_ble_eq_true rfl) dX12_whyCross_18 ⟨Nat.le_refl 0, Nat.le_refl 0⟩) X7 (fun v26 t25 H lc q23 X24 => ?_)
      unfold po_X12_bits at q23
      have q27 := q23
      rw [q27] at X24
      have r28 := R_any v26
      refine r_aload_n S dX12_whyCross_21 rfl (lv_at hl 0 rfl) ?_
      refine r_get (K := 38) (v := .ref (G.2.2.2.1 133)) S X24 (Nat.le_of_ble_eq_true rfl) rfl lk12_33_10 (fun _ => ⟨_, rfl, rfl⟩) dX12_whyCross_22 ?_
      refine r_iconst S dX12_whyCross_25 (by decide) (fun v29 z30 => ?_)
      have r31 := R_eq z30
      refine r_aldn (n := 513) (K := 40) S X24 (Nat.le_of_ble_eq_true rfl) rfl (fun _ => rfl) (ix_of r31 rfl) dX12_whyCross_26 (fun v32 z33 => ?_)
      have r34 : R (0) (8) v32 := rds (K := 40) (a := 2) (n := 1) hI rfl z33 (R_of r31 rfl) (by decide +kernel)
      refine r_icmp_le (tgt := 32) S dX12_whyCross_27 (by decide) (fun c35 => ?_) (fun c35 => ?_)
      ·
        have r36 : R (-2147483648) (8) v26 := ⟨by omega, by omega⟩
        refine r_aload_n S dX12_whyCross_32 rfl (lv_at hl 0 rfl) ?_
        refine r_get (K := 38) (v := .ref (G.2.2.2.1 133)) S X24 (Nat.le_of_ble_eq_true rfl) rfl lk12_33_10 (fun _ => ⟨_, rfl, rfl⟩) dX12_whyCross_33 ?_
        refine r_iconst S dX12_whyCross_36 (by decide) (fun v37 z38 => ?_)
        have r39 := R_eq z38
        refine r_aldn (n := 513) (K := 40) S X24 (Nat.le_of_ble_eq_true rfl) rfl (fun _ => rfl) (ix_of r39 rfl) dX12_whyCross_37 (fun v40 z41 => ?_)
        have r42 : R (0) (9) v40 := rds (K := 40) (a := 0) (n := 1) hI rfl z41 (R_of r39 rfl) (by decide +kernel)
        refine r_if_eq (tgt := 60) S dX12_whyCross_38 (by decide) (fun c43 => ?_) (fun c43 => ?_)
        ·
          have r44 : R (0) (0) v40 := ⟨by omega, by omega⟩
          refine r_iconst S dX12_whyCross_60 (by decide) (fun v45 z46 => ?_)
          have r47 := R_eq z46
          exact r_ret S hr hlk X24 ⟨rfl, (R_of r47 rfl)⟩ rfl dX12_whyCross_61
        ·
          have r48 : R (1) (9) v40 := ⟨by omega, by omega⟩
          refine r_aload_n S dX12_whyCross_41 rfl (lv_at hl 0 rfl) ?_
          refine r_aload_n S dX12_whyCross_42 rfl (lv_at hl 0 rfl) ?_
          refine r_iload_n S dX12_whyCross_43 rfl (lv_at hl 1 rfl) ?_
          refine r_aload_n S dX12_whyCross_44 rfl (lv_at hl 0 rfl) ?_
          refine r_get (K := 38) (v := .ref (G.2.2.2.1 133)) S X24 (Nat.le_of_ble_eq_true rfl) rfl lk12_33_10 (fun _ => ⟨_, rfl, rfl⟩) dX12_whyCross_45 ?_
          refine r_bipush S dX12_whyCross_48 (by decide) (fun v49 z50 => ?_)
          have r51 := R_eq z50
          refine r_aldn (n := 513) (K := 40) S X24 (Nat.le_of_ble_eq_true rfl) rfl (fun _ => rfl) (ix_of r51 rfl) dX12_whyCross_50 (fun v52 z53 => ?_)
          have r54 : R (0) (8) v52 := rds (K := 40) (a := 126) (n := 1) hI rfl z53 (R_of r51 rfl) (by decide +kernel)
          refine r_ki (q_V (As := [.int a0, .int v52]) (rest := [.ref (G.2.2.2.1 131)]) (K := 38) (ci := 10) S X24 (c_X12_sumOf l G τ hI a0 v52 h_a0 r54) ck12_287 (Nat.le_of_ble_eq_true rfl) rfl (fun _ => ⟨_, rfl⟩) ⟨_, _, rfl⟩ ⟨Nat.le_of_ble_eq_true rfl, Nat.le_of_ble_eq_true rfl⟩ rfl hl.1 rfl (Nat.le_of_ble_eq_true rfl) dX12_whyCross_51 ⟨Nat.le_refl 0, Nat.le_refl 0⟩) X24 (fun v58 t57 H lc q55 X56 => ?_)
          unfold po_X12_sumOf at q55
          have q59 := q55
          rw [q59] at X56
          have r60 := R_any v58
          refine r_ki (q_V (As := [.int v58]) (rest := []) (K := 38) (ci := 10) S X56 (c_X12_balances l G τ hI v58 r60) ck12_290 (Nat.le_of_ble_eq_true rfl) rfl (fun _ => ⟨_, rfl⟩) ⟨_, _, rfl⟩ ⟨Nat.le_of_ble_eq_true rfl, Nat.le_of_ble_eq_true rfl⟩ rfl hl.1 rfl (Nat.le_of_ble_eq_true rfl) dX12_whyCross_54 ⟨Nat.le_refl 0, Nat.le_refl 0⟩) X56 (fun v64 t63 H lc q61 X62 => ?_)
          unfold po_X12_balances at q61
          obtain ⟨q65, q66⟩ := q61
          rw [q65] at X62
          refine r_if_ne (tgt := 62) S dX12_whyCross_57 (by decide) (fun c67 => ?_) (fun c67 => ?_)
          ·
            have r68 : R (1) (1) v64 := ⟨by omega, by omega⟩
            refine r_aload_n S dX12_whyCross_62 rfl (lv_at hl 0 rfl) ?_
            refine r_iload_n S dX12_whyCross_63 rfl (lv_at hl 1 rfl) ?_
            refine r_ki (q_V (As := [.int a0]) (rest := []) (K := 38) (ci := 10) S X62 (c_X12_hasFoes l G τ hI a0 h_a0) ck12_293 (Nat.le_of_ble_eq_true rfl) rfl (fun _ => ⟨_, rfl⟩) ⟨_, _, rfl⟩ ⟨Nat.le_of_ble_eq_true rfl, Nat.le_of_ble_eq_true rfl⟩ rfl hl.1 rfl (Nat.le_of_ble_eq_true rfl) dX12_whyCross_64 ⟨Nat.le_refl 0, Nat.le_refl 0⟩) X62 (fun v72 t71 H lc q69 X70 => ?_)
            unfold po_X12_hasFoes at q69
            obtain ⟨q73, q74⟩ := q69
            rw [q73] at X70
            refine r_if_eq (tgt := 74) S dX12_whyCross_67 (by decide) (fun c75 => ?_) (fun c75 => ?_)
            ·
              have r76 : R (0) (0) v72 := ⟨by omega, by omega⟩
              refine r_iconst S dX12_whyCross_74 (by decide) (fun v77 z78 => ?_)
              have r79 := R_eq z78
              exact r_ret S hr hlk X70 ⟨rfl, (R_of r79 rfl)⟩ rfl dX12_whyCross_75
            ·
              have r80 : R (1) (1) v72 := ⟨by omega, by omega⟩
              refine r_iconst S dX12_whyCross_70 (by decide) (fun v81 z82 => ?_)
              have r83 := R_eq z82
              refine r_goto (tgt := 75) S dX12_whyCross_71 (by decide) ?_
              exact r_ret S hr hlk X70 ⟨rfl, (R_of r83 rfl)⟩ rfl dX12_whyCross_75
          ·
            have r84 : R (0) (0) v64 := ⟨by omega, by omega⟩
            refine r_iconst S dX12_whyCross_60 (by decide) (fun v85 z86 => ?_)
            have r87 := R_eq z86
            exact r_ret S hr hlk X62 ⟨rfl, (R_of r87 rfl)⟩ rfl dX12_whyCross_61
      ·
        have r88 : R (1) (2147483647) v26 := ⟨by omega, by omega⟩
        refine r_iconst S dX12_whyCross_30 (by decide) (fun v89 z90 => ?_)
        have r91 := R_eq z90
        exact r_ret S hr hlk X24 ⟨rfl, (R_of r91 rfl)⟩ rfl dX12_whyCross_31
    ·
      refine r_iconst S dX12_whyCross_15 (by decide) (fun v92 z93 => ?_)
      have r94 := R_eq z93
      exact r_ret S hr hlk X7 ⟨rfl, (R_of r94 rfl)⟩ rfl dX12_whyCross_16
def po_X12_whyRaise (τ : Tau)  (a0 : Int32)   (r : Int32) (u : Tau) : Prop := u = τ ∧ R (0) (1) r
set_option maxHeartbeats 4000000 in
set_option maxRecDepth 100000 in
theorem c_X12_whyRaise (l : Launch) (G : Gx) (τ : Tau) (hI : Inv τ) (a0 : Int32) (h_a0 : R (-2147483648) (2147483647) a0) : Ci l G yX12_whyRaise cX12_whyRaise 2 (some .int) 0 0 [.ref (G.2.2.2.1 131), .int a0] τ (po_X12_whyRaise τ  a0  ) := by
  unfold Ci
  refine C_of (own := RX12) (by decide) rfl (Nat.le_of_ble_eq_true rfl) ?_
  intro p e s m below meth c ls S hr hlk X hl
  have hl : lv_has ls 2 [(0, .ref (G.2.2.2.1 131)), (1, .int a0)] := hl
  refine r_aload_n S dX12_whyRaise_0 rfl (lv_at hl 0 rfl) ?_
  refine r_get (K := 38) (v := .ref (G.2.2.2.1 133)) S X (Nat.le_of_ble_eq_true rfl) rfl lk12_33_10 (fun _ => ⟨_, rfl, rfl⟩) dX12_whyRaise_1 ?_
  refine r_bipush S dX12_whyRaise_4 (by decide) (fun v1 z2 => ?_)
  have r3 := R_eq z2
  refine r_aldn (n := 513) (K := 40) S X (Nat.le_of_ble_eq_true rfl) rfl (fun _ => rfl) (ix_of r3 rfl) dX12_whyRaise_6 (fun v4 z5 => ?_)
  have r6 : R (0) (8) v4 := rds (K := 40) (a := 126) (n := 1) hI rfl z5 (R_of r3 rfl) (by decide +kernel)
  refine r_iload_n S dX12_whyRaise_7 rfl (lv_at hl 1 rfl) ?_
  refine r_icmp_ne (tgt := 15) S dX12_whyRaise_8 (by decide) (fun c7 => ?_) (fun c7 => ?_)
  ·
    refine r_iconst S dX12_whyRaise_15 (by decide) (fun v8 z9 => ?_)
    have r10 := R_eq z9
    exact r_ret S hr hlk X ⟨rfl, (R_of r10 rfl)⟩ rfl dX12_whyRaise_16
  ·
    have r11 : R (0) (8) a0 := ⟨by omega, by omega⟩
    refine r_iconst S dX12_whyRaise_11 (by decide) (fun v12 z13 => ?_)
    have r14 := R_eq z13
    refine r_goto (tgt := 16) S dX12_whyRaise_12 (by decide) ?_
    exact r_ret S hr hlk X ⟨rfl, (R_of r14 rfl)⟩ rfl dX12_whyRaise_16
def po_X12_whyHire (τ : Tau)  (a0 : Int32)   (r : Int32) (u : Tau) : Prop := u = τ ∧ R (0) (1) r
set_option maxHeartbeats 4000000 in
set_option maxRecDepth 100000 in
theorem c_X12_whyHire (l : Launch) (G : Gx) (τ : Tau) (hI : Inv τ) (a0 : Int32) (h_a0 : R (-2147483648) (2147483647) a0) : Ci l G yX12_whyHire cX12_whyHire 2 (some .int) 0 0 [.ref (G.2.2.2.1 131), .int a0] τ (po_X12_whyHire τ  a0  ) := by
  unfold Ci
  refine C_of (own := RX12) (by decide) rfl (Nat.le_of_ble_eq_true rfl) ?_
  intro p e s m below meth c ls S hr hlk X hl
  have hl : lv_has ls 2 [(0, .ref (G.2.2.2.1 131)), (1, .int a0)] := hl
  refine r_aload_n S dX12_whyHire_0 rfl (lv_at hl 0 rfl) ?_
  refine r_get (K := 38) (v := .ref (G.2.2.2.1 133)) S X (Nat.le_of_ble_eq_true rfl) rfl lk12_33_10 (fun _ => ⟨_, rfl, rfl⟩) dX12_whyHire_1 ?_
  refine r_sipush S dX12_whyHire_4 (by decide) (fun v1 z2 => ?_)
  have r3 := R_eq z2
  refine r_aldn (n := 513) (K := 40) S X (Nat.le_of_ble_eq_true rfl) rfl (fun _ => rfl) (ix_of r3 rfl) dX12_whyHire_7 (fun v4 z5 => ?_)
  have r6 : R (0) (1023) v4 := rds (K := 40) (a := 131) (n := 1) hI rfl z5 (R_of r3 rfl) (by decide +kernel)
  refine r_iload_n S dX12_whyHire_8 rfl (lv_at hl 1 rfl) ?_
  refine r_ishr S dX12_whyHire_9 (fun v7 z8 => ?_)
  have r9 := R_any v7
  refine r_iconst S dX12_whyHire_10 (by decide) (fun v10 z11 => ?_)
  have r12 := R_eq z11
  refine r_iand S dX12_whyHire_11 (fun v13 z14 => ?_)
  have r16 : R (0) (1) v13 := i_and2 z14 r9 r12 rfl
  exact r_ret S hr hlk X ⟨rfl, r16⟩ rfl dX12_whyHire_12
def po_X12_whyLie (τ : Tau)  (a0 a1 a2 : Int32)   (r : Int32) (u : Tau) : Prop := u = τ ∧ R (0) (2) r
set_option maxHeartbeats 4000000 in
set_option maxRecDepth 100000 in
theorem c_X12_whyLie (l : Launch) (G : Gx) (τ : Tau) (hI : Inv τ) (a0 : Int32) (a1 : Int32) (a2 : Int32) (h_a0 : R (0) (9) a0) (h_a1 : R (0) (8) a1) (h_a2 : R (-2147483648) (2147483647) a2) : Ci l G yX12_whyLie cX12_whyLie 4 (some .int) 3 66 [.ref (G.2.2.2.1 131), .int a0, .int a1, .int a2] τ (po_X12_whyLie τ  a0 a1 a2  ) := by
  unfold Ci
  refine C_of (own := RX12) (by decide) rfl (Nat.le_of_ble_eq_true rfl) ?_
  intro p e s m below meth c ls S hr hlk X hl
  have hl : lv_has ls 4 [(0, .ref (G.2.2.2.1 131)), (1, .int a0), (2, .int a1), (3, .int a2)] := hl
  refine r_aload_n S dX12_whyLie_0 rfl (lv_at hl 0 rfl) ?_
  refine r_iload_n S dX12_whyLie_1 rfl (lv_at hl 1 rfl) ?_
  refine r_ki (q_V (As := [.int a0]) (rest := []) (K := 38) (ci := 10) S X (c_X12_bankOf l G τ hI a0 (R_of (lo := -2147483648) (hi := 2147483647) h_a0 rfl)) ck12_259 (Nat.le_of_ble_eq_true rfl) rfl (fun _ => ⟨_, rfl⟩) ⟨_, _, rfl⟩ ⟨Nat.le_of_ble_eq_true rfl, Nat.le_of_ble_eq_true rfl⟩ rfl hl.1 rfl (Nat.le_of_ble_eq_true rfl) dX12_whyLie_2 ⟨Nat.le_refl 0, Nat.le_refl 0⟩) X (fun v4 t3 H lc q1 X2 => ?_)
  unfold po_X12_bankOf at q1
  obtain ⟨q5, q6⟩ := q1
  rw [q5] at X2
  refine r_iconst S dX12_whyLie_5 (by decide) (fun v7 z8 => ?_)
  have r9 := R_eq z8
  refine r_icmp_ne (tgt := 13) S dX12_whyLie_6 (by decide) (fun c10 => ?_) (fun c10 => ?_)
  ·
    have r11 : R (0) (0) v4 := ⟨by omega, by omega⟩
    refine r_aload_n S dX12_whyLie_13 rfl (lv_at hl 0 rfl) ?_
    refine r_iload_n S dX12_whyLie_14 rfl (lv_at hl 1 rfl) ?_
    refine r_iload_n S dX12_whyLie_15 rfl (lv_at hl 2 rfl) ?_
    refine r_ki (q_V (As := [.int a0, .int a1]) (rest := []) (K := 38) (ci := 10) S X2 (c_X12_saysOf l G τ hI a0 a1 h_a0 h_a1) ck12_269 (Nat.le_of_ble_eq_true rfl) rfl (fun _ => ⟨_, rfl⟩) ⟨_, _, rfl⟩ ⟨Nat.le_of_ble_eq_true rfl, Nat.le_of_ble_eq_true rfl⟩ rfl hl.1 rfl (Nat.le_of_ble_eq_true rfl) dX12_whyLie_16 ⟨Nat.le_refl 0, Nat.le_refl 0⟩) X2 (fun v15 t14 H lc q12 X13 => ?_)
    unfold po_X12_saysOf at q12
    obtain ⟨q16, q17⟩ := q12
    rw [q16] at X13
    refine r_iload_n S dX12_whyLie_19 rfl (lv_at hl 3 rfl) ?_
    refine r_icmp_ne (tgt := 27) S dX12_whyLie_20 (by decide) (fun c18 => ?_) (fun c18 => ?_)
    ·
      refine r_iconst S dX12_whyLie_27 (by decide) (fun v19 z20 => ?_)
      have r21 := R_eq z20
      exact r_ret S hr hlk X13 ⟨rfl, (R_of r21 rfl)⟩ rfl dX12_whyLie_28
    ·
      have r22 : R (-9) (9) a2 := ⟨by omega, by omega⟩
      refine r_iconst S dX12_whyLie_23 (by decide) (fun v23 z24 => ?_)
      have r25 := R_eq z24
      refine r_goto (tgt := 28) S dX12_whyLie_24 (by decide) ?_
      exact r_ret S hr hlk X13 ⟨rfl, (R_of r25 rfl)⟩ rfl dX12_whyLie_28
  ·
    have r26 : R (1) (1) v4 := ⟨by omega, by omega⟩
    refine r_iconst S dX12_whyLie_9 (by decide) (fun v27 z28 => ?_)
    have r29 := R_eq z28
    refine r_goto (tgt := 28) S dX12_whyLie_10 (by decide) ?_
    exact r_ret S hr hlk X2 ⟨rfl, (R_of r29 rfl)⟩ rfl dX12_whyLie_28
def po_X12_whyTurn (τ : Tau)  (a0 a1 a2 : Int32)   (r : Int32) (u : Tau) : Prop := u = τ ∧ R (0) (1) r
set_option maxHeartbeats 4000000 in
set_option maxRecDepth 100000 in
theorem c_X12_whyTurn (l : Launch) (G : Gx) (τ : Tau) (hI : Inv τ) (a0 : Int32) (a1 : Int32) (a2 : Int32) (h_a0 : R (0) (9) a0) (h_a1 : R (0) (8) a1) (h_a2 : R (-2147483648) (2147483647) a2) : Ci l G yX12_whyTurn cX12_whyTurn 4 (some .int) 0 0 [.ref (G.2.2.2.1 131), .int a0, .int a1, .int a2] τ (po_X12_whyTurn τ  a0 a1 a2  ) := by
  unfold Ci
  refine C_of (own := RX12) (by decide) rfl (Nat.le_of_ble_eq_true rfl) ?_
  intro p e s m below meth c ls S hr hlk X hl
  have hl : lv_has ls 4 [(0, .ref (G.2.2.2.1 131)), (1, .int a0), (2, .int a1), (3, .int a2)] := hl
  refine r_aload_n S dX12_whyTurn_0 rfl (lv_at hl 0 rfl) ?_
  refine r_get (K := 38) (v := .ref (G.2.2.2.1 133)) S X (Nat.le_of_ble_eq_true rfl) rfl lk12_33_10 (fun _ => ⟨_, rfl, rfl⟩) dX12_whyTurn_1 ?_
  refine r_sipush S dX12_whyTurn_4 (by decide) (fun v1 z2 => ?_)
  have r3 := R_eq z2
  refine r_bipush S dX12_whyTurn_7 (by decide) (fun v4 z5 => ?_)
  have r6 := R_eq z5
  refine r_iload_n S dX12_whyTurn_9 rfl (lv_at hl 1 rfl) ?_
  refine r_imul S dX12_whyTurn_10 (fun v7 z8 => ?_)
  obtain ⟨e9, r10⟩ := i_mul (lo := 0) (hi := 81) z8 r6 h_a0 rfl rfl
  have e11 : v7.toInt = 9 * a0.toInt := by rw [e9, show v4.toInt = 9 by omega]
  refine r_iadd S dX12_whyTurn_11 (fun v12 z13 => ?_)
  obtain ⟨e14, r15⟩ := i_add (lo := 142) (hi := 223) z13 r3 r10 rfl
  refine r_iload_n S dX12_whyTurn_12 rfl (lv_at hl 2 rfl) ?_
  refine r_iadd S dX12_whyTurn_13 (fun v16 z17 => ?_)
  obtain ⟨e18, r19⟩ := i_add (lo := 142) (hi := 231) z17 r15 h_a1 rfl
  refine r_aldn (n := 513) (K := 40) S X (Nat.le_of_ble_eq_true rfl) rfl (fun _ => rfl) (ix_of r19 rfl) dX12_whyTurn_14 (fun v20 z21 => ?_)
  have r22 : R (-9) (9) v20 := rds (K := 40) (a := 142) (n := 90) hI rfl z21 (R_of r19 rfl) (by decide +kernel)
  have g23 : Rg 40 v16.toNatClampNeg v20 := rd hI rfl z21
  refine r_iload_n S dX12_whyTurn_15 rfl (lv_at hl 3 rfl) ?_
  refine r_icmp_ne (tgt := 23) S dX12_whyTurn_16 (by decide) (fun c24 => ?_) (fun c24 => ?_)
  ·
    refine r_iconst S dX12_whyTurn_23 (by decide) (fun v25 z26 => ?_)
    have r27 := R_eq z26
    exact r_ret S hr hlk X ⟨rfl, (R_of r27 rfl)⟩ rfl dX12_whyTurn_24
  ·
    have r28 : R (-9) (9) a2 := ⟨by omega, by omega⟩
    refine r_iconst S dX12_whyTurn_19 (by decide) (fun v29 z30 => ?_)
    have r31 := R_eq z30
    refine r_goto (tgt := 24) S dX12_whyTurn_20 (by decide) ?_
    exact r_ret S hr hlk X ⟨rfl, (R_of r31 rfl)⟩ rfl dX12_whyTurn_24
def po_X12_crosses (τ : Tau)  (a0 : Int32)   (u : Tau) : Prop := Inv u ∧ Fr [(133, 125), (133, 128), (133, 129), (133, 131), (133, 132), (133, 133), (133, 134), (133, 135), (133, 136), (133, 137), (133, 138), (133, 139), (133, 140), (133, 141), (133, 232), (133, 233), (133, 234), (133, 235), (133, 236), (133, 237), (133, 238), (133, 239), (133, 240), (133, 241)] [] τ u
set_option maxHeartbeats 4000000 in
set_option maxRecDepth 100000 in
theorem c_X12_crosses (l : Launch) (G : Gx) (τ : Tau) (hI : Inv τ) (a0 : Int32) (h_a0 : R (0) (1023) a0) : Cv l G yX12_crosses cX12_crosses 3 1 21 [.ref (G.2.2.2.1 131), .int a0] τ (po_X12_crosses τ  a0  ) := by
  unfold Cv
  refine C_of (own := RX12) (by decide) rfl (Nat.le_of_ble_eq_true rfl) ?_
  intro p e s m below meth c ls S hr hlk X hl
  have hl : lv_has ls 3 [(0, .ref (G.2.2.2.1 131)), (1, .int a0)] := hl
  refine r_aload_n S dX12_crosses_0 rfl (lv_at hl 0 rfl) ?_
  refine r_get (K := 38) (v := .ref (G.2.2.2.1 133)) S X (Nat.le_of_ble_eq_true rfl) rfl lk12_33_10 (fun _ => ⟨_, rfl, rfl⟩) dX12_crosses_1 ?_
  refine r_sipush S dX12_crosses_4 (by decide) (fun v1 z2 => ?_)
  have r3 := R_eq z2
  refine r_dup2 S dX12_crosses_7 rfl rfl ?_
  refine r_aldn (n := 513) (K := 40) S X (Nat.le_of_ble_eq_true rfl) rfl (fun _ => rfl) (ix_of r3 rfl) dX12_crosses_8 (fun v4 z5 => ?_)
  have r6 : R (0) (1023) v4 := rds (K := 40) (a := 129) (n := 1) hI rfl z5 (R_of r3 rfl) (by decide +kernel)
  refine r_iload_n S dX12_crosses_9 rfl (lv_at hl 1 rfl) ?_
  refine r_ixor S dX12_crosses_10 (fun v7 z8 => ?_)
  have r10 : R (0) (1023) v7 := i_xor 10 z8 r6 h_a0 rfl
  refine r_ast (n := 513) (K := 40) S X (Nat.le_of_ble_eq_true rfl) rfl (fun _ _ => rfl) (ix_of r3 rfl) dX12_crosses_11 (fun t11 H lc M12 X13 => ?_)
  have I14 := Inv_mu hI M12 (show Rg (kd 133) _ v7 from wrs (K := 40) (a := 129) (n := 1) (R_of r3 rfl) (R_of (lo := 0) (hi := 1023) r10 rfl) (by decide +kernel))
  have F15 : Fr [(133, 125), (133, 128), (133, 129), (133, 131), (133, 132), (133, 133), (133, 134), (133, 135), (133, 136), (133, 137), (133, 138), (133, 139), (133, 140), (133, 141), (133, 232), (133, 233), (133, 234), (133, 235), (133, 236), (133, 237), (133, 238), (133, 239), (133, 240), (133, 241)] [] τ t11 := Fr_mus (a := 129) (n := 1) Fr_rfl M12 (R_of r3 rfl) (by decide +kernel)
  refine r_aload_n S dX12_crosses_12 rfl (lv_at hl 0 rfl) ?_
  refine r_get (K := 38) (v := .ref (G.2.2.2.1 133)) S X13 (Nat.le_of_ble_eq_true rfl) rfl lk12_33_10 (fun _ => ⟨_, rfl, rfl⟩) dX12_crosses_13 ?_
  refine r_bipush S dX12_crosses_16 (by decide) (fun v16 z17 => ?_)
  have r18 := R_eq z17
  refine r_dup2 S dX12_crosses_18 rfl rfl ?_
  refine r_aldn (n := 513) (K := 40) S X13 (Nat.le_of_ble_eq_true rfl) rfl (fun _ => rfl) (ix_of r18 rfl) dX12_crosses_19 (fun v19 z20 => ?_)
  have r21 : R (0) (1) v19 := rds (K := 40) (a := 125) (n := 1) I14 rfl z20 (R_of r18 rfl) (by decide +kernel)
  refine r_iconst S dX12_crosses_20 (by decide) (fun v22 z23 => ?_)
  have r24 := R_eq z23
  refine r_ixor S dX12_crosses_21 (fun v25 z26 => ?_)
  have r28 : R (0) (1) v25 := i_xor 1 z26 r21 r24 rfl
  refine r_ast (n := 513) (K := 40) S X13 (Nat.le_of_ble_eq_true rfl) rfl (fun _ _ => rfl) (ix_of r18 rfl) dX12_crosses_22 (fun t29 H lc M30 X31 => ?_)
  have I32 := Inv_mu I14 M30 (show Rg (kd 133) _ v25 from wrs (K := 40) (a := 125) (n := 1) (R_of r18 rfl) (R_of (lo := 0) (hi := 1) r28 rfl) (by decide +kernel))
  have F33 : Fr [(133, 125), (133, 128), (133, 129), (133, 131), (133, 132), (133, 133), (133, 134), (133, 135), (133, 136), (133, 137), (133, 138), (133, 139), (133, 140), (133, 141), (133, 232), (133, 233), (133, 234), (133, 235), (133, 236), (133, 237), (133, 238), (133, 239), (133, 240), (133, 241)] [] τ t29 := Fr_mus (a := 125) (n := 1) F15 M30 (R_of r18 rfl) (by decide +kernel)
  refine r_aload_n S dX12_crosses_23 rfl (lv_at hl 0 rfl) ?_
  refine r_get (K := 38) (v := .ref (G.2.2.2.1 133)) S X31 (Nat.le_of_ble_eq_true rfl) rfl lk12_33_10 (fun _ => ⟨_, rfl, rfl⟩) dX12_crosses_24 ?_
  refine r_sipush S dX12_crosses_27 (by decide) (fun v34 z35 => ?_)
  have r36 := R_eq z35
  refine r_dup2 S dX12_crosses_30 rfl rfl ?_
  refine r_aldn (n := 513) (K := 40) S X31 (Nat.le_of_ble_eq_true rfl) rfl (fun _ => rfl) (ix_of r36 rfl) dX12_crosses_31 (fun v37 z38 => ?_)
  have r39 : R (0) (1023) v37 := rds (K := 40) (a := 131) (n := 1) I32 rfl z38 (R_of r36 rfl) (by decide +kernel)
  refine r_iload_n S dX12_crosses_32 rfl (lv_at hl 1 rfl) ?_
  refine r_iconst S dX12_crosses_33 (by decide) (fun v40 z41 => ?_)
  have r42 := R_eq z41
  refine r_ixor S dX12_crosses_34 (fun v43 z44 => ?_)
  have r45 := R_any v43
  refine r_iand S dX12_crosses_35 (fun v46 z47 => ?_)
  have r49 : R (0) (1023) v46 := i_and1 z47 r39 r45 rfl
  have e50 := i_andle z47 r39 rfl
  refine r_ast (n := 513) (K := 40) S X31 (Nat.le_of_ble_eq_true rfl) rfl (fun _ _ => rfl) (ix_of r36 rfl) dX12_crosses_36 (fun t51 H lc M52 X53 => ?_)
  have I54 := Inv_mu I32 M52 (show Rg (kd 133) _ v46 from wrs (K := 40) (a := 131) (n := 1) (R_of r36 rfl) (R_of (lo := 0) (hi := 1023) r49 rfl) (by decide +kernel))
  have F55 : Fr [(133, 125), (133, 128), (133, 129), (133, 131), (133, 132), (133, 133), (133, 134), (133, 135), (133, 136), (133, 137), (133, 138), (133, 139), (133, 140), (133, 141), (133, 232), (133, 233), (133, 234), (133, 235), (133, 236), (133, 237), (133, 238), (133, 239), (133, 240), (133, 241)] [] τ t51 := Fr_mus (a := 131) (n := 1) F33 M52 (R_of r36 rfl) (by decide +kernel)
  refine r_aload_n S dX12_crosses_37 rfl (lv_at hl 0 rfl) ?_
  refine r_get (K := 38) (v := .ref (G.2.2.2.1 133)) S X53 (Nat.le_of_ble_eq_true rfl) rfl lk12_33_10 (fun _ => ⟨_, rfl, rfl⟩) dX12_crosses_38 ?_
  refine r_sipush S dX12_crosses_41 (by decide) (fun v56 z57 => ?_)
  have r58 := R_eq z57
  refine r_dup2 S dX12_crosses_44 rfl rfl ?_
  refine r_aldn (n := 513) (K := 40) S X53 (Nat.le_of_ble_eq_true rfl) rfl (fun _ => rfl) (ix_of r58 rfl) dX12_crosses_45 (fun v59 z60 => ?_)
  have r62 := R_any v59
  refine r_iconst S dX12_crosses_46 (by decide) (fun v63 z64 => ?_)
  have r65 := R_eq z64
  refine r_iadd S dX12_crosses_47 (fun v66 z67 => ?_)
  have r68 := R_any v66
  refine r_ast (n := 513) (K := 40) S X53 (Nat.le_of_ble_eq_true rfl) rfl (fun _ _ => rfl) (ix_of r58 rfl) dX12_crosses_48 (fun t69 H lc M70 X71 => ?_)
  have I72 := Inv_mu I54 M70 (show Rg (kd 133) _ v66 from wrs (K := 40) (a := 128) (n := 1) (R_of r58 rfl) (R_of (lo := -2147483648) (hi := 2147483647) r68 rfl) (by decide +kernel))
  have F73 : Fr [(133, 125), (133, 128), (133, 129), (133, 131), (133, 132), (133, 133), (133, 134), (133, 135), (133, 136), (133, 137), (133, 138), (133, 139), (133, 140), (133, 141), (133, 232), (133, 233), (133, 234), (133, 235), (133, 236), (133, 237), (133, 238), (133, 239), (133, 240), (133, 241)] [] τ t69 := Fr_mus (a := 128) (n := 1) F55 M70 (R_of r58 rfl) (by decide +kernel)
  refine r_iconst S dX12_crosses_49 (by decide) (fun v74 z75 => ?_)
  have r76 := R_eq z75
  refine r_istore_n (lv' := [(2, .int v74), (0, .ref (G.2.2.2.1 131)), (1, .int a0)]) S dX12_crosses_50 rfl hl (by decide) rfl (fun ls hl => ?_)
  have L830 : ∀ (n : Nat) (t822 : Tau) (H : Heap) (lc : List Loc) (ls : Array Slot) (i820 : Int32), Xd G s H lc t822 → Inv t822 → Fr [(133, 125), (133, 128), (133, 129), (133, 131), (133, 132), (133, 133), (133, 134), (133, 135), (133, 136), (133, 137), (133, 138), (133, 139), (133, 140), (133, 141), (133, 232), (133, 233), (133, 234), (133, 235), (133, 236), (133, 237), (133, 238), (133, 239), (133, 240), (133, 241)] [] τ t822 → R (0) (10) i820 → t822 133 129 = v7 → t822 133 125 = v25 → t822 133 131 = v46 → t822 133 128 = v66 → lv_has ls 3 [(0, .ref (G.2.2.2.1 131)), (1, .int a0), (2, .int i820)] → (10 - i820.toInt).toNat < n → W p l e (Rm 1 21) s m ([.ref (G.2.2.2.1 131), .int a0] : List Value).toArray below meth c H lc 0 0 (MQ below (va_Qv (po_X12_crosses τ  a0  ) (Bs G) G.2.2.2.2) ([.ref (G.2.2.2.1 131), .int a0] : List Value).toArray s 0 0 G.2.2.2.2) (F0 m 51 ls []) := by
    intro n
    induction n with
    | zero => intros; omega
    | succ n ih831 =>
      intro t822 H lc ls i820 X825 I823 F824 r821 z826 z827 z828 z829 hl hm
      refine r_iload_n S dX12_crosses_51 rfl (lv_at hl 2 rfl) ?_
      refine r_aload_n S dX12_crosses_52 rfl (lv_at hl 0 rfl) ?_
      refine r_get (K := 38) (v := .ref (G.2.2.2.1 133)) S X825 (Nat.le_of_ble_eq_true rfl) rfl lk12_33_10 (fun _ => ⟨_, rfl, rfl⟩) dX12_crosses_53 ?_
      refine r_iconst S dX12_crosses_56 (by decide) (fun v832 z833 => ?_)
      have r834 := R_eq z833
      refine r_aldn (n := 513) (K := 40) S X825 (Nat.le_of_ble_eq_true rfl) rfl (fun _ => rfl) (ix_of r834 rfl) dX12_crosses_57 (fun v835 z836 => ?_)
      have r837 : R (0) (10) v835 := rds (K := 40) (a := 1) (n := 1) I823 rfl z836 (R_of r834 rfl) (by decide +kernel)
      refine r_icmp_ge (tgt := 114) S dX12_crosses_58 (by decide) (fun c838 => ?_) (fun c838 => ?_)
      ·
        exact r_vret S hr hlk X825 ⟨I823, F824⟩ dX12_crosses_114
      ·
        have r839 : R (0) (9) i820 := ⟨by omega, by omega⟩
        have r840 : R (1) (10) v835 := ⟨by omega, by omega⟩
        refine r_iload_n S dX12_crosses_61 rfl (lv_at hl 1 rfl) ?_
        refine r_iload_n S dX12_crosses_62 rfl (lv_at hl 2 rfl) ?_
        refine r_ki (q_S (As := [.int a0, .int i820]) (rest := []) S X825 (c_X12_bitOf l G t822 I823 a0 i820 (R_of (lo := -2147483648) (hi := 2147483647) h_a0 rfl) (R_of (lo := -2147483648) (hi := 2147483647) r839 rfl)) ck12_221 ⟨Nat.le_of_ble_eq_true rfl, Nat.le_of_ble_eq_true rfl⟩ rfl hl.1 rfl (Nat.le_of_ble_eq_true rfl) dX12_crosses_63 ⟨Nat.le_refl 0, Nat.le_refl 0⟩) X825 (fun v844 t843 H lc q841 X842 => ?_)
        unfold po_X12_bitOf at q841
        obtain ⟨q845, q846⟩ := q841
        rw [q845] at X842
        refine r_if_ne (tgt := 72) S dX12_crosses_66 (by decide) (fun c847 => ?_) (fun c847 => ?_)
        ·
          have r848 : R (1) (1) v844 := ⟨by omega, by omega⟩
          refine r_aload_n S dX12_crosses_72 rfl (lv_at hl 0 rfl) ?_
          refine r_get (K := 38) (v := .ref (G.2.2.2.1 133)) S X842 (Nat.le_of_ble_eq_true rfl) rfl lk12_33_10 (fun _ => ⟨_, rfl, rfl⟩) dX12_crosses_73 ?_
          refine r_sipush S dX12_crosses_76 (by decide) (fun v849 z850 => ?_)
          have r851 := R_eq z850
          refine r_iload_n S dX12_crosses_79 rfl (lv_at hl 2 rfl) ?_
          refine r_iadd S dX12_crosses_80 (fun v852 z853 => ?_)
          obtain ⟨e854, r855⟩ := i_add (lo := 132) (hi := 141) z853 r851 r839 rfl
          refine r_dup2 S dX12_crosses_81 rfl rfl ?_
          refine r_aldn (n := 513) (K := 40) S X842 (Nat.le_of_ble_eq_true rfl) rfl (fun _ => rfl) (ix_of r855 rfl) dX12_crosses_82 (fun v856 z857 => ?_)
          have r859 := R_any v856
          have g860 : Rg 40 v852.toNatClampNeg v856 := rd I823 rfl z857
          refine r_iconst S dX12_crosses_83 (by decide) (fun v861 z862 => ?_)
          have r863 := R_eq z862
          refine r_iadd S dX12_crosses_84 (fun v864 z865 => ?_)
          have r866 := R_any v864
          refine r_ast (n := 513) (K := 40) S X842 (Nat.le_of_ble_eq_true rfl) rfl (fun _ _ => rfl) (ix_of r855 rfl) dX12_crosses_85 (fun t867 H lc M868 X869 => ?_)
          have I870 := Inv_mu I823 M868 (show Rg (kd 133) _ v864 from wrs (K := 40) (a := 132) (n := 10) (R_of r855 rfl) (R_of (lo := -2147483648) (hi := 2147483647) r866 rfl) (by decide +kernel))
          have F871 : Fr [(133, 125), (133, 128), (133, 129), (133, 131), (133, 132), (133, 133), (133, 134), (133, 135), (133, 136), (133, 137), (133, 138), (133, 139), (133, 140), (133, 141), (133, 232), (133, 233), (133, 234), (133, 235), (133, 236), (133, 237), (133, 238), (133, 239), (133, 240), (133, 241)] [] τ t867 := Fr_mus (a := 132) (n := 10) F824 M868 (R_of r855 rfl) (by decide +kernel)
          refine r_aload_n S dX12_crosses_86 rfl (lv_at hl 0 rfl) ?_
          refine r_get (K := 38) (v := .ref (G.2.2.2.1 133)) S X869 (Nat.le_of_ble_eq_true rfl) rfl lk12_33_10 (fun _ => ⟨_, rfl, rfl⟩) dX12_crosses_87 ?_
          refine r_bipush S dX12_crosses_90 (by decide) (fun v872 z873 => ?_)
          have r874 := R_eq z873
          refine r_aldi (x := v25) (n := 513) (K := 40) S X869 (Nat.le_of_ble_eq_true rfl) rfl (fun _ => rfl) (ix_of r874 rfl) (zc' (n := 125) (by omega) ((M868.2 133 125 (Or.inr (ixne r855 rfl))).trans z827)) dX12_crosses_92 ?_
          refine r_iconst S dX12_crosses_93 (by decide) (fun v876 z877 => ?_)
          have r878 := R_eq z877
          refine r_icmp_ne (tgt := 108) S dX12_crosses_94 (by decide) (fun c879 => ?_) (fun c879 => ?_)
          ·
            have r880 : R (0) (0) v25 := ⟨by omega, by omega⟩
            refine r_iinc (k := 2) S dX12_crosses_108 hl rfl (by decide) (by decide) (fun v881 d882 ls z883 z884 hl => ?_)
            obtain ⟨e885, r886⟩ := i_add (lo := 1) (hi := 10) z883 r839 (R_eq z884) rfl
            have hl : lv_has ls 3 [(2, .int v881), (0, .ref (G.2.2.2.1 131)), (1, .int a0)] := hl
            refine r_goto (tgt := 51) S dX12_crosses_111 (by decide) ?_
            exact ih831 t867 _ _ _ v881 X869 I870 F871 (R_of r886 rfl) ((M868.2 133 129 (Or.inr (ixne r855 rfl))).trans z826) ((M868.2 133 125 (Or.inr (ixne r855 rfl))).trans z827) ((M868.2 133 131 (Or.inr (ixne r855 rfl))).trans z828) ((M868.2 133 128 (Or.inr (ixne r855 rfl))).trans z829) (lv_sub hl [1, 2, 0] rfl) (by omega)
          ·
            have r887 : R (1) (1) v25 := ⟨by omega, by omega⟩
            refine r_aload_n S dX12_crosses_97 rfl (lv_at hl 0 rfl) ?_
            refine r_get (K := 38) (v := .ref (G.2.2.2.1 133)) S X869 (Nat.le_of_ble_eq_true rfl) rfl lk12_33_10 (fun _ => ⟨_, rfl, rfl⟩) dX12_crosses_98 ?_
            refine r_sipush S dX12_crosses_101 (by decide) (fun v888 z889 => ?_)
            have r890 := R_eq z889
            refine r_iload_n S dX12_crosses_104 rfl (lv_at hl 2 rfl) ?_
            refine r_iadd S dX12_crosses_105 (fun v891 z892 => ?_)
            obtain ⟨e893, r894⟩ := i_add (lo := 232) (hi := 241) z892 r890 r839 rfl
            refine r_iconst S dX12_crosses_106 (by decide) (fun v895 z896 => ?_)
            have r897 := R_eq z896
            refine r_ast (n := 513) (K := 40) S X869 (Nat.le_of_ble_eq_true rfl) rfl (fun _ _ => rfl) (ix_of r894 rfl) dX12_crosses_107 (fun t898 H lc M899 X900 => ?_)
            have I901 := Inv_mu I870 M899 (show Rg (kd 133) _ v895 from wrs (K := 40) (a := 232) (n := 10) (R_of r894 rfl) (R_of (lo := 0) (hi := 511) r897 rfl) (by decide +kernel))
            have F902 : Fr [(133, 125), (133, 128), (133, 129), (133, 131), (133, 132), (133, 133), (133, 134), (133, 135), (133, 136), (133, 137), (133, 138), (133, 139), (133, 140), (133, 141), (133, 232), (133, 233), (133, 234), (133, 235), (133, 236), (133, 237), (133, 238), (133, 239), (133, 240), (133, 241)] [] τ t898 := Fr_mus (a := 232) (n := 10) F871 M899 (R_of r894 rfl) (by decide +kernel)
            refine r_iinc (k := 2) S dX12_crosses_108 hl rfl (by decide) (by decide) (fun v903 d904 ls z905 z906 hl => ?_)
            obtain ⟨e907, r908⟩ := i_add (lo := 1) (hi := 10) z905 r839 (R_eq z906) rfl
            have hl : lv_has ls 3 [(2, .int v903), (0, .ref (G.2.2.2.1 131)), (1, .int a0)] := hl
            refine r_goto (tgt := 51) S dX12_crosses_111 (by decide) ?_
            exact ih831 t898 _ _ _ v903 X900 I901 F902 (R_of r908 rfl) ((M899.2 133 129 (Or.inr (ixne r894 rfl))).trans ((M868.2 133 129 (Or.inr (ixne r855 rfl))).trans z826)) ((M899.2 133 125 (Or.inr (ixne r894 rfl))).trans ((M868.2 133 125 (Or.inr (ixne r855 rfl))).trans z827)) ((M899.2 133 131 (Or.inr (ixne r894 rfl))).trans ((M868.2 133 131 (Or.inr (ixne r855 rfl))).trans z828)) ((M899.2 133 128 (Or.inr (ixne r894 rfl))).trans ((M868.2 133 128 (Or.inr (ixne r855 rfl))).trans z829)) (lv_sub hl [1, 2, 0] rfl) (by omega)
        ·
          have r909 : R (0) (0) v844 := ⟨by omega, by omega⟩
          refine r_goto (tgt := 108) S dX12_crosses_69 (by decide) ?_
          refine r_iinc (k := 2) S dX12_crosses_108 hl rfl (by decide) (by decide) (fun v910 d911 ls z912 z913 hl => ?_)
          obtain ⟨e914, r915⟩ := i_add (lo := 1) (hi := 10) z912 r839 (R_eq z913) rfl
          have hl : lv_has ls 3 [(2, .int v910), (0, .ref (G.2.2.2.1 131)), (1, .int a0)] := hl
          refine r_goto (tgt := 51) S dX12_crosses_111 (by decide) ?_
          exact ih831 t822 _ _ _ v910 X842 I823 F824 (R_of r915 rfl) z826 z827 z828 z829 (lv_sub hl [1, 2, 0] rfl) (by omega)
  exact L830 _ t69 _ _ _ v74 X71 I72 F73 (R_of r76 rfl) ((M70.2 133 129 (Or.inr (ixne r58 rfl))).trans ((M52.2 133 129 (Or.inr (ixne r36 rfl))).trans ((M30.2 133 129 (Or.inr (ixne r18 rfl))).trans (zc (by omega) M12.1)))) ((M70.2 133 125 (Or.inr (ixne r58 rfl))).trans ((M52.2 133 125 (Or.inr (ixne r36 rfl))).trans (zc (by omega) M30.1))) ((M70.2 133 131 (Or.inr (ixne r58 rfl))).trans (zc (by omega) M52.1)) (zc (by omega) M70.1) (lv_sub hl [1, 2, 0] rfl) (Nat.lt_succ_self _)
def po_X12_hires (τ : Tau)  (a0 : Int32)   (u : Tau) : Prop := Inv u ∧ Fr [(133, 131), (133, 127)] [] τ u
set_option maxHeartbeats 4000000 in
set_option maxRecDepth 100000 in
theorem c_X12_hires (l : Launch) (G : Gx) (τ : Tau) (hI : Inv τ) (a0 : Int32) (h_a0 : R (0) (9) a0) : Cv l G yX12_hires cX12_hires 2 0 0 [.ref (G.2.2.2.1 131), .int a0] τ (po_X12_hires τ  a0  ) := by
  unfold Cv
  refine C_of (own := RX12) (by decide) rfl (Nat.le_of_ble_eq_true rfl) ?_
  intro p e s m below meth c ls S hr hlk X hl
  have hl : lv_has ls 2 [(0, .ref (G.2.2.2.1 131)), (1, .int a0)] := hl
  refine r_aload_n S dX12_hires_0 rfl (lv_at hl 0 rfl) ?_
  refine r_get (K := 38) (v := .ref (G.2.2.2.1 133)) S X (Nat.le_of_ble_eq_true rfl) rfl lk12_33_10 (fun _ => ⟨_, rfl, rfl⟩) dX12_hires_1 ?_
  refine r_sipush S dX12_hires_4 (by decide) (fun v1 z2 => ?_)
  have r3 := R_eq z2
  refine r_dup2 S dX12_hires_7 rfl rfl ?_
  refine r_aldn (n := 513) (K := 40) S X (Nat.le_of_ble_eq_true rfl) rfl (fun _ => rfl) (ix_of r3 rfl) dX12_hires_8 (fun v4 z5 => ?_)
  have r6 : R (0) (1023) v4 := rds (K := 40) (a := 131) (n := 1) hI rfl z5 (R_of r3 rfl) (by decide +kernel)
  refine r_iconst S dX12_hires_9 (by decide) (fun v7 z8 => ?_)
  have r9 := R_eq z8
  refine r_iload_n S dX12_hires_10 rfl (lv_at hl 1 rfl) ?_
  refine r_ishl S dX12_hires_11 (fun v10 z11 => ?_)
  have r13 : R (1) (512) v10 := i_shl z11 r9 h_a0 rfl
  refine r_ior S dX12_hires_12 (fun v14 z15 => ?_)
  have r17 : R (0) (1023) v14 := i_or 10 z15 r6 r13 rfl
  refine r_ast (n := 513) (K := 40) S X (Nat.le_of_ble_eq_true rfl) rfl (fun _ _ => rfl) (ix_of r3 rfl) dX12_hires_13 (fun t18 H lc M19 X20 => ?_)
  have I21 := Inv_mu hI M19 (show Rg (kd 133) _ v14 from wrs (K := 40) (a := 131) (n := 1) (R_of r3 rfl) (R_of (lo := 0) (hi := 1023) r17 rfl) (by decide +kernel))
  have F22 : Fr [(133, 131), (133, 127)] [] τ t18 := Fr_mus (a := 131) (n := 1) Fr_rfl M19 (R_of r3 rfl) (by decide +kernel)
  refine r_aload_n S dX12_hires_14 rfl (lv_at hl 0 rfl) ?_
  refine r_get (K := 38) (v := .ref (G.2.2.2.1 133)) S X20 (Nat.le_of_ble_eq_true rfl) rfl lk12_33_10 (fun _ => ⟨_, rfl, rfl⟩) dX12_hires_15 ?_
  refine r_bipush S dX12_hires_18 (by decide) (fun v23 z24 => ?_)
  have r25 := R_eq z24
  refine r_dup2 S dX12_hires_20 rfl rfl ?_
  refine r_aldn (n := 513) (K := 40) S X20 (Nat.le_of_ble_eq_true rfl) rfl (fun _ => rfl) (ix_of r25 rfl) dX12_hires_21 (fun v26 z27 => ?_)
  have r29 := R_any v26
  refine r_aload_n S dX12_hires_22 rfl (lv_at hl 0 rfl) ?_
  refine r_get (K := 38) (v := .ref (G.2.2.2.1 133)) S X20 (Nat.le_of_ble_eq_true rfl) rfl lk12_33_10 (fun _ => ⟨_, rfl, rfl⟩) dX12_hires_23 ?_
  refine r_iconst S dX12_hires_26 (by decide) (fun v30 z31 => ?_)
  have r32 := R_eq z31
  refine r_iload_n S dX12_hires_27 rfl (lv_at hl 1 rfl) ?_
  refine r_iadd S dX12_hires_28 (fun v33 z34 => ?_)
  obtain ⟨e35, r36⟩ := i_add (lo := 5) (hi := 14) z34 r32 h_a0 rfl
  refine r_aldn (n := 513) (K := 40) S X20 (Nat.le_of_ble_eq_true rfl) rfl (fun _ => rfl) (ix_of r36 rfl) dX12_hires_29 (fun v37 z38 => ?_)
  have r39 : R (0) (20) v37 := rds (K := 40) (a := 5) (n := 10) I21 rfl z38 (R_of r36 rfl) (by decide +kernel)
  have g40 : Rg 40 v33.toNatClampNeg v37 := rd I21 rfl z38
  refine r_iadd S dX12_hires_30 (fun v41 z42 => ?_)
  have r43 := R_any v41
  refine r_ast (n := 513) (K := 40) S X20 (Nat.le_of_ble_eq_true rfl) rfl (fun _ _ => rfl) (ix_of r25 rfl) dX12_hires_31 (fun t44 H lc M45 X46 => ?_)
  have I47 := Inv_mu I21 M45 (show Rg (kd 133) _ v41 from wrs (K := 40) (a := 127) (n := 1) (R_of r25 rfl) (R_of (lo := -2147483648) (hi := 2147483647) r43 rfl) (by decide +kernel))
  have F48 : Fr [(133, 131), (133, 127)] [] τ t44 := Fr_mus (a := 127) (n := 1) F22 M45 (R_of r25 rfl) (by decide +kernel)
  exact r_vret S hr hlk X46 ⟨I47, F48⟩ dX12_hires_32
def po_X12_tells (τ : Tau)  (a0 a1 a2 : Int32)   (u : Tau) : Prop := Inv u ∧ Fr [] [133] τ u
set_option maxHeartbeats 4000000 in
set_option maxRecDepth 100000 in
theorem c_X12_tells (l : Launch) (G : Gx) (τ : Tau) (hI : Inv τ) (a0 : Int32) (a1 : Int32) (a2 : Int32) (h_a0 : R (0) (9) a0) (h_a1 : R (0) (8) a1) (h_a2 : R (-9) (9) a2) : Cv l G yX12_tells cX12_tells 4 0 0 [.ref (G.2.2.2.1 131), .int a0, .int a1, .int a2] τ (po_X12_tells τ  a0 a1 a2  ) := by
  unfold Cv
  refine C_of (own := RX12) (by decide) rfl (Nat.le_of_ble_eq_true rfl) ?_
  intro p e s m below meth c ls S hr hlk X hl
  have hl : lv_has ls 4 [(0, .ref (G.2.2.2.1 131)), (1, .int a0), (2, .int a1), (3, .int a2)] := hl
  refine r_aload_n S dX12_tells_0 rfl (lv_at hl 0 rfl) ?_
  refine r_get (K := 38) (v := .ref (G.2.2.2.1 133)) S X (Nat.le_of_ble_eq_true rfl) rfl lk12_33_10 (fun _ => ⟨_, rfl, rfl⟩) dX12_tells_1 ?_
  refine r_sipush S dX12_tells_4 (by decide) (fun v1 z2 => ?_)
  have r3 := R_eq z2
  refine r_iload_n S dX12_tells_7 rfl (lv_at hl 1 rfl) ?_
  refine r_iadd S dX12_tells_8 (fun v4 z5 => ?_)
  obtain ⟨e6, r7⟩ := i_add (lo := 232) (hi := 241) z5 r3 h_a0 rfl
  refine r_dup2 S dX12_tells_9 rfl rfl ?_
  refine r_aldn (n := 513) (K := 40) S X (Nat.le_of_ble_eq_true rfl) rfl (fun _ => rfl) (ix_of r7 rfl) dX12_tells_10 (fun v8 z9 => ?_)
  have r10 : R (0) (511) v8 := rds (K := 40) (a := 232) (n := 10) hI rfl z9 (R_of r7 rfl) (by decide +kernel)
  have g11 : Rg 40 v4.toNatClampNeg v8 := rd hI rfl z9
  refine r_iconst S dX12_tells_11 (by decide) (fun v12 z13 => ?_)
  have r14 := R_eq z13
  refine r_iload_n S dX12_tells_12 rfl (lv_at hl 2 rfl) ?_
  refine r_ishl S dX12_tells_13 (fun v15 z16 => ?_)
  have r18 : R (1) (256) v15 := i_shl z16 r14 h_a1 rfl
  refine r_ior S dX12_tells_14 (fun v19 z20 => ?_)
  have r22 : R (0) (511) v19 := i_or 9 z20 r10 r18 rfl
  refine r_ast (n := 513) (K := 40) S X (Nat.le_of_ble_eq_true rfl) rfl (fun _ _ => rfl) (ix_of r7 rfl) dX12_tells_15 (fun t23 H lc M24 X25 => ?_)
  have I26 := Inv_mu hI M24 (show Rg (kd 133) _ v19 from wrs (K := 40) (a := 232) (n := 10) (R_of r7 rfl) (R_of (lo := 0) (hi := 511) r22 rfl) (by decide +kernel))
  have F27 : Fr [] [133] τ t23 := Fr_cell Fr_rfl M24 (by decide)
  refine r_aload_n S dX12_tells_16 rfl (lv_at hl 0 rfl) ?_
  refine r_get (K := 38) (v := .ref (G.2.2.2.1 133)) S X25 (Nat.le_of_ble_eq_true rfl) rfl lk12_33_10 (fun _ => ⟨_, rfl, rfl⟩) dX12_tells_17 ?_
  refine r_sipush S dX12_tells_20 (by decide) (fun v28 z29 => ?_)
  have r30 := R_eq z29
  refine r_bipush S dX12_tells_23 (by decide) (fun v31 z32 => ?_)
  have r33 := R_eq z32
  refine r_iload_n S dX12_tells_25 rfl (lv_at hl 1 rfl) ?_
  refine r_imul S dX12_tells_26 (fun v34 z35 => ?_)
  obtain ⟨e36, r37⟩ := i_mul (lo := 0) (hi := 81) z35 r33 h_a0 rfl rfl
  have e38 : v34.toInt = 9 * a0.toInt := by rw [e36, show v31.toInt = 9 by omega]
  refine r_iadd S dX12_tells_27 (fun v39 z40 => ?_)
  obtain ⟨e41, r42⟩ := i_add (lo := 242) (hi := 323) z40 r30 r37 rfl
  refine r_iload_n S dX12_tells_28 rfl (lv_at hl 2 rfl) ?_
  refine r_iadd S dX12_tells_29 (fun v43 z44 => ?_)
  obtain ⟨e45, r46⟩ := i_add (lo := 242) (hi := 331) z44 r42 h_a1 rfl
  refine r_iload_n S dX12_tells_30 rfl (lv_at hl 3 rfl) ?_
  refine r_ast (n := 513) (K := 40) S X25 (Nat.le_of_ble_eq_true rfl) rfl (fun _ _ => rfl) (ix_of r46 rfl) dX12_tells_31 (fun t47 H lc M48 X49 => ?_)
  have I50 := Inv_mu I26 M48 (show Rg (kd 133) _ a2 from wrs (K := 40) (a := 242) (n := 90) (R_of r46 rfl) (R_of (lo := -9) (hi := 9) h_a2 rfl) (by decide +kernel))
  have F51 : Fr [] [133] τ t47 := Fr_cell F27 M48 (by decide)
  exact r_vret S hr hlk X49 ⟨I50, F51⟩ dX12_tells_32
def po_X12_turns (τ : Tau)  (a0 a1 a2 : Int32)   (u : Tau) : Prop := Inv u ∧ Fr [] [133] τ u
set_option maxHeartbeats 4000000 in
set_option maxRecDepth 100000 in
theorem c_X12_turns (l : Launch) (G : Gx) (τ : Tau) (hI : Inv τ) (a0 : Int32) (a1 : Int32) (a2 : Int32) (h_a0 : R (0) (9) a0) (h_a1 : R (0) (8) a1) (h_a2 : R (-9) (9) a2) : Cv l G yX12_turns cX12_turns 5 1 21 [.ref (G.2.2.2.1 131), .int a0, .int a1, .int a2] τ (po_X12_turns τ  a0 a1 a2  ) := by
  unfold Cv
  refine C_of (own := RX12) (by decide) rfl (Nat.le_of_ble_eq_true rfl) ?_
  intro p e s m below meth c ls S hr hlk X hl
  have hl : lv_has ls 5 [(0, .ref (G.2.2.2.1 131)), (1, .int a0), (2, .int a1), (3, .int a2)] := hl
  refine r_aload_n S dX12_turns_0 rfl (lv_at hl 0 rfl) ?_
  refine r_get (K := 38) (v := .ref (G.2.2.2.1 133)) S X (Nat.le_of_ble_eq_true rfl) rfl lk12_33_10 (fun _ => ⟨_, rfl, rfl⟩) dX12_turns_1 ?_
  refine r_sipush S dX12_turns_4 (by decide) (fun v1 z2 => ?_)
  have r3 := R_eq z2
  refine r_bipush S dX12_turns_7 (by decide) (fun v4 z5 => ?_)
  have r6 := R_eq z5
  refine r_iload_n S dX12_turns_9 rfl (lv_at hl 1 rfl) ?_
  refine r_imul S dX12_turns_10 (fun v7 z8 => ?_)
  obtain ⟨e9, r10⟩ := i_mul (lo := 0) (hi := 81) z8 r6 h_a0 rfl rfl
  have e11 : v7.toInt = 9 * a0.toInt := by rw [e9, show v4.toInt = 9 by omega]
  refine r_iadd S dX12_turns_11 (fun v12 z13 => ?_)
  obtain ⟨e14, r15⟩ := i_add (lo := 142) (hi := 223) z13 r3 r10 rfl
  refine r_iload_n S dX12_turns_12 rfl (lv_at hl 2 rfl) ?_
  refine r_iadd S dX12_turns_13 (fun v16 z17 => ?_)
  obtain ⟨e18, r19⟩ := i_add (lo := 142) (hi := 231) z17 r15 h_a1 rfl
  refine r_iload_n S dX12_turns_14 rfl (lv_at hl 3 rfl) ?_
  refine r_ast (n := 513) (K := 40) S X (Nat.le_of_ble_eq_true rfl) rfl (fun _ _ => rfl) (ix_of r19 rfl) dX12_turns_15 (fun t20 H lc M21 X22 => ?_)
  have I23 := Inv_mu hI M21 (show Rg (kd 133) _ a2 from wrs (K := 40) (a := 142) (n := 90) (R_of r19 rfl) (R_of (lo := -9) (hi := 9) h_a2 rfl) (by decide +kernel))
  have F24 : Fr [] [133] τ t20 := Fr_cell Fr_rfl M21 (by decide)
  refine r_aload_n S dX12_turns_16 rfl (lv_at hl 0 rfl) ?_
  refine r_get (K := 38) (v := .ref (G.2.2.2.1 133)) S X22 (Nat.le_of_ble_eq_true rfl) rfl lk12_33_10 (fun _ => ⟨_, rfl, rfl⟩) dX12_turns_17 ?_
  refine r_sipush S dX12_turns_20 (by decide) (fun v25 z26 => ?_)
  have r27 := R_eq z26
  refine r_iload_n S dX12_turns_23 rfl (lv_at hl 1 rfl) ?_
  refine r_iadd S dX12_turns_24 (fun v28 z29 => ?_)
  obtain ⟨e30, r31⟩ := i_add (lo := 132) (hi := 141) z29 r27 h_a0 rfl
  refine r_aldn (n := 513) (K := 40) S X22 (Nat.le_of_ble_eq_true rfl) rfl (fun _ => rfl) (ix_of r31 rfl) dX12_turns_25 (fun v32 z33 => ?_)
  have r35 := R_any v32
  have g36 : Rg 40 v28.toNatClampNeg v32 := rd I23 rfl z33
  refine r_if_ne (tgt := 30) S dX12_turns_26 (by decide) (fun c37 => ?_) (fun c37 => ?_)
  ·
    refine r_iconst S dX12_turns_30 (by decide) (fun v38 z39 => ?_)
    have r40 := R_eq z39
    refine r_istore (lv' := [(4, .int v38), (0, .ref (G.2.2.2.1 131)), (1, .int a0), (2, .int a1), (3, .int a2)]) S dX12_turns_31 hl (by decide) rfl (fun ls hl => ?_)
    have L540 : ∀ (n : Nat) (t536 : Tau) (H : Heap) (lc : List Loc) (ls : Array Slot) (i534 : Int32), Xd G s H lc t536 → Inv t536 → Fr [] [133] τ t536 → R (0) (10) i534 → lv_has ls 5 [(0, .ref (G.2.2.2.1 131)), (1, .int a0), (4, .int i534)] → (10 - i534.toInt).toNat < n → W p l e (Rm 1 21) s m ([.ref (G.2.2.2.1 131), .int a0, .int a1, .int a2] : List Value).toArray below meth c H lc 0 0 (MQ below (va_Qv (po_X12_turns τ  a0 a1 a2  ) (Bs G) G.2.2.2.2) ([.ref (G.2.2.2.1 131), .int a0, .int a1, .int a2] : List Value).toArray s 0 0 G.2.2.2.2) (F0 m 33 ls []) := by
      intro n
      induction n with
      | zero => intros; omega
      | succ n ih541 =>
        intro t536 H lc ls i534 X539 I537 F538 r535 hl hm
        refine r_iload S dX12_turns_33 (lv_at hl 2 rfl) ?_
        refine r_aload_n S dX12_turns_35 rfl (lv_at hl 0 rfl) ?_
        refine r_get (K := 38) (v := .ref (G.2.2.2.1 133)) S X539 (Nat.le_of_ble_eq_true rfl) rfl lk12_33_10 (fun _ => ⟨_, rfl, rfl⟩) dX12_turns_36 ?_
        refine r_iconst S dX12_turns_39 (by decide) (fun v542 z543 => ?_)
        have r544 := R_eq z543
        refine r_aldn (n := 513) (K := 40) S X539 (Nat.le_of_ble_eq_true rfl) rfl (fun _ => rfl) (ix_of r544 rfl) dX12_turns_40 (fun v545 z546 => ?_)
        have r547 : R (0) (10) v545 := rds (K := 40) (a := 1) (n := 1) I537 rfl z546 (R_of r544 rfl) (by decide +kernel)
        refine r_icmp_ge (tgt := 79) S dX12_turns_41 (by decide) (fun c548 => ?_) (fun c548 => ?_)
        ·
          exact r_vret S hr hlk X539 ⟨I537, F538⟩ dX12_turns_79
        ·
          have r549 : R (0) (9) i534 := ⟨by omega, by omega⟩
          have r550 : R (1) (10) v545 := ⟨by omega, by omega⟩
          refine r_aload_n S dX12_turns_44 rfl (lv_at hl 0 rfl) ?_
          refine r_iload S dX12_turns_45 (lv_at hl 2 rfl) ?_
          refine r_ki (q_V (As := [.int i534]) (rest := []) (K := 38) (ci := 10) S X539 (c_X12_bankOf l G t536 I537 i534 (R_of (lo := -2147483648) (hi := 2147483647) r549 rfl)) ck12_259 (Nat.le_of_ble_eq_true rfl) rfl (fun _ => ⟨_, rfl⟩) ⟨_, _, rfl⟩ ⟨Nat.le_of_ble_eq_true rfl, Nat.le_of_ble_eq_true rfl⟩ rfl hl.1 rfl (Nat.le_of_ble_eq_true rfl) dX12_turns_47 ⟨Nat.le_refl 0, Nat.le_refl 0⟩) X539 (fun v554 t553 H lc q551 X552 => ?_)
          unfold po_X12_bankOf at q551
          obtain ⟨q555, q556⟩ := q551
          rw [q555] at X552
          refine r_aload_n S dX12_turns_50 rfl (lv_at hl 0 rfl) ?_
          refine r_iload_n S dX12_turns_51 rfl (lv_at hl 1 rfl) ?_
          refine r_ki (q_V (As := [.int a0]) (rest := [.int v554]) (K := 38) (ci := 10) S X552 (c_X12_bankOf l G t536 I537 a0 (R_of (lo := -2147483648) (hi := 2147483647) h_a0 rfl)) ck12_259 (Nat.le_of_ble_eq_true rfl) rfl (fun _ => ⟨_, rfl⟩) ⟨_, _, rfl⟩ ⟨Nat.le_of_ble_eq_true rfl, Nat.le_of_ble_eq_true rfl⟩ rfl hl.1 rfl (Nat.le_of_ble_eq_true rfl) dX12_turns_52 ⟨Nat.le_refl 0, Nat.le_refl 0⟩) X552 (fun v560 t559 H lc q557 X558 => ?_)
          unfold po_X12_bankOf at q557
          obtain ⟨q561, q562⟩ := q557
          rw [q561] at X558
          refine r_icmp_ne (tgt := 73) S dX12_turns_55 (by decide) (fun c563 => ?_) (fun c563 => ?_)
          ·
            refine r_iinc (k := 2) S dX12_turns_73 hl rfl (by decide) (by decide) (fun v564 d565 ls z566 z567 hl => ?_)
            obtain ⟨e568, r569⟩ := i_add (lo := 1) (hi := 10) z566 r549 (R_eq z567) rfl
            have hl : lv_has ls 5 [(4, .int v564), (0, .ref (G.2.2.2.1 131)), (1, .int a0)] := hl
            refine r_goto (tgt := 33) S dX12_turns_76 (by decide) ?_
            exact ih541 t536 _ _ _ v564 X558 I537 F538 (R_of r569 rfl) (lv_sub hl [1, 2, 0] rfl) (by omega)
          ·
            refine r_aload_n S dX12_turns_58 rfl (lv_at hl 0 rfl) ?_
            refine r_get (K := 38) (v := .ref (G.2.2.2.1 133)) S X558 (Nat.le_of_ble_eq_true rfl) rfl lk12_33_10 (fun _ => ⟨_, rfl, rfl⟩) dX12_turns_59 ?_
            refine r_sipush S dX12_turns_62 (by decide) (fun v570 z571 => ?_)
            have r572 := R_eq z571
            refine r_dup2 S dX12_turns_65 rfl rfl ?_
            refine r_aldn (n := 513) (K := 40) S X558 (Nat.le_of_ble_eq_true rfl) rfl (fun _ => rfl) (ix_of r572 rfl) dX12_turns_66 (fun v573 z574 => ?_)
            have r575 : R (0) (1023) v573 := rds (K := 40) (a := 130) (n := 1) I537 rfl z574 (R_of r572 rfl) (by decide +kernel)
            refine r_iconst S dX12_turns_67 (by decide) (fun v576 z577 => ?_)
            have r578 := R_eq z577
            refine r_iload S dX12_turns_68 (lv_at hl 2 rfl) ?_
            refine r_ishl S dX12_turns_70 (fun v579 z580 => ?_)
            have r582 : R (1) (512) v579 := i_shl z580 r578 r549 rfl
            refine r_ior S dX12_turns_71 (fun v583 z584 => ?_)
            have r586 : R (0) (1023) v583 := i_or 10 z584 r575 r582 rfl
            refine r_ast (n := 513) (K := 40) S X558 (Nat.le_of_ble_eq_true rfl) rfl (fun _ _ => rfl) (ix_of r572 rfl) dX12_turns_72 (fun t587 H lc M588 X589 => ?_)
            have I590 := Inv_mu I537 M588 (show Rg (kd 133) _ v583 from wrs (K := 40) (a := 130) (n := 1) (R_of r572 rfl) (R_of (lo := 0) (hi := 1023) r586 rfl) (by decide +kernel))
            have F591 : Fr [] [133] τ t587 := Fr_cell F538 M588 (by decide)
            refine r_iinc (k := 2) S dX12_turns_73 hl rfl (by decide) (by decide) (fun v592 d593 ls z594 z595 hl => ?_)
            obtain ⟨e596, r597⟩ := i_add (lo := 1) (hi := 10) z594 r549 (R_eq z595) rfl
            have hl : lv_has ls 5 [(4, .int v592), (0, .ref (G.2.2.2.1 131)), (1, .int a0)] := hl
            refine r_goto (tgt := 33) S dX12_turns_76 (by decide) ?_
            exact ih541 t587 _ _ _ v592 X589 I590 F591 (R_of r597 rfl) (lv_sub hl [1, 2, 0] rfl) (by omega)
    exact L540 _ t20 _ _ _ v38 X22 I23 F24 (R_of r40 rfl) (lv_sub hl [1, 2, 0] rfl) (Nat.lt_succ_self _)
  ·
    have r598 : R (0) (0) v32 := ⟨by omega, by omega⟩
    exact r_vret S hr hlk X22 ⟨I23, F24⟩ dX12_turns_29
def po_X12_why (τ : Tau)  (a0 : Int32)   (r : Int32) (u : Tau) : Prop := Inv u ∧ Fr [(131, 0)] [] τ u
set_option maxHeartbeats 4000000 in
set_option maxRecDepth 100000 in
theorem c_X12_why (l : Launch) (G : Gx) (τ : Tau) (hI : Inv τ) (a0 : Int32) (h_a0 : R (-2147483648) (2147483647) a0) : Ci l G yX12_why cX12_why 2 (some .int) 6 137 [.ref (G.2.2.2.1 131), .int a0] τ (po_X12_why τ  a0  ) := by
  unfold Ci
  refine C_of (own := RX12) (by decide) rfl (Nat.le_of_ble_eq_true rfl) ?_
  intro p e s m below meth c ls S hr hlk X hl
  have hl : lv_has ls 2 [(0, .ref (G.2.2.2.1 131)), (1, .int a0)] := hl
  refine r_aload_n S dX12_why_0 rfl (lv_at hl 0 rfl) ?_
  refine r_iconst S dX12_why_1 (by decide) (fun v1 z2 => ?_)
  have r3 := R_eq z2
  refine r_put (K := 38) (ty := .int) S X (Nat.le_of_ble_eq_true rfl) rfl lk12_1_10 (fun _ => ⟨_, rfl, Nat.le_of_ble_eq_true rfl, rfl⟩) (fun _ _ _ h => by cases h; exact ⟨rfl, rfl⟩) rfl rfl dX12_why_2 (fun t4 H lc M5 X6 => ?_)
  have I7 := Inv_mu hI M5 (R_any v1)
  have F8 : Fr [(131, 0)] [] τ t4 := Fr_mu Fr_rfl M5 (by decide)
  refine r_aload_n S dX12_why_5 rfl (lv_at hl 0 rfl) ?_
  refine r_iload_n S dX12_why_6 rfl (lv_at hl 1 rfl) ?_
  refine r_ki (q_V (As := [.int a0]) (rest := []) (K := 38) (ci := 10) S X6 (c_X12_isSet l G t4 I7 a0 h_a0) ck12_296 (Nat.le_of_ble_eq_true rfl) rfl (fun _ => ⟨_, rfl⟩) ⟨_, _, rfl⟩ ⟨Nat.le_of_ble_eq_true rfl, Nat.le_of_ble_eq_true rfl⟩ rfl hl.1 rfl (Nat.le_of_ble_eq_true rfl) dX12_why_7 ⟨Nat.le_refl 0, Nat.le_refl 0⟩) X6 (fun v12 t11 H lc q9 X10 => ?_)
  unfold po_X12_isSet at q9
  obtain ⟨q13, q14, q15⟩ := q9
  rw [q13] at X10
  refine r_if_eq (tgt := 21) S dX12_why_10 (by decide) (fun c16 => ?_) (fun c16 => ?_)
  ·
    have r17 : R (0) (0) v12 := ⟨by omega, by omega⟩
    refine r_iconst S dX12_why_21 (by decide) (fun v18 z19 => ?_)
    have r20 := R_eq z19
    exact r_ret S hr hlk X10 ⟨I7, F8⟩ rfl dX12_why_22
  ·
    have r21 : R (1) (1) v12 := ⟨by omega, by omega⟩
    have p22 := q15 (by omega)
    have r23 : R (0) (1023) a0 := ⟨by omega, by omega⟩
    refine r_aload_n S dX12_why_13 rfl (lv_at hl 0 rfl) ?_
    refine r_iload_n S dX12_why_14 rfl (lv_at hl 1 rfl) ?_
    refine r_ki (q_V (As := [.int a0]) (rest := []) (K := 38) (ci := 10) S X10 (c_X12_whyCross l G t4 I7 a0 (R_of (lo := -2147483648) (hi := 2147483647) r23 rfl)) ck12_299 (Nat.le_of_ble_eq_true rfl) rfl (fun _ => ⟨_, rfl⟩) ⟨_, _, rfl⟩ ⟨Nat.le_of_ble_eq_true rfl, Nat.le_of_ble_eq_true rfl⟩ rfl hl.1 rfl (Nat.le_of_ble_eq_true rfl) dX12_why_15 ⟨Nat.le_refl 0, Nat.le_refl 0⟩) X10 (fun v27 t26 H lc q24 X25 => ?_)
    unfold po_X12_whyCross at q24
    obtain ⟨q28, q29⟩ := q24
    rw [q28] at X25
    refine r_goto (tgt := 22) S dX12_why_18 (by decide) ?_
    exact r_ret S hr hlk X25 ⟨I7, F8⟩ rfl dX12_why_22
def po_X12_sum (τ : Tau)  (a0 : Int32)   (r : Int32) (u : Tau) : Prop := Inv u ∧ Fr [(131, 0)] [] τ u
set_option maxHeartbeats 4000000 in
set_option maxRecDepth 100000 in
theorem c_X12_sum (l : Launch) (G : Gx) (τ : Tau) (hI : Inv τ) (a0 : Int32) (h_a0 : R (-2147483648) (2147483647) a0) : Ci l G yX12_sum cX12_sum 2 (some .int) 4 90 [.ref (G.2.2.2.1 131), .int a0] τ (po_X12_sum τ  a0  ) := by
  unfold Ci
  refine C_of (own := RX12) (by decide) rfl (Nat.le_of_ble_eq_true rfl) ?_
  intro p e s m below meth c ls S hr hlk X hl
  have hl : lv_has ls 2 [(0, .ref (G.2.2.2.1 131)), (1, .int a0)] := hl
  refine r_aload_n S dX12_sum_0 rfl (lv_at hl 0 rfl) ?_
  refine r_aload_n S dX12_sum_1 rfl (lv_at hl 0 rfl) ?_
  refine r_iload_n S dX12_sum_2 rfl (lv_at hl 1 rfl) ?_
  refine r_ki (q_V (As := [.int a0]) (rest := [.ref (G.2.2.2.1 131)]) (K := 38) (ci := 10) S X (c_X12_isSet l G τ hI a0 h_a0) ck12_296 (Nat.le_of_ble_eq_true rfl) rfl (fun _ => ⟨_, rfl⟩) ⟨_, _, rfl⟩ ⟨Nat.le_of_ble_eq_true rfl, Nat.le_of_ble_eq_true rfl⟩ rfl hl.1 rfl (Nat.le_of_ble_eq_true rfl) dX12_sum_3 ⟨Nat.le_refl 0, Nat.le_refl 0⟩) X (fun v4 t3 H lc q1 X2 => ?_)
  unfold po_X12_isSet at q1
  obtain ⟨q5, q6, q7⟩ := q1
  rw [q5] at X2
  refine r_if_eq (tgt := 18) S dX12_sum_6 (by decide) (fun c8 => ?_) (fun c8 => ?_)
  ·
    have r9 : R (0) (0) v4 := ⟨by omega, by omega⟩
    refine r_iconst S dX12_sum_18 (by decide) (fun v10 z11 => ?_)
    have r12 := R_eq z11
    refine r_goto (tgt := 23) S dX12_sum_19 (by decide) ?_
    refine r_ki (q_V (As := [.int v10]) (rest := []) (K := 38) (ci := 10) S X2 (c_X12_throwsIf l G τ hI v10 (R_of (lo := 0) (hi := 1) r12 rfl)) ck12_255 (Nat.le_of_ble_eq_true rfl) rfl (fun _ => ⟨_, rfl⟩) ⟨_, _, rfl⟩ ⟨Nat.le_of_ble_eq_true rfl, Nat.le_of_ble_eq_true rfl⟩ rfl hl.1 rfl (Nat.le_of_ble_eq_true rfl) dX12_sum_23 ⟨Nat.le_refl 0, Nat.le_refl 0⟩) X2 (fun v16 t15 H lc q13 X14 => ?_)
    unfold po_X12_throwsIf at q13
    obtain ⟨q17, q18, q19, q20, q21⟩ := q13
    have F22 : Fr [(131, 0)] [] τ t15 := Fr_call Fr_rfl q18 (by decide)
    refine r_if_eq (tgt := 33) S dX12_sum_26 (by decide) (fun c23 => ?_) (fun c23 => ?_)
    ·
      exfalso; omega
    ·
      have r26 : R (1) (1) v16 := ⟨by omega, by omega⟩
      have p27 := q20 (by omega)
      have r28 : R (1) (1) v10 := ⟨by omega, by omega⟩
      refine r_iconst S dX12_sum_29 (by decide) (fun v29 z30 => ?_)
      have r31 := R_eq z30
      refine r_goto (tgt := 45) S dX12_sum_30 (by decide) ?_
      exact r_ret S hr hlk X14 ⟨q17, F22⟩ rfl dX12_sum_45
  ·
    have r32 : R (1) (1) v4 := ⟨by omega, by omega⟩
    have p33 := q7 (by omega)
    have r34 : R (0) (1023) a0 := ⟨by omega, by omega⟩
    refine r_aload_n S dX12_sum_9 rfl (lv_at hl 0 rfl) ?_
    refine r_get (K := 38) (v := .ref (G.2.2.2.1 133)) S X2 (Nat.le_of_ble_eq_true rfl) rfl lk12_33_10 (fun _ => ⟨_, rfl, rfl⟩) dX12_sum_10 ?_
    refine r_iconst S dX12_sum_13 (by decide) (fun v35 z36 => ?_)
    have r37 := R_eq z36
    refine r_aldn (n := 513) (K := 40) S X2 (Nat.le_of_ble_eq_true rfl) rfl (fun _ => rfl) (ix_of r37 rfl) dX12_sum_14 (fun v38 z39 => ?_)
    have r40 : R (0) (9) v38 := rds (K := 40) (a := 0) (n := 1) hI rfl z39 (R_of r37 rfl) (by decide +kernel)
    refine r_if_ne (tgt := 22) S dX12_sum_15 (by decide) (fun c41 => ?_) (fun c41 => ?_)
    ·
      have r42 : R (1) (9) v38 := ⟨by omega, by omega⟩
      refine r_iconst S dX12_sum_22 (by decide) (fun v43 z44 => ?_)
      have r45 := R_eq z44
      refine r_ki (q_V (As := [.int v43]) (rest := []) (K := 38) (ci := 10) S X2 (c_X12_throwsIf l G τ hI v43 (R_of (lo := 0) (hi := 1) r45 rfl)) ck12_255 (Nat.le_of_ble_eq_true rfl) rfl (fun _ => ⟨_, rfl⟩) ⟨_, _, rfl⟩ ⟨Nat.le_of_ble_eq_true rfl, Nat.le_of_ble_eq_true rfl⟩ rfl hl.1 rfl (Nat.le_of_ble_eq_true rfl) dX12_sum_23 ⟨Nat.le_refl 0, Nat.le_refl 0⟩) X2 (fun v49 t48 H lc q46 X47 => ?_)
      unfold po_X12_throwsIf at q46
      obtain ⟨q50, q51, q52, q53, q54⟩ := q46
      have F55 : Fr [(131, 0)] [] τ t48 := Fr_call Fr_rfl q51 (by decide)
      refine r_if_eq (tgt := 33) S dX12_sum_26 (by decide) (fun c56 => ?_) (fun c56 => ?_)
      ·
        have r57 : R (0) (0) v49 := ⟨by omega, by omega⟩
        have p58 := q54 (by omega)
        have r59 : R (0) (0) v43 := ⟨by omega, by omega⟩
        refine r_aload_n S dX12_sum_33 rfl (lv_at hl 0 rfl) ?_
        refine r_iload_n S dX12_sum_34 rfl (lv_at hl 1 rfl) ?_
        refine r_aload_n S dX12_sum_35 rfl (lv_at hl 0 rfl) ?_
        refine r_get (K := 38) (v := .ref (G.2.2.2.1 133)) S X47 (Nat.le_of_ble_eq_true rfl) rfl lk12_33_10 (fun _ => ⟨_, rfl, rfl⟩) dX12_sum_36 ?_
        refine r_bipush S dX12_sum_39 (by decide) (fun v60 z61 => ?_)
        have r62 := R_eq z61
        refine r_aldn (n := 513) (K := 40) S X47 (Nat.le_of_ble_eq_true rfl) rfl (fun _ => rfl) (ix_of r62 rfl) dX12_sum_41 (fun v63 z64 => ?_)
        have r65 : R (0) (8) v63 := rds (K := 40) (a := 126) (n := 1) q50 rfl z64 (R_of r62 rfl) (by decide +kernel)
        refine r_ki (q_V (As := [.int a0, .int v63]) (rest := []) (K := 38) (ci := 10) S X47 (c_X12_sumOf l G t48 q50 a0 v63 (R_of (lo := -2147483648) (hi := 2147483647) r34 rfl) r65) ck12_287 (Nat.le_of_ble_eq_true rfl) rfl (fun _ => ⟨_, rfl⟩) ⟨_, _, rfl⟩ ⟨Nat.le_of_ble_eq_true rfl, Nat.le_of_ble_eq_true rfl⟩ rfl hl.1 rfl (Nat.le_of_ble_eq_true rfl) dX12_sum_42 ⟨Nat.le_refl 0, Nat.le_refl 0⟩) X47 (fun v69 t68 H lc q66 X67 => ?_)
        unfold po_X12_sumOf at q66
        have q70 := q66
        rw [q70] at X67
        have r71 := R_any v69
        exact r_ret S hr hlk X67 ⟨q50, F55⟩ rfl dX12_sum_45
      ·
        exfalso; omega
    ·
      have r74 : R (0) (0) v38 := ⟨by omega, by omega⟩
      refine r_iconst S dX12_sum_18 (by decide) (fun v75 z76 => ?_)
      have r77 := R_eq z76
      refine r_goto (tgt := 23) S dX12_sum_19 (by decide) ?_
      refine r_ki (q_V (As := [.int v75]) (rest := []) (K := 38) (ci := 10) S X2 (c_X12_throwsIf l G τ hI v75 (R_of (lo := 0) (hi := 1) r77 rfl)) ck12_255 (Nat.le_of_ble_eq_true rfl) rfl (fun _ => ⟨_, rfl⟩) ⟨_, _, rfl⟩ ⟨Nat.le_of_ble_eq_true rfl, Nat.le_of_ble_eq_true rfl⟩ rfl hl.1 rfl (Nat.le_of_ble_eq_true rfl) dX12_sum_23 ⟨Nat.le_refl 0, Nat.le_refl 0⟩) X2 (fun v81 t80 H lc q78 X79 => ?_)
      unfold po_X12_throwsIf at q78
      obtain ⟨q82, q83, q84, q85, q86⟩ := q78
      have F87 : Fr [(131, 0)] [] τ t80 := Fr_call Fr_rfl q83 (by decide)
      refine r_if_eq (tgt := 33) S dX12_sum_26 (by decide) (fun c88 => ?_) (fun c88 => ?_)
      ·
        exfalso; omega
      ·
        have r91 : R (1) (1) v81 := ⟨by omega, by omega⟩
        have p92 := q85 (by omega)
        have r93 : R (1) (1) v75 := ⟨by omega, by omega⟩
        refine r_iconst S dX12_sum_29 (by decide) (fun v94 z95 => ?_)
        have r96 := R_eq z95
        refine r_goto (tgt := 45) S dX12_sum_30 (by decide) ?_
        exact r_ret S hr hlk X79 ⟨q82, F87⟩ rfl dX12_sum_45
def po_X12_crews (τ : Tau)  (a0 : Int32)   (r : Int32) (u : Tau) : Prop := Inv u ∧ Fr [(131, 0)] [] τ u
set_option maxHeartbeats 4000000 in
set_option maxRecDepth 100000 in
theorem c_X12_crews (l : Launch) (G : Gx) (τ : Tau) (hI : Inv τ) (a0 : Int32) (h_a0 : R (-2147483648) (2147483647) a0) : Ci l G yX12_crews cX12_crews 4 (some .int) 6 137 [.ref (G.2.2.2.1 131), .int a0] τ (po_X12_crews τ  a0  ) := by
  unfold Ci
  refine C_of (own := RX12) (by decide) rfl (Nat.le_of_ble_eq_true rfl) ?_
  intro p e s m below meth c ls S hr hlk X hl
  have hl : lv_has ls 4 [(0, .ref (G.2.2.2.1 131)), (1, .int a0)] := hl
  refine r_aload_n S dX12_crews_0 rfl (lv_at hl 0 rfl) ?_
  refine r_iconst S dX12_crews_1 (by decide) (fun v1 z2 => ?_)
  have r3 := R_eq z2
  refine r_put (K := 38) (ty := .int) S X (Nat.le_of_ble_eq_true rfl) rfl lk12_1_10 (fun _ => ⟨_, rfl, Nat.le_of_ble_eq_true rfl, rfl⟩) (fun _ _ _ h => by cases h; exact ⟨rfl, rfl⟩) rfl rfl dX12_crews_2 (fun t4 H lc M5 X6 => ?_)
  have I7 := Inv_mu hI M5 (R_any v1)
  have F8 : Fr [(131, 0)] [] τ t4 := Fr_mu Fr_rfl M5 (by decide)
  refine r_iload_n S dX12_crews_5 rfl (lv_at hl 1 rfl) ?_
  refine r_iconst S dX12_crews_6 (by decide) (fun v9 z10 => ?_)
  have r11 := R_eq z10
  refine r_icmp_ge (tgt := 12) S dX12_crews_7 (by decide) (fun c12 => ?_) (fun c12 => ?_)
  ·
    have r13 : R (-1) (2147483647) a0 := ⟨by omega, by omega⟩
    refine r_iconst S dX12_crews_12 (by decide) (fun v14 z15 => ?_)
    have r16 := R_eq z15
    refine r_istore_n (lv' := [(2, .int v14), (0, .ref (G.2.2.2.1 131)), (1, .int a0)]) S dX12_crews_13 rfl hl (by decide) rfl (fun ls hl => ?_)
    refine r_iconst S dX12_crews_14 (by decide) (fun v17 z18 => ?_)
    have r19 := R_eq z18
    refine r_istore_n (lv' := [(3, .int v17), (2, .int v14), (0, .ref (G.2.2.2.1 131)), (1, .int a0)]) S dX12_crews_15 rfl hl (by decide) rfl (fun ls hl => ?_)
    have L2123 : ∀ (n : Nat) (H : Heap) (lc : List Loc) (ls : Array Slot) (i2118 : Int32) (i2120 : Int32), Xd G s H lc t4 → R (-2147483648) (2147483647) i2118 → R (1) (1024) i2120 → lv_has ls 4 [(0, .ref (G.2.2.2.1 131)), (1, .int a0), (2, .int i2118), (3, .int i2120)] → (1024 - i2120.toInt).toNat < n → W p l e (Rm 6 137) s m ([.ref (G.2.2.2.1 131), .int a0] : List Value).toArray below meth c H lc 0 0 (MQ below (va_Qi (po_X12_crews τ  a0  ) (Bs G) G.2.2.2.2) ([.ref (G.2.2.2.1 131), .int a0] : List Value).toArray s 0 0 G.2.2.2.2) (F0 m 16 ls []) := by
      intro n
      induction n with
      | zero => intros; omega
      | succ n ih2124 =>
        intro H lc ls i2118 i2120 X2122 r2119 r2121 hl hm
        refine r_iload_n S dX12_crews_16 rfl (lv_at hl 3 rfl) ?_
        refine r_iconst S dX12_crews_17 (by decide) (fun v2125 z2126 => ?_)
        have r2127 := R_eq z2126
        refine r_aload_n S dX12_crews_18 rfl (lv_at hl 0 rfl) ?_
        refine r_get (K := 38) (v := .ref (G.2.2.2.1 133)) S X2122 (Nat.le_of_ble_eq_true rfl) rfl lk12_33_10 (fun _ => ⟨_, rfl, rfl⟩) dX12_crews_19 ?_
        refine r_iconst S dX12_crews_22 (by decide) (fun v2128 z2129 => ?_)
        have r2130 := R_eq z2129
        refine r_aldn (n := 513) (K := 40) S X2122 (Nat.le_of_ble_eq_true rfl) rfl (fun _ => rfl) (ix_of r2130 rfl) dX12_crews_23 (fun v2131 z2132 => ?_)
        have r2133 : R (0) (10) v2131 := rds (K := 40) (a := 1) (n := 1) I7 rfl z2132 (R_of r2130 rfl) (by decide +kernel)
        refine r_ishl S dX12_crews_24 (fun v2134 z2135 => ?_)
        have r2137 : R (1) (1024) v2134 := i_shl z2135 r2127 r2133 rfl
        refine r_icmp_ge (tgt := 55) S dX12_crews_25 (by decide) (fun c2138 => ?_) (fun c2138 => ?_)
        ·
          refine r_iload_n S dX12_crews_55 rfl (lv_at hl 1 rfl) ?_
          refine r_iconst S dX12_crews_56 (by decide) (fun v2139 z2140 => ?_)
          have r2141 := R_eq z2140
          refine r_icmp_ne (tgt := 64) S dX12_crews_57 (by decide) (fun c2142 => ?_) (fun c2142 => ?_)
          ·
            have r2143 : R (0) (2147483647) a0 := ⟨by omega, by omega⟩
            refine r_iconst S dX12_crews_64 (by decide) (fun v2144 z2145 => ?_)
            have r2146 := R_eq z2145
            exact r_ret S hr hlk X2122 ⟨I7, F8⟩ rfl dX12_crews_65
          ·
            have r2147 : R (-1) (-1) a0 := ⟨by omega, by omega⟩
            refine r_iload_n S dX12_crews_60 rfl (lv_at hl 2 rfl) ?_
            refine r_goto (tgt := 65) S dX12_crews_61 (by decide) ?_
            exact r_ret S hr hlk X2122 ⟨I7, F8⟩ rfl dX12_crews_65
        ·
          have r2148 : R (1) (1023) i2120 := ⟨by omega, by omega⟩
          have r2149 : R (2) (1024) v2134 := ⟨by omega, by omega⟩
          refine r_aload_n S dX12_crews_28 rfl (lv_at hl 0 rfl) ?_
          refine r_iload_n S dX12_crews_29 rfl (lv_at hl 3 rfl) ?_
          refine r_ki (q_V (As := [.int i2120]) (rest := []) (K := 38) (ci := 10) S X2122 (c_X12_whyCross l G t4 I7 i2120 (R_of (lo := -2147483648) (hi := 2147483647) r2148 rfl)) ck12_299 (Nat.le_of_ble_eq_true rfl) rfl (fun _ => ⟨_, rfl⟩) ⟨_, _, rfl⟩ ⟨Nat.le_of_ble_eq_true rfl, Nat.le_of_ble_eq_true rfl⟩ rfl hl.1 rfl (Nat.le_of_ble_eq_true rfl) dX12_crews_30 ⟨Nat.le_refl 0, Nat.le_refl 0⟩) X2122 (fun v2153 t2152 H lc q2150 X2151 => ?_)
          unfold po_X12_whyCross at q2150
          obtain ⟨q2154, q2155⟩ := q2150
          rw [q2154] at X2151
          refine r_if_le (tgt := 39) S dX12_crews_33 (by decide) (fun c2156 => ?_) (fun c2156 => ?_)
          ·
            have r2157 : R (0) (0) v2153 := ⟨by omega, by omega⟩
            refine r_iload_n S dX12_crews_39 rfl (lv_at hl 2 rfl) ?_
            refine r_iload_n S dX12_crews_40 rfl (lv_at hl 1 rfl) ?_
            refine r_icmp_ne (tgt := 46) S dX12_crews_41 (by decide) (fun c2158 => ?_) (fun c2158 => ?_)
            ·
              refine r_iinc (k := 2) S dX12_crews_46 hl rfl (by decide) (by decide) (fun v2159 d2160 ls z2161 z2162 hl => ?_)
              have r2163 := R_any v2159
              have hl : lv_has ls 4 [(2, .int v2159), (0, .ref (G.2.2.2.1 131)), (1, .int a0), (3, .int i2120)] := hl
              refine r_iinc (k := 3) S dX12_crews_49 hl rfl (by decide) (by decide) (fun v2164 d2165 ls z2166 z2167 hl => ?_)
              obtain ⟨e2168, r2169⟩ := i_add (lo := 2) (hi := 1024) z2166 r2148 (R_eq z2167) rfl
              have hl : lv_has ls 4 [(3, .int v2164), (2, .int v2159), (0, .ref (G.2.2.2.1 131)), (1, .int a0)] := hl
              refine r_goto (tgt := 16) S dX12_crews_52 (by decide) ?_
              exact ih2124 _ _ _ v2159 v2164 X2151 r2163 (R_of r2169 rfl) (lv_sub hl [2, 3, 1, 0] rfl) (by omega)
            ·
              have r2170 : R (-1) (2147483647) i2118 := ⟨by omega, by omega⟩
              refine r_iload_n S dX12_crews_44 rfl (lv_at hl 3 rfl) ?_
              exact r_ret S hr hlk X2151 ⟨I7, F8⟩ rfl dX12_crews_45
          ·
            have r2171 : R (1) (4) v2153 := ⟨by omega, by omega⟩
            refine r_goto (tgt := 49) S dX12_crews_36 (by decide) ?_
            refine r_iinc (k := 3) S dX12_crews_49 hl rfl (by decide) (by decide) (fun v2172 d2173 ls z2174 z2175 hl => ?_)
            obtain ⟨e2176, r2177⟩ := i_add (lo := 2) (hi := 1024) z2174 r2148 (R_eq z2175) rfl
            have hl : lv_has ls 4 [(3, .int v2172), (0, .ref (G.2.2.2.1 131)), (1, .int a0), (2, .int i2118)] := hl
            refine r_goto (tgt := 16) S dX12_crews_52 (by decide) ?_
            exact ih2124 _ _ _ i2118 v2172 X2151 r2119 (R_of r2177 rfl) (lv_sub hl [1, 2, 3, 0] rfl) (by omega)
    exact L2123 _ _ _ _ v14 v17 X6 (R_of r16 rfl) (R_of r19 rfl) (lv_sub hl [2, 3, 1, 0] rfl) (Nat.lt_succ_self _)
  ·
    have r2178 : R (-2147483648) (-2) a0 := ⟨by omega, by omega⟩
    refine r_iconst S dX12_crews_10 (by decide) (fun v2179 z2180 => ?_)
    have r2181 := R_eq z2180
    exact r_ret S hr hlk X6 ⟨I7, F8⟩ rfl dX12_crews_11
def po_X12_largest (τ : Tau)     (r : Int32) (u : Tau) : Prop := Inv u ∧ Fr [(131, 0)] [] τ u
set_option maxHeartbeats 4000000 in
set_option maxRecDepth 100000 in
theorem c_X12_largest (l : Launch) (G : Gx) (τ : Tau) (hI : Inv τ) : Ci l G yX12_largest cX12_largest 3 (some .int) 6 137 [.ref (G.2.2.2.1 131)] τ (po_X12_largest τ    ) := by
  unfold Ci
  refine C_of (own := RX12) (by decide) rfl (Nat.le_of_ble_eq_true rfl) ?_
  intro p e s m below meth c ls S hr hlk X hl
  have hl : lv_has ls 3 [(0, .ref (G.2.2.2.1 131))] := hl
  refine r_aload_n S dX12_largest_0 rfl (lv_at hl 0 rfl) ?_
  refine r_iconst S dX12_largest_1 (by decide) (fun v1 z2 => ?_)
  have r3 := R_eq z2
  refine r_put (K := 38) (ty := .int) S X (Nat.le_of_ble_eq_true rfl) rfl lk12_1_10 (fun _ => ⟨_, rfl, Nat.le_of_ble_eq_true rfl, rfl⟩) (fun _ _ _ h => by cases h; exact ⟨rfl, rfl⟩) rfl rfl dX12_largest_2 (fun t4 H lc M5 X6 => ?_)
  have I7 := Inv_mu hI M5 (R_any v1)
  have F8 : Fr [(131, 0)] [] τ t4 := Fr_mu Fr_rfl M5 (by decide)
  refine r_iconst S dX12_largest_5 (by decide) (fun v9 z10 => ?_)
  have r11 := R_eq z10
  refine r_istore_n (lv' := [(1, .int v9), (0, .ref (G.2.2.2.1 131))]) S dX12_largest_6 rfl hl (by decide) rfl (fun ls hl => ?_)
  refine r_iconst S dX12_largest_7 (by decide) (fun v12 z13 => ?_)
  have r14 := R_eq z13
  refine r_istore_n (lv' := [(2, .int v12), (1, .int v9), (0, .ref (G.2.2.2.1 131))]) S dX12_largest_8 rfl hl (by decide) rfl (fun ls hl => ?_)
  have L2847 : ∀ (n : Nat) (H : Heap) (lc : List Loc) (ls : Array Slot) (i2842 : Int32) (i2844 : Int32), Xd G s H lc t4 → R (-1) (1023) i2842 → R (1) (1024) i2844 → lv_has ls 3 [(0, .ref (G.2.2.2.1 131)), (1, .int i2842), (2, .int i2844)] → (1024 - i2844.toInt).toNat < n → W p l e (Rm 6 137) s m ([.ref (G.2.2.2.1 131)] : List Value).toArray below meth c H lc 0 0 (MQ below (va_Qi (po_X12_largest τ    ) (Bs G) G.2.2.2.2) ([.ref (G.2.2.2.1 131)] : List Value).toArray s 0 0 G.2.2.2.2) (F0 m 9 ls []) := by
    intro n
    induction n with
    | zero => intros; omega
    | succ n ih2848 =>
      intro H lc ls i2842 i2844 X2846 r2843 r2845 hl hm
      refine r_iload_n S dX12_largest_9 rfl (lv_at hl 2 rfl) ?_
      refine r_iconst S dX12_largest_10 (by decide) (fun v2849 z2850 => ?_)
      have r2851 := R_eq z2850
      refine r_aload_n S dX12_largest_11 rfl (lv_at hl 0 rfl) ?_
      refine r_get (K := 38) (v := .ref (G.2.2.2.1 133)) S X2846 (Nat.le_of_ble_eq_true rfl) rfl lk12_33_10 (fun _ => ⟨_, rfl, rfl⟩) dX12_largest_12 ?_
      refine r_iconst S dX12_largest_15 (by decide) (fun v2852 z2853 => ?_)
      have r2854 := R_eq z2853
      refine r_aldn (n := 513) (K := 40) S X2846 (Nat.le_of_ble_eq_true rfl) rfl (fun _ => rfl) (ix_of r2854 rfl) dX12_largest_16 (fun v2855 z2856 => ?_)
      have r2857 : R (0) (10) v2855 := rds (K := 40) (a := 1) (n := 1) I7 rfl z2856 (R_of r2854 rfl) (by decide +kernel)
      refine r_ishl S dX12_largest_17 (fun v2858 z2859 => ?_)
      have r2861 : R (1) (1024) v2858 := i_shl z2859 r2851 r2857 rfl
      refine r_icmp_ge (tgt := 52) S dX12_largest_18 (by decide) (fun c2862 => ?_) (fun c2862 => ?_)
      ·
        refine r_iload_n S dX12_largest_52 rfl (lv_at hl 1 rfl) ?_
        exact r_ret S hr hlk X2846 ⟨I7, F8⟩ rfl dX12_largest_53
      ·
        have r2863 : R (1) (1023) i2844 := ⟨by omega, by omega⟩
        have r2864 : R (2) (1024) v2858 := ⟨by omega, by omega⟩
        refine r_iload_n S dX12_largest_21 rfl (lv_at hl 1 rfl) ?_
        refine r_if_lt (tgt := 36) S dX12_largest_22 (by decide) (fun c2865 => ?_) (fun c2865 => ?_)
        ·
          have r2866 : R (-1) (-1) i2842 := ⟨by omega, by omega⟩
          refine r_aload_n S dX12_largest_36 rfl (lv_at hl 0 rfl) ?_
          refine r_iload_n S dX12_largest_37 rfl (lv_at hl 2 rfl) ?_
          refine r_ki (q_V (As := [.int i2844]) (rest := []) (K := 38) (ci := 10) S X2846 (c_X12_whyCross l G t4 I7 i2844 (R_of (lo := -2147483648) (hi := 2147483647) r2863 rfl)) ck12_299 (Nat.le_of_ble_eq_true rfl) rfl (fun _ => ⟨_, rfl⟩) ⟨_, _, rfl⟩ ⟨Nat.le_of_ble_eq_true rfl, Nat.le_of_ble_eq_true rfl⟩ rfl hl.1 rfl (Nat.le_of_ble_eq_true rfl) dX12_largest_38 ⟨Nat.le_refl 0, Nat.le_refl 0⟩) X2846 (fun v2870 t2869 H lc q2867 X2868 => ?_)
          unfold po_X12_whyCross at q2867
          obtain ⟨q2871, q2872⟩ := q2867
          rw [q2871] at X2868
          refine r_if_ne (tgt := 46) S dX12_largest_41 (by decide) (fun c2873 => ?_) (fun c2873 => ?_)
          ·
            have r2874 : R (1) (4) v2870 := ⟨by omega, by omega⟩
            refine r_iinc (k := 2) S dX12_largest_46 hl rfl (by decide) (by decide) (fun v2875 d2876 ls z2877 z2878 hl => ?_)
            obtain ⟨e2879, r2880⟩ := i_add (lo := 2) (hi := 1024) z2877 r2863 (R_eq z2878) rfl
            have hl : lv_has ls 3 [(2, .int v2875), (0, .ref (G.2.2.2.1 131)), (1, .int i2842)] := hl
            refine r_goto (tgt := 9) S dX12_largest_49 (by decide) ?_
            exact ih2848 _ _ _ i2842 v2875 X2868 (R_of r2866 rfl) (R_of r2880 rfl) (lv_sub hl [1, 2, 0] rfl) (by omega)
          ·
            have r2881 : R (0) (0) v2870 := ⟨by omega, by omega⟩
            refine r_iload_n S dX12_largest_44 rfl (lv_at hl 2 rfl) ?_
            refine r_istore_n (lv' := [(1, .int i2844), (0, .ref (G.2.2.2.1 131)), (2, .int i2844)]) S dX12_largest_45 rfl hl (by decide) rfl (fun ls hl => ?_)
            refine r_iinc (k := 2) S dX12_largest_46 hl rfl (by decide) (by decide) (fun v2882 d2883 ls z2884 z2885 hl => ?_)
            obtain ⟨e2886, r2887⟩ := i_add (lo := 2) (hi := 1024) z2884 r2863 (R_eq z2885) rfl
            have hl : lv_has ls 3 [(2, .int v2882), (1, .int i2844), (0, .ref (G.2.2.2.1 131))] := hl
            refine r_goto (tgt := 9) S dX12_largest_49 (by decide) ?_
            exact ih2848 _ _ _ i2844 v2882 X2868 (R_of r2863 rfl) (R_of r2887 rfl) (lv_sub hl [2, 1, 0] rfl) (by omega)
        ·
          have r2888 : R (0) (1023) i2842 := ⟨by omega, by omega⟩
          refine r_iload_n S dX12_largest_25 rfl (lv_at hl 2 rfl) ?_
          refine r_ki (q_S (As := [.int i2844]) (rest := []) S X2846 (c_X12_bits l G t4 I7 i2844 (R_of (lo := -2147483648) (hi := 2147483647) r2863 rfl)) ck12_284 ⟨Nat.le_of_ble_eq_true rfl, Nat.le_of_ble_eq_true rfl⟩ rfl hl.1 rfl (Nat.le_of_ble_eq_true rfl) dX12_largest_26 ⟨Nat.le_refl 0, Nat.le_refl 0⟩) X2846 (fun v2892 t2891 H lc q2889 X2890 => ?_)
          unfold po_X12_bits at q2889
          have q2893 := q2889
          rw [q2893] at X2890
          have r2894 := R_any v2892
          refine r_iload_n S dX12_largest_29 rfl (lv_at hl 1 rfl) ?_
          refine r_ki (q_S (As := [.int i2842]) (rest := [.int v2892]) S X2890 (c_X12_bits l G t4 I7 i2842 (R_of (lo := -2147483648) (hi := 2147483647) r2888 rfl)) ck12_284 ⟨Nat.le_of_ble_eq_true rfl, Nat.le_of_ble_eq_true rfl⟩ rfl hl.1 rfl (Nat.le_of_ble_eq_true rfl) dX12_largest_30 ⟨Nat.le_refl 0, Nat.le_refl 0⟩) X2890 (fun v2898 t2897 H lc q2895 X2896 => ?_)
          unfold po_X12_bits at q2895
          have q2899 := q2895
          rw [q2899] at X2896
          have r2900 := R_any v2898
          refine r_icmp_le (tgt := 46) S dX12_largest_33 (by decide) (fun c2901 => ?_) (fun c2901 => ?_)
          ·
            refine r_iinc (k := 2) S dX12_largest_46 hl rfl (by decide) (by decide) (fun v2902 d2903 ls z2904 z2905 hl => ?_)
            obtain ⟨e2906, r2907⟩ := i_add (lo := 2) (hi := 1024) z2904 r2863 (R_eq z2905) rfl
            have hl : lv_has ls 3 [(2, .int v2902), (0, .ref (G.2.2.2.1 131)), (1, .int i2842)] := hl
            refine r_goto (tgt := 9) S dX12_largest_49 (by decide) ?_
            exact ih2848 _ _ _ i2842 v2902 X2896 (R_of r2888 rfl) (R_of r2907 rfl) (lv_sub hl [1, 2, 0] rfl) (by omega)
          ·
            have r2908 : R (-2147483648) (2147483646) v2898 := ⟨by omega, by omega⟩
            have r2909 : R (-2147483647) (2147483647) v2892 := ⟨by omega, by omega⟩
            refine r_aload_n S dX12_largest_36 rfl (lv_at hl 0 rfl) ?_
            refine r_iload_n S dX12_largest_37 rfl (lv_at hl 2 rfl) ?_
            refine r_ki (q_V (As := [.int i2844]) (rest := []) (K := 38) (ci := 10) S X2896 (c_X12_whyCross l G t4 I7 i2844 (R_of (lo := -2147483648) (hi := 2147483647) r2863 rfl)) ck12_299 (Nat.le_of_ble_eq_true rfl) rfl (fun _ => ⟨_, rfl⟩) ⟨_, _, rfl⟩ ⟨Nat.le_of_ble_eq_true rfl, Nat.le_of_ble_eq_true rfl⟩ rfl hl.1 rfl (Nat.le_of_ble_eq_true rfl) dX12_largest_38 ⟨Nat.le_refl 0, Nat.le_refl 0⟩) X2896 (fun v2913 t2912 H lc q2910 X2911 => ?_)
            unfold po_X12_whyCross at q2910
            obtain ⟨q2914, q2915⟩ := q2910
            rw [q2914] at X2911
            refine r_if_ne (tgt := 46) S dX12_largest_41 (by decide) (fun c2916 => ?_) (fun c2916 => ?_)
            ·
              have r2917 : R (1) (4) v2913 := ⟨by omega, by omega⟩
              refine r_iinc (k := 2) S dX12_largest_46 hl rfl (by decide) (by decide) (fun v2918 d2919 ls z2920 z2921 hl => ?_)
              obtain ⟨e2922, r2923⟩ := i_add (lo := 2) (hi := 1024) z2920 r2863 (R_eq z2921) rfl
              have hl : lv_has ls 3 [(2, .int v2918), (0, .ref (G.2.2.2.1 131)), (1, .int i2842)] := hl
              refine r_goto (tgt := 9) S dX12_largest_49 (by decide) ?_
              exact ih2848 _ _ _ i2842 v2918 X2911 (R_of r2888 rfl) (R_of r2923 rfl) (lv_sub hl [1, 2, 0] rfl) (by omega)
            ·
              have r2924 : R (0) (0) v2913 := ⟨by omega, by omega⟩
              refine r_iload_n S dX12_largest_44 rfl (lv_at hl 2 rfl) ?_
              refine r_istore_n (lv' := [(1, .int i2844), (0, .ref (G.2.2.2.1 131)), (2, .int i2844)]) S dX12_largest_45 rfl hl (by decide) rfl (fun ls hl => ?_)
              refine r_iinc (k := 2) S dX12_largest_46 hl rfl (by decide) (by decide) (fun v2925 d2926 ls z2927 z2928 hl => ?_)
              obtain ⟨e2929, r2930⟩ := i_add (lo := 2) (hi := 1024) z2927 r2863 (R_eq z2928) rfl
              have hl : lv_has ls 3 [(2, .int v2925), (1, .int i2844), (0, .ref (G.2.2.2.1 131))] := hl
              refine r_goto (tgt := 9) S dX12_largest_49 (by decide) ?_
              exact ih2848 _ _ _ i2844 v2925 X2911 (R_of r2863 rfl) (R_of r2930 rfl) (lv_sub hl [2, 1, 0] rfl) (by omega)
  exact L2847 _ _ _ _ v9 v12 X6 (R_of r11 rfl) (R_of r14 rfl) (lv_sub hl [2, 1, 0] rfl) (Nat.lt_succ_self _)
def po_X12_stuck (τ : Tau)     (r : Int32) (u : Tau) : Prop := Inv u ∧ Fr [(131, 0)] [] τ u
set_option maxHeartbeats 4000000 in
set_option maxRecDepth 100000 in
theorem c_X12_stuck (l : Launch) (G : Gx) (τ : Tau) (hI : Inv τ) : Ci l G yX12_stuck cX12_stuck 3 (some .int) 6 137 [.ref (G.2.2.2.1 131)] τ (po_X12_stuck τ    ) := by
  unfold Ci
  refine C_of (own := RX12) (by decide) rfl (Nat.le_of_ble_eq_true rfl) ?_
  intro p e s m below meth c ls S hr hlk X hl
  have hl : lv_has ls 3 [(0, .ref (G.2.2.2.1 131))] := hl
  refine r_aload_n S dX12_stuck_0 rfl (lv_at hl 0 rfl) ?_
  refine r_iconst S dX12_stuck_1 (by decide) (fun v1 z2 => ?_)
  have r3 := R_eq z2
  refine r_put (K := 38) (ty := .int) S X (Nat.le_of_ble_eq_true rfl) rfl lk12_1_10 (fun _ => ⟨_, rfl, Nat.le_of_ble_eq_true rfl, rfl⟩) (fun _ _ _ h => by cases h; exact ⟨rfl, rfl⟩) rfl rfl dX12_stuck_2 (fun t4 H lc M5 X6 => ?_)
  have I7 := Inv_mu hI M5 (R_any v1)
  have F8 : Fr [(131, 0)] [] τ t4 := Fr_mu Fr_rfl M5 (by decide)
  refine r_aload_n S dX12_stuck_5 rfl (lv_at hl 0 rfl) ?_
  refine r_ki (q_V (As := []) (rest := []) (K := 38) (ci := 10) S X6 (c_X12_ashore l G t4 I7 ) ck12_281 (Nat.le_of_ble_eq_true rfl) rfl (fun _ => ⟨_, rfl⟩) ⟨_, _, rfl⟩ ⟨Nat.le_of_ble_eq_true rfl, Nat.le_of_ble_eq_true rfl⟩ rfl hl.1 rfl (Nat.le_of_ble_eq_true rfl) dX12_stuck_6 ⟨Nat.le_refl 0, Nat.le_refl 0⟩) X6 (fun v12 t11 H lc q9 X10 => ?_)
  unfold po_X12_ashore at q9
  obtain ⟨q13, q14⟩ := q9
  rw [q13] at X10
  refine r_istore_n (lv' := [(1, .int v12), (0, .ref (G.2.2.2.1 131))]) S dX12_stuck_9 rfl hl (by decide) rfl (fun ls hl => ?_)
  refine r_iconst S dX12_stuck_10 (by decide) (fun v15 z16 => ?_)
  have r17 := R_eq z16
  refine r_istore_n (lv' := [(2, .int v15), (1, .int v12), (0, .ref (G.2.2.2.1 131))]) S dX12_stuck_11 rfl hl (by decide) rfl (fun ls hl => ?_)
  have L2234 : ∀ (n : Nat) (H : Heap) (lc : List Loc) (ls : Array Slot) (i2229 : Int32) (i2231 : Int32), Xd G s H lc t4 → R (0) (1023) i2229 → R (1) (1024) i2231 → lv_has ls 3 [(0, .ref (G.2.2.2.1 131)), (1, .int i2229), (2, .int i2231)] → (1024 - i2231.toInt).toNat < n → W p l e (Rm 6 137) s m ([.ref (G.2.2.2.1 131)] : List Value).toArray below meth c H lc 0 0 (MQ below (va_Qi (po_X12_stuck τ    ) (Bs G) G.2.2.2.2) ([.ref (G.2.2.2.1 131)] : List Value).toArray s 0 0 G.2.2.2.2) (F0 m 12 ls []) := by
    intro n
    induction n with
    | zero => intros; omega
    | succ n ih2235 =>
      intro H lc ls i2229 i2231 X2233 r2230 r2232 hl hm
      refine r_iload_n S dX12_stuck_12 rfl (lv_at hl 2 rfl) ?_
      refine r_iconst S dX12_stuck_13 (by decide) (fun v2236 z2237 => ?_)
      have r2238 := R_eq z2237
      refine r_aload_n S dX12_stuck_14 rfl (lv_at hl 0 rfl) ?_
      refine r_get (K := 38) (v := .ref (G.2.2.2.1 133)) S X2233 (Nat.le_of_ble_eq_true rfl) rfl lk12_33_10 (fun _ => ⟨_, rfl, rfl⟩) dX12_stuck_15 ?_
      refine r_iconst S dX12_stuck_18 (by decide) (fun v2239 z2240 => ?_)
      have r2241 := R_eq z2240
      refine r_aldn (n := 513) (K := 40) S X2233 (Nat.le_of_ble_eq_true rfl) rfl (fun _ => rfl) (ix_of r2241 rfl) dX12_stuck_19 (fun v2242 z2243 => ?_)
      have r2244 : R (0) (10) v2242 := rds (K := 40) (a := 1) (n := 1) I7 rfl z2243 (R_of r2241 rfl) (by decide +kernel)
      refine r_ishl S dX12_stuck_20 (fun v2245 z2246 => ?_)
      have r2248 : R (1) (1024) v2245 := i_shl z2246 r2238 r2244 rfl
      refine r_icmp_ge (tgt := 50) S dX12_stuck_21 (by decide) (fun c2249 => ?_) (fun c2249 => ?_)
      ·
        refine r_iload_n S dX12_stuck_50 rfl (lv_at hl 1 rfl) ?_
        exact r_ret S hr hlk X2233 ⟨I7, F8⟩ rfl dX12_stuck_51
      ·
        have r2250 : R (1) (1023) i2231 := ⟨by omega, by omega⟩
        have r2251 : R (2) (1024) v2245 := ⟨by omega, by omega⟩
        refine r_iload_n S dX12_stuck_24 rfl (lv_at hl 2 rfl) ?_
        refine r_iload_n S dX12_stuck_25 rfl (lv_at hl 1 rfl) ?_
        refine r_iand S dX12_stuck_26 (fun v2252 z2253 => ?_)
        have r2255 : R (0) (1023) v2252 := i_and1 z2253 r2250 r2230 rfl
        have e2256 := i_andle z2253 r2250 rfl
        refine r_if_eq (tgt := 44) S dX12_stuck_27 (by decide) (fun c2257 => ?_) (fun c2257 => ?_)
        ·
          have r2258 : R (0) (0) v2252 := ⟨by omega, by omega⟩
          refine r_iinc (k := 2) S dX12_stuck_44 hl rfl (by decide) (by decide) (fun v2259 d2260 ls z2261 z2262 hl => ?_)
          obtain ⟨e2263, r2264⟩ := i_add (lo := 2) (hi := 1024) z2261 r2250 (R_eq z2262) rfl
          have hl : lv_has ls 3 [(2, .int v2259), (0, .ref (G.2.2.2.1 131)), (1, .int i2229)] := hl
          refine r_goto (tgt := 12) S dX12_stuck_47 (by decide) ?_
          exact ih2235 _ _ _ i2229 v2259 X2233 r2230 (R_of r2264 rfl) (lv_sub hl [1, 2, 0] rfl) (by omega)
        ·
          have r2265 : R (1) (1023) v2252 := ⟨by omega, by omega⟩
          refine r_aload_n S dX12_stuck_30 rfl (lv_at hl 0 rfl) ?_
          refine r_iload_n S dX12_stuck_31 rfl (lv_at hl 2 rfl) ?_
          refine r_ki (q_V (As := [.int i2231]) (rest := []) (K := 38) (ci := 10) S X2233 (c_X12_whyCross l G t4 I7 i2231 (R_of (lo := -2147483648) (hi := 2147483647) r2250 rfl)) ck12_299 (Nat.le_of_ble_eq_true rfl) rfl (fun _ => ⟨_, rfl⟩) ⟨_, _, rfl⟩ ⟨Nat.le_of_ble_eq_true rfl, Nat.le_of_ble_eq_true rfl⟩ rfl hl.1 rfl (Nat.le_of_ble_eq_true rfl) dX12_stuck_32 ⟨Nat.le_refl 0, Nat.le_refl 0⟩) X2233 (fun v2269 t2268 H lc q2266 X2267 => ?_)
          unfold po_X12_whyCross at q2266
          obtain ⟨q2270, q2271⟩ := q2266
          rw [q2270] at X2267
          refine r_if_ne (tgt := 44) S dX12_stuck_35 (by decide) (fun c2272 => ?_) (fun c2272 => ?_)
          ·
            have r2273 : R (1) (4) v2269 := ⟨by omega, by omega⟩
            refine r_iinc (k := 2) S dX12_stuck_44 hl rfl (by decide) (by decide) (fun v2274 d2275 ls z2276 z2277 hl => ?_)
            obtain ⟨e2278, r2279⟩ := i_add (lo := 2) (hi := 1024) z2276 r2250 (R_eq z2277) rfl
            have hl : lv_has ls 3 [(2, .int v2274), (0, .ref (G.2.2.2.1 131)), (1, .int i2229)] := hl
            refine r_goto (tgt := 12) S dX12_stuck_47 (by decide) ?_
            exact ih2235 _ _ _ i2229 v2274 X2267 r2230 (R_of r2279 rfl) (lv_sub hl [1, 2, 0] rfl) (by omega)
          ·
            have r2280 : R (0) (0) v2269 := ⟨by omega, by omega⟩
            refine r_iload_n S dX12_stuck_38 rfl (lv_at hl 1 rfl) ?_
            refine r_iload_n S dX12_stuck_39 rfl (lv_at hl 2 rfl) ?_
            refine r_iconst S dX12_stuck_40 (by decide) (fun v2281 z2282 => ?_)
            have r2283 := R_eq z2282
            refine r_ixor S dX12_stuck_41 (fun v2284 z2285 => ?_)
            have r2286 := R_any v2284
            refine r_iand S dX12_stuck_42 (fun v2287 z2288 => ?_)
            have r2290 : R (0) (1023) v2287 := i_and1 z2288 r2230 r2286 rfl
            have e2291 := i_andle z2288 r2230 rfl
            refine r_istore_n (lv' := [(1, .int v2287), (0, .ref (G.2.2.2.1 131)), (2, .int i2231)]) S dX12_stuck_43 rfl hl (by decide) rfl (fun ls hl => ?_)
            refine r_iinc (k := 2) S dX12_stuck_44 hl rfl (by decide) (by decide) (fun v2292 d2293 ls z2294 z2295 hl => ?_)
            obtain ⟨e2296, r2297⟩ := i_add (lo := 2) (hi := 1024) z2294 r2250 (R_eq z2295) rfl
            have hl : lv_has ls 3 [(2, .int v2292), (1, .int v2287), (0, .ref (G.2.2.2.1 131))] := hl
            refine r_goto (tgt := 12) S dX12_stuck_47 (by decide) ?_
            exact ih2235 _ _ _ v2287 v2292 X2267 r2290 (R_of r2297 rfl) (lv_sub hl [2, 1, 0] rfl) (by omega)
  exact L2234 _ _ _ _ v12 v15 X10 q14 (R_of r17 rfl) (lv_sub hl [2, 1, 0] rfl) (Nat.lt_succ_self _)
def po_X12_easy (τ : Tau)     (r : Int32) (u : Tau) : Prop := Inv u ∧ Fr [(131, 0)] [] τ u
set_option maxHeartbeats 4000000 in
set_option maxRecDepth 100000 in
theorem c_X12_easy (l : Launch) (G : Gx) (τ : Tau) (hI : Inv τ) : Ci l G yX12_easy cX12_easy 3 (some .int) 4 90 [.ref (G.2.2.2.1 131)] τ (po_X12_easy τ    ) := by
  unfold Ci
  refine C_of (own := RX12) (by decide) rfl (Nat.le_of_ble_eq_true rfl) ?_
  intro p e s m below meth c ls S hr hlk X hl
  have hl : lv_has ls 3 [(0, .ref (G.2.2.2.1 131))] := hl
  refine r_aload_n S dX12_easy_0 rfl (lv_at hl 0 rfl) ?_
  refine r_iconst S dX12_easy_1 (by decide) (fun v1 z2 => ?_)
  have r3 := R_eq z2
  refine r_put (K := 38) (ty := .int) S X (Nat.le_of_ble_eq_true rfl) rfl lk12_1_10 (fun _ => ⟨_, rfl, Nat.le_of_ble_eq_true rfl, rfl⟩) (fun _ _ _ h => by cases h; exact ⟨rfl, rfl⟩) rfl rfl dX12_easy_2 (fun t4 H lc M5 X6 => ?_)
  have I7 := Inv_mu hI M5 (R_any v1)
  have F8 : Fr [(131, 0)] [] τ t4 := Fr_mu Fr_rfl M5 (by decide)
  refine r_iconst S dX12_easy_5 (by decide) (fun v9 z10 => ?_)
  have r11 := R_eq z10
  refine r_istore_n (lv' := [(1, .int v9), (0, .ref (G.2.2.2.1 131))]) S dX12_easy_6 rfl hl (by decide) rfl (fun ls hl => ?_)
  refine r_iconst S dX12_easy_7 (by decide) (fun v12 z13 => ?_)
  have r14 := R_eq z13
  refine r_istore_n (lv' := [(2, .int v12), (1, .int v9), (0, .ref (G.2.2.2.1 131))]) S dX12_easy_8 rfl hl (by decide) rfl (fun ls hl => ?_)
  have L475 : ∀ (n : Nat) (H : Heap) (lc : List Loc) (ls : Array Slot) (i470 : Int32) (i472 : Int32), Xd G s H lc t4 → R (0) (1023) i470 → R (0) (9) i472 → lv_has ls 3 [(0, .ref (G.2.2.2.1 131)), (1, .int i470), (2, .int i472)] → (9 - i472.toInt).toNat < n → W p l e (Rm 4 90) s m ([.ref (G.2.2.2.1 131)] : List Value).toArray below meth c H lc 0 0 (MQ below (va_Qi (po_X12_easy τ    ) (Bs G) G.2.2.2.2) ([.ref (G.2.2.2.1 131)] : List Value).toArray s 0 0 G.2.2.2.2) (F0 m 9 ls []) := by
    intro n
    induction n with
    | zero => intros; omega
    | succ n ih476 =>
      intro H lc ls i470 i472 X474 r471 r473 hl hm
      refine r_iload_n S dX12_easy_9 rfl (lv_at hl 2 rfl) ?_
      refine r_aload_n S dX12_easy_10 rfl (lv_at hl 0 rfl) ?_
      refine r_get (K := 38) (v := .ref (G.2.2.2.1 133)) S X474 (Nat.le_of_ble_eq_true rfl) rfl lk12_33_10 (fun _ => ⟨_, rfl, rfl⟩) dX12_easy_11 ?_
      refine r_iconst S dX12_easy_14 (by decide) (fun v477 z478 => ?_)
      have r479 := R_eq z478
      refine r_aldn (n := 513) (K := 40) S X474 (Nat.le_of_ble_eq_true rfl) rfl (fun _ => rfl) (ix_of r479 rfl) dX12_easy_15 (fun v480 z481 => ?_)
      have r482 : R (0) (9) v480 := rds (K := 40) (a := 0) (n := 1) I7 rfl z481 (R_of r479 rfl) (by decide +kernel)
      refine r_icmp_ge (tgt := 51) S dX12_easy_16 (by decide) (fun c483 => ?_) (fun c483 => ?_)
      ·
        refine r_iload_n S dX12_easy_51 rfl (lv_at hl 1 rfl) ?_
        exact r_ret S hr hlk X474 ⟨I7, F8⟩ rfl dX12_easy_52
      ·
        have r484 : R (0) (8) i472 := ⟨by omega, by omega⟩
        have r485 : R (1) (9) v480 := ⟨by omega, by omega⟩
        refine r_iload_n S dX12_easy_19 rfl (lv_at hl 1 rfl) ?_
        refine r_aload_n S dX12_easy_20 rfl (lv_at hl 0 rfl) ?_
        refine r_aload_n S dX12_easy_21 rfl (lv_at hl 0 rfl) ?_
        refine r_aload_n S dX12_easy_22 rfl (lv_at hl 0 rfl) ?_
        refine r_ki (q_V (As := []) (rest := [.ref (G.2.2.2.1 131), .ref (G.2.2.2.1 131), .int i470]) (K := 38) (ci := 10) S X474 (c_X12_ashore l G t4 I7 ) ck12_281 (Nat.le_of_ble_eq_true rfl) rfl (fun _ => ⟨_, rfl⟩) ⟨_, _, rfl⟩ ⟨Nat.le_of_ble_eq_true rfl, Nat.le_of_ble_eq_true rfl⟩ rfl hl.1 rfl (Nat.le_of_ble_eq_true rfl) dX12_easy_23 ⟨Nat.le_refl 0, Nat.le_refl 0⟩) X474 (fun v489 t488 H lc q486 X487 => ?_)
        unfold po_X12_ashore at q486
        obtain ⟨q490, q491⟩ := q486
        rw [q490] at X487
        refine r_iload_n S dX12_easy_26 rfl (lv_at hl 2 rfl) ?_
        refine r_ki (q_V (As := [.int v489, .int i472]) (rest := [.ref (G.2.2.2.1 131), .int i470]) (K := 38) (ci := 10) S X487 (c_X12_sumOf l G t4 I7 v489 i472 (R_of (lo := -2147483648) (hi := 2147483647) q491 rfl) r484) ck12_287 (Nat.le_of_ble_eq_true rfl) rfl (fun _ => ⟨_, rfl⟩) ⟨_, _, rfl⟩ ⟨Nat.le_of_ble_eq_true rfl, Nat.le_of_ble_eq_true rfl⟩ rfl hl.1 rfl (Nat.le_of_ble_eq_true rfl) dX12_easy_27 ⟨Nat.le_refl 0, Nat.le_refl 0⟩) X487 (fun v495 t494 H lc q492 X493 => ?_)
        unfold po_X12_sumOf at q492
        have q496 := q492
        rw [q496] at X493
        have r497 := R_any v495
        refine r_ki (q_V (As := [.int v495]) (rest := [.int i470]) (K := 38) (ci := 10) S X493 (c_X12_balances l G t4 I7 v495 r497) ck12_290 (Nat.le_of_ble_eq_true rfl) rfl (fun _ => ⟨_, rfl⟩) ⟨_, _, rfl⟩ ⟨Nat.le_of_ble_eq_true rfl, Nat.le_of_ble_eq_true rfl⟩ rfl hl.1 rfl (Nat.le_of_ble_eq_true rfl) dX12_easy_30 ⟨Nat.le_refl 0, Nat.le_refl 0⟩) X493 (fun v501 t500 H lc q498 X499 => ?_)
        unfold po_X12_balances at q498
        obtain ⟨q502, q503⟩ := q498
        rw [q502] at X499
        refine r_if_eq (tgt := 42) S dX12_easy_33 (by decide) (fun c504 => ?_) (fun c504 => ?_)
        ·
          have r505 : R (0) (0) v501 := ⟨by omega, by omega⟩
          refine r_iconst S dX12_easy_42 (by decide) (fun v506 z507 => ?_)
          have r508 := R_eq z507
          refine r_ior S dX12_easy_43 (fun v509 z510 => ?_)
          have r512 : R (0) (1023) v509 := i_or 10 z510 r471 r508 rfl
          refine r_istore_n (lv' := [(1, .int v509), (0, .ref (G.2.2.2.1 131)), (2, .int i472)]) S dX12_easy_44 rfl hl (by decide) rfl (fun ls hl => ?_)
          refine r_iinc (k := 2) S dX12_easy_45 hl rfl (by decide) (by decide) (fun v513 d514 ls z515 z516 hl => ?_)
          obtain ⟨e517, r518⟩ := i_add (lo := 1) (hi := 9) z515 r484 (R_eq z516) rfl
          have hl : lv_has ls 3 [(2, .int v513), (1, .int v509), (0, .ref (G.2.2.2.1 131))] := hl
          refine r_goto (tgt := 9) S dX12_easy_48 (by decide) ?_
          exact ih476 _ _ _ v509 v513 X499 r512 (R_of r518 rfl) (lv_sub hl [2, 1, 0] rfl) (by omega)
        ·
          have r519 : R (1) (1) v501 := ⟨by omega, by omega⟩
          refine r_iconst S dX12_easy_36 (by decide) (fun v520 z521 => ?_)
          have r522 := R_eq z521
          refine r_iload_n S dX12_easy_37 rfl (lv_at hl 2 rfl) ?_
          refine r_ishl S dX12_easy_38 (fun v523 z524 => ?_)
          have r526 : R (1) (256) v523 := i_shl z524 r522 r484 rfl
          refine r_goto (tgt := 43) S dX12_easy_39 (by decide) ?_
          refine r_ior S dX12_easy_43 (fun v527 z528 => ?_)
          have r530 : R (0) (1023) v527 := i_or 10 z528 r471 r526 rfl
          refine r_istore_n (lv' := [(1, .int v527), (0, .ref (G.2.2.2.1 131)), (2, .int i472)]) S dX12_easy_44 rfl hl (by decide) rfl (fun ls hl => ?_)
          refine r_iinc (k := 2) S dX12_easy_45 hl rfl (by decide) (by decide) (fun v531 d532 ls z533 z534 hl => ?_)
          obtain ⟨e535, r536⟩ := i_add (lo := 1) (hi := 9) z533 r484 (R_eq z534) rfl
          have hl : lv_has ls 3 [(2, .int v531), (1, .int v527), (0, .ref (G.2.2.2.1 131))] := hl
          refine r_goto (tgt := 9) S dX12_easy_48 (by decide) ?_
          exact ih476 _ _ _ v527 v531 X499 r530 (R_of r536 rfl) (lv_sub hl [2, 1, 0] rfl) (by omega)
  exact L475 _ _ _ _ v9 v12 X6 (R_of r11 rfl) (R_of r14 rfl) (lv_sub hl [2, 1, 0] rfl) (Nat.lt_succ_self _)
def po_X12_changed (τ : Tau)  (a0 : Int32)   (r : Int32) (u : Tau) : Prop := Inv u ∧ Fr [(131, 0)] [] τ u
set_option maxHeartbeats 4000000 in
set_option maxRecDepth 100000 in
theorem c_X12_changed (l : Launch) (G : Gx) (τ : Tau) (hI : Inv τ) (a0 : Int32) (h_a0 : R (-2147483648) (2147483647) a0) : Ci l G yX12_changed cX12_changed 5 (some .int) 4 90 [.ref (G.2.2.2.1 131), .int a0] τ (po_X12_changed τ  a0  ) := by
  unfold Ci
  refine C_of (own := RX12) (by decide) rfl (Nat.le_of_ble_eq_true rfl) ?_
  intro p e s m below meth c ls S hr hlk X hl
  have hl : lv_has ls 5 [(0, .ref (G.2.2.2.1 131)), (1, .int a0)] := hl
  refine r_aload_n S dX12_changed_0 rfl (lv_at hl 0 rfl) ?_
  refine r_iconst S dX12_changed_1 (by decide) (fun v1 z2 => ?_)
  have r3 := R_eq z2
  refine r_put (K := 38) (ty := .int) S X (Nat.le_of_ble_eq_true rfl) rfl lk12_1_10 (fun _ => ⟨_, rfl, Nat.le_of_ble_eq_true rfl, rfl⟩) (fun _ _ _ h => by cases h; exact ⟨rfl, rfl⟩) rfl rfl dX12_changed_2 (fun t4 H lc M5 X6 => ?_)
  have I7 := Inv_mu hI M5 (R_any v1)
  have F8 : Fr [(131, 0)] [] τ t4 := Fr_mu Fr_rfl M5 (by decide)
  refine r_aload_n S dX12_changed_5 rfl (lv_at hl 0 rfl) ?_
  refine r_iload_n S dX12_changed_6 rfl (lv_at hl 1 rfl) ?_
  refine r_ki (q_V (As := [.int a0]) (rest := []) (K := 38) (ci := 10) S X6 (c_X12_isSet l G t4 I7 a0 h_a0) ck12_296 (Nat.le_of_ble_eq_true rfl) rfl (fun _ => ⟨_, rfl⟩) ⟨_, _, rfl⟩ ⟨Nat.le_of_ble_eq_true rfl, Nat.le_of_ble_eq_true rfl⟩ rfl hl.1 rfl (Nat.le_of_ble_eq_true rfl) dX12_changed_7 ⟨Nat.le_refl 0, Nat.le_refl 0⟩) X6 (fun v12 t11 H lc q9 X10 => ?_)
  unfold po_X12_isSet at q9
  obtain ⟨q13, q14, q15⟩ := q9
  rw [q13] at X10
  refine r_if_eq (tgt := 22) S dX12_changed_10 (by decide) (fun c16 => ?_) (fun c16 => ?_)
  ·
    have r17 : R (0) (0) v12 := ⟨by omega, by omega⟩
    refine r_iconst S dX12_changed_22 (by decide) (fun v18 z19 => ?_)
    have r20 := R_eq z19
    exact r_ret S hr hlk X10 ⟨I7, F8⟩ rfl dX12_changed_23
  ·
    have r21 : R (1) (1) v12 := ⟨by omega, by omega⟩
    have p22 := q15 (by omega)
    have r23 : R (0) (1023) a0 := ⟨by omega, by omega⟩
    refine r_aload_n S dX12_changed_13 rfl (lv_at hl 0 rfl) ?_
    refine r_get (K := 38) (v := .ref (G.2.2.2.1 133)) S X10 (Nat.le_of_ble_eq_true rfl) rfl lk12_33_10 (fun _ => ⟨_, rfl, rfl⟩) dX12_changed_14 ?_
    refine r_iconst S dX12_changed_17 (by decide) (fun v24 z25 => ?_)
    have r26 := R_eq z25
    refine r_aldn (n := 513) (K := 40) S X10 (Nat.le_of_ble_eq_true rfl) rfl (fun _ => rfl) (ix_of r26 rfl) dX12_changed_18 (fun v27 z28 => ?_)
    have r29 : R (0) (9) v27 := rds (K := 40) (a := 0) (n := 1) I7 rfl z28 (R_of r26 rfl) (by decide +kernel)
    refine r_if_ne (tgt := 24) S dX12_changed_19 (by decide) (fun c30 => ?_) (fun c30 => ?_)
    ·
      have r31 : R (1) (9) v27 := ⟨by omega, by omega⟩
      refine r_aload_n S dX12_changed_24 rfl (lv_at hl 0 rfl) ?_
      refine r_iload_n S dX12_changed_25 rfl (lv_at hl 1 rfl) ?_
      refine r_aload_n S dX12_changed_26 rfl (lv_at hl 0 rfl) ?_
      refine r_get (K := 38) (v := .ref (G.2.2.2.1 133)) S X10 (Nat.le_of_ble_eq_true rfl) rfl lk12_33_10 (fun _ => ⟨_, rfl, rfl⟩) dX12_changed_27 ?_
      refine r_bipush S dX12_changed_30 (by decide) (fun v32 z33 => ?_)
      have r34 := R_eq z33
      refine r_aldn (n := 513) (K := 40) S X10 (Nat.le_of_ble_eq_true rfl) rfl (fun _ => rfl) (ix_of r34 rfl) dX12_changed_32 (fun v35 z36 => ?_)
      have r37 : R (0) (8) v35 := rds (K := 40) (a := 126) (n := 1) I7 rfl z36 (R_of r34 rfl) (by decide +kernel)
      refine r_ki (q_V (As := [.int a0, .int v35]) (rest := []) (K := 38) (ci := 10) S X10 (c_X12_sumOf l G t4 I7 a0 v35 (R_of (lo := -2147483648) (hi := 2147483647) r23 rfl) r37) ck12_287 (Nat.le_of_ble_eq_true rfl) rfl (fun _ => ⟨_, rfl⟩) ⟨_, _, rfl⟩ ⟨Nat.le_of_ble_eq_true rfl, Nat.le_of_ble_eq_true rfl⟩ rfl hl.1 rfl (Nat.le_of_ble_eq_true rfl) dX12_changed_33 ⟨Nat.le_refl 0, Nat.le_refl 0⟩) X10 (fun v41 t40 H lc q38 X39 => ?_)
      unfold po_X12_sumOf at q38
      have q42 := q38
      rw [q42] at X39
      have r43 := R_any v41
      refine r_istore_n (lv' := [(2, .int v41), (0, .ref (G.2.2.2.1 131)), (1, .int a0)]) S dX12_changed_36 rfl hl (by decide) rfl (fun ls hl => ?_)
      refine r_aload_n S dX12_changed_37 rfl (lv_at hl 1 rfl) ?_
      refine r_iload_n S dX12_changed_38 rfl (lv_at hl 0 rfl) ?_
      refine r_ki (q_V (As := [.int v41]) (rest := []) (K := 38) (ci := 10) S X39 (c_X12_balances l G t4 I7 v41 r43) ck12_290 (Nat.le_of_ble_eq_true rfl) rfl (fun _ => ⟨_, rfl⟩) ⟨_, _, rfl⟩ ⟨Nat.le_of_ble_eq_true rfl, Nat.le_of_ble_eq_true rfl⟩ rfl hl.1 rfl (Nat.le_of_ble_eq_true rfl) dX12_changed_39 ⟨Nat.le_refl 0, Nat.le_refl 0⟩) X39 (fun v47 t46 H lc q44 X45 => ?_)
      unfold po_X12_balances at q44
      obtain ⟨q48, q49⟩ := q44
      rw [q48] at X45
      refine r_if_eq (tgt := 47) S dX12_changed_42 (by decide) (fun c50 => ?_) (fun c50 => ?_)
      ·
        have r51 : R (0) (0) v47 := ⟨by omega, by omega⟩
        refine r_iconst S dX12_changed_47 (by decide) (fun v52 z53 => ?_)
        have r54 := R_eq z53
        refine r_istore_n (lv' := [(3, .int v52), (2, .int v41), (0, .ref (G.2.2.2.1 131)), (1, .int a0)]) S dX12_changed_48 rfl hl (by decide) rfl (fun ls hl => ?_)
        refine r_iconst S dX12_changed_49 (by decide) (fun v55 z56 => ?_)
        have r57 := R_eq z56
        refine r_istore (lv' := [(4, .int v55), (3, .int v52), (2, .int v41), (0, .ref (G.2.2.2.1 131)), (1, .int a0)]) S dX12_changed_50 hl (by decide) rfl (fun ls hl => ?_)
        have L854 : ∀ (n : Nat) (H : Heap) (lc : List Loc) (ls : Array Slot) (i849 : Int32) (i851 : Int32), Xd G s H lc t4 → R (0) (1023) i849 → R (0) (10) i851 → lv_has ls 5 [(0, .ref (G.2.2.2.1 131)), (1, .int a0), (2, .int v41), (3, .int i849), (4, .int i851)] → (10 - i851.toInt).toNat < n → W p l e (Rm 4 90) s m ([.ref (G.2.2.2.1 131), .int a0] : List Value).toArray below meth c H lc 0 0 (MQ below (va_Qi (po_X12_changed τ  a0  ) (Bs G) G.2.2.2.2) ([.ref (G.2.2.2.1 131), .int a0] : List Value).toArray s 0 0 G.2.2.2.2) (F0 m 52 ls []) := by
          intro n
          induction n with
          | zero => intros; omega
          | succ n ih855 =>
            intro H lc ls i849 i851 X853 r850 r852 hl hm
            refine r_iload S dX12_changed_52 (lv_at hl 4 rfl) ?_
            refine r_aload_n S dX12_changed_54 rfl (lv_at hl 0 rfl) ?_
            refine r_get (K := 38) (v := .ref (G.2.2.2.1 133)) S X853 (Nat.le_of_ble_eq_true rfl) rfl lk12_33_10 (fun _ => ⟨_, rfl, rfl⟩) dX12_changed_55 ?_
            refine r_iconst S dX12_changed_58 (by decide) (fun v856 z857 => ?_)
            have r858 := R_eq z857
            refine r_aldn (n := 513) (K := 40) S X853 (Nat.le_of_ble_eq_true rfl) rfl (fun _ => rfl) (ix_of r858 rfl) dX12_changed_59 (fun v859 z860 => ?_)
            have r861 : R (0) (10) v859 := rds (K := 40) (a := 1) (n := 1) I7 rfl z860 (R_of r858 rfl) (by decide +kernel)
            refine r_icmp_ge (tgt := 124) S dX12_changed_60 (by decide) (fun c862 => ?_) (fun c862 => ?_)
            ·
              refine r_iload_n S dX12_changed_124 rfl (lv_at hl 3 rfl) ?_
              exact r_ret S hr hlk X853 ⟨I7, F8⟩ rfl dX12_changed_125
            ·
              have r863 : R (0) (9) i851 := ⟨by omega, by omega⟩
              have r864 : R (1) (10) v859 := ⟨by omega, by omega⟩
              refine r_iload_n S dX12_changed_63 rfl (lv_at hl 3 rfl) ?_
              refine r_iload_n S dX12_changed_64 rfl (lv_at hl 1 rfl) ?_
              refine r_aload_n S dX12_changed_65 rfl (lv_at hl 0 rfl) ?_
              refine r_get (K := 38) (v := .ref (G.2.2.2.1 133)) S X853 (Nat.le_of_ble_eq_true rfl) rfl lk12_33_10 (fun _ => ⟨_, rfl, rfl⟩) dX12_changed_66 ?_
              refine r_sipush S dX12_changed_69 (by decide) (fun v865 z866 => ?_)
              have r867 := R_eq z866
              refine r_aldn (n := 513) (K := 40) S X853 (Nat.le_of_ble_eq_true rfl) rfl (fun _ => rfl) (ix_of r867 rfl) dX12_changed_72 (fun v868 z869 => ?_)
              have r870 : R (0) (1023) v868 := rds (K := 40) (a := 131) (n := 1) I7 rfl z869 (R_of r867 rfl) (by decide +kernel)
              refine r_iconst S dX12_changed_73 (by decide) (fun v871 z872 => ?_)
              have r873 := R_eq z872
              refine r_ixor S dX12_changed_74 (fun v874 z875 => ?_)
              have r876 := R_any v874
              refine r_iand S dX12_changed_75 (fun v877 z878 => ?_)
              have r880 : R (0) (1023) v877 := i_and1 z878 r23 r876 rfl
              have e881 := i_andle z878 r23 rfl
              refine r_iload S dX12_changed_76 (lv_at hl 4 rfl) ?_
              refine r_ki (q_S (As := [.int v877, .int i851]) (rest := [.int i849]) S X853 (c_X12_bitOf l G t4 I7 v877 i851 (R_of (lo := -2147483648) (hi := 2147483647) r880 rfl) (R_of (lo := -2147483648) (hi := 2147483647) r863 rfl)) ck12_221 ⟨Nat.le_of_ble_eq_true rfl, Nat.le_of_ble_eq_true rfl⟩ rfl hl.1 rfl (Nat.le_of_ble_eq_true rfl) dX12_changed_78 ⟨Nat.le_refl 0, Nat.le_refl 0⟩) X853 (fun v885 t884 H lc q882 X883 => ?_)
              unfold po_X12_bitOf at q882
              obtain ⟨q886, q887⟩ := q882
              rw [q886] at X883
              refine r_if_eq (tgt := 115) S dX12_changed_81 (by decide) (fun c888 => ?_) (fun c888 => ?_)
              ·
                have r889 : R (0) (0) v885 := ⟨by omega, by omega⟩
                refine r_iconst S dX12_changed_115 (by decide) (fun v890 z891 => ?_)
                have r892 := R_eq z891
                refine r_ior S dX12_changed_116 (fun v893 z894 => ?_)
                have r896 : R (0) (1023) v893 := i_or 10 z894 r850 r892 rfl
                refine r_istore_n (lv' := [(3, .int v893), (0, .ref (G.2.2.2.1 131)), (1, .int a0), (2, .int v41), (4, .int i851)]) S dX12_changed_117 rfl hl (by decide) rfl (fun ls hl => ?_)
                refine r_iinc (k := 4) S dX12_changed_118 hl rfl (by decide) (by decide) (fun v897 d898 ls z899 z900 hl => ?_)
                obtain ⟨e901, r902⟩ := i_add (lo := 1) (hi := 10) z899 r863 (R_eq z900) rfl
                have hl : lv_has ls 5 [(4, .int v897), (3, .int v893), (0, .ref (G.2.2.2.1 131)), (1, .int a0), (2, .int v41)] := hl
                refine r_goto (tgt := 52) S dX12_changed_121 (by decide) ?_
                exact ih855 _ _ _ v893 v897 X883 r896 (R_of r902 rfl) (lv_sub hl [2, 3, 4, 1, 0] rfl) (by omega)
              ·
                have r903 : R (1) (1) v885 := ⟨by omega, by omega⟩
                refine r_aload_n S dX12_changed_84 rfl (lv_at hl 0 rfl) ?_
                refine r_iload_n S dX12_changed_85 rfl (lv_at hl 2 rfl) ?_
                refine r_iconst S dX12_changed_86 (by decide) (fun v904 z905 => ?_)
                have r906 := R_eq z905
                refine r_aload_n S dX12_changed_87 rfl (lv_at hl 0 rfl) ?_
                refine r_iload S dX12_changed_88 (lv_at hl 4 rfl) ?_
                refine r_aload_n S dX12_changed_90 rfl (lv_at hl 0 rfl) ?_
                refine r_get (K := 38) (v := .ref (G.2.2.2.1 133)) S X883 (Nat.le_of_ble_eq_true rfl) rfl lk12_33_10 (fun _ => ⟨_, rfl, rfl⟩) dX12_changed_91 ?_
                refine r_bipush S dX12_changed_94 (by decide) (fun v907 z908 => ?_)
                have r909 := R_eq z908
                refine r_aldi (x := v35) (n := 513) (K := 40) S X883 (Nat.le_of_ble_eq_true rfl) rfl (fun _ => rfl) (ix_of r909 rfl) (zc' (n := 126) (by omega) (zc (n := 126) (by omega) z36)) dX12_changed_96 ?_
                refine r_ki (q_V (As := [.int i851, .int v35]) (rest := [.int v904, .int v41, .ref (G.2.2.2.1 131), .int i849]) (K := 38) (ci := 10) S X883 (c_X12_saysOf l G t4 I7 i851 v35 r863 r37) ck12_269 (Nat.le_of_ble_eq_true rfl) rfl (fun _ => ⟨_, rfl⟩) ⟨_, _, rfl⟩ ⟨Nat.le_of_ble_eq_true rfl, Nat.le_of_ble_eq_true rfl⟩ rfl hl.1 rfl (Nat.le_of_ble_eq_true rfl) dX12_changed_97 ⟨Nat.le_refl 0, Nat.le_refl 0⟩) X883 (fun v914 t913 H lc q911 X912 => ?_)
                unfold po_X12_saysOf at q911
                obtain ⟨q915, q916⟩ := q911
                rw [q915] at X912
                refine r_imul S dX12_changed_100 (fun v917 z918 => ?_)
                obtain ⟨e919, r920⟩ := i_mul (lo := -18) (hi := 18) z918 r906 q916 rfl rfl
                have e921 : v917.toInt = 2 * v914.toInt := by rw [e919, show v904.toInt = 2 by omega]
                refine r_isub S dX12_changed_101 (fun v922 z923 => ?_)
                have r924 := R_any v922
                refine r_ki (q_V (As := [.int v922]) (rest := [.int i849]) (K := 38) (ci := 10) S X912 (c_X12_balances l G t4 I7 v922 r924) ck12_290 (Nat.le_of_ble_eq_true rfl) rfl (fun _ => ⟨_, rfl⟩) ⟨_, _, rfl⟩ ⟨Nat.le_of_ble_eq_true rfl, Nat.le_of_ble_eq_true rfl⟩ rfl hl.1 rfl (Nat.le_of_ble_eq_true rfl) dX12_changed_102 ⟨Nat.le_refl 0, Nat.le_refl 0⟩) X912 (fun v928 t927 H lc q925 X926 => ?_)
                unfold po_X12_balances at q925
                obtain ⟨q929, q930⟩ := q925
                rw [q929] at X926
                refine r_if_eq (tgt := 115) S dX12_changed_105 (by decide) (fun c931 => ?_) (fun c931 => ?_)
                ·
                  have r932 : R (0) (0) v928 := ⟨by omega, by omega⟩
                  refine r_iconst S dX12_changed_115 (by decide) (fun v933 z934 => ?_)
                  have r935 := R_eq z934
                  refine r_ior S dX12_changed_116 (fun v936 z937 => ?_)
                  have r939 : R (0) (1023) v936 := i_or 10 z937 r850 r935 rfl
                  refine r_istore_n (lv' := [(3, .int v936), (0, .ref (G.2.2.2.1 131)), (1, .int a0), (2, .int v41), (4, .int i851)]) S dX12_changed_117 rfl hl (by decide) rfl (fun ls hl => ?_)
                  refine r_iinc (k := 4) S dX12_changed_118 hl rfl (by decide) (by decide) (fun v940 d941 ls z942 z943 hl => ?_)
                  obtain ⟨e944, r945⟩ := i_add (lo := 1) (hi := 10) z942 r863 (R_eq z943) rfl
                  have hl : lv_has ls 5 [(4, .int v940), (3, .int v936), (0, .ref (G.2.2.2.1 131)), (1, .int a0), (2, .int v41)] := hl
                  refine r_goto (tgt := 52) S dX12_changed_121 (by decide) ?_
                  exact ih855 _ _ _ v936 v940 X926 r939 (R_of r945 rfl) (lv_sub hl [2, 3, 4, 1, 0] rfl) (by omega)
                ·
                  have r946 : R (1) (1) v928 := ⟨by omega, by omega⟩
                  refine r_iconst S dX12_changed_108 (by decide) (fun v947 z948 => ?_)
                  have r949 := R_eq z948
                  refine r_iload S dX12_changed_109 (lv_at hl 4 rfl) ?_
                  refine r_ishl S dX12_changed_111 (fun v950 z951 => ?_)
                  have r953 : R (1) (512) v950 := i_shl z951 r949 r863 rfl
                  refine r_goto (tgt := 116) S dX12_changed_112 (by decide) ?_
                  refine r_ior S dX12_changed_116 (fun v954 z955 => ?_)
                  have r957 : R (0) (1023) v954 := i_or 10 z955 r850 r953 rfl
                  refine r_istore_n (lv' := [(3, .int v954), (0, .ref (G.2.2.2.1 131)), (1, .int a0), (2, .int v41), (4, .int i851)]) S dX12_changed_117 rfl hl (by decide) rfl (fun ls hl => ?_)
                  refine r_iinc (k := 4) S dX12_changed_118 hl rfl (by decide) (by decide) (fun v958 d959 ls z960 z961 hl => ?_)
                  obtain ⟨e962, r963⟩ := i_add (lo := 1) (hi := 10) z960 r863 (R_eq z961) rfl
                  have hl : lv_has ls 5 [(4, .int v958), (3, .int v954), (0, .ref (G.2.2.2.1 131)), (1, .int a0), (2, .int v41)] := hl
                  refine r_goto (tgt := 52) S dX12_changed_121 (by decide) ?_
                  exact ih855 _ _ _ v954 v958 X926 r957 (R_of r963 rfl) (lv_sub hl [2, 3, 4, 1, 0] rfl) (by omega)
        exact L854 _ _ _ _ v52 v55 X45 (R_of r54 rfl) (R_of r57 rfl) (lv_sub hl [3, 4, 2, 1, 0] rfl) (Nat.lt_succ_self _)
      ·
        have r964 : R (1) (1) v47 := ⟨by omega, by omega⟩
        refine r_iconst S dX12_changed_45 (by decide) (fun v965 z966 => ?_)
        have r967 := R_eq z966
        exact r_ret S hr hlk X45 ⟨I7, F8⟩ rfl dX12_changed_46
    ·
      have r968 : R (0) (0) v27 := ⟨by omega, by omega⟩
      refine r_iconst S dX12_changed_22 (by decide) (fun v969 z970 => ?_)
      have r971 := R_eq z970
      exact r_ret S hr hlk X10 ⟨I7, F8⟩ rfl dX12_changed_23
def po_X12_fit (τ : Tau)  (a0 : Int32)   (r : Int32) (u : Tau) : Prop := Inv u ∧ Fr [(131, 0)] [] τ u
set_option maxHeartbeats 4000000 in
set_option maxRecDepth 100000 in
theorem c_X12_fit (l : Launch) (G : Gx) (τ : Tau) (hI : Inv τ) (a0 : Int32) (h_a0 : R (-2147483648) (2147483647) a0) : Ci l G yX12_fit cX12_fit 2 (some .int) 0 0 [.ref (G.2.2.2.1 131), .int a0] τ (po_X12_fit τ  a0  ) := by
  unfold Ci
  refine C_of (own := RX12) (by decide) rfl (Nat.le_of_ble_eq_true rfl) ?_
  intro p e s m below meth c ls S hr hlk X hl
  have hl : lv_has ls 2 [(0, .ref (G.2.2.2.1 131)), (1, .int a0)] := hl
  refine r_aload_n S dX12_fit_0 rfl (lv_at hl 0 rfl) ?_
  refine r_iconst S dX12_fit_1 (by decide) (fun v1 z2 => ?_)
  have r3 := R_eq z2
  refine r_put (K := 38) (ty := .int) S X (Nat.le_of_ble_eq_true rfl) rfl lk12_1_10 (fun _ => ⟨_, rfl, Nat.le_of_ble_eq_true rfl, rfl⟩) (fun _ _ _ h => by cases h; exact ⟨rfl, rfl⟩) rfl rfl dX12_fit_2 (fun t4 H lc M5 X6 => ?_)
  have I7 := Inv_mu hI M5 (R_any v1)
  have F8 : Fr [(131, 0)] [] τ t4 := Fr_mu Fr_rfl M5 (by decide)
  refine r_aload_n S dX12_fit_5 rfl (lv_at hl 0 rfl) ?_
  refine r_getn (K := 38) S X6 (Nat.le_of_ble_eq_true rfl) rfl lk12_353_10 (fun _ => ⟨_, rfl, rfl⟩) dX12_fit_6 (fun v9 z10 => ?_)
  have r11 : R (0) (1) v9 := rd I7 rfl z10
  refine r_if_ne (tgt := 17) S dX12_fit_9 (by decide) (fun c12 => ?_) (fun c12 => ?_)
  ·
    have r13 : R (1) (1) v9 := ⟨by omega, by omega⟩
    refine r_iload_n S dX12_fit_17 rfl (lv_at hl 1 rfl) ?_
    refine r_if_ne (tgt := 28) S dX12_fit_18 (by decide) (fun c14 => ?_) (fun c14 => ?_)
    ·
      refine r_iload_n S dX12_fit_28 rfl (lv_at hl 1 rfl) ?_
      refine r_iconst S dX12_fit_29 (by decide) (fun v15 z16 => ?_)
      have r17 := R_eq z16
      refine r_icmp_ne (tgt := 40) S dX12_fit_30 (by decide) (fun c18 => ?_) (fun c18 => ?_)
      ·
        refine r_bipush S dX12_fit_40 (by decide) (fun v19 z20 => ?_)
        have r21 := R_eq z20
        exact r_ret S hr hlk X6 ⟨I7, F8⟩ rfl dX12_fit_42
      ·
        have r22 : R (1) (1) a0 := ⟨by omega, by omega⟩
        refine r_aload_n S dX12_fit_33 rfl (lv_at hl 0 rfl) ?_
        refine r_getn (K := 38) S X6 (Nat.le_of_ble_eq_true rfl) rfl lk12_350_10 (fun _ => ⟨_, rfl, rfl⟩) dX12_fit_34 (fun v23 z24 => ?_)
        have r26 := R_any v23
        refine r_goto (tgt := 42) S dX12_fit_37 (by decide) ?_
        exact r_ret S hr hlk X6 ⟨I7, F8⟩ rfl dX12_fit_42
    ·
      have r27 : R (0) (0) a0 := ⟨by omega, by omega⟩
      refine r_aload_n S dX12_fit_21 rfl (lv_at hl 0 rfl) ?_
      refine r_getn (K := 38) S X6 (Nat.le_of_ble_eq_true rfl) rfl lk12_347_10 (fun _ => ⟨_, rfl, rfl⟩) dX12_fit_22 (fun v28 z29 => ?_)
      have r31 := R_any v28
      refine r_goto (tgt := 42) S dX12_fit_25 (by decide) ?_
      exact r_ret S hr hlk X6 ⟨I7, F8⟩ rfl dX12_fit_42
  ·
    have r32 : R (0) (0) v9 := ⟨by omega, by omega⟩
    refine r_bipush S dX12_fit_12 (by decide) (fun v33 z34 => ?_)
    have r35 := R_eq z34
    refine r_goto (tgt := 42) S dX12_fit_14 (by decide) ?_
    exact r_ret S hr hlk X6 ⟨I7, F8⟩ rfl dX12_fit_42
def po_X12_canPair (τ : Tau)  (a0 a1 : Int32)   (r : Int32) (u : Tau) : Prop := u = τ ∧ R (0) (1) r
set_option maxHeartbeats 4000000 in
set_option maxRecDepth 100000 in
theorem c_X12_canPair (l : Launch) (G : Gx) (τ : Tau) (hI : Inv τ) (a0 : Int32) (a1 : Int32) (h_a0 : R (0) (9) a0) (h_a1 : R (0) (9) a1) : Ci l G yX12_canPair cX12_canPair 3 (some .boolean) 4 93 [.ref (G.2.2.2.1 131), .int a0, .int a1] τ (po_X12_canPair τ  a0 a1  ) := by
  unfold Ci
  refine C_of (own := RX12) (by decide) rfl (Nat.le_of_ble_eq_true rfl) ?_
  intro p e s m below meth c ls S hr hlk X hl
  have hl : lv_has ls 3 [(0, .ref (G.2.2.2.1 131)), (1, .int a0), (2, .int a1)] := hl
  refine r_aload_n S dX12_canPair_0 rfl (lv_at hl 0 rfl) ?_
  refine r_get (K := 38) (v := .ref (G.2.2.2.1 133)) S X (Nat.le_of_ble_eq_true rfl) rfl lk12_33_10 (fun _ => ⟨_, rfl, rfl⟩) dX12_canPair_1 ?_
  refine r_iconst S dX12_canPair_4 (by decide) (fun v1 z2 => ?_)
  have r3 := R_eq z2
  refine r_aldn (n := 513) (K := 40) S X (Nat.le_of_ble_eq_true rfl) rfl (fun _ => rfl) (ix_of r3 rfl) dX12_canPair_5 (fun v4 z5 => ?_)
  have r6 : R (0) (9) v4 := rds (K := 40) (a := 0) (n := 1) hI rfl z5 (R_of r3 rfl) (by decide +kernel)
  refine r_if_le (tgt := 47) S dX12_canPair_6 (by decide) (fun c7 => ?_) (fun c7 => ?_)
  ·
    have r8 : R (0) (0) v4 := ⟨by omega, by omega⟩
    refine r_iconst S dX12_canPair_47 (by decide) (fun v9 z10 => ?_)
    have r11 := R_eq z10
    exact r_ret S hr hlk X ⟨rfl, (R_of r11 rfl)⟩ (nr_bool (R_of (lo := 0) (hi := 1) r11 rfl)) dX12_canPair_48
  ·
    have r12 : R (1) (9) v4 := ⟨by omega, by omega⟩
    refine r_aload_n S dX12_canPair_9 rfl (lv_at hl 0 rfl) ?_
    refine r_aload_n S dX12_canPair_10 rfl (lv_at hl 0 rfl) ?_
    refine r_iconst S dX12_canPair_11 (by decide) (fun v13 z14 => ?_)
    have r15 := R_eq z14
    refine r_iload_n S dX12_canPair_12 rfl (lv_at hl 1 rfl) ?_
    refine r_ishl S dX12_canPair_13 (fun v16 z17 => ?_)
    have r19 : R (1) (512) v16 := i_shl z17 r15 h_a0 rfl
    refine r_iconst S dX12_canPair_14 (by decide) (fun v20 z21 => ?_)
    have r22 := R_eq z21
    refine r_iload_n S dX12_canPair_15 rfl (lv_at hl 2 rfl) ?_
    refine r_ishl S dX12_canPair_16 (fun v23 z24 => ?_)
    have r26 : R (1) (512) v23 := i_shl z24 r22 h_a1 rfl
    refine r_ior S dX12_canPair_17 (fun v27 z28 => ?_)
    have r30 : R (0) (1023) v27 := i_or 10 z28 r19 r26 rfl
    refine r_aload_n S dX12_canPair_18 rfl (lv_at hl 0 rfl) ?_
    refine r_get (K := 38) (v := .ref (G.2.2.2.1 133)) S X (Nat.le_of_ble_eq_true rfl) rfl lk12_33_10 (fun _ => ⟨_, rfl, rfl⟩) dX12_canPair_19 ?_
    refine r_bipush S dX12_canPair_22 (by decide) (fun v31 z32 => ?_)
    have r33 := R_eq z32
    refine r_aldn (n := 513) (K := 40) S X (Nat.le_of_ble_eq_true rfl) rfl (fun _ => rfl) (ix_of r33 rfl) dX12_canPair_24 (fun v34 z35 => ?_)
    have r36 : R (0) (8) v34 := rds (K := 40) (a := 126) (n := 1) hI rfl z35 (R_of r33 rfl) (by decide +kernel)
    refine r_ki (q_V (As := [.int v27, .int v34]) (rest := [.ref (G.2.2.2.1 131)]) (K := 38) (ci := 10) S X (c_X12_sumOf l G τ hI v27 v34 (R_of (lo := -2147483648) (hi := 2147483647) r30 rfl) r36) ck12_287 (Nat.le_of_ble_eq_true rfl) rfl (fun _ => ⟨_, rfl⟩) ⟨_, _, rfl⟩ ⟨Nat.le_of_ble_eq_true rfl, Nat.le_of_ble_eq_true rfl⟩ rfl hl.1 rfl (Nat.le_of_ble_eq_true rfl) dX12_canPair_25 ⟨Nat.le_refl 0, Nat.le_refl 0⟩) X (fun v40 t39 H lc q37 X38 => ?_)
    unfold po_X12_sumOf at q37
    have q41 := q37
    rw [q41] at X38
    have r42 := R_any v40
    refine r_ki (q_V (As := [.int v40]) (rest := []) (K := 38) (ci := 10) S X38 (c_X12_balances l G τ hI v40 r42) ck12_290 (Nat.le_of_ble_eq_true rfl) rfl (fun _ => ⟨_, rfl⟩) ⟨_, _, rfl⟩ ⟨Nat.le_of_ble_eq_true rfl, Nat.le_of_ble_eq_true rfl⟩ rfl hl.1 rfl (Nat.le_of_ble_eq_true rfl) dX12_canPair_28 ⟨Nat.le_refl 0, Nat.le_refl 0⟩) X38 (fun v46 t45 H lc q43 X44 => ?_)
    unfold po_X12_balances at q43
    obtain ⟨q47, q48⟩ := q43
    rw [q47] at X44
    refine r_if_eq (tgt := 47) S dX12_canPair_31 (by decide) (fun c49 => ?_) (fun c49 => ?_)
    ·
      have r50 : R (0) (0) v46 := ⟨by omega, by omega⟩
      refine r_iconst S dX12_canPair_47 (by decide) (fun v51 z52 => ?_)
      have r53 := R_eq z52
      exact r_ret S hr hlk X44 ⟨rfl, (R_of r53 rfl)⟩ (nr_bool (R_of (lo := 0) (hi := 1) r53 rfl)) dX12_canPair_48
    ·
      have r54 : R (1) (1) v46 := ⟨by omega, by omega⟩
      refine r_aload_n S dX12_canPair_34 rfl (lv_at hl 0 rfl) ?_
      refine r_iload_n S dX12_canPair_35 rfl (lv_at hl 1 rfl) ?_
      refine r_iload_n S dX12_canPair_36 rfl (lv_at hl 2 rfl) ?_
      refine r_ki (q_V (As := [.int a0, .int a1]) (rest := []) (K := 38) (ci := 10) S X44 (c_X12_areFoes l G τ hI a0 a1 h_a0 h_a1) ck12_278 (Nat.le_of_ble_eq_true rfl) rfl (fun _ => ⟨_, rfl⟩) ⟨_, _, rfl⟩ ⟨Nat.le_of_ble_eq_true rfl, Nat.le_of_ble_eq_true rfl⟩ rfl hl.1 rfl (Nat.le_of_ble_eq_true rfl) dX12_canPair_37 ⟨Nat.le_refl 0, Nat.le_refl 0⟩) X44 (fun v58 t57 H lc q55 X56 => ?_)
      unfold po_X12_areFoes at q55
      obtain ⟨q59, q60⟩ := q55
      rw [q59] at X56
      refine r_if_ne (tgt := 47) S dX12_canPair_40 (by decide) (fun c61 => ?_) (fun c61 => ?_)
      ·
        have r62 : R (1) (1) v58 := ⟨by omega, by omega⟩
        refine r_iconst S dX12_canPair_47 (by decide) (fun v63 z64 => ?_)
        have r65 := R_eq z64
        exact r_ret S hr hlk X56 ⟨rfl, (R_of r65 rfl)⟩ (nr_bool (R_of (lo := 0) (hi := 1) r65 rfl)) dX12_canPair_48
      ·
        have r66 : R (0) (0) v58 := ⟨by omega, by omega⟩
        refine r_iconst S dX12_canPair_43 (by decide) (fun v67 z68 => ?_)
        have r69 := R_eq z68
        refine r_goto (tgt := 48) S dX12_canPair_44 (by decide) ?_
        exact r_ret S hr hlk X56 ⟨rfl, (R_of r69 rfl)⟩ (nr_bool (R_of (lo := 0) (hi := 1) r69 rfl)) dX12_canPair_48
def po_X12_couple (τ : Tau)  (a0 : Int32)   (r : Int32) (u : Tau) : Prop := Inv u ∧ Fr [(131, 0)] [] τ u
set_option maxHeartbeats 4000000 in
set_option maxRecDepth 100000 in
theorem c_X12_couple (l : Launch) (G : Gx) (τ : Tau) (hI : Inv τ) (a0 : Int32) (h_a0 : R (-2147483648) (2147483647) a0) : Ci l G yX12_couple cX12_couple 2 (some .int) 1 22 [.ref (G.2.2.2.1 131), .int a0] τ (po_X12_couple τ  a0  ) := by
  unfold Ci
  refine C_of (own := RX12) (by decide) rfl (Nat.le_of_ble_eq_true rfl) ?_
  intro p e s m below meth c ls S hr hlk X hl
  have hl : lv_has ls 2 [(0, .ref (G.2.2.2.1 131)), (1, .int a0)] := hl
  refine r_aload_n S dX12_couple_0 rfl (lv_at hl 0 rfl) ?_
  refine r_iconst S dX12_couple_1 (by decide) (fun v1 z2 => ?_)
  have r3 := R_eq z2
  refine r_put (K := 38) (ty := .int) S X (Nat.le_of_ble_eq_true rfl) rfl lk12_1_10 (fun _ => ⟨_, rfl, Nat.le_of_ble_eq_true rfl, rfl⟩) (fun _ _ _ h => by cases h; exact ⟨rfl, rfl⟩) rfl rfl dX12_couple_2 (fun t4 H lc M5 X6 => ?_)
  have I7 := Inv_mu hI M5 (R_any v1)
  have F8 : Fr [(131, 0)] [] τ t4 := Fr_mu Fr_rfl M5 (by decide)
  refine r_iload_n S dX12_couple_5 rfl (lv_at hl 1 rfl) ?_
  refine r_iconst S dX12_couple_6 (by decide) (fun v9 z10 => ?_)
  have r11 := R_eq z10
  refine r_aload_n S dX12_couple_7 rfl (lv_at hl 0 rfl) ?_
  refine r_getn (K := 38) S X6 (Nat.le_of_ble_eq_true rfl) rfl lk12_72_10 (fun _ => ⟨_, rfl, rfl⟩) dX12_couple_8 (fun v12 z13 => ?_)
  have r14 : R (-1) (10) v12 := rd I7 rfl z13
  refine r_iconst S dX12_couple_11 (by decide) (fun v15 z16 => ?_)
  have r17 := R_eq z16
  refine r_isub S dX12_couple_12 (fun v18 z19 => ?_)
  obtain ⟨e20, r21⟩ := i_sub (lo := -2) (hi := 9) z19 r14 r17 rfl
  refine r_ki (q_S (As := [.int a0, .int v9, .int v18]) (rest := []) S X6 (c_X12_isIn l G t4 I7 a0 v9 v18 h_a0 (R_of (lo := -2147483648) (hi := 2147483647) r11 rfl) (R_of (lo := -2147483648) (hi := 2147483647) r21 rfl)) ck12_189 ⟨Nat.le_of_ble_eq_true rfl, Nat.le_of_ble_eq_true rfl⟩ rfl hl.1 rfl (Nat.le_of_ble_eq_true rfl) dX12_couple_13 ⟨Nat.le_refl 0, Nat.le_refl 0⟩) X6 (fun v25 t24 H lc q22 X23 => ?_)
  unfold po_X12_isIn at q22
  obtain ⟨q26, q27, q28⟩ := q22
  rw [q26] at X23
  refine r_if_eq (tgt := 28) S dX12_couple_16 (by decide) (fun c29 => ?_) (fun c29 => ?_)
  ·
    have r30 : R (0) (0) v25 := ⟨by omega, by omega⟩
    refine r_iconst S dX12_couple_28 (by decide) (fun v31 z32 => ?_)
    have r33 := R_eq z32
    exact r_ret S hr hlk X23 ⟨I7, F8⟩ rfl dX12_couple_29
  ·
    have r34 : R (1) (1) v25 := ⟨by omega, by omega⟩
    obtain ⟨p35, p36⟩ := q28 (by omega)
    have r37 : R (0) (9) a0 := ⟨by omega, by omega⟩
    refine r_aload_n S dX12_couple_19 rfl (lv_at hl 0 rfl) ?_
    refine r_get (K := 38) (v := .ref (G.2.2.2.1 144)) S X23 (Nat.le_of_ble_eq_true rfl) rfl lk12_69_10 (fun _ => ⟨_, rfl, rfl⟩) dX12_couple_20 ?_
    refine r_iload_n S dX12_couple_23 rfl (lv_at hl 1 rfl) ?_
    refine r_aldn (n := 10) (K := 51) S X23 (Nat.le_of_ble_eq_true rfl) rfl (fun _ => rfl) (ix_of r37 rfl) dX12_couple_24 (fun v38 z39 => ?_)
    have r40 : R (-1) (9) v38 := rd I7 rfl z39
    refine r_goto (tgt := 29) S dX12_couple_25 (by decide) ?_
    exact r_ret S hr hlk X23 ⟨I7, F8⟩ rfl dX12_couple_29
def po_X12_wagesOf (τ : Tau)  (a0 : Int32)   (r : Int32) (u : Tau) : Prop := u = τ
set_option maxHeartbeats 4000000 in
set_option maxRecDepth 100000 in
theorem c_X12_wagesOf (l : Launch) (G : Gx) (τ : Tau) (hI : Inv τ) (a0 : Int32) (h_a0 : R (-2147483648) (2147483647) a0) : Ci l G yX12_wagesOf cX12_wagesOf 4 (some .int) 1 21 [.ref (G.2.2.2.1 131), .int a0] τ (po_X12_wagesOf τ  a0  ) := by
  unfold Ci
  refine C_of (own := RX12) (by decide) rfl (Nat.le_of_ble_eq_true rfl) ?_
  intro p e s m below meth c ls S hr hlk X hl
  have hl : lv_has ls 4 [(0, .ref (G.2.2.2.1 131)), (1, .int a0)] := hl
  refine r_iconst S dX12_wagesOf_0 (by decide) (fun v1 z2 => ?_)
  have r3 := R_eq z2
  refine r_istore_n (lv' := [(2, .int v1), (0, .ref (G.2.2.2.1 131)), (1, .int a0)]) S dX12_wagesOf_1 rfl hl (by decide) rfl (fun ls hl => ?_)
  refine r_iconst S dX12_wagesOf_2 (by decide) (fun v4 z5 => ?_)
  have r6 := R_eq z5
  refine r_istore_n (lv' := [(3, .int v4), (2, .int v1), (0, .ref (G.2.2.2.1 131)), (1, .int a0)]) S dX12_wagesOf_3 rfl hl (by decide) rfl (fun ls hl => ?_)
  have L1092 : ∀ (n : Nat) (H : Heap) (lc : List Loc) (ls : Array Slot) (i1087 : Int32) (i1089 : Int32), Xd G s H lc τ → R (-2147483648) (2147483647) i1087 → R (0) (10) i1089 → lv_has ls 4 [(0, .ref (G.2.2.2.1 131)), (1, .int a0), (2, .int i1087), (3, .int i1089)] → (10 - i1089.toInt).toNat < n → W p l e (Rm 1 21) s m ([.ref (G.2.2.2.1 131), .int a0] : List Value).toArray below meth c H lc 0 0 (MQ below (va_Qi (po_X12_wagesOf τ  a0  ) (Bs G) G.2.2.2.2) ([.ref (G.2.2.2.1 131), .int a0] : List Value).toArray s 0 0 G.2.2.2.2) (F0 m 4 ls []) := by
    intro n
    induction n with
    | zero => intros; omega
    | succ n ih1093 =>
      intro H lc ls i1087 i1089 X1091 r1088 r1090 hl hm
      refine r_iload_n S dX12_wagesOf_4 rfl (lv_at hl 3 rfl) ?_
      refine r_aload_n S dX12_wagesOf_5 rfl (lv_at hl 0 rfl) ?_
      refine r_get (K := 38) (v := .ref (G.2.2.2.1 133)) S X1091 (Nat.le_of_ble_eq_true rfl) rfl lk12_33_10 (fun _ => ⟨_, rfl, rfl⟩) dX12_wagesOf_6 ?_
      refine r_iconst S dX12_wagesOf_9 (by decide) (fun v1094 z1095 => ?_)
      have r1096 := R_eq z1095
      refine r_aldn (n := 513) (K := 40) S X1091 (Nat.le_of_ble_eq_true rfl) rfl (fun _ => rfl) (ix_of r1096 rfl) dX12_wagesOf_10 (fun v1097 z1098 => ?_)
      have r1099 : R (0) (10) v1097 := rds (K := 40) (a := 1) (n := 1) hI rfl z1098 (R_of r1096 rfl) (by decide +kernel)
      refine r_icmp_ge (tgt := 43) S dX12_wagesOf_11 (by decide) (fun c1100 => ?_) (fun c1100 => ?_)
      ·
        refine r_iload_n S dX12_wagesOf_43 rfl (lv_at hl 2 rfl) ?_
        exact r_ret S hr hlk X1091 rfl rfl dX12_wagesOf_44
      ·
        have r1101 : R (0) (9) i1089 := ⟨by omega, by omega⟩
        have r1102 : R (1) (10) v1097 := ⟨by omega, by omega⟩
        refine r_iload_n S dX12_wagesOf_14 rfl (lv_at hl 2 rfl) ?_
        refine r_iload_n S dX12_wagesOf_15 rfl (lv_at hl 1 rfl) ?_
        refine r_iload_n S dX12_wagesOf_16 rfl (lv_at hl 3 rfl) ?_
        refine r_ki (q_S (As := [.int a0, .int i1089]) (rest := [.int i1087]) S X1091 (c_X12_bitOf l G τ hI a0 i1089 h_a0 (R_of (lo := -2147483648) (hi := 2147483647) r1101 rfl)) ck12_221 ⟨Nat.le_of_ble_eq_true rfl, Nat.le_of_ble_eq_true rfl⟩ rfl hl.1 rfl (Nat.le_of_ble_eq_true rfl) dX12_wagesOf_17 ⟨Nat.le_refl 0, Nat.le_refl 0⟩) X1091 (fun v1106 t1105 H lc q1103 X1104 => ?_)
        unfold po_X12_bitOf at q1103
        obtain ⟨q1107, q1108⟩ := q1103
        rw [q1107] at X1104
        refine r_if_eq (tgt := 34) S dX12_wagesOf_20 (by decide) (fun c1109 => ?_) (fun c1109 => ?_)
        ·
          have r1110 : R (0) (0) v1106 := ⟨by omega, by omega⟩
          refine r_iconst S dX12_wagesOf_34 (by decide) (fun v1111 z1112 => ?_)
          have r1113 := R_eq z1112
          refine r_iadd S dX12_wagesOf_35 (fun v1114 z1115 => ?_)
          obtain ⟨e1116, r1117⟩ := i_add (lo := -2147483648) (hi := 2147483647) z1115 r1088 r1113 rfl
          refine r_istore_n (lv' := [(2, .int v1114), (0, .ref (G.2.2.2.1 131)), (1, .int a0), (3, .int i1089)]) S dX12_wagesOf_36 rfl hl (by decide) rfl (fun ls hl => ?_)
          refine r_iinc (k := 3) S dX12_wagesOf_37 hl rfl (by decide) (by decide) (fun v1118 d1119 ls z1120 z1121 hl => ?_)
          obtain ⟨e1122, r1123⟩ := i_add (lo := 1) (hi := 10) z1120 r1101 (R_eq z1121) rfl
          have hl : lv_has ls 4 [(3, .int v1118), (2, .int v1114), (0, .ref (G.2.2.2.1 131)), (1, .int a0)] := hl
          refine r_goto (tgt := 4) S dX12_wagesOf_40 (by decide) ?_
          exact ih1093 _ _ _ v1114 v1118 X1104 r1117 (R_of r1123 rfl) (lv_sub hl [2, 3, 1, 0] rfl) (by omega)
        ·
          have r1124 : R (1) (1) v1106 := ⟨by omega, by omega⟩
          refine r_aload_n S dX12_wagesOf_23 rfl (lv_at hl 0 rfl) ?_
          refine r_get (K := 38) (v := .ref (G.2.2.2.1 133)) S X1104 (Nat.le_of_ble_eq_true rfl) rfl lk12_33_10 (fun _ => ⟨_, rfl, rfl⟩) dX12_wagesOf_24 ?_
          refine r_iconst S dX12_wagesOf_27 (by decide) (fun v1125 z1126 => ?_)
          have r1127 := R_eq z1126
          refine r_iload_n S dX12_wagesOf_28 rfl (lv_at hl 3 rfl) ?_
          refine r_iadd S dX12_wagesOf_29 (fun v1128 z1129 => ?_)
          obtain ⟨e1130, r1131⟩ := i_add (lo := 5) (hi := 14) z1129 r1127 r1101 rfl
          refine r_aldn (n := 513) (K := 40) S X1104 (Nat.le_of_ble_eq_true rfl) rfl (fun _ => rfl) (ix_of r1131 rfl) dX12_wagesOf_30 (fun v1132 z1133 => ?_)
          have r1134 : R (0) (20) v1132 := rds (K := 40) (a := 5) (n := 10) hI rfl z1133 (R_of r1131 rfl) (by decide +kernel)
          have g1135 : Rg 40 v1128.toNatClampNeg v1132 := rd hI rfl z1133
          refine r_goto (tgt := 35) S dX12_wagesOf_31 (by decide) ?_
          refine r_iadd S dX12_wagesOf_35 (fun v1136 z1137 => ?_)
          have r1138 := R_any v1136
          refine r_istore_n (lv' := [(2, .int v1136), (0, .ref (G.2.2.2.1 131)), (1, .int a0), (3, .int i1089)]) S dX12_wagesOf_36 rfl hl (by decide) rfl (fun ls hl => ?_)
          refine r_iinc (k := 3) S dX12_wagesOf_37 hl rfl (by decide) (by decide) (fun v1139 d1140 ls z1141 z1142 hl => ?_)
          obtain ⟨e1143, r1144⟩ := i_add (lo := 1) (hi := 10) z1141 r1101 (R_eq z1142) rfl
          have hl : lv_has ls 4 [(3, .int v1139), (2, .int v1136), (0, .ref (G.2.2.2.1 131)), (1, .int a0)] := hl
          refine r_goto (tgt := 4) S dX12_wagesOf_40 (by decide) ?_
          exact ih1093 _ _ _ v1136 v1139 X1104 r1138 (R_of r1144 rfl) (lv_sub hl [2, 3, 1, 0] rfl) (by omega)
  exact L1092 _ _ _ _ v1 v4 X (R_of r3 rfl) (R_of r6 rfl) (lv_sub hl [2, 3, 1, 0] rfl) (Nat.lt_succ_self _)
def po_X12_doubters (τ : Tau)  (a0 : Int32)   (r : Int32) (u : Tau) : Prop := Inv u ∧ Fr [(131, 0)] [] τ u
set_option maxHeartbeats 4000000 in
set_option maxRecDepth 100000 in
theorem c_X12_doubters (l : Launch) (G : Gx) (τ : Tau) (hI : Inv τ) (a0 : Int32) (h_a0 : R (-2147483648) (2147483647) a0) : Ci l G yX12_doubters cX12_doubters 6 (some .int) 4 90 [.ref (G.2.2.2.1 131), .int a0] τ (po_X12_doubters τ  a0  ) := by
  unfold Ci
  refine C_of (own := RX12) (by decide) rfl (Nat.le_of_ble_eq_true rfl) ?_
  intro p e s m below meth c ls S hr hlk X hl
  have hl : lv_has ls 6 [(0, .ref (G.2.2.2.1 131)), (1, .int a0)] := hl
  refine r_aload_n S dX12_doubters_0 rfl (lv_at hl 0 rfl) ?_
  refine r_iconst S dX12_doubters_1 (by decide) (fun v1 z2 => ?_)
  have r3 := R_eq z2
  refine r_put (K := 38) (ty := .int) S X (Nat.le_of_ble_eq_true rfl) rfl lk12_1_10 (fun _ => ⟨_, rfl, Nat.le_of_ble_eq_true rfl, rfl⟩) (fun _ _ _ h => by cases h; exact ⟨rfl, rfl⟩) rfl rfl dX12_doubters_2 (fun t4 H lc M5 X6 => ?_)
  have I7 := Inv_mu hI M5 (R_any v1)
  have F8 : Fr [(131, 0)] [] τ t4 := Fr_mu Fr_rfl M5 (by decide)
  refine r_aload_n S dX12_doubters_5 rfl (lv_at hl 0 rfl) ?_
  refine r_iload_n S dX12_doubters_6 rfl (lv_at hl 1 rfl) ?_
  refine r_ki (q_V (As := [.int a0]) (rest := []) (K := 38) (ci := 10) S X6 (c_X12_isSet l G t4 I7 a0 h_a0) ck12_296 (Nat.le_of_ble_eq_true rfl) rfl (fun _ => ⟨_, rfl⟩) ⟨_, _, rfl⟩ ⟨Nat.le_of_ble_eq_true rfl, Nat.le_of_ble_eq_true rfl⟩ rfl hl.1 rfl (Nat.le_of_ble_eq_true rfl) dX12_doubters_7 ⟨Nat.le_refl 0, Nat.le_refl 0⟩) X6 (fun v12 t11 H lc q9 X10 => ?_)
  unfold po_X12_isSet at q9
  obtain ⟨q13, q14, q15⟩ := q9
  rw [q13] at X10
  refine r_if_eq (tgt := 22) S dX12_doubters_10 (by decide) (fun c16 => ?_) (fun c16 => ?_)
  ·
    have r17 : R (0) (0) v12 := ⟨by omega, by omega⟩
    refine r_iconst S dX12_doubters_22 (by decide) (fun v18 z19 => ?_)
    have r20 := R_eq z19
    exact r_ret S hr hlk X10 ⟨I7, F8⟩ rfl dX12_doubters_23
  ·
    have r21 : R (1) (1) v12 := ⟨by omega, by omega⟩
    have p22 := q15 (by omega)
    have r23 : R (0) (1023) a0 := ⟨by omega, by omega⟩
    refine r_aload_n S dX12_doubters_13 rfl (lv_at hl 0 rfl) ?_
    refine r_get (K := 38) (v := .ref (G.2.2.2.1 133)) S X10 (Nat.le_of_ble_eq_true rfl) rfl lk12_33_10 (fun _ => ⟨_, rfl, rfl⟩) dX12_doubters_14 ?_
    refine r_iconst S dX12_doubters_17 (by decide) (fun v24 z25 => ?_)
    have r26 := R_eq z25
    refine r_aldn (n := 513) (K := 40) S X10 (Nat.le_of_ble_eq_true rfl) rfl (fun _ => rfl) (ix_of r26 rfl) dX12_doubters_18 (fun v27 z28 => ?_)
    have r29 : R (0) (9) v27 := rds (K := 40) (a := 0) (n := 1) I7 rfl z28 (R_of r26 rfl) (by decide +kernel)
    refine r_if_ne (tgt := 24) S dX12_doubters_19 (by decide) (fun c30 => ?_) (fun c30 => ?_)
    ·
      have r31 : R (1) (9) v27 := ⟨by omega, by omega⟩
      refine r_iconst S dX12_doubters_24 (by decide) (fun v32 z33 => ?_)
      have r34 := R_eq z33
      refine r_istore_n (lv' := [(2, .int v32), (0, .ref (G.2.2.2.1 131)), (1, .int a0)]) S dX12_doubters_25 rfl hl (by decide) rfl (fun ls hl => ?_)
      refine r_iload_n S dX12_doubters_26 rfl (lv_at hl 2 rfl) ?_
      refine r_aload_n S dX12_doubters_27 rfl (lv_at hl 1 rfl) ?_
      refine r_get (K := 38) (v := .ref (G.2.2.2.1 133)) S X10 (Nat.le_of_ble_eq_true rfl) rfl lk12_33_10 (fun _ => ⟨_, rfl, rfl⟩) dX12_doubters_28 ?_
      refine r_sipush S dX12_doubters_31 (by decide) (fun v35 z36 => ?_)
      have r37 := R_eq z36
      refine r_aldn (n := 513) (K := 40) S X10 (Nat.le_of_ble_eq_true rfl) rfl (fun _ => rfl) (ix_of r37 rfl) dX12_doubters_34 (fun v38 z39 => ?_)
      have r40 : R (0) (1023) v38 := rds (K := 40) (a := 131) (n := 1) I7 rfl z39 (R_of r37 rfl) (by decide +kernel)
      refine r_iconst S dX12_doubters_35 (by decide) (fun v41 z42 => ?_)
      have r43 := R_eq z42
      refine r_ixor S dX12_doubters_36 (fun v44 z45 => ?_)
      have r46 := R_any v44
      refine r_iand S dX12_doubters_37 (fun v47 z48 => ?_)
      have r50 : R (0) (1023) v47 := i_and1 z48 r23 r46 rfl
      have e51 := i_andle z48 r23 rfl
      refine r_istore_n (lv' := [(3, .int v47), (2, .int v32), (0, .ref (G.2.2.2.1 131)), (1, .int a0)]) S dX12_doubters_38 rfl hl (by decide) rfl (fun ls hl => ?_)
      refine r_iconst S dX12_doubters_39 (by decide) (fun v52 z53 => ?_)
      have r54 := R_eq z53
      refine r_istore (lv' := [(4, .int v52), (3, .int v47), (2, .int v32), (0, .ref (G.2.2.2.1 131)), (1, .int a0)]) S dX12_doubters_40 hl (by decide) rfl (fun ls hl => ?_)
      have L4714 : ∀ (n : Nat) (H : Heap) (lc : List Loc) (ls : Array Slot) (i4709 : Int32) (i4711 : Int32), Xd G s H lc t4 → R (-1) (1023) i4709 → R (0) (1024) i4711 → lv_has ls 6 [(0, .ref (G.2.2.2.1 131)), (2, .int i4709), (3, .int v47), (4, .int i4711)] → (1024 - i4711.toInt).toNat < n → W p l e (Rm 4 90) s m ([.ref (G.2.2.2.1 131), .int a0] : List Value).toArray below meth c H lc 0 0 (MQ below (va_Qi (po_X12_doubters τ  a0  ) (Bs G) G.2.2.2.2) ([.ref (G.2.2.2.1 131), .int a0] : List Value).toArray s 0 0 G.2.2.2.2) (F0 m 42 ls []) := by
        intro n
        induction n with
        | zero => intros; omega
        | succ n ih4715 =>
          intro H lc ls i4709 i4711 X4713 r4710 r4712 hl hm
          refine r_iload S dX12_doubters_42 (lv_at hl 3 rfl) ?_
          refine r_iload_n S dX12_doubters_44 rfl (lv_at hl 2 rfl) ?_
          refine r_icmp_gt (tgt := 137) S dX12_doubters_45 (by decide) (fun c4716 => ?_) (fun c4716 => ?_)
          ·
            have r4717 : R (1) (1024) i4711 := ⟨by omega, by omega⟩
            refine r_iload_n S dX12_doubters_137 rfl (lv_at hl 1 rfl) ?_
            exact r_ret S hr hlk X4713 ⟨I7, F8⟩ rfl dX12_doubters_138
          ·
            have r4718 : R (0) (1023) i4711 := ⟨by omega, by omega⟩
            refine r_iload S dX12_doubters_48 (lv_at hl 3 rfl) ?_
            refine r_iload_n S dX12_doubters_50 rfl (lv_at hl 2 rfl) ?_
            refine r_iconst S dX12_doubters_51 (by decide) (fun v4719 z4720 => ?_)
            have r4721 := R_eq z4720
            refine r_ixor S dX12_doubters_52 (fun v4722 z4723 => ?_)
            have r4724 := R_any v4722
            refine r_iand S dX12_doubters_53 (fun v4725 z4726 => ?_)
            have r4728 : R (0) (1023) v4725 := i_and1 z4726 r4718 r4724 rfl
            have e4729 := i_andle z4726 r4718 rfl
            refine r_if_ne (tgt := 131) S dX12_doubters_54 (by decide) (fun c4730 => ?_) (fun c4730 => ?_)
            ·
              have r4731 : R (1) (1023) v4725 := ⟨by omega, by omega⟩
              refine r_iinc (k := 3) S dX12_doubters_131 hl rfl (by decide) (by decide) (fun v4732 d4733 ls z4734 z4735 hl => ?_)
              obtain ⟨e4736, r4737⟩ := i_add (lo := 1) (hi := 1024) z4734 r4718 (R_eq z4735) rfl
              have hl : lv_has ls 6 [(4, .int v4732), (0, .ref (G.2.2.2.1 131)), (2, .int i4709), (3, .int v47)] := hl
              refine r_goto (tgt := 42) S dX12_doubters_134 (by decide) ?_
              exact ih4715 _ _ _ i4709 v4732 X4713 r4710 (R_of r4737 rfl) (lv_sub hl [1, 2, 3, 0] rfl) (by omega)
            ·
              have r4738 : R (0) (0) v4725 := ⟨by omega, by omega⟩
              refine r_aload_n S dX12_doubters_57 rfl (lv_at hl 0 rfl) ?_
              refine r_aload_n S dX12_doubters_58 rfl (lv_at hl 0 rfl) ?_
              refine r_iload_n S dX12_doubters_59 rfl (lv_at hl 2 rfl) ?_
              refine r_iload S dX12_doubters_60 (lv_at hl 3 rfl) ?_
              refine r_iconst S dX12_doubters_62 (by decide) (fun v4739 z4740 => ?_)
              have r4741 := R_eq z4740
              refine r_ixor S dX12_doubters_63 (fun v4742 z4743 => ?_)
              have r4744 := R_any v4742
              refine r_iand S dX12_doubters_64 (fun v4745 z4746 => ?_)
              have r4748 : R (0) (1023) v4745 := i_and1 z4746 r50 r4744 rfl
              have e4749 := i_andle z4746 r50 rfl
              refine r_aload_n S dX12_doubters_65 rfl (lv_at hl 0 rfl) ?_
              refine r_get (K := 38) (v := .ref (G.2.2.2.1 133)) S X4713 (Nat.le_of_ble_eq_true rfl) rfl lk12_33_10 (fun _ => ⟨_, rfl, rfl⟩) dX12_doubters_66 ?_
              refine r_bipush S dX12_doubters_69 (by decide) (fun v4750 z4751 => ?_)
              have r4752 := R_eq z4751
              refine r_aldn (n := 513) (K := 40) S X4713 (Nat.le_of_ble_eq_true rfl) rfl (fun _ => rfl) (ix_of r4752 rfl) dX12_doubters_71 (fun v4753 z4754 => ?_)
              have r4755 : R (0) (8) v4753 := rds (K := 40) (a := 126) (n := 1) I7 rfl z4754 (R_of r4752 rfl) (by decide +kernel)
              refine r_ki (q_V (As := [.int v4745, .int v4753]) (rest := [.ref (G.2.2.2.1 131)]) (K := 38) (ci := 10) S X4713 (c_X12_sumOf l G t4 I7 v4745 v4753 (R_of (lo := -2147483648) (hi := 2147483647) r4748 rfl) r4755) ck12_287 (Nat.le_of_ble_eq_true rfl) rfl (fun _ => ⟨_, rfl⟩) ⟨_, _, rfl⟩ ⟨Nat.le_of_ble_eq_true rfl, Nat.le_of_ble_eq_true rfl⟩ rfl hl.1 rfl (Nat.le_of_ble_eq_true rfl) dX12_doubters_72 ⟨Nat.le_refl 0, Nat.le_refl 0⟩) X4713 (fun v4759 t4758 H lc q4756 X4757 => ?_)
              unfold po_X12_sumOf at q4756
              have q4760 := q4756
              rw [q4760] at X4757
              have r4761 := R_any v4759
              refine r_ki (q_V (As := [.int v4759]) (rest := []) (K := 38) (ci := 10) S X4757 (c_X12_balances l G t4 I7 v4759 r4761) ck12_290 (Nat.le_of_ble_eq_true rfl) rfl (fun _ => ⟨_, rfl⟩) ⟨_, _, rfl⟩ ⟨Nat.le_of_ble_eq_true rfl, Nat.le_of_ble_eq_true rfl⟩ rfl hl.1 rfl (Nat.le_of_ble_eq_true rfl) dX12_doubters_75 ⟨Nat.le_refl 0, Nat.le_refl 0⟩) X4757 (fun v4765 t4764 H lc q4762 X4763 => ?_)
              unfold po_X12_balances at q4762
              obtain ⟨q4766, q4767⟩ := q4762
              rw [q4766] at X4763
              refine r_if_ne (tgt := 84) S dX12_doubters_78 (by decide) (fun c4768 => ?_) (fun c4768 => ?_)
              ·
                have r4769 : R (1) (1) v4765 := ⟨by omega, by omega⟩
                refine r_iload_n S dX12_doubters_84 rfl (lv_at hl 1 rfl) ?_
                refine r_if_ge (tgt := 92) S dX12_doubters_85 (by decide) (fun c4770 => ?_) (fun c4770 => ?_)
                ·
                  have r4771 : R (0) (1023) i4709 := ⟨by omega, by omega⟩
                  refine r_aload_n S dX12_doubters_92 rfl (lv_at hl 0 rfl) ?_
                  refine r_iload_n S dX12_doubters_93 rfl (lv_at hl 1 rfl) ?_
                  refine r_ki (q_V (As := [.int i4709]) (rest := []) (K := 38) (ci := 10) S X4763 (c_X12_wagesOf l G t4 I7 i4709 (R_of (lo := -2147483648) (hi := 2147483647) r4771 rfl)) ck12_363 (Nat.le_of_ble_eq_true rfl) rfl (fun _ => ⟨_, rfl⟩) ⟨_, _, rfl⟩ ⟨Nat.le_of_ble_eq_true rfl, Nat.le_of_ble_eq_true rfl⟩ rfl hl.1 rfl (Nat.le_of_ble_eq_true rfl) dX12_doubters_94 ⟨Nat.le_refl 0, Nat.le_refl 0⟩) X4763 (fun v4775 t4774 H lc q4772 X4773 => ?_)
                  unfold po_X12_wagesOf at q4772
                  have q4776 := q4772
                  rw [q4776] at X4773
                  have r4777 := R_any v4775
                  refine r_aload_n S dX12_doubters_97 rfl (lv_at hl 0 rfl) ?_
                  refine r_iload S dX12_doubters_98 (lv_at hl 3 rfl) ?_
                  refine r_ki (q_V (As := [.int i4711]) (rest := [.int v4775]) (K := 38) (ci := 10) S X4773 (c_X12_wagesOf l G t4 I7 i4711 (R_of (lo := -2147483648) (hi := 2147483647) r4718 rfl)) ck12_363 (Nat.le_of_ble_eq_true rfl) rfl (fun _ => ⟨_, rfl⟩) ⟨_, _, rfl⟩ ⟨Nat.le_of_ble_eq_true rfl, Nat.le_of_ble_eq_true rfl⟩ rfl hl.1 rfl (Nat.le_of_ble_eq_true rfl) dX12_doubters_100 ⟨Nat.le_refl 0, Nat.le_refl 0⟩) X4773 (fun v4781 t4780 H lc q4778 X4779 => ?_)
                  unfold po_X12_wagesOf at q4778
                  have q4782 := q4778
                  rw [q4782] at X4779
                  have r4783 := R_any v4781
                  refine r_isub S dX12_doubters_103 (fun v4784 z4785 => ?_)
                  have r4786 := R_any v4784
                  refine r_istore (lv' := [(5, .int v4784), (0, .ref (G.2.2.2.1 131)), (2, .int i4709), (3, .int v47), (4, .int i4711)]) S dX12_doubters_104 hl (by decide) rfl (fun ls hl => ?_)
                  refine r_iload S dX12_doubters_106 (lv_at hl 0 rfl) ?_
                  refine r_if_gt (tgt := 128) S dX12_doubters_108 (by decide) (fun c4787 => ?_) (fun c4787 => ?_)
                  ·
                    have r4788 : R (1) (2147483647) v4784 := ⟨by omega, by omega⟩
                    refine r_iload S dX12_doubters_128 (lv_at hl 4 rfl) ?_
                    refine r_istore_n (lv' := [(2, .int i4711), (5, .int v4784), (0, .ref (G.2.2.2.1 131)), (3, .int v47), (4, .int i4711)]) S dX12_doubters_130 rfl hl (by decide) rfl (fun ls hl => ?_)
                    refine r_iinc (k := 4) S dX12_doubters_131 hl rfl (by decide) (by decide) (fun v4789 d4790 ls z4791 z4792 hl => ?_)
                    obtain ⟨e4793, r4794⟩ := i_add (lo := 1) (hi := 1024) z4791 r4718 (R_eq z4792) rfl
                    have hl : lv_has ls 6 [(4, .int v4789), (2, .int i4711), (5, .int v4784), (0, .ref (G.2.2.2.1 131)), (3, .int v47)] := hl
                    refine r_goto (tgt := 42) S dX12_doubters_134 (by decide) ?_
                    exact ih4715 _ _ _ i4711 v4789 X4779 (R_of r4718 rfl) (R_of r4794 rfl) (lv_sub hl [3, 1, 4, 0] rfl) (by omega)
                  ·
                    have r4795 : R (-2147483648) (0) v4784 := ⟨by omega, by omega⟩
                    refine r_iload S dX12_doubters_111 (lv_at hl 0 rfl) ?_
                    refine r_if_ne (tgt := 131) S dX12_doubters_113 (by decide) (fun c4796 => ?_) (fun c4796 => ?_)
                    ·
                      have r4797 : R (-2147483648) (-1) v4784 := ⟨by omega, by omega⟩
                      refine r_iinc (k := 4) S dX12_doubters_131 hl rfl (by decide) (by decide) (fun v4798 d4799 ls z4800 z4801 hl => ?_)
                      obtain ⟨e4802, r4803⟩ := i_add (lo := 1) (hi := 1024) z4800 r4718 (R_eq z4801) rfl
                      have hl : lv_has ls 6 [(4, .int v4798), (5, .int v4784), (0, .ref (G.2.2.2.1 131)), (2, .int i4709), (3, .int v47)] := hl
                      refine r_goto (tgt := 42) S dX12_doubters_134 (by decide) ?_
                      exact ih4715 _ _ _ i4709 v4798 X4779 (R_of r4771 rfl) (R_of r4803 rfl) (lv_sub hl [2, 3, 4, 0] rfl) (by omega)
                    ·
                      have r4804 : R (0) (0) v4784 := ⟨by omega, by omega⟩
                      refine r_iload S dX12_doubters_116 (lv_at hl 4 rfl) ?_
                      refine r_ki (q_S (As := [.int i4711]) (rest := []) S X4779 (c_X12_bits l G t4 I7 i4711 (R_of (lo := -2147483648) (hi := 2147483647) r4718 rfl)) ck12_284 ⟨Nat.le_of_ble_eq_true rfl, Nat.le_of_ble_eq_true rfl⟩ rfl hl.1 rfl (Nat.le_of_ble_eq_true rfl) dX12_doubters_118 ⟨Nat.le_refl 0, Nat.le_refl 0⟩) X4779 (fun v4808 t4807 H lc q4805 X4806 => ?_)
                      unfold po_X12_bits at q4805
                      have q4809 := q4805
                      rw [q4809] at X4806
                      have r4810 := R_any v4808
                      refine r_iload_n S dX12_doubters_121 rfl (lv_at hl 2 rfl) ?_
                      refine r_ki (q_S (As := [.int i4709]) (rest := [.int v4808]) S X4806 (c_X12_bits l G t4 I7 i4709 (R_of (lo := -2147483648) (hi := 2147483647) r4771 rfl)) ck12_284 ⟨Nat.le_of_ble_eq_true rfl, Nat.le_of_ble_eq_true rfl⟩ rfl hl.1 rfl (Nat.le_of_ble_eq_true rfl) dX12_doubters_122 ⟨Nat.le_refl 0, Nat.le_refl 0⟩) X4806 (fun v4814 t4813 H lc q4811 X4812 => ?_)
                      unfold po_X12_bits at q4811
                      have q4815 := q4811
                      rw [q4815] at X4812
                      have r4816 := R_any v4814
                      refine r_icmp_ge (tgt := 131) S dX12_doubters_125 (by decide) (fun c4817 => ?_) (fun c4817 => ?_)
                      ·
                        refine r_iinc (k := 4) S dX12_doubters_131 hl rfl (by decide) (by decide) (fun v4818 d4819 ls z4820 z4821 hl => ?_)
                        obtain ⟨e4822, r4823⟩ := i_add (lo := 1) (hi := 1024) z4820 r4718 (R_eq z4821) rfl
                        have hl : lv_has ls 6 [(4, .int v4818), (5, .int v4784), (0, .ref (G.2.2.2.1 131)), (2, .int i4709), (3, .int v47)] := hl
                        refine r_goto (tgt := 42) S dX12_doubters_134 (by decide) ?_
                        exact ih4715 _ _ _ i4709 v4818 X4812 (R_of r4771 rfl) (R_of r4823 rfl) (lv_sub hl [2, 3, 4, 0] rfl) (by omega)
                      ·
                        have r4824 : R (-2147483648) (2147483646) v4808 := ⟨by omega, by omega⟩
                        have r4825 : R (-2147483647) (2147483647) v4814 := ⟨by omega, by omega⟩
                        refine r_iload S dX12_doubters_128 (lv_at hl 4 rfl) ?_
                        refine r_istore_n (lv' := [(2, .int i4711), (5, .int v4784), (0, .ref (G.2.2.2.1 131)), (3, .int v47), (4, .int i4711)]) S dX12_doubters_130 rfl hl (by decide) rfl (fun ls hl => ?_)
                        refine r_iinc (k := 4) S dX12_doubters_131 hl rfl (by decide) (by decide) (fun v4826 d4827 ls z4828 z4829 hl => ?_)
                        obtain ⟨e4830, r4831⟩ := i_add (lo := 1) (hi := 1024) z4828 r4718 (R_eq z4829) rfl
                        have hl : lv_has ls 6 [(4, .int v4826), (2, .int i4711), (5, .int v4784), (0, .ref (G.2.2.2.1 131)), (3, .int v47)] := hl
                        refine r_goto (tgt := 42) S dX12_doubters_134 (by decide) ?_
                        exact ih4715 _ _ _ i4711 v4826 X4812 (R_of r4718 rfl) (R_of r4831 rfl) (lv_sub hl [3, 1, 4, 0] rfl) (by omega)
                ·
                  have r4832 : R (-1) (-1) i4709 := ⟨by omega, by omega⟩
                  refine r_iconst S dX12_doubters_88 (by decide) (fun v4833 z4834 => ?_)
                  have r4835 := R_eq z4834
                  refine r_goto (tgt := 104) S dX12_doubters_89 (by decide) ?_
                  refine r_istore (lv' := [(5, .int v4833), (0, .ref (G.2.2.2.1 131)), (2, .int i4709), (3, .int v47), (4, .int i4711)]) S dX12_doubters_104 hl (by decide) rfl (fun ls hl => ?_)
                  refine r_iload S dX12_doubters_106 (lv_at hl 0 rfl) ?_
                  refine r_if_gt (tgt := 128) S dX12_doubters_108 (by decide) (fun c4836 => ?_) (fun c4836 => ?_)
                  ·
                    refine r_iload S dX12_doubters_128 (lv_at hl 4 rfl) ?_
                    refine r_istore_n (lv' := [(2, .int i4711), (5, .int v4833), (0, .ref (G.2.2.2.1 131)), (3, .int v47), (4, .int i4711)]) S dX12_doubters_130 rfl hl (by decide) rfl (fun ls hl => ?_)
                    refine r_iinc (k := 4) S dX12_doubters_131 hl rfl (by decide) (by decide) (fun v4837 d4838 ls z4839 z4840 hl => ?_)
                    obtain ⟨e4841, r4842⟩ := i_add (lo := 1) (hi := 1024) z4839 r4718 (R_eq z4840) rfl
                    have hl : lv_has ls 6 [(4, .int v4837), (2, .int i4711), (5, .int v4833), (0, .ref (G.2.2.2.1 131)), (3, .int v47)] := hl
                    refine r_goto (tgt := 42) S dX12_doubters_134 (by decide) ?_
                    exact ih4715 _ _ _ i4711 v4837 X4763 (R_of r4718 rfl) (R_of r4842 rfl) (lv_sub hl [3, 1, 4, 0] rfl) (by omega)
                  ·
                    exfalso; omega
              ·
                have r4843 : R (0) (0) v4765 := ⟨by omega, by omega⟩
                refine r_goto (tgt := 131) S dX12_doubters_81 (by decide) ?_
                refine r_iinc (k := 3) S dX12_doubters_131 hl rfl (by decide) (by decide) (fun v4844 d4845 ls z4846 z4847 hl => ?_)
                obtain ⟨e4848, r4849⟩ := i_add (lo := 1) (hi := 1024) z4846 r4718 (R_eq z4847) rfl
                have hl : lv_has ls 6 [(4, .int v4844), (0, .ref (G.2.2.2.1 131)), (2, .int i4709), (3, .int v47)] := hl
                refine r_goto (tgt := 42) S dX12_doubters_134 (by decide) ?_
                exact ih4715 _ _ _ i4709 v4844 X4763 r4710 (R_of r4849 rfl) (lv_sub hl [1, 2, 3, 0] rfl) (by omega)
      exact L4714 _ _ _ _ v32 v52 X10 (R_of r34 rfl) (R_of r54 rfl) (lv_sub hl [3, 2, 1, 0] rfl) (Nat.lt_succ_self _)
    ·
      have r4850 : R (0) (0) v27 := ⟨by omega, by omega⟩
      refine r_iconst S dX12_doubters_22 (by decide) (fun v4851 z4852 => ?_)
      have r4853 := R_eq z4852
      exact r_ret S hr hlk X10 ⟨I7, F8⟩ rfl dX12_doubters_23
def po_X12_foes (τ : Tau)  (a0 : Int32)   (r : Int32) (u : Tau) : Prop := Inv u ∧ Fr [(131, 0)] [] τ u
set_option maxHeartbeats 4000000 in
set_option maxRecDepth 100000 in
theorem c_X12_foes (l : Launch) (G : Gx) (τ : Tau) (hI : Inv τ) (a0 : Int32) (h_a0 : R (-2147483648) (2147483647) a0) : Ci l G yX12_foes cX12_foes 5 (some .int) 4 93 [.ref (G.2.2.2.1 131), .int a0] τ (po_X12_foes τ  a0  ) := by
  unfold Ci
  refine C_of (own := RX12) (by decide) rfl (Nat.le_of_ble_eq_true rfl) ?_
  intro p e s m below meth c ls S hr hlk X hl
  have hl : lv_has ls 5 [(0, .ref (G.2.2.2.1 131)), (1, .int a0)] := hl
  refine r_aload_n S dX12_foes_0 rfl (lv_at hl 0 rfl) ?_
  refine r_iconst S dX12_foes_1 (by decide) (fun v1 z2 => ?_)
  have r3 := R_eq z2
  refine r_put (K := 38) (ty := .int) S X (Nat.le_of_ble_eq_true rfl) rfl lk12_1_10 (fun _ => ⟨_, rfl, Nat.le_of_ble_eq_true rfl, rfl⟩) (fun _ _ _ h => by cases h; exact ⟨rfl, rfl⟩) rfl rfl dX12_foes_2 (fun t4 H lc M5 X6 => ?_)
  have I7 := Inv_mu hI M5 (R_any v1)
  have F8 : Fr [(131, 0)] [] τ t4 := Fr_mu Fr_rfl M5 (by decide)
  refine r_iload_n S dX12_foes_5 rfl (lv_at hl 1 rfl) ?_
  refine r_iconst S dX12_foes_6 (by decide) (fun v9 z10 => ?_)
  have r11 := R_eq z10
  refine r_icmp_ge (tgt := 12) S dX12_foes_7 (by decide) (fun c12 => ?_) (fun c12 => ?_)
  ·
    have r13 : R (-1) (2147483647) a0 := ⟨by omega, by omega⟩
    refine r_iconst S dX12_foes_12 (by decide) (fun v14 z15 => ?_)
    have r16 := R_eq z15
    refine r_istore_n (lv' := [(2, .int v14), (0, .ref (G.2.2.2.1 131)), (1, .int a0)]) S dX12_foes_13 rfl hl (by decide) rfl (fun ls hl => ?_)
    refine r_iconst S dX12_foes_14 (by decide) (fun v17 z18 => ?_)
    have r19 := R_eq z18
    refine r_istore_n (lv' := [(3, .int v17), (2, .int v14), (0, .ref (G.2.2.2.1 131)), (1, .int a0)]) S dX12_foes_15 rfl hl (by decide) rfl (fun ls hl => ?_)
    have L2948 : ∀ (n : Nat) (H : Heap) (lc : List Loc) (ls : Array Slot) (i2943 : Int32) (i2945 : Int32), Xd G s H lc t4 → R (-2147483648) (2147483647) i2943 → R (0) (10) i2945 → lv_has ls 5 [(0, .ref (G.2.2.2.1 131)), (1, .int a0), (2, .int i2943), (3, .int i2945)] → (10 - i2945.toInt).toNat < n → W p l e (Rm 4 93) s m ([.ref (G.2.2.2.1 131), .int a0] : List Value).toArray below meth c H lc 0 0 (MQ below (va_Qi (po_X12_foes τ  a0  ) (Bs G) G.2.2.2.2) ([.ref (G.2.2.2.1 131), .int a0] : List Value).toArray s 0 0 G.2.2.2.2) (F0 m 16 ls []) := by
      intro n
      induction n with
      | zero => intros; omega
      | succ n ih2949 =>
        intro H lc ls i2943 i2945 X2947 r2944 r2946 hl hm
        refine r_iload_n S dX12_foes_16 rfl (lv_at hl 3 rfl) ?_
        refine r_aload_n S dX12_foes_17 rfl (lv_at hl 0 rfl) ?_
        refine r_get (K := 38) (v := .ref (G.2.2.2.1 133)) S X2947 (Nat.le_of_ble_eq_true rfl) rfl lk12_33_10 (fun _ => ⟨_, rfl, rfl⟩) dX12_foes_18 ?_
        refine r_iconst S dX12_foes_21 (by decide) (fun v2950 z2951 => ?_)
        have r2952 := R_eq z2951
        refine r_aldn (n := 513) (K := 40) S X2947 (Nat.le_of_ble_eq_true rfl) rfl (fun _ => rfl) (ix_of r2952 rfl) dX12_foes_22 (fun v2953 z2954 => ?_)
        have r2955 : R (0) (10) v2953 := rds (K := 40) (a := 1) (n := 1) I7 rfl z2954 (R_of r2952 rfl) (by decide +kernel)
        refine r_icmp_ge (tgt := 83) S dX12_foes_23 (by decide) (fun c2956 => ?_) (fun c2956 => ?_)
        ·
          refine r_iload_n S dX12_foes_83 rfl (lv_at hl 1 rfl) ?_
          refine r_iconst S dX12_foes_84 (by decide) (fun v2957 z2958 => ?_)
          have r2959 := R_eq z2958
          refine r_icmp_ne (tgt := 92) S dX12_foes_85 (by decide) (fun c2960 => ?_) (fun c2960 => ?_)
          ·
            have r2961 : R (0) (2147483647) a0 := ⟨by omega, by omega⟩
            refine r_iconst S dX12_foes_92 (by decide) (fun v2962 z2963 => ?_)
            have r2964 := R_eq z2963
            exact r_ret S hr hlk X2947 ⟨I7, F8⟩ rfl dX12_foes_93
          ·
            have r2965 : R (-1) (-1) a0 := ⟨by omega, by omega⟩
            refine r_iload_n S dX12_foes_88 rfl (lv_at hl 2 rfl) ?_
            refine r_goto (tgt := 93) S dX12_foes_89 (by decide) ?_
            exact r_ret S hr hlk X2947 ⟨I7, F8⟩ rfl dX12_foes_93
        ·
          have r2966 : R (0) (9) i2945 := ⟨by omega, by omega⟩
          have r2967 : R (1) (10) v2953 := ⟨by omega, by omega⟩
          refine r_iload_n S dX12_foes_26 rfl (lv_at hl 3 rfl) ?_
          refine r_iconst S dX12_foes_27 (by decide) (fun v2968 z2969 => ?_)
          have r2970 := R_eq z2969
          refine r_iadd S dX12_foes_28 (fun v2971 z2972 => ?_)
          obtain ⟨e2973, r2974⟩ := i_add (lo := 1) (hi := 10) z2972 r2966 r2970 rfl
          refine r_istore (lv' := [(4, .int v2971), (0, .ref (G.2.2.2.1 131)), (1, .int a0), (2, .int i2943), (3, .int i2945)]) S dX12_foes_29 hl (by decide) rfl (fun ls hl => ?_)
          have L3020 : ∀ (n : Nat) (H : Heap) (lc : List Loc) (ls : Array Slot) (i3015 : Int32) (i3017 : Int32), Xd G s H lc t4 → R (-2147483648) (2147483647) i3015 → R (1) (10) i3017 → lv_has ls 5 [(0, .ref (G.2.2.2.1 131)), (1, .int a0), (2, .int i3015), (3, .int i2945), (4, .int i3017)] → (10 - i3017.toInt).toNat < n → W p l e (Rm 4 93) s m ([.ref (G.2.2.2.1 131), .int a0] : List Value).toArray below meth c H lc 0 0 (MQ below (va_Qi (po_X12_foes τ  a0  ) (Bs G) G.2.2.2.2) ([.ref (G.2.2.2.1 131), .int a0] : List Value).toArray s 0 0 G.2.2.2.2) (F0 m 31 ls []) := by
            intro n
            induction n with
            | zero => intros; omega
            | succ n ih3021 =>
              intro H lc ls i3015 i3017 X3019 r3016 r3018 hl hm
              refine r_iload S dX12_foes_31 (lv_at hl 4 rfl) ?_
              refine r_aload_n S dX12_foes_33 rfl (lv_at hl 0 rfl) ?_
              refine r_get (K := 38) (v := .ref (G.2.2.2.1 133)) S X3019 (Nat.le_of_ble_eq_true rfl) rfl lk12_33_10 (fun _ => ⟨_, rfl, rfl⟩) dX12_foes_34 ?_
              refine r_iconst S dX12_foes_37 (by decide) (fun v3022 z3023 => ?_)
              have r3024 := R_eq z3023
              refine r_aldi (x := v2953) (n := 513) (K := 40) S X3019 (Nat.le_of_ble_eq_true rfl) rfl (fun _ => rfl) (ix_of r3024 rfl) (zc' (n := 1) (by omega) (zc (n := 1) (by omega) z2954)) dX12_foes_38 ?_
              refine r_icmp_ge (tgt := 77) S dX12_foes_39 (by decide) (fun c3026 => ?_) (fun c3026 => ?_)
              ·
                refine r_iinc (k := 3) S dX12_foes_77 hl rfl (by decide) (by decide) (fun v3027 d3028 ls z3029 z3030 hl => ?_)
                obtain ⟨e3031, r3032⟩ := i_add (lo := 1) (hi := 10) z3029 r2966 (R_eq z3030) rfl
                have hl : lv_has ls 5 [(3, .int v3027), (0, .ref (G.2.2.2.1 131)), (1, .int a0), (2, .int i3015), (4, .int i3017)] := hl
                refine r_goto (tgt := 16) S dX12_foes_80 (by decide) ?_
                exact ih2949 _ _ _ i3015 v3027 X3019 r3016 (R_of r3032 rfl) (lv_sub hl [1, 2, 3, 0] rfl) (by omega)
              ·
                have r3033 : R (1) (9) i3017 := ⟨by omega, by omega⟩
                have r3034 : R (2) (10) v2953 := ⟨by omega, by omega⟩
                refine r_aload_n S dX12_foes_42 rfl (lv_at hl 0 rfl) ?_
                refine r_iload_n S dX12_foes_43 rfl (lv_at hl 3 rfl) ?_
                refine r_iload S dX12_foes_44 (lv_at hl 4 rfl) ?_
                refine r_ki (q_V (As := [.int i2945, .int i3017]) (rest := []) (K := 38) (ci := 10) S X3019 (c_X12_areFoes l G t4 I7 i2945 i3017 r2966 (R_of (lo := 0) (hi := 9) r3033 rfl)) ck12_278 (Nat.le_of_ble_eq_true rfl) rfl (fun _ => ⟨_, rfl⟩) ⟨_, _, rfl⟩ ⟨Nat.le_of_ble_eq_true rfl, Nat.le_of_ble_eq_true rfl⟩ rfl hl.1 rfl (Nat.le_of_ble_eq_true rfl) dX12_foes_46 ⟨Nat.le_refl 0, Nat.le_refl 0⟩) X3019 (fun v3038 t3037 H lc q3035 X3036 => ?_)
                unfold po_X12_areFoes at q3035
                obtain ⟨q3039, q3040⟩ := q3035
                rw [q3039] at X3036
                refine r_if_ne (tgt := 55) S dX12_foes_49 (by decide) (fun c3041 => ?_) (fun c3041 => ?_)
                ·
                  have r3042 : R (1) (1) v3038 := ⟨by omega, by omega⟩
                  refine r_iload_n S dX12_foes_55 rfl (lv_at hl 2 rfl) ?_
                  refine r_iload_n S dX12_foes_56 rfl (lv_at hl 1 rfl) ?_
                  refine r_icmp_ne (tgt := 68) S dX12_foes_57 (by decide) (fun c3043 => ?_) (fun c3043 => ?_)
                  ·
                    refine r_iinc (k := 2) S dX12_foes_68 hl rfl (by decide) (by decide) (fun v3044 d3045 ls z3046 z3047 hl => ?_)
                    have r3048 := R_any v3044
                    have hl : lv_has ls 5 [(2, .int v3044), (0, .ref (G.2.2.2.1 131)), (1, .int a0), (3, .int i2945), (4, .int i3017)] := hl
                    refine r_iinc (k := 4) S dX12_foes_71 hl rfl (by decide) (by decide) (fun v3049 d3050 ls z3051 z3052 hl => ?_)
                    obtain ⟨e3053, r3054⟩ := i_add (lo := 2) (hi := 10) z3051 r3033 (R_eq z3052) rfl
                    have hl : lv_has ls 5 [(4, .int v3049), (2, .int v3044), (0, .ref (G.2.2.2.1 131)), (1, .int a0), (3, .int i2945)] := hl
                    refine r_goto (tgt := 31) S dX12_foes_74 (by decide) ?_
                    exact ih3021 _ _ _ v3044 v3049 X3036 r3048 (R_of r3054 rfl) (lv_sub hl [2, 3, 1, 4, 0] rfl) (by omega)
                  ·
                    have r3055 : R (-1) (2147483647) i3015 := ⟨by omega, by omega⟩
                    refine r_bipush S dX12_foes_60 (by decide) (fun v3056 z3057 => ?_)
                    have r3058 := R_eq z3057
                    refine r_iload_n S dX12_foes_62 rfl (lv_at hl 3 rfl) ?_
                    refine r_imul S dX12_foes_63 (fun v3059 z3060 => ?_)
                    obtain ⟨e3061, r3062⟩ := i_mul (lo := 0) (hi := 90) z3060 r3058 r2966 rfl rfl
                    have e3063 : v3059.toInt = 10 * i2945.toInt := by rw [e3061, show v3056.toInt = 10 by omega]
                    refine r_iload S dX12_foes_64 (lv_at hl 4 rfl) ?_
                    refine r_iadd S dX12_foes_66 (fun v3064 z3065 => ?_)
                    obtain ⟨e3066, r3067⟩ := i_add (lo := 1) (hi := 99) z3065 r3062 r3033 rfl
                    exact r_ret S hr hlk X3036 ⟨I7, F8⟩ rfl dX12_foes_67
                ·
                  have r3068 : R (0) (0) v3038 := ⟨by omega, by omega⟩
                  refine r_goto (tgt := 71) S dX12_foes_52 (by decide) ?_
                  refine r_iinc (k := 4) S dX12_foes_71 hl rfl (by decide) (by decide) (fun v3069 d3070 ls z3071 z3072 hl => ?_)
                  obtain ⟨e3073, r3074⟩ := i_add (lo := 2) (hi := 10) z3071 r3033 (R_eq z3072) rfl
                  have hl : lv_has ls 5 [(4, .int v3069), (0, .ref (G.2.2.2.1 131)), (1, .int a0), (2, .int i3015), (3, .int i2945)] := hl
                  refine r_goto (tgt := 31) S dX12_foes_74 (by decide) ?_
                  exact ih3021 _ _ _ i3015 v3069 X3036 r3016 (R_of r3074 rfl) (lv_sub hl [1, 2, 3, 4, 0] rfl) (by omega)
          exact L3020 _ _ _ _ i2943 v2971 X2947 r2944 r2974 (lv_sub hl [1, 2, 3, 4, 0] rfl) (Nat.lt_succ_self _)
    exact L2948 _ _ _ _ v14 v17 X6 (R_of r16 rfl) (R_of r19 rfl) (lv_sub hl [2, 3, 1, 0] rfl) (Nat.lt_succ_self _)
  ·
    have r3075 : R (-2147483648) (-2) a0 := ⟨by omega, by omega⟩
    refine r_iconst S dX12_foes_10 (by decide) (fun v3076 z3077 => ?_)
    have r3078 := R_eq z3077
    exact r_ret S hr hlk X6 ⟨I7, F8⟩ rfl dX12_foes_11
def po_X12_draw (τ : Tau)  (a0 : Int32)   (r : Int32) (u : Tau) : Prop := Inv u ∧ Fr [(131, 36)] [] τ u ∧ R (0) (9) r
set_option maxHeartbeats 4000000 in
set_option maxRecDepth 100000 in
theorem c_X12_draw (l : Launch) (G : Gx) (τ : Tau) (hI : Inv τ) (a0 : Int32) (h_a0 : R (1) (10) a0) : Ci l G yX12_draw cX12_draw 2 (some .int) 0 0 [.ref (G.2.2.2.1 131), .int a0] τ (po_X12_draw τ  a0  ) := by
  unfold Ci
  refine C_of (own := RX12) (by decide) rfl (Nat.le_of_ble_eq_true rfl) ?_
  intro p e s m below meth c ls S hr hlk X hl
  have hl : lv_has ls 2 [(0, .ref (G.2.2.2.1 131)), (1, .int a0)] := hl
  refine r_aload_n S dX12_draw_0 rfl (lv_at hl 0 rfl) ?_
  refine r_aload_n S dX12_draw_1 rfl (lv_at hl 0 rfl) ?_
  refine r_getn (K := 38) S X (Nat.le_of_ble_eq_true rfl) rfl lk12_369_10 (fun _ => ⟨_, rfl, rfl⟩) dX12_draw_2 (fun v1 z2 => ?_)
  have r4 := R_any v1
  refine lv_ldcw S.1.1 S.1.2.1 S.1.2.2.2.1 (S.1.2.2.2.2 _ kw26) dX12_draw_5 ?_
  refine lv_topi (fun v5 z6 => ?_)
  have r7 : R (1103515245) (1103515245) v5 := by rw [z6]; decide
  have e8 : v5.toInt = 1103515245 := by omega
  refine r_imul S dX12_draw_8 (fun v9 z10 => ?_)
  have r11 := R_any v9
  refine r_sipush S dX12_draw_9 (by decide) (fun v12 z13 => ?_)
  have r14 := R_eq z13
  refine r_iadd S dX12_draw_12 (fun v15 z16 => ?_)
  have r17 := R_any v15
  refine r_put (K := 38) (ty := .int) S X (Nat.le_of_ble_eq_true rfl) rfl lk12_369_10 (fun _ => ⟨_, rfl, Nat.le_of_ble_eq_true rfl, rfl⟩) (fun _ _ _ h => by cases h; exact ⟨rfl, rfl⟩) rfl rfl dX12_draw_13 (fun t18 H lc M19 X20 => ?_)
  have I21 := Inv_mu hI M19 (R_any v15)
  have F22 : Fr [(131, 36)] [] τ t18 := Fr_mu Fr_rfl M19 (by decide)
  refine r_aload_n S dX12_draw_16 rfl (lv_at hl 0 rfl) ?_
  refine r_geti (K := 38) S X20 (Nat.le_of_ble_eq_true rfl) rfl lk12_369_10 (fun _ => ⟨_, rfl, rfl⟩) M19.1 dX12_draw_17 ?_
  refine r_bipush S dX12_draw_20 (by decide) (fun v23 z24 => ?_)
  have r25 := R_eq z24
  refine r_iushr S dX12_draw_22 (fun v26 z27 => ?_)
  have r29 : R (0) (16777215) v26 := i_ushrc z27 r17 r25 rfl
  refine r_iload_n S dX12_draw_23 rfl (lv_at hl 1 rfl) ?_
  refine r_irem S dX12_draw_24 (by omega) (fun v30 z31 => ?_)
  have r33 : R (0) (9) v30 := i_rem0 z31 r29 h_a0 rfl
  have e34 := i_remlt z31 r29 h_a0 rfl
  exact r_ret S hr hlk X20 ⟨I21, F22, r33⟩ rfl dX12_draw_25
def po_X12_draws (τ : Tau)  (a0 a1 : Int32)   (r : Int32) (u : Tau) : Prop := Inv u ∧ Fr [(131, 36), (133, 125), (133, 128), (133, 129), (133, 131), (133, 132), (133, 133), (133, 134), (133, 135), (133, 136), (133, 137), (133, 138), (133, 139), (133, 140), (133, 141), (133, 232), (133, 233), (133, 234), (133, 235), (133, 236), (133, 237), (133, 238), (133, 239), (133, 240), (133, 241), (133, 127)] [] τ u
set_option maxHeartbeats 4000000 in
set_option maxRecDepth 100000 in
theorem c_X12_draws (l : Launch) (G : Gx) (τ : Tau) (hI : Inv τ) (a0 : Int32) (a1 : Int32) (h_a0 : R (1) (40) a0) (h_a1 : R (-2147483648) (2147483647) a1) (hf_0 : R (1) (10) (τ 133 1)) : Ci l G yX12_draws cX12_draws 8 (some .int) 6 137 [.ref (G.2.2.2.1 131), .int a0, .int a1] τ (po_X12_draws τ  a0 a1  ) := by
  unfold Ci
  refine C_of (own := RX12) (by decide) rfl (Nat.le_of_ble_eq_true rfl) ?_
  intro p e s m below meth c ls S hr hlk X hl
  have hl : lv_has ls 8 [(0, .ref (G.2.2.2.1 131)), (1, .int a0), (2, .int a1)] := hl
  obtain ⟨v1, z2⟩ : ∃ x, τ 133 1 = x := ⟨_, rfl⟩
  rw [z2] at hf_0
  refine r_aload_n S dX12_draws_0 rfl (lv_at hl 0 rfl) ?_
  refine r_iload_n S dX12_draws_1 rfl (lv_at hl 2 rfl) ?_
  refine r_put (K := 38) (ty := .int) S X (Nat.le_of_ble_eq_true rfl) rfl lk12_369_10 (fun _ => ⟨_, rfl, Nat.le_of_ble_eq_true rfl, rfl⟩) (fun _ _ _ h => by cases h; exact ⟨rfl, rfl⟩) rfl rfl dX12_draws_2 (fun t3 H lc M4 X5 => ?_)
  have I6 := Inv_mu hI M4 (R_any a1)
  have F7 : Fr [(131, 36), (133, 125), (133, 128), (133, 129), (133, 131), (133, 132), (133, 133), (133, 134), (133, 135), (133, 136), (133, 137), (133, 138), (133, 139), (133, 140), (133, 141), (133, 232), (133, 233), (133, 234), (133, 235), (133, 236), (133, 237), (133, 238), (133, 239), (133, 240), (133, 241), (133, 127)] [] τ t3 := Fr_mu Fr_rfl M4 (by decide)
  refine r_iconst S dX12_draws_5 (by decide) (fun v8 z9 => ?_)
  have r10 := R_eq z9
  refine r_istore_n (lv' := [(3, .int v8), (0, .ref (G.2.2.2.1 131)), (1, .int a0), (2, .int a1)]) S dX12_draws_6 rfl hl (by decide) rfl (fun ls hl => ?_)
  refine r_iconst S dX12_draws_7 (by decide) (fun v11 z12 => ?_)
  have r13 := R_eq z12
  refine r_istore (lv' := [(4, .int v11), (3, .int v8), (0, .ref (G.2.2.2.1 131)), (1, .int a0), (2, .int a1)]) S dX12_draws_8 hl (by decide) rfl (fun ls hl => ?_)
  have L29944 : ∀ (n : Nat) (t29939 : Tau) (H : Heap) (lc : List Loc) (ls : Array Slot) (i29935 : Int32) (i29937 : Int32), Xd G s H lc t29939 → Inv t29939 → Fr [(131, 36), (133, 125), (133, 128), (133, 129), (133, 131), (133, 132), (133, 133), (133, 134), (133, 135), (133, 136), (133, 137), (133, 138), (133, 139), (133, 140), (133, 141), (133, 232), (133, 233), (133, 234), (133, 235), (133, 236), (133, 237), (133, 238), (133, 239), (133, 240), (133, 241), (133, 127)] [] τ t29939 → R (-2147483648) (2147483647) i29935 → R (0) (40) i29937 → t29939 133 1 = v1 → lv_has ls 8 [(0, .ref (G.2.2.2.1 131)), (1, .int a0), (3, .int i29935), (4, .int i29937)] → (40 - i29937.toInt).toNat < n → W p l e (Rm 6 137) s m ([.ref (G.2.2.2.1 131), .int a0, .int a1] : List Value).toArray below meth c H lc 0 0 (MQ below (va_Qi (po_X12_draws τ  a0 a1  ) (Bs G) G.2.2.2.2) ([.ref (G.2.2.2.1 131), .int a0, .int a1] : List Value).toArray s 0 0 G.2.2.2.2) (F0 m 10 ls []) := by
    intro n
    induction n with
    | zero => intros; omega
    | succ n ih29945 =>
      intro t29939 H lc ls i29935 i29937 X29942 I29940 F29941 r29936 r29938 z29943 hl hm
      refine r_iload S dX12_draws_10 (lv_at hl 3 rfl) ?_
      refine r_iload_n S dX12_draws_12 rfl (lv_at hl 1 rfl) ?_
      refine r_icmp_ge (tgt := 126) S dX12_draws_13 (by decide) (fun c29946 => ?_) (fun c29946 => ?_)
      ·
        have r29947 : R (1) (40) i29937 := ⟨by omega, by omega⟩
        refine r_iload_n S dX12_draws_126 rfl (lv_at hl 2 rfl) ?_
        exact r_ret S hr hlk X29942 ⟨I29940, F29941⟩ rfl dX12_draws_127
      ·
        have r29948 : R (0) (39) i29937 := ⟨by omega, by omega⟩
        refine r_aload_n S dX12_draws_16 rfl (lv_at hl 0 rfl) ?_
        refine r_ki (q_V (As := []) (rest := []) (K := 38) (ci := 10) S X29942 (c_X12_ashore l G t29939 I29940 ) ck12_281 (Nat.le_of_ble_eq_true rfl) rfl (fun _ => ⟨_, rfl⟩) ⟨_, _, rfl⟩ ⟨Nat.le_of_ble_eq_true rfl, Nat.le_of_ble_eq_true rfl⟩ rfl hl.1 rfl (Nat.le_of_ble_eq_true rfl) dX12_draws_17 ⟨Nat.le_refl 0, Nat.le_refl 0⟩) X29942 (fun v29952 t29951 H lc q29949 X29950 => ?_)
        unfold po_X12_ashore at q29949
        obtain ⟨q29953, q29954⟩ := q29949
        rw [q29953] at X29950
        refine r_istore (lv' := [(5, .int v29952), (0, .ref (G.2.2.2.1 131)), (1, .int a0), (3, .int i29935), (4, .int i29937)]) S dX12_draws_20 hl (by decide) rfl (fun ls hl => ?_)
        refine r_iconst S dX12_draws_22 (by decide) (fun v29955 z29956 => ?_)
        have r29957 := R_eq z29956
        refine r_istore (lv' := [(6, .int v29955), (5, .int v29952), (0, .ref (G.2.2.2.1 131)), (1, .int a0), (3, .int i29935), (4, .int i29937)]) S dX12_draws_23 hl (by decide) rfl (fun ls hl => ?_)
        refine r_iconst S dX12_draws_25 (by decide) (fun v29958 z29959 => ?_)
        have r29960 := R_eq z29959
        refine r_istore (lv' := [(7, .int v29958), (6, .int v29955), (5, .int v29952), (0, .ref (G.2.2.2.1 131)), (1, .int a0), (3, .int i29935), (4, .int i29937)]) S dX12_draws_26 hl (by decide) rfl (fun ls hl => ?_)
        have L30506 : ∀ (n : Nat) (t30501 : Tau) (H : Heap) (lc : List Loc) (ls : Array Slot) (i30497 : Int32) (i30499 : Int32), Xd G s H lc t30501 → Inv t30501 → Fr [(131, 36), (133, 125), (133, 128), (133, 129), (133, 131), (133, 132), (133, 133), (133, 134), (133, 135), (133, 136), (133, 137), (133, 138), (133, 139), (133, 140), (133, 141), (133, 232), (133, 233), (133, 234), (133, 235), (133, 236), (133, 237), (133, 238), (133, 239), (133, 240), (133, 241), (133, 127)] [] τ t30501 → R (0) (1023) i30497 → R (0) (10) i30499 → t30501 133 1 = v1 → lv_has ls 8 [(0, .ref (G.2.2.2.1 131)), (1, .int a0), (3, .int i29935), (4, .int i29937), (5, .int v29952), (6, .int i30497), (7, .int i30499)] → (10 - i30499.toInt).toNat < n → W p l e (Rm 6 137) s m ([.ref (G.2.2.2.1 131), .int a0, .int a1] : List Value).toArray below meth c H lc 0 0 (MQ below (va_Qi (po_X12_draws τ  a0 a1  ) (Bs G) G.2.2.2.2) ([.ref (G.2.2.2.1 131), .int a0, .int a1] : List Value).toArray s 0 0 G.2.2.2.2) (F0 m 28 ls []) := by
          intro n
          induction n with
          | zero => intros; omega
          | succ n ih30507 =>
            intro t30501 H lc ls i30497 i30499 X30504 I30502 F30503 r30498 r30500 z30505 hl hm
            refine r_iload S dX12_draws_28 (lv_at hl 6 rfl) ?_
            refine r_aload_n S dX12_draws_30 rfl (lv_at hl 0 rfl) ?_
            refine r_get (K := 38) (v := .ref (G.2.2.2.1 133)) S X30504 (Nat.le_of_ble_eq_true rfl) rfl lk12_33_10 (fun _ => ⟨_, rfl, rfl⟩) dX12_draws_31 ?_
            refine r_iconst S dX12_draws_34 (by decide) (fun v30508 z30509 => ?_)
            have r30510 := R_eq z30509
            refine r_aldi (x := v1) (n := 513) (K := 40) S X30504 (Nat.le_of_ble_eq_true rfl) rfl (fun _ => rfl) (ix_of r30510 rfl) (zc' (n := 1) (by omega) z30505) dX12_draws_35 ?_
            refine r_icmp_ge (tgt := 72) S dX12_draws_36 (by decide) (fun c30512 => ?_) (fun c30512 => ?_)
            ·
              have r30513 : R (1) (10) i30499 := ⟨by omega, by omega⟩
              refine r_aload_n S dX12_draws_72 rfl (lv_at hl 0 rfl) ?_
              refine r_iload S dX12_draws_73 (lv_at hl 5 rfl) ?_
              refine r_ki (q_V (As := [.int i30497]) (rest := []) (K := 38) (ci := 10) S X30504 (c_X12_whyCross l G t30501 I30502 i30497 (R_of (lo := -2147483648) (hi := 2147483647) r30498 rfl)) ck12_299 (Nat.le_of_ble_eq_true rfl) rfl (fun _ => ⟨_, rfl⟩) ⟨_, _, rfl⟩ ⟨Nat.le_of_ble_eq_true rfl, Nat.le_of_ble_eq_true rfl⟩ rfl hl.1 rfl (Nat.le_of_ble_eq_true rfl) dX12_draws_75 ⟨Nat.le_refl 0, Nat.le_refl 0⟩) X30504 (fun v30517 t30516 H lc q30514 X30515 => ?_)
              unfold po_X12_whyCross at q30514
              obtain ⟨q30518, q30519⟩ := q30514
              rw [q30518] at X30515
              refine r_if_ne (tgt := 93) S dX12_draws_78 (by decide) (fun c30520 => ?_) (fun c30520 => ?_)
              ·
                have r30521 : R (1) (4) v30517 := ⟨by omega, by omega⟩
                refine r_aload_n S dX12_draws_93 rfl (lv_at hl 0 rfl) ?_
                refine r_aload_n S dX12_draws_94 rfl (lv_at hl 0 rfl) ?_
                refine r_get (K := 38) (v := .ref (G.2.2.2.1 133)) S X30515 (Nat.le_of_ble_eq_true rfl) rfl lk12_33_10 (fun _ => ⟨_, rfl, rfl⟩) dX12_draws_95 ?_
                refine r_iconst S dX12_draws_98 (by decide) (fun v30522 z30523 => ?_)
                have r30524 := R_eq z30523
                refine r_aldi (x := v1) (n := 513) (K := 40) S X30515 (Nat.le_of_ble_eq_true rfl) rfl (fun _ => rfl) (ix_of r30524 rfl) (zc' (n := 1) (by omega) z30505) dX12_draws_99 ?_
                refine r_ki (q_V (As := [.int v1]) (rest := []) (K := 38) (ci := 10) S X30515 (c_X12_draw l G t30501 I30502 v1 hf_0) ck12_373 (Nat.le_of_ble_eq_true rfl) rfl (fun _ => ⟨_, rfl⟩) ⟨_, _, rfl⟩ ⟨Nat.le_of_ble_eq_true rfl, Nat.le_of_ble_eq_true rfl⟩ rfl hl.1 rfl (Nat.le_of_ble_eq_true rfl) dX12_draws_100 ⟨Nat.le_refl 0, Nat.le_refl 0⟩) X30515 (fun v30529 t30528 H lc q30526 X30527 => ?_)
                unfold po_X12_draw at q30526
                obtain ⟨q30530, q30531, q30532⟩ := q30526
                have F30533 : Fr [(131, 36), (133, 125), (133, 128), (133, 129), (133, 131), (133, 132), (133, 133), (133, 134), (133, 135), (133, 136), (133, 137), (133, 138), (133, 139), (133, 140), (133, 141), (133, 232), (133, 233), (133, 234), (133, 235), (133, 236), (133, 237), (133, 238), (133, 239), (133, 240), (133, 241), (133, 127)] [] τ t30528 := Fr_call F30503 q30531 (by decide)
                refine r_istore (lv' := [(7, .int v30529), (0, .ref (G.2.2.2.1 131)), (1, .int a0), (3, .int i29935), (4, .int i29937), (5, .int v29952), (6, .int i30497)]) S dX12_draws_103 hl (by decide) rfl (fun ls hl => ?_)
                refine r_aload_n S dX12_draws_105 rfl (lv_at hl 1 rfl) ?_
                refine r_iload S dX12_draws_106 (lv_at hl 0 rfl) ?_
                refine r_ki (q_V (As := [.int v30529]) (rest := []) (K := 38) (ci := 10) S X30527 (c_X12_whyHire l G t30528 q30530 v30529 (R_of (lo := -2147483648) (hi := 2147483647) q30532 rfl)) ck12_311 (Nat.le_of_ble_eq_true rfl) rfl (fun _ => ⟨_, rfl⟩) ⟨_, _, rfl⟩ ⟨Nat.le_of_ble_eq_true rfl, Nat.le_of_ble_eq_true rfl⟩ rfl hl.1 rfl (Nat.le_of_ble_eq_true rfl) dX12_draws_108 ⟨Nat.le_refl 0, Nat.le_refl 0⟩) X30527 (fun v30537 t30536 H lc q30534 X30535 => ?_)
                unfold po_X12_whyHire at q30534
                obtain ⟨q30538, q30539⟩ := q30534
                rw [q30538] at X30535
                refine r_if_ne (tgt := 120) S dX12_draws_111 (by decide) (fun c30540 => ?_) (fun c30540 => ?_)
                ·
                  have r30541 : R (1) (1) v30537 := ⟨by omega, by omega⟩
                  refine r_iinc (k := 4) S dX12_draws_120 hl rfl (by decide) (by decide) (fun v30542 d30543 ls z30544 z30545 hl => ?_)
                  obtain ⟨e30546, r30547⟩ := i_add (lo := 1) (hi := 40) z30544 r29948 (R_eq z30545) rfl
                  have hl : lv_has ls 8 [(4, .int v30542), (7, .int v30529), (0, .ref (G.2.2.2.1 131)), (1, .int a0), (3, .int i29935), (5, .int v29952), (6, .int i30497)] := hl
                  refine r_goto (tgt := 10) S dX12_draws_123 (by decide) ?_
                  exact ih29945 t30528 _ _ _ i29935 v30542 X30535 q30530 F30533 r29936 (R_of r30547 rfl) ((q30531 133 1 (by decide)).trans z30505) (lv_sub hl [2, 3, 4, 0] rfl) (by omega)
                ·
                  have r30548 : R (0) (0) v30537 := ⟨by omega, by omega⟩
                  refine r_aload_n S dX12_draws_114 rfl (lv_at hl 1 rfl) ?_
                  refine r_iload S dX12_draws_115 (lv_at hl 0 rfl) ?_
                  refine r_kv (q_V (As := [.int v30529]) (rest := []) (K := 38) (ci := 10) S X30535 (c_X12_hires l G t30528 q30530 v30529 q30532) ck12_314 (Nat.le_of_ble_eq_true rfl) rfl (fun _ => ⟨_, rfl⟩) ⟨_, _, rfl⟩ ⟨Nat.le_of_ble_eq_true rfl, Nat.le_of_ble_eq_true rfl⟩ rfl hl.1 rfl (Nat.le_of_ble_eq_true rfl) dX12_draws_117 ⟨Nat.le_refl 0, Nat.le_refl 0⟩) X30535 (fun t30551 H lc q30549 X30550 => ?_)
                  unfold po_X12_hires at q30549
                  obtain ⟨q30552, q30553⟩ := q30549
                  have F30554 : Fr [(131, 36), (133, 125), (133, 128), (133, 129), (133, 131), (133, 132), (133, 133), (133, 134), (133, 135), (133, 136), (133, 137), (133, 138), (133, 139), (133, 140), (133, 141), (133, 232), (133, 233), (133, 234), (133, 235), (133, 236), (133, 237), (133, 238), (133, 239), (133, 240), (133, 241), (133, 127)] [] τ t30551 := Fr_call F30533 q30553 (by decide)
                  refine r_iinc (k := 4) S dX12_draws_120 hl rfl (by decide) (by decide) (fun v30555 d30556 ls z30557 z30558 hl => ?_)
                  obtain ⟨e30559, r30560⟩ := i_add (lo := 1) (hi := 40) z30557 r29948 (R_eq z30558) rfl
                  have hl : lv_has ls 8 [(4, .int v30555), (7, .int v30529), (0, .ref (G.2.2.2.1 131)), (1, .int a0), (3, .int i29935), (5, .int v29952), (6, .int i30497)] := hl
                  refine r_goto (tgt := 10) S dX12_draws_123 (by decide) ?_
                  exact ih29945 t30551 _ _ _ i29935 v30555 X30550 q30552 F30554 r29936 (R_of r30560 rfl) ((q30553 133 1 (by decide)).trans ((q30531 133 1 (by decide)).trans z30505)) (lv_sub hl [2, 3, 4, 0] rfl) (by omega)
              ·
                have r30561 : R (0) (0) v30517 := ⟨by omega, by omega⟩
                refine r_aload_n S dX12_draws_81 rfl (lv_at hl 0 rfl) ?_
                refine r_iload S dX12_draws_82 (lv_at hl 5 rfl) ?_
                refine r_kv (q_V (As := [.int i30497]) (rest := []) (K := 38) (ci := 10) S X30515 (c_X12_crosses l G t30501 I30502 i30497 r30498) ck12_305 (Nat.le_of_ble_eq_true rfl) rfl (fun _ => ⟨_, rfl⟩) ⟨_, _, rfl⟩ ⟨Nat.le_of_ble_eq_true rfl, Nat.le_of_ble_eq_true rfl⟩ rfl hl.1 rfl (Nat.le_of_ble_eq_true rfl) dX12_draws_84 ⟨Nat.le_refl 0, Nat.le_refl 0⟩) X30515 (fun t30564 H lc q30562 X30563 => ?_)
                unfold po_X12_crosses at q30562
                obtain ⟨q30565, q30566⟩ := q30562
                have F30567 : Fr [(131, 36), (133, 125), (133, 128), (133, 129), (133, 131), (133, 132), (133, 133), (133, 134), (133, 135), (133, 136), (133, 137), (133, 138), (133, 139), (133, 140), (133, 141), (133, 232), (133, 233), (133, 234), (133, 235), (133, 236), (133, 237), (133, 238), (133, 239), (133, 240), (133, 241), (133, 127)] [] τ t30564 := Fr_call F30503 q30566 (by decide)
                refine r_iinc (k := 2) S dX12_draws_87 hl rfl (by decide) (by decide) (fun v30568 d30569 ls z30570 z30571 hl => ?_)
                have r30572 := R_any v30568
                have hl : lv_has ls 8 [(3, .int v30568), (0, .ref (G.2.2.2.1 131)), (1, .int a0), (4, .int i29937), (5, .int v29952), (6, .int i30497), (7, .int i30499)] := hl
                refine r_goto (tgt := 120) S dX12_draws_90 (by decide) ?_
                refine r_iinc (k := 3) S dX12_draws_120 hl rfl (by decide) (by decide) (fun v30573 d30574 ls z30575 z30576 hl => ?_)
                obtain ⟨e30577, r30578⟩ := i_add (lo := 1) (hi := 40) z30575 r29948 (R_eq z30576) rfl
                have hl : lv_has ls 8 [(4, .int v30573), (3, .int v30568), (0, .ref (G.2.2.2.1 131)), (1, .int a0), (5, .int v29952), (6, .int i30497), (7, .int i30499)] := hl
                refine r_goto (tgt := 10) S dX12_draws_123 (by decide) ?_
                exact ih29945 t30564 _ _ _ v30568 v30573 X30563 q30565 F30567 r30572 (R_of r30578 rfl) ((q30566 133 1 (by decide)).trans z30505) (lv_sub hl [2, 3, 1, 0] rfl) (by omega)
            ·
              have r30579 : R (0) (9) i30499 := ⟨by omega, by omega⟩
              refine r_iload S dX12_draws_39 (lv_at hl 4 rfl) ?_
              refine r_iload S dX12_draws_41 (lv_at hl 6 rfl) ?_
              refine r_ki (q_S (As := [.int v29952, .int i30499]) (rest := []) S X30504 (c_X12_bitOf l G t30501 I30502 v29952 i30499 (R_of (lo := -2147483648) (hi := 2147483647) q29954 rfl) (R_of (lo := -2147483648) (hi := 2147483647) r30579 rfl)) ck12_221 ⟨Nat.le_of_ble_eq_true rfl, Nat.le_of_ble_eq_true rfl⟩ rfl hl.1 rfl (Nat.le_of_ble_eq_true rfl) dX12_draws_43 ⟨Nat.le_refl 0, Nat.le_refl 0⟩) X30504 (fun v30583 t30582 H lc q30580 X30581 => ?_)
              unfold po_X12_bitOf at q30580
              obtain ⟨q30584, q30585⟩ := q30580
              rw [q30584] at X30581
              refine r_if_eq (tgt := 66) S dX12_draws_46 (by decide) (fun c30586 => ?_) (fun c30586 => ?_)
              ·
                have r30587 : R (0) (0) v30583 := ⟨by omega, by omega⟩
                refine r_iinc (k := 6) S dX12_draws_66 hl rfl (by decide) (by decide) (fun v30588 d30589 ls z30590 z30591 hl => ?_)
                obtain ⟨e30592, r30593⟩ := i_add (lo := 1) (hi := 10) z30590 r30579 (R_eq z30591) rfl
                have hl : lv_has ls 8 [(7, .int v30588), (0, .ref (G.2.2.2.1 131)), (1, .int a0), (3, .int i29935), (4, .int i29937), (5, .int v29952), (6, .int i30497)] := hl
                refine r_goto (tgt := 28) S dX12_draws_69 (by decide) ?_
                exact ih30507 t30501 _ _ _ i30497 v30588 X30581 I30502 F30503 r30498 (R_of r30593 rfl) z30505 (lv_sub hl [1, 2, 3, 4, 5, 6, 0] rfl) (by omega)
              ·
                have r30594 : R (1) (1) v30583 := ⟨by omega, by omega⟩
                refine r_aload_n S dX12_draws_49 rfl (lv_at hl 0 rfl) ?_
                refine r_iconst S dX12_draws_50 (by decide) (fun v30595 z30596 => ?_)
                have r30597 := R_eq z30596
                refine r_ki (q_V (As := [.int v30595]) (rest := []) (K := 38) (ci := 10) S X30581 (c_X12_draw l G t30501 I30502 v30595 (R_of (lo := 1) (hi := 10) r30597 rfl)) ck12_373 (Nat.le_of_ble_eq_true rfl) rfl (fun _ => ⟨_, rfl⟩) ⟨_, _, rfl⟩ ⟨Nat.le_of_ble_eq_true rfl, Nat.le_of_ble_eq_true rfl⟩ rfl hl.1 rfl (Nat.le_of_ble_eq_true rfl) dX12_draws_51 ⟨Nat.le_refl 0, Nat.le_refl 0⟩) X30581 (fun v30601 t30600 H lc q30598 X30599 => ?_)
                unfold po_X12_draw at q30598
                obtain ⟨q30602, q30603, q30604⟩ := q30598
                have F30605 : Fr [(131, 36), (133, 125), (133, 128), (133, 129), (133, 131), (133, 132), (133, 133), (133, 134), (133, 135), (133, 136), (133, 137), (133, 138), (133, 139), (133, 140), (133, 141), (133, 232), (133, 233), (133, 234), (133, 235), (133, 236), (133, 237), (133, 238), (133, 239), (133, 240), (133, 241), (133, 127)] [] τ t30600 := Fr_call F30503 q30603 (by decide)
                refine r_if_ne (tgt := 66) S dX12_draws_54 (by decide) (fun c30606 => ?_) (fun c30606 => ?_)
                ·
                  have r30607 : R (1) (9) v30601 := ⟨by omega, by omega⟩
                  refine r_iinc (k := 6) S dX12_draws_66 hl rfl (by decide) (by decide) (fun v30608 d30609 ls z30610 z30611 hl => ?_)
                  obtain ⟨e30612, r30613⟩ := i_add (lo := 1) (hi := 10) z30610 r30579 (R_eq z30611) rfl
                  have hl : lv_has ls 8 [(7, .int v30608), (0, .ref (G.2.2.2.1 131)), (1, .int a0), (3, .int i29935), (4, .int i29937), (5, .int v29952), (6, .int i30497)] := hl
                  refine r_goto (tgt := 28) S dX12_draws_69 (by decide) ?_
                  exact ih30507 t30600 _ _ _ i30497 v30608 X30599 q30602 F30605 r30498 (R_of r30613 rfl) ((q30603 133 1 (by decide)).trans z30505) (lv_sub hl [1, 2, 3, 4, 5, 6, 0] rfl) (by omega)
                ·
                  have r30614 : R (0) (0) v30601 := ⟨by omega, by omega⟩
                  refine r_iload S dX12_draws_57 (lv_at hl 5 rfl) ?_
                  refine r_iconst S dX12_draws_59 (by decide) (fun v30615 z30616 => ?_)
                  have r30617 := R_eq z30616
                  refine r_iload S dX12_draws_60 (lv_at hl 6 rfl) ?_
                  refine r_ishl S dX12_draws_62 (fun v30618 z30619 => ?_)
                  have r30621 : R (1) (512) v30618 := i_shl z30619 r30617 r30579 rfl
                  refine r_ior S dX12_draws_63 (fun v30622 z30623 => ?_)
                  have r30625 : R (0) (1023) v30622 := i_or 10 z30623 r30498 r30621 rfl
                  refine r_istore (lv' := [(6, .int v30622), (0, .ref (G.2.2.2.1 131)), (1, .int a0), (3, .int i29935), (4, .int i29937), (5, .int v29952), (7, .int i30499)]) S dX12_draws_64 hl (by decide) rfl (fun ls hl => ?_)
                  refine r_iinc (k := 6) S dX12_draws_66 hl rfl (by decide) (by decide) (fun v30626 d30627 ls z30628 z30629 hl => ?_)
                  obtain ⟨e30630, r30631⟩ := i_add (lo := 1) (hi := 10) z30628 r30579 (R_eq z30629) rfl
                  have hl : lv_has ls 8 [(7, .int v30626), (6, .int v30622), (0, .ref (G.2.2.2.1 131)), (1, .int a0), (3, .int i29935), (4, .int i29937), (5, .int v29952)] := hl
                  refine r_goto (tgt := 28) S dX12_draws_69 (by decide) ?_
                  exact ih30507 t30600 _ _ _ v30622 v30626 X30599 q30602 F30605 r30625 (R_of r30631 rfl) ((q30603 133 1 (by decide)).trans z30505) (lv_sub hl [2, 3, 4, 5, 6, 1, 0] rfl) (by omega)
        exact L30506 _ t29939 _ _ _ v29955 v29958 X29950 I29940 F29941 (R_of r29957 rfl) (R_of r29960 rfl) z29943 (lv_sub hl [3, 4, 5, 6, 2, 1, 0] rfl) (Nat.lt_succ_self _)
  exact L29944 _ t3 _ _ _ v8 v11 X5 I6 F7 (R_of r10 rfl) (R_of r13 rfl) ((M4.2 133 1 (Or.inl (by decide))).trans z2) (lv_sub hl [2, 3, 1, 0] rfl) (Nat.lt_succ_self _)
def po_X12_logged (τ : Tau)  (a0 : Int32)   (r : Int32) (u : Tau) : Prop := Inv u ∧ Fr [(131, 0)] [] τ u
set_option maxHeartbeats 4000000 in
set_option maxRecDepth 100000 in
theorem c_X12_logged (l : Launch) (G : Gx) (τ : Tau) (hI : Inv τ) (a0 : Int32) (h_a0 : R (-2147483648) (2147483647) a0) : Ci l G yX12_logged cX12_logged 2 (some .int) 1 22 [.ref (G.2.2.2.1 131), .int a0] τ (po_X12_logged τ  a0  ) := by
  unfold Ci
  refine C_of (own := RX12) (by decide) rfl (Nat.le_of_ble_eq_true rfl) ?_
  intro p e s m below meth c ls S hr hlk X hl
  have hl : lv_has ls 2 [(0, .ref (G.2.2.2.1 131)), (1, .int a0)] := hl
  refine r_aload_n S dX12_logged_0 rfl (lv_at hl 0 rfl) ?_
  refine r_iconst S dX12_logged_1 (by decide) (fun v1 z2 => ?_)
  have r3 := R_eq z2
  refine r_put (K := 38) (ty := .int) S X (Nat.le_of_ble_eq_true rfl) rfl lk12_1_10 (fun _ => ⟨_, rfl, Nat.le_of_ble_eq_true rfl, rfl⟩) (fun _ _ _ h => by cases h; exact ⟨rfl, rfl⟩) rfl rfl dX12_logged_2 (fun t4 H lc M5 X6 => ?_)
  have I7 := Inv_mu hI M5 (R_any v1)
  have F8 : Fr [(131, 0)] [] τ t4 := Fr_mu Fr_rfl M5 (by decide)
  refine r_aload_n S dX12_logged_5 rfl (lv_at hl 0 rfl) ?_
  refine r_getn (K := 38) S X6 (Nat.le_of_ble_eq_true rfl) rfl lk12_401_10 (fun _ => ⟨_, rfl, rfl⟩) dX12_logged_6 (fun v9 z10 => ?_)
  have r11 : R (0) (1) v9 := rd I7 rfl z10
  refine r_if_eq (tgt := 30) S dX12_logged_9 (by decide) (fun c12 => ?_) (fun c12 => ?_)
  ·
    have r13 : R (0) (0) v9 := ⟨by omega, by omega⟩
    refine r_iconst S dX12_logged_30 (by decide) (fun v14 z15 => ?_)
    have r16 := R_eq z15
    exact r_ret S hr hlk X6 ⟨I7, F8⟩ rfl dX12_logged_31
  ·
    have r17 : R (1) (1) v9 := ⟨by omega, by omega⟩
    refine r_iload_n S dX12_logged_12 rfl (lv_at hl 1 rfl) ?_
    refine r_iconst S dX12_logged_13 (by decide) (fun v18 z19 => ?_)
    have r20 := R_eq z19
    refine r_iconst S dX12_logged_14 (by decide) (fun v21 z22 => ?_)
    have r23 := R_eq z22
    refine r_ki (q_S (As := [.int a0, .int v18, .int v21]) (rest := []) S X6 (c_X12_isIn l G t4 I7 a0 v18 v21 h_a0 (R_of (lo := -2147483648) (hi := 2147483647) r20 rfl) (R_of (lo := -2147483648) (hi := 2147483647) r23 rfl)) ck12_189 ⟨Nat.le_of_ble_eq_true rfl, Nat.le_of_ble_eq_true rfl⟩ rfl hl.1 rfl (Nat.le_of_ble_eq_true rfl) dX12_logged_15 ⟨Nat.le_refl 0, Nat.le_refl 0⟩) X6 (fun v27 t26 H lc q24 X25 => ?_)
    unfold po_X12_isIn at q24
    obtain ⟨q28, q29, q30⟩ := q24
    rw [q28] at X25
    refine r_if_eq (tgt := 30) S dX12_logged_18 (by decide) (fun c31 => ?_) (fun c31 => ?_)
    ·
      have r32 : R (0) (0) v27 := ⟨by omega, by omega⟩
      refine r_iconst S dX12_logged_30 (by decide) (fun v33 z34 => ?_)
      have r35 := R_eq z34
      exact r_ret S hr hlk X25 ⟨I7, F8⟩ rfl dX12_logged_31
    ·
      have r36 : R (1) (1) v27 := ⟨by omega, by omega⟩
      obtain ⟨p37, p38⟩ := q30 (by omega)
      have r39 : R (0) (3) a0 := ⟨by omega, by omega⟩
      refine r_aload_n S dX12_logged_21 rfl (lv_at hl 0 rfl) ?_
      refine r_get (K := 38) (v := .ref (G.2.2.2.1 147)) S X25 (Nat.le_of_ble_eq_true rfl) rfl lk12_81_10 (fun _ => ⟨_, rfl, rfl⟩) dX12_logged_22 ?_
      refine r_iload_n S dX12_logged_25 rfl (lv_at hl 1 rfl) ?_
      refine r_aldn (n := 4) (K := 54) S X25 (Nat.le_of_ble_eq_true rfl) rfl (fun _ => rfl) (ix_of r39 rfl) dX12_logged_26 (fun v40 z41 => ?_)
      have r43 := R_any v40
      refine r_goto (tgt := 31) S dX12_logged_27 (by decide) ?_
      exact r_ret S hr hlk X25 ⟨I7, F8⟩ rfl dX12_logged_31
def po_X12_count (τ : Tau)  (a0 : Int32)   (r : Int32) (u : Tau) : Prop := Inv u ∧ Fr [(131, 0)] [] τ u
set_option maxHeartbeats 4000000 in
set_option maxRecDepth 100000 in
theorem c_X12_count (l : Launch) (G : Gx) (τ : Tau) (hI : Inv τ) (a0 : Int32) (h_a0 : R (-2147483648) (2147483647) a0) : Ci l G yX12_count cX12_count 2 (some .int) 1 22 [.ref (G.2.2.2.1 131), .int a0] τ (po_X12_count τ  a0  ) := by
  unfold Ci
  refine C_of (own := RX12) (by decide) rfl (Nat.le_of_ble_eq_true rfl) ?_
  intro p e s m below meth c ls S hr hlk X hl
  have hl : lv_has ls 2 [(0, .ref (G.2.2.2.1 131)), (1, .int a0)] := hl
  refine r_aload_n S dX12_count_0 rfl (lv_at hl 0 rfl) ?_
  refine r_iconst S dX12_count_1 (by decide) (fun v1 z2 => ?_)
  have r3 := R_eq z2
  refine r_put (K := 38) (ty := .int) S X (Nat.le_of_ble_eq_true rfl) rfl lk12_1_10 (fun _ => ⟨_, rfl, Nat.le_of_ble_eq_true rfl, rfl⟩) (fun _ _ _ h => by cases h; exact ⟨rfl, rfl⟩) rfl rfl dX12_count_2 (fun t4 H lc M5 X6 => ?_)
  have I7 := Inv_mu hI M5 (R_any v1)
  have F8 : Fr [(131, 0)] [] τ t4 := Fr_mu Fr_rfl M5 (by decide)
  refine r_iload_n S dX12_count_5 rfl (lv_at hl 1 rfl) ?_
  refine r_iconst S dX12_count_6 (by decide) (fun v9 z10 => ?_)
  have r11 := R_eq z10
  refine r_icmp_ne (tgt := 17) S dX12_count_7 (by decide) (fun c12 => ?_) (fun c12 => ?_)
  ·
    refine r_iload_n S dX12_count_17 rfl (lv_at hl 1 rfl) ?_
    refine r_iconst S dX12_count_18 (by decide) (fun v13 z14 => ?_)
    have r15 := R_eq z14
    refine r_iconst S dX12_count_19 (by decide) (fun v16 z17 => ?_)
    have r18 := R_eq z17
    refine r_ki (q_S (As := [.int a0, .int v13, .int v16]) (rest := []) S X6 (c_X12_isIn l G t4 I7 a0 v13 v16 h_a0 (R_of (lo := -2147483648) (hi := 2147483647) r15 rfl) (R_of (lo := -2147483648) (hi := 2147483647) r18 rfl)) ck12_189 ⟨Nat.le_of_ble_eq_true rfl, Nat.le_of_ble_eq_true rfl⟩ rfl hl.1 rfl (Nat.le_of_ble_eq_true rfl) dX12_count_20 ⟨Nat.le_refl 0, Nat.le_refl 0⟩) X6 (fun v22 t21 H lc q19 X20 => ?_)
    unfold po_X12_isIn at q19
    obtain ⟨q23, q24, q25⟩ := q19
    rw [q23] at X20
    refine r_if_eq (tgt := 35) S dX12_count_23 (by decide) (fun c26 => ?_) (fun c26 => ?_)
    ·
      have r27 : R (0) (0) v22 := ⟨by omega, by omega⟩
      refine r_iconst S dX12_count_35 (by decide) (fun v28 z29 => ?_)
      have r30 := R_eq z29
      exact r_ret S hr hlk X20 ⟨I7, F8⟩ rfl dX12_count_36
    ·
      have r31 : R (1) (1) v22 := ⟨by omega, by omega⟩
      obtain ⟨p32, p33⟩ := q25 (by omega)
      have r34 : R (0) (4) a0 := ⟨by omega, by omega⟩
      refine r_aload_n S dX12_count_26 rfl (lv_at hl 0 rfl) ?_
      refine r_get (K := 38) (v := .ref (G.2.2.2.1 133)) S X20 (Nat.le_of_ble_eq_true rfl) rfl lk12_33_10 (fun _ => ⟨_, rfl, rfl⟩) dX12_count_27 ?_
      refine r_iload_n S dX12_count_30 rfl (lv_at hl 1 rfl) ?_
      refine r_aldn (n := 513) (K := 40) S X20 (Nat.le_of_ble_eq_true rfl) rfl (fun _ => rfl) (ix_of r34 rfl) dX12_count_31 (fun v35 z36 => ?_)
      have r38 := R_any v35
      have g39 : Rg 40 a0.toNatClampNeg v35 := rd I7 rfl z36
      refine r_goto (tgt := 36) S dX12_count_32 (by decide) ?_
      exact r_ret S hr hlk X20 ⟨I7, F8⟩ rfl dX12_count_36
  ·
    have r40 : R (5) (5) a0 := ⟨by omega, by omega⟩
    refine r_aload_n S dX12_count_10 rfl (lv_at hl 0 rfl) ?_
    refine r_getn (K := 38) S X6 (Nat.le_of_ble_eq_true rfl) rfl lk12_7_10 (fun _ => ⟨_, rfl, rfl⟩) dX12_count_11 (fun v41 z42 => ?_)
    have r43 : R (0) (940) v41 := rd I7 rfl z42
    refine r_goto (tgt := 36) S dX12_count_14 (by decide) ?_
    exact r_ret S hr hlk X6 ⟨I7, F8⟩ rfl dX12_count_36
def po_X12_setAt (τ : Tau)  (a0 : Int32)   (r : Int32) (u : Tau) : Prop := u = τ ∧ R (0) (65535) r
set_option maxHeartbeats 4000000 in
set_option maxRecDepth 100000 in
theorem c_X12_setAt (l : Launch) (G : Gx) (τ : Tau) (hI : Inv τ) (a0 : Int32) (h_a0 : R (0) (400) a0) : Ci l G yX12_setAt cX12_setAt 2 (some .int) 1 21 [.ref (G.2.2.2.1 131), .int a0] τ (po_X12_setAt τ  a0  ) := by
  unfold Ci
  refine C_of (own := RX12) (by decide) rfl (Nat.le_of_ble_eq_true rfl) ?_
  intro p e s m below meth c ls S hr hlk X hl
  have hl : lv_has ls 2 [(0, .ref (G.2.2.2.1 131)), (1, .int a0)] := hl
  refine r_aload_n S dX12_setAt_0 rfl (lv_at hl 0 rfl) ?_
  refine r_iconst S dX12_setAt_1 (by decide) (fun v1 z2 => ?_)
  have r3 := R_eq z2
  refine r_iload_n S dX12_setAt_2 rfl (lv_at hl 1 rfl) ?_
  refine r_imul S dX12_setAt_3 (fun v4 z5 => ?_)
  obtain ⟨e6, r7⟩ := i_mul (lo := 0) (hi := 800) z5 r3 h_a0 rfl rfl
  have e8 : v4.toInt = 2 * a0.toInt := by rw [e6, show v1.toInt = 2 by omega]
  refine r_ki (q_V (As := [.int v4]) (rest := []) (K := 38) (ci := 10) S X (c_X12_octet l G τ hI v4 (R_of (lo := 0) (hi := 939) r7 rfl)) ck12_338 (Nat.le_of_ble_eq_true rfl) rfl (fun _ => ⟨_, rfl⟩) ⟨_, _, rfl⟩ ⟨Nat.le_of_ble_eq_true rfl, Nat.le_of_ble_eq_true rfl⟩ rfl hl.1 rfl (Nat.le_of_ble_eq_true rfl) dX12_setAt_4 ⟨Nat.le_refl 0, Nat.le_refl 0⟩) X (fun v12 t11 H lc q9 X10 => ?_)
  unfold po_X12_octet at q9
  obtain ⟨q13, q14⟩ := q9
  rw [q13] at X10
  refine r_bipush S dX12_setAt_7 (by decide) (fun v15 z16 => ?_)
  have r17 := R_eq z16
  refine r_ishl S dX12_setAt_9 (fun v18 z19 => ?_)
  have r21 : R (0) (65280) v18 := i_shl z19 q14 r17 rfl
  refine r_aload_n S dX12_setAt_10 rfl (lv_at hl 0 rfl) ?_
  refine r_iconst S dX12_setAt_11 (by decide) (fun v22 z23 => ?_)
  have r24 := R_eq z23
  refine r_iload_n S dX12_setAt_12 rfl (lv_at hl 1 rfl) ?_
  refine r_imul S dX12_setAt_13 (fun v25 z26 => ?_)
  obtain ⟨e27, r28⟩ := i_mul (lo := 0) (hi := 800) z26 r24 h_a0 rfl rfl
  have e29 : v25.toInt = 2 * a0.toInt := by rw [e27, show v22.toInt = 2 by omega]
  refine r_iconst S dX12_setAt_14 (by decide) (fun v30 z31 => ?_)
  have r32 := R_eq z31
  refine r_iadd S dX12_setAt_15 (fun v33 z34 => ?_)
  obtain ⟨e35, r36⟩ := i_add (lo := 1) (hi := 801) z34 r28 r32 rfl
  refine r_ki (q_V (As := [.int v33]) (rest := [.int v18]) (K := 38) (ci := 10) S X10 (c_X12_octet l G τ hI v33 (R_of (lo := 0) (hi := 939) r36 rfl)) ck12_338 (Nat.le_of_ble_eq_true rfl) rfl (fun _ => ⟨_, rfl⟩) ⟨_, _, rfl⟩ ⟨Nat.le_of_ble_eq_true rfl, Nat.le_of_ble_eq_true rfl⟩ rfl hl.1 rfl (Nat.le_of_ble_eq_true rfl) dX12_setAt_16 ⟨Nat.le_refl 0, Nat.le_refl 0⟩) X10 (fun v40 t39 H lc q37 X38 => ?_)
  unfold po_X12_octet at q37
  obtain ⟨q41, q42⟩ := q37
  rw [q41] at X38
  refine r_ior S dX12_setAt_19 (fun v43 z44 => ?_)
  have r46 : R (0) (65535) v43 := i_or 16 z44 r21 q42 rfl
  exact r_ret S hr hlk X38 ⟨rfl, r46⟩ rfl dX12_setAt_20
def po_X12_fitsBy (τ : Tau)  (a0 a1 : Int32)   (r : Int32) (u : Tau) : Prop := u = τ ∧ R (0) (1) r
set_option maxHeartbeats 4000000 in
set_option maxRecDepth 100000 in
theorem c_X12_fitsBy (l : Launch) (G : Gx) (τ : Tau) (hI : Inv τ) (a0 : Int32) (a1 : Int32) (h_a0 : R (0) (9) a0) (h_a1 : R (-9) (9) a1) (hf_0 : R (2) (40) (τ 131 3)) : Ci l G yX12_fitsBy cX12_fitsBy 5 (some .boolean) 4 90 [.ref (G.2.2.2.1 131), .int a0, .int a1] τ (po_X12_fitsBy τ  a0 a1  ) := by
  unfold Ci
  refine C_of (own := RX12) (by decide) rfl (Nat.le_of_ble_eq_true rfl) ?_
  intro p e s m below meth c ls S hr hlk X hl
  have hl : lv_has ls 5 [(0, .ref (G.2.2.2.1 131)), (1, .int a0), (2, .int a1)] := hl
  obtain ⟨v1, z2⟩ : ∃ x, τ 131 3 = x := ⟨_, rfl⟩
  rw [z2] at hf_0
  refine r_iconst S dX12_fitsBy_0 (by decide) (fun v3 z4 => ?_)
  have r5 := R_eq z4
  refine r_istore_n (lv' := [(3, .int v3), (0, .ref (G.2.2.2.1 131)), (1, .int a0), (2, .int a1)]) S dX12_fitsBy_1 rfl hl (by decide) rfl (fun ls hl => ?_)
  have L1123 : ∀ (n : Nat) (H : Heap) (lc : List Loc) (ls : Array Slot) (i1120 : Int32), Xd G s H lc τ → R (0) (20) i1120 → lv_has ls 5 [(0, .ref (G.2.2.2.1 131)), (1, .int a0), (2, .int a1), (3, .int i1120)] → (20 - i1120.toInt).toNat < n → W p l e (Rm 4 90) s m ([.ref (G.2.2.2.1 131), .int a0, .int a1] : List Value).toArray below meth c H lc 0 0 (MQ below (va_Qi (po_X12_fitsBy τ  a0 a1  ) (Bs G) G.2.2.2.2) ([.ref (G.2.2.2.1 131), .int a0, .int a1] : List Value).toArray s 0 0 G.2.2.2.2) (F0 m 2 ls []) := by
    intro n
    induction n with
    | zero => intros; omega
    | succ n ih1124 =>
      intro H lc ls i1120 X1122 r1121 hl hm
      refine r_iconst S dX12_fitsBy_2 (by decide) (fun v1125 z1126 => ?_)
      have r1127 := R_eq z1126
      refine r_iload_n S dX12_fitsBy_3 rfl (lv_at hl 3 rfl) ?_
      refine r_imul S dX12_fitsBy_4 (fun v1128 z1129 => ?_)
      obtain ⟨e1130, r1131⟩ := i_mul (lo := 0) (hi := 40) z1129 r1127 r1121 rfl rfl
      have e1132 : v1128.toInt = 2 * i1120.toInt := by rw [e1130, show v1125.toInt = 2 by omega]
      refine r_aload_n S dX12_fitsBy_5 rfl (lv_at hl 0 rfl) ?_
      refine r_geti (K := 38) S X1122 (Nat.le_of_ble_eq_true rfl) rfl lk12_18_10 (fun _ => ⟨_, rfl, rfl⟩) z2 dX12_fitsBy_6 ?_
      refine r_icmp_ge (tgt := 83) S dX12_fitsBy_9 (by decide) (fun c1133 => ?_) (fun c1133 => ?_)
      ·
        have r1134 : R (2) (40) v1128 := ⟨by omega, by omega⟩
        have r1135 : R (1) (20) i1120 := ⟨by omega, by omega⟩
        refine r_iconst S dX12_fitsBy_83 (by decide) (fun v1136 z1137 => ?_)
        have r1138 := R_eq z1137
        exact r_ret S hr hlk X1122 ⟨rfl, (R_of r1138 rfl)⟩ (nr_bool (R_of (lo := 0) (hi := 1) r1138 rfl)) dX12_fitsBy_84
      ·
        have r1139 : R (0) (39) v1128 := ⟨by omega, by omega⟩
        have r1140 : R (0) (19) i1120 := ⟨by omega, by omega⟩
        refine r_aload_n S dX12_fitsBy_12 rfl (lv_at hl 0 rfl) ?_
        refine r_iload_n S dX12_fitsBy_13 rfl (lv_at hl 3 rfl) ?_
        refine r_ki (q_V (As := [.int i1120]) (rest := []) (K := 38) (ci := 10) S X1122 (c_X12_setAt l G τ hI i1120 (R_of (lo := 0) (hi := 400) r1140 rfl)) ck12_341 (Nat.le_of_ble_eq_true rfl) rfl (fun _ => ⟨_, rfl⟩) ⟨_, _, rfl⟩ ⟨Nat.le_of_ble_eq_true rfl, Nat.le_of_ble_eq_true rfl⟩ rfl hl.1 rfl (Nat.le_of_ble_eq_true rfl) dX12_fitsBy_14 ⟨Nat.le_refl 0, Nat.le_refl 0⟩) X1122 (fun v1144 t1143 H lc q1141 X1142 => ?_)
        unfold po_X12_setAt at q1141
        obtain ⟨q1145, q1146⟩ := q1141
        rw [q1145] at X1142
        refine r_iload_n S dX12_fitsBy_17 rfl (lv_at hl 1 rfl) ?_
        refine r_ki (q_S (As := [.int v1144, .int a0]) (rest := []) S X1142 (c_X12_bitOf l G τ hI v1144 a0 (R_of (lo := -2147483648) (hi := 2147483647) q1146 rfl) (R_of (lo := -2147483648) (hi := 2147483647) h_a0 rfl)) ck12_221 ⟨Nat.le_of_ble_eq_true rfl, Nat.le_of_ble_eq_true rfl⟩ rfl hl.1 rfl (Nat.le_of_ble_eq_true rfl) dX12_fitsBy_18 ⟨Nat.le_refl 0, Nat.le_refl 0⟩) X1142 (fun v1150 t1149 H lc q1147 X1148 => ?_)
        unfold po_X12_bitOf at q1147
        obtain ⟨q1151, q1152⟩ := q1147
        rw [q1151] at X1148
        refine r_if_ne (tgt := 27) S dX12_fitsBy_21 (by decide) (fun c1153 => ?_) (fun c1153 => ?_)
        ·
          have r1154 : R (1) (1) v1150 := ⟨by omega, by omega⟩
          refine r_aload_n S dX12_fitsBy_27 rfl (lv_at hl 0 rfl) ?_
          refine r_aload_n S dX12_fitsBy_28 rfl (lv_at hl 0 rfl) ?_
          refine r_iload_n S dX12_fitsBy_29 rfl (lv_at hl 3 rfl) ?_
          refine r_ki (q_V (As := [.int i1120]) (rest := [.ref (G.2.2.2.1 131)]) (K := 38) (ci := 10) S X1148 (c_X12_setAt l G τ hI i1120 (R_of (lo := 0) (hi := 400) r1140 rfl)) ck12_341 (Nat.le_of_ble_eq_true rfl) rfl (fun _ => ⟨_, rfl⟩) ⟨_, _, rfl⟩ ⟨Nat.le_of_ble_eq_true rfl, Nat.le_of_ble_eq_true rfl⟩ rfl hl.1 rfl (Nat.le_of_ble_eq_true rfl) dX12_fitsBy_30 ⟨Nat.le_refl 0, Nat.le_refl 0⟩) X1148 (fun v1158 t1157 H lc q1155 X1156 => ?_)
          unfold po_X12_setAt at q1155
          obtain ⟨q1159, q1160⟩ := q1155
          rw [q1159] at X1156
          refine r_iconst S dX12_fitsBy_33 (by decide) (fun v1161 z1162 => ?_)
          have r1163 := R_eq z1162
          refine r_iload_n S dX12_fitsBy_34 rfl (lv_at hl 1 rfl) ?_
          refine r_ishl S dX12_fitsBy_35 (fun v1164 z1165 => ?_)
          have r1167 : R (1) (512) v1164 := i_shl z1165 r1163 h_a0 rfl
          refine r_iconst S dX12_fitsBy_36 (by decide) (fun v1168 z1169 => ?_)
          have r1170 := R_eq z1169
          refine r_ixor S dX12_fitsBy_37 (fun v1171 z1172 => ?_)
          have r1173 := R_any v1171
          refine r_iand S dX12_fitsBy_38 (fun v1174 z1175 => ?_)
          have r1177 : R (0) (65535) v1174 := i_and1 z1175 q1160 r1173 rfl
          have e1178 := i_andle z1175 q1160 rfl
          refine r_aload_n S dX12_fitsBy_39 rfl (lv_at hl 0 rfl) ?_
          refine r_get (K := 38) (v := .ref (G.2.2.2.1 133)) S X1156 (Nat.le_of_ble_eq_true rfl) rfl lk12_33_10 (fun _ => ⟨_, rfl, rfl⟩) dX12_fitsBy_40 ?_
          refine r_bipush S dX12_fitsBy_43 (by decide) (fun v1179 z1180 => ?_)
          have r1181 := R_eq z1180
          refine r_aldn (n := 513) (K := 40) S X1156 (Nat.le_of_ble_eq_true rfl) rfl (fun _ => rfl) (ix_of r1181 rfl) dX12_fitsBy_45 (fun v1182 z1183 => ?_)
          have r1184 : R (0) (8) v1182 := rds (K := 40) (a := 126) (n := 1) hI rfl z1183 (R_of r1181 rfl) (by decide +kernel)
          refine r_ki (q_V (As := [.int v1174, .int v1182]) (rest := []) (K := 38) (ci := 10) S X1156 (c_X12_sumOf l G τ hI v1174 v1182 (R_of (lo := -2147483648) (hi := 2147483647) r1177 rfl) r1184) ck12_287 (Nat.le_of_ble_eq_true rfl) rfl (fun _ => ⟨_, rfl⟩) ⟨_, _, rfl⟩ ⟨Nat.le_of_ble_eq_true rfl, Nat.le_of_ble_eq_true rfl⟩ rfl hl.1 rfl (Nat.le_of_ble_eq_true rfl) dX12_fitsBy_46 ⟨Nat.le_refl 0, Nat.le_refl 0⟩) X1156 (fun v1188 t1187 H lc q1185 X1186 => ?_)
          unfold po_X12_sumOf at q1185
          have q1189 := q1185
          rw [q1189] at X1186
          have r1190 := R_any v1188
          refine r_aload_n S dX12_fitsBy_49 rfl (lv_at hl 0 rfl) ?_
          refine r_iload_n S dX12_fitsBy_50 rfl (lv_at hl 1 rfl) ?_
          refine r_ki (q_V (As := [.int a0]) (rest := [.int v1188]) (K := 38) (ci := 10) S X1186 (c_X12_whyHire l G τ hI a0 (R_of (lo := -2147483648) (hi := 2147483647) h_a0 rfl)) ck12_311 (Nat.le_of_ble_eq_true rfl) rfl (fun _ => ⟨_, rfl⟩) ⟨_, _, rfl⟩ ⟨Nat.le_of_ble_eq_true rfl, Nat.le_of_ble_eq_true rfl⟩ rfl hl.1 rfl (Nat.le_of_ble_eq_true rfl) dX12_fitsBy_51 ⟨Nat.le_refl 0, Nat.le_refl 0⟩) X1186 (fun v1194 t1193 H lc q1191 X1192 => ?_)
          unfold po_X12_whyHire at q1191
          obtain ⟨q1195, q1196⟩ := q1191
          rw [q1195] at X1192
          refine r_iconst S dX12_fitsBy_54 (by decide) (fun v1197 z1198 => ?_)
          have r1199 := R_eq z1198
          refine r_icmp_ne (tgt := 62) S dX12_fitsBy_55 (by decide) (fun c1200 => ?_) (fun c1200 => ?_)
          ·
            have r1201 : R (0) (0) v1194 := ⟨by omega, by omega⟩
            refine r_iload_n S dX12_fitsBy_62 rfl (lv_at hl 2 rfl) ?_
            refine r_iadd S dX12_fitsBy_63 (fun v1202 z1203 => ?_)
            have r1204 := R_any v1202
            refine r_istore (lv' := [(4, .int v1202), (0, .ref (G.2.2.2.1 131)), (1, .int a0), (2, .int a1), (3, .int i1120)]) S dX12_fitsBy_64 hl (by decide) rfl (fun ls hl => ?_)
            refine r_aload_n S dX12_fitsBy_66 rfl (lv_at hl 1 rfl) ?_
            refine r_iload S dX12_fitsBy_67 (lv_at hl 0 rfl) ?_
            refine r_ki (q_V (As := [.int v1202]) (rest := []) (K := 38) (ci := 10) S X1192 (c_X12_balances l G τ hI v1202 r1204) ck12_290 (Nat.le_of_ble_eq_true rfl) rfl (fun _ => ⟨_, rfl⟩) ⟨_, _, rfl⟩ ⟨Nat.le_of_ble_eq_true rfl, Nat.le_of_ble_eq_true rfl⟩ rfl hl.1 rfl (Nat.le_of_ble_eq_true rfl) dX12_fitsBy_69 ⟨Nat.le_refl 0, Nat.le_refl 0⟩) X1192 (fun v1208 t1207 H lc q1205 X1206 => ?_)
            unfold po_X12_balances at q1205
            obtain ⟨q1209, q1210⟩ := q1205
            rw [q1209] at X1206
            refine r_if_ne (tgt := 77) S dX12_fitsBy_72 (by decide) (fun c1211 => ?_) (fun c1211 => ?_)
            ·
              have r1212 : R (1) (1) v1208 := ⟨by omega, by omega⟩
              refine r_iinc (k := 4) S dX12_fitsBy_77 hl rfl (by decide) (by decide) (fun v1213 d1214 ls z1215 z1216 hl => ?_)
              obtain ⟨e1217, r1218⟩ := i_add (lo := 1) (hi := 20) z1215 r1140 (R_eq z1216) rfl
              have hl : lv_has ls 5 [(3, .int v1213), (4, .int v1202), (0, .ref (G.2.2.2.1 131)), (1, .int a0), (2, .int a1)] := hl
              refine r_goto (tgt := 2) S dX12_fitsBy_80 (by decide) ?_
              exact ih1124 _ _ _ v1213 X1206 (R_of r1218 rfl) (lv_sub hl [2, 3, 4, 0] rfl) (by omega)
            ·
              have r1219 : R (0) (0) v1208 := ⟨by omega, by omega⟩
              refine r_iconst S dX12_fitsBy_75 (by decide) (fun v1220 z1221 => ?_)
              have r1222 := R_eq z1221
              exact r_ret S hr hlk X1206 ⟨rfl, (R_of r1222 rfl)⟩ (nr_bool (R_of (lo := 0) (hi := 1) r1222 rfl)) dX12_fitsBy_76
          ·
            have r1223 : R (1) (1) v1194 := ⟨by omega, by omega⟩
            refine r_iconst S dX12_fitsBy_58 (by decide) (fun v1224 z1225 => ?_)
            have r1226 := R_eq z1225
            refine r_goto (tgt := 63) S dX12_fitsBy_59 (by decide) ?_
            refine r_iadd S dX12_fitsBy_63 (fun v1227 z1228 => ?_)
            obtain ⟨e1229, r1230⟩ := i_add (lo := -2147483648) (hi := 2147483647) z1228 r1190 r1226 rfl
            refine r_istore (lv' := [(4, .int v1227), (0, .ref (G.2.2.2.1 131)), (1, .int a0), (2, .int a1), (3, .int i1120)]) S dX12_fitsBy_64 hl (by decide) rfl (fun ls hl => ?_)
            refine r_aload_n S dX12_fitsBy_66 rfl (lv_at hl 1 rfl) ?_
            refine r_iload S dX12_fitsBy_67 (lv_at hl 0 rfl) ?_
            refine r_ki (q_V (As := [.int v1227]) (rest := []) (K := 38) (ci := 10) S X1192 (c_X12_balances l G τ hI v1227 r1230) ck12_290 (Nat.le_of_ble_eq_true rfl) rfl (fun _ => ⟨_, rfl⟩) ⟨_, _, rfl⟩ ⟨Nat.le_of_ble_eq_true rfl, Nat.le_of_ble_eq_true rfl⟩ rfl hl.1 rfl (Nat.le_of_ble_eq_true rfl) dX12_fitsBy_69 ⟨Nat.le_refl 0, Nat.le_refl 0⟩) X1192 (fun v1234 t1233 H lc q1231 X1232 => ?_)
            unfold po_X12_balances at q1231
            obtain ⟨q1235, q1236⟩ := q1231
            rw [q1235] at X1232
            refine r_if_ne (tgt := 77) S dX12_fitsBy_72 (by decide) (fun c1237 => ?_) (fun c1237 => ?_)
            ·
              have r1238 : R (1) (1) v1234 := ⟨by omega, by omega⟩
              refine r_iinc (k := 4) S dX12_fitsBy_77 hl rfl (by decide) (by decide) (fun v1239 d1240 ls z1241 z1242 hl => ?_)
              obtain ⟨e1243, r1244⟩ := i_add (lo := 1) (hi := 20) z1241 r1140 (R_eq z1242) rfl
              have hl : lv_has ls 5 [(3, .int v1239), (4, .int v1227), (0, .ref (G.2.2.2.1 131)), (1, .int a0), (2, .int a1)] := hl
              refine r_goto (tgt := 2) S dX12_fitsBy_80 (by decide) ?_
              exact ih1124 _ _ _ v1239 X1232 (R_of r1244 rfl) (lv_sub hl [2, 3, 4, 0] rfl) (by omega)
            ·
              have r1245 : R (0) (0) v1234 := ⟨by omega, by omega⟩
              refine r_iconst S dX12_fitsBy_75 (by decide) (fun v1246 z1247 => ?_)
              have r1248 := R_eq z1247
              exact r_ret S hr hlk X1232 ⟨rfl, (R_of r1248 rfl)⟩ (nr_bool (R_of (lo := 0) (hi := 1) r1248 rfl)) dX12_fitsBy_76
        ·
          have r1249 : R (0) (0) v1150 := ⟨by omega, by omega⟩
          refine r_goto (tgt := 77) S dX12_fitsBy_24 (by decide) ?_
          refine r_iinc (k := 3) S dX12_fitsBy_77 hl rfl (by decide) (by decide) (fun v1250 d1251 ls z1252 z1253 hl => ?_)
          obtain ⟨e1254, r1255⟩ := i_add (lo := 1) (hi := 20) z1252 r1140 (R_eq z1253) rfl
          have hl : lv_has ls 5 [(3, .int v1250), (0, .ref (G.2.2.2.1 131)), (1, .int a0), (2, .int a1)] := hl
          refine r_goto (tgt := 2) S dX12_fitsBy_80 (by decide) ?_
          exact ih1124 _ _ _ v1250 X1148 (R_of r1255 rfl) (lv_sub hl [1, 2, 3, 0] rfl) (by omega)
  exact L1123 _ _ _ _ v3 X (R_of r5 rfl) (lv_sub hl [1, 2, 3, 0] rfl) (Nat.lt_succ_self _)
def po_X12_fits (τ : Tau)  (a0 : Int32)   (r : Int32) (u : Tau) : Prop := Inv u ∧ Fr [(131, 0), (131, 2), (131, 3), (131, 4), (131, 5), (131, 28), (131, 29), (131, 30)] [] τ u ∧ R (0) (0) (u 131 2)
set_option maxHeartbeats 4000000 in
set_option maxRecDepth 100000 in
theorem c_X12_fits (l : Launch) (G : Gx) (τ : Tau) (hI : Inv τ) (a0 : Int32) (h_a0 : R (-2147483648) (2147483647) a0) : Ci l G yX12_fits cX12_fits 4 (some .int) 5 114 [.ref (G.2.2.2.1 131), .int a0] τ (po_X12_fits τ  a0  ) := by
  unfold Ci
  refine C_of (own := RX12) (by decide) rfl (Nat.le_of_ble_eq_true rfl) ?_
  intro p e s m below meth c ls S hr hlk X hl
  have hl : lv_has ls 4 [(0, .ref (G.2.2.2.1 131)), (1, .int a0)] := hl
  refine r_aload_n S dX12_fits_0 rfl (lv_at hl 0 rfl) ?_
  refine r_iconst S dX12_fits_1 (by decide) (fun v1 z2 => ?_)
  have r3 := R_eq z2
  refine r_put (K := 38) (ty := .int) S X (Nat.le_of_ble_eq_true rfl) rfl lk12_1_10 (fun _ => ⟨_, rfl, Nat.le_of_ble_eq_true rfl, rfl⟩) (fun _ _ _ h => by cases h; exact ⟨rfl, rfl⟩) rfl rfl dX12_fits_2 (fun t4 H lc M5 X6 => ?_)
  have I7 := Inv_mu hI M5 (R_any v1)
  have F8 : Fr [(131, 0), (131, 2), (131, 3), (131, 4), (131, 5), (131, 28), (131, 29), (131, 30)] [] τ t4 := Fr_mu Fr_rfl M5 (by decide)
  refine r_aload_n S dX12_fits_5 rfl (lv_at hl 0 rfl) ?_
  refine r_sipush S dX12_fits_6 (by decide) (fun v9 z10 => ?_)
  have r11 := R_eq z10
  refine r_kv (q_V (As := [.int v9]) (rest := []) (K := 38) (ci := 10) S X6 (c_X12_taken l G t4 I7 v9 (R_of (lo := 0) (hi := 940) r11 rfl)) ck12_237 (Nat.le_of_ble_eq_true rfl) rfl (fun _ => ⟨_, rfl⟩) ⟨_, _, rfl⟩ ⟨Nat.le_of_ble_eq_true rfl, Nat.le_of_ble_eq_true rfl⟩ rfl hl.1 rfl (Nat.le_of_ble_eq_true rfl) dX12_fits_9 ⟨Nat.le_refl 0, Nat.le_refl 0⟩) X6 (fun t14 H lc q12 X13 => ?_)
  unfold po_X12_taken at q12
  obtain ⟨q15, q16, q17⟩ := q12
  have F18 : Fr [(131, 0), (131, 2), (131, 3), (131, 4), (131, 5), (131, 28), (131, 29), (131, 30)] [] τ t14 := Fr_call F8 q16 (by decide)
  obtain ⟨v19, z20⟩ : ∃ x, t14 131 2 = x := ⟨_, rfl⟩
  rw [z20] at q17
  refine r_aload_n S dX12_fits_12 rfl (lv_at hl 0 rfl) ?_
  refine r_iload_n S dX12_fits_13 rfl (lv_at hl 1 rfl) ?_
  refine r_ki (q_V (As := [.int a0]) (rest := []) (K := 38) (ci := 10) S X13 (c_X12_isMan l G t14 q15 a0 h_a0) ck12_252 (Nat.le_of_ble_eq_true rfl) rfl (fun _ => ⟨_, rfl⟩) ⟨_, _, rfl⟩ ⟨Nat.le_of_ble_eq_true rfl, Nat.le_of_ble_eq_true rfl⟩ rfl hl.1 rfl (Nat.le_of_ble_eq_true rfl) dX12_fits_14 ⟨Nat.le_refl 0, Nat.le_refl 0⟩) X13 (fun v24 t23 H lc q21 X22 => ?_)
  unfold po_X12_isMan at q21
  obtain ⟨q25, q26, q27⟩ := q21
  rw [q25] at X22
  rw [q25] at q27
  refine r_if_eq (tgt := 52) S dX12_fits_17 (by decide) (fun c28 => ?_) (fun c28 => ?_)
  ·
    have r29 : R (0) (0) v24 := ⟨by omega, by omega⟩
    refine r_iconst S dX12_fits_52 (by decide) (fun v30 z31 => ?_)
    have r32 := R_eq z31
    exact r_ret S hr hlk X22 ⟨q15, F18, (by rw [z20]; exact R_of q17 rfl)⟩ rfl dX12_fits_53
  ·
    have r33 : R (1) (1) v24 := ⟨by omega, by omega⟩
    obtain ⟨p34, p35⟩ := q27 (by omega)
    have r36 : R (0) (9) a0 := ⟨by omega, by omega⟩
    obtain ⟨v37, z38⟩ : ∃ x, t14 133 1 = x := ⟨_, rfl⟩
    rw [z38] at p35
    refine r_aload_n S dX12_fits_20 rfl (lv_at hl 0 rfl) ?_
    refine r_get (K := 38) (v := .ref (G.2.2.2.1 133)) S X22 (Nat.le_of_ble_eq_true rfl) rfl lk12_33_10 (fun _ => ⟨_, rfl, rfl⟩) dX12_fits_21 ?_
    refine r_iconst S dX12_fits_24 (by decide) (fun v39 z40 => ?_)
    have r41 := R_eq z40
    refine r_aldn (n := 513) (K := 40) S X22 (Nat.le_of_ble_eq_true rfl) rfl (fun _ => rfl) (ix_of r41 rfl) dX12_fits_25 (fun v42 z43 => ?_)
    have r44 : R (0) (9) v42 := rds (K := 40) (a := 0) (n := 1) q15 rfl z43 (R_of r41 rfl) (by decide +kernel)
    refine r_if_eq (tgt := 52) S dX12_fits_26 (by decide) (fun c45 => ?_) (fun c45 => ?_)
    ·
      have r46 : R (0) (0) v42 := ⟨by omega, by omega⟩
      refine r_iconst S dX12_fits_52 (by decide) (fun v47 z48 => ?_)
      have r49 := R_eq z48
      exact r_ret S hr hlk X22 ⟨q15, F18, (by rw [z20]; exact R_of q17 rfl)⟩ rfl dX12_fits_53
    ·
      have r50 : R (1) (9) v42 := ⟨by omega, by omega⟩
      refine r_aload_n S dX12_fits_29 rfl (lv_at hl 0 rfl) ?_
      refine r_getn (K := 38) S X22 (Nat.le_of_ble_eq_true rfl) rfl lk12_18_10 (fun _ => ⟨_, rfl, rfl⟩) dX12_fits_30 (fun v51 z52 => ?_)
      have r53 : R (0) (940) v51 := rd q15 rfl z52
      refine r_iconst S dX12_fits_33 (by decide) (fun v54 z55 => ?_)
      have r56 := R_eq z55
      refine r_bipush S dX12_fits_34 (by decide) (fun v57 z58 => ?_)
      have r59 := R_eq z58
      refine r_ki (q_S (As := [.int v51, .int v54, .int v57]) (rest := []) S X22 (c_X12_isIn l G t14 q15 v51 v54 v57 (R_of (lo := -2147483648) (hi := 2147483647) r53 rfl) (R_of (lo := -2147483648) (hi := 2147483647) r56 rfl) (R_of (lo := -2147483648) (hi := 2147483647) r59 rfl)) ck12_189 ⟨Nat.le_of_ble_eq_true rfl, Nat.le_of_ble_eq_true rfl⟩ rfl hl.1 rfl (Nat.le_of_ble_eq_true rfl) dX12_fits_36 ⟨Nat.le_refl 0, Nat.le_refl 0⟩) X22 (fun v63 t62 H lc q60 X61 => ?_)
      unfold po_X12_isIn at q60
      obtain ⟨q64, q65, q66⟩ := q60
      rw [q64] at X61
      refine r_if_eq (tgt := 52) S dX12_fits_39 (by decide) (fun c67 => ?_) (fun c67 => ?_)
      ·
        have r68 : R (0) (0) v63 := ⟨by omega, by omega⟩
        refine r_iconst S dX12_fits_52 (by decide) (fun v69 z70 => ?_)
        have r71 := R_eq z70
        exact r_ret S hr hlk X61 ⟨q15, F18, (by rw [z20]; exact R_of q17 rfl)⟩ rfl dX12_fits_53
      ·
        have r72 : R (1) (1) v63 := ⟨by omega, by omega⟩
        obtain ⟨p73, p74⟩ := q66 (by omega)
        have r75 : R (2) (40) v51 := ⟨by omega, by omega⟩
        refine r_aload_n S dX12_fits_42 rfl (lv_at hl 0 rfl) ?_
        refine r_geti (K := 38) S X61 (Nat.le_of_ble_eq_true rfl) rfl lk12_18_10 (fun _ => ⟨_, rfl, rfl⟩) z52 dX12_fits_43 ?_
        refine r_iconst S dX12_fits_46 (by decide) (fun v76 z77 => ?_)
        have r78 := R_eq z77
        refine r_irem S dX12_fits_47 (by omega) (fun v79 z80 => ?_)
        have r82 : R (0) (1) v79 := i_rem0 z80 r75 r78 rfl
        have e83 : v79.toInt = v51.toInt % 2 := i_remc z80 r75 r78 rfl
        refine r_iconst S dX12_fits_48 (by decide) (fun v84 z85 => ?_)
        have r86 := R_eq z85
        refine r_icmp_ne (tgt := 54) S dX12_fits_49 (by decide) (fun c87 => ?_) (fun c87 => ?_)
        ·
          have r88 : R (0) (0) v79 := ⟨by omega, by omega⟩
          refine r_iconst S dX12_fits_54 (by decide) (fun v89 z90 => ?_)
          have r91 := R_eq z90
          refine r_istore_n (lv' := [(2, .int v89), (0, .ref (G.2.2.2.1 131)), (1, .int a0)]) S dX12_fits_55 rfl hl (by decide) rfl (fun ls hl => ?_)
          have L444 : ∀ (n : Nat) (H : Heap) (lc : List Loc) (ls : Array Slot) (i441 : Int32), Xd G s H lc t14 → R (0) (20) i441 → lv_has ls 4 [(0, .ref (G.2.2.2.1 131)), (1, .int a0), (2, .int i441)] → (20 - i441.toInt).toNat < n → W p l e (Rm 5 114) s m ([.ref (G.2.2.2.1 131), .int a0] : List Value).toArray below meth c H lc 0 0 (MQ below (va_Qi (po_X12_fits τ  a0  ) (Bs G) G.2.2.2.2) ([.ref (G.2.2.2.1 131), .int a0] : List Value).toArray s 0 0 G.2.2.2.2) (F0 m 56 ls []) := by
            intro n
            induction n with
            | zero => intros; omega
            | succ n ih445 =>
              intro H lc ls i441 X443 r442 hl hm
              refine r_iconst S dX12_fits_56 (by decide) (fun v446 z447 => ?_)
              have r448 := R_eq z447
              refine r_iload_n S dX12_fits_57 rfl (lv_at hl 2 rfl) ?_
              refine r_imul S dX12_fits_58 (fun v449 z450 => ?_)
              obtain ⟨e451, r452⟩ := i_mul (lo := 0) (hi := 40) z450 r448 r442 rfl rfl
              have e453 : v449.toInt = 2 * i441.toInt := by rw [e451, show v446.toInt = 2 by omega]
              refine r_aload_n S dX12_fits_59 rfl (lv_at hl 0 rfl) ?_
              refine r_geti (K := 38) S X443 (Nat.le_of_ble_eq_true rfl) rfl lk12_18_10 (fun _ => ⟨_, rfl, rfl⟩) z52 dX12_fits_60 ?_
              refine r_icmp_ge (tgt := 86) S dX12_fits_63 (by decide) (fun c454 => ?_) (fun c454 => ?_)
              ·
                have r455 : R (2) (40) v449 := ⟨by omega, by omega⟩
                have r456 : R (1) (20) i441 := ⟨by omega, by omega⟩
                refine r_iconst S dX12_fits_86 (by decide) (fun v457 z458 => ?_)
                have r459 := R_eq z458
                refine r_istore_n (lv' := [(2, .int v457), (0, .ref (G.2.2.2.1 131)), (1, .int a0)]) S dX12_fits_87 rfl hl (by decide) rfl (fun ls hl => ?_)
                refine r_bipush S dX12_fits_88 (by decide) (fun v460 z461 => ?_)
                have r462 := R_eq z461
                refine r_istore_n (lv' := [(3, .int v460), (2, .int v457), (0, .ref (G.2.2.2.1 131)), (1, .int a0)]) S dX12_fits_90 rfl hl (by decide) rfl (fun ls hl => ?_)
                have L4351 : ∀ (n : Nat) (t4342 : Tau) (H : Heap) (lc : List Loc) (ls : Array Slot) (i4338 : Int32) (i4340 : Int32), Xd G s H lc t4342 → Inv t4342 → Fr [(131, 0), (131, 2), (131, 3), (131, 4), (131, 5), (131, 28), (131, 29), (131, 30)] [] τ t4342 → R (-2147483648) (2147483647) i4338 → R (-9) (10) i4340 → t4342 131 0 = v1 → t4342 131 2 = v19 → t4342 133 1 = v37 → t4342 133 0 = v42 → t4342 131 3 = v51 → lv_has ls 4 [(0, .ref (G.2.2.2.1 131)), (1, .int a0), (2, .int i4338), (3, .int i4340)] → (10 - i4340.toInt).toNat < n → W p l e (Rm 5 114) s m ([.ref (G.2.2.2.1 131), .int a0] : List Value).toArray below meth c H lc 0 0 (MQ below (va_Qi (po_X12_fits τ  a0  ) (Bs G) G.2.2.2.2) ([.ref (G.2.2.2.1 131), .int a0] : List Value).toArray s 0 0 G.2.2.2.2) (F0 m 91 ls []) := by
                  intro n
                  induction n with
                  | zero => intros; omega
                  | succ n ih4352 =>
                    intro t4342 H lc ls i4338 i4340 X4345 I4343 F4344 r4339 r4341 z4346 z4347 z4348 z4349 z4350 hl hm
                    refine r_iload_n S dX12_fits_91 rfl (lv_at hl 3 rfl) ?_
                    refine r_bipush S dX12_fits_92 (by decide) (fun v4353 z4354 => ?_)
                    have r4355 := R_eq z4354
                    refine r_icmp_ge (tgt := 137) S dX12_fits_94 (by decide) (fun c4356 => ?_) (fun c4356 => ?_)
                    ·
                      have r4357 : R (10) (10) i4340 := ⟨by omega, by omega⟩
                      refine r_iload_n S dX12_fits_137 rfl (lv_at hl 2 rfl) ?_
                      exact r_ret S hr hlk X4345 ⟨I4343, F4344, (by rw [z4347]; exact R_of q17 rfl)⟩ rfl dX12_fits_138
                    ·
                      have r4358 : R (-9) (9) i4340 := ⟨by omega, by omega⟩
                      refine r_aload_n S dX12_fits_97 rfl (lv_at hl 0 rfl) ?_
                      refine r_iload_n S dX12_fits_98 rfl (lv_at hl 1 rfl) ?_
                      refine r_iload_n S dX12_fits_99 rfl (lv_at hl 3 rfl) ?_
                      refine r_ki (q_V (As := [.int a0, .int i4340]) (rest := []) (K := 38) (ci := 10) S X4345 (c_X12_fitsBy l G t4342 I4343 a0 i4340 r36 r4358 (by rw [z4350]; exact R_of r75 rfl)) ck12_344 (Nat.le_of_ble_eq_true rfl) rfl (fun _ => ⟨_, rfl⟩) ⟨_, _, rfl⟩ ⟨Nat.le_of_ble_eq_true rfl, Nat.le_of_ble_eq_true rfl⟩ rfl hl.1 rfl (Nat.le_of_ble_eq_true rfl) dX12_fits_100 ⟨Nat.le_refl 0, Nat.le_refl 0⟩) X4345 (fun v4362 t4361 H lc q4359 X4360 => ?_)
                      unfold po_X12_fitsBy at q4359
                      obtain ⟨q4363, q4364⟩ := q4359
                      rw [q4363] at X4360
                      refine r_if_ne (tgt := 109) S dX12_fits_103 (by decide) (fun c4365 => ?_) (fun c4365 => ?_)
                      ·
                        have r4366 : R (1) (1) v4362 := ⟨by omega, by omega⟩
                        refine r_iload_n S dX12_fits_109 rfl (lv_at hl 2 rfl) ?_
                        refine r_if_ne (tgt := 118) S dX12_fits_110 (by decide) (fun c4367 => ?_) (fun c4367 => ?_)
                        ·
                          refine r_aload_n S dX12_fits_118 rfl (lv_at hl 0 rfl) ?_
                          refine r_iload_n S dX12_fits_119 rfl (lv_at hl 3 rfl) ?_
                          refine r_put (K := 38) (ty := .int) S X4360 (Nat.le_of_ble_eq_true rfl) rfl lk12_350_10 (fun _ => ⟨_, rfl, Nat.le_of_ble_eq_true rfl, rfl⟩) (fun _ _ _ h => by cases h; exact ⟨rfl, rfl⟩) rfl rfl dX12_fits_120 (fun t4368 H lc M4369 X4370 => ?_)
                          have I4371 := Inv_mu I4343 M4369 (R_any i4340)
                          have F4372 : Fr [(131, 0), (131, 2), (131, 3), (131, 4), (131, 5), (131, 28), (131, 29), (131, 30)] [] τ t4368 := Fr_mu F4344 M4369 (by decide)
                          refine r_aload_n S dX12_fits_123 rfl (lv_at hl 0 rfl) ?_
                          refine r_iconst S dX12_fits_124 (by decide) (fun v4373 z4374 => ?_)
                          have r4375 := R_eq z4374
                          refine r_put (K := 38) (ty := .boolean) S X4370 (Nat.le_of_ble_eq_true rfl) rfl lk12_353_10 (fun _ => ⟨_, rfl, Nat.le_of_ble_eq_true rfl, rfl⟩) (fun _ _ _ h => by cases h; exact ⟨rfl, rfl⟩) (nr_bool (R_of (lo := 0) (hi := 1) r4375 rfl)) (ft_bool (R_of (lo := 0) (hi := 1) r4375 rfl)) dX12_fits_125 (fun t4376 H lc M4377 X4378 => ?_)
                          have I4379 := Inv_mu I4371 M4377 (show Rg (kd 131) 30 v4373 from (R_of (lo := 0) (hi := 1) r4375 rfl))
                          have F4380 : Fr [(131, 0), (131, 2), (131, 3), (131, 4), (131, 5), (131, 28), (131, 29), (131, 30)] [] τ t4376 := Fr_mu F4372 M4377 (by decide)
                          refine r_iinc (k := 2) S dX12_fits_128 hl rfl (by decide) (by decide) (fun v4381 d4382 ls z4383 z4384 hl => ?_)
                          have r4385 := R_any v4381
                          have hl : lv_has ls 4 [(2, .int v4381), (0, .ref (G.2.2.2.1 131)), (1, .int a0), (3, .int i4340)] := hl
                          refine r_iinc (k := 3) S dX12_fits_131 hl rfl (by decide) (by decide) (fun v4386 d4387 ls z4388 z4389 hl => ?_)
                          obtain ⟨e4390, r4391⟩ := i_add (lo := -8) (hi := 10) z4388 r4358 (R_eq z4389) rfl
                          have hl : lv_has ls 4 [(3, .int v4386), (2, .int v4381), (0, .ref (G.2.2.2.1 131)), (1, .int a0)] := hl
                          refine r_goto (tgt := 91) S dX12_fits_134 (by decide) ?_
                          exact ih4352 t4376 _ _ _ v4381 v4386 X4378 I4379 F4380 r4385 (R_of r4391 rfl) ((M4377.2 131 0 (Or.inr (by decide))).trans ((M4369.2 131 0 (Or.inr (by decide))).trans z4346)) ((M4377.2 131 2 (Or.inr (by decide))).trans ((M4369.2 131 2 (Or.inr (by decide))).trans z4347)) ((M4377.2 133 1 (Or.inl (by decide))).trans ((M4369.2 133 1 (Or.inl (by decide))).trans z4348)) ((M4377.2 133 0 (Or.inl (by decide))).trans ((M4369.2 133 0 (Or.inl (by decide))).trans z4349)) ((M4377.2 131 3 (Or.inr (by decide))).trans ((M4369.2 131 3 (Or.inr (by decide))).trans z4350)) (lv_sub hl [2, 3, 1, 0] rfl) (by omega)
                        ·
                          have r4392 : R (0) (0) i4338 := ⟨by omega, by omega⟩
                          refine r_aload_n S dX12_fits_113 rfl (lv_at hl 0 rfl) ?_
                          refine r_iload_n S dX12_fits_114 rfl (lv_at hl 3 rfl) ?_
                          refine r_put (K := 38) (ty := .int) S X4360 (Nat.le_of_ble_eq_true rfl) rfl lk12_347_10 (fun _ => ⟨_, rfl, Nat.le_of_ble_eq_true rfl, rfl⟩) (fun _ _ _ h => by cases h; exact ⟨rfl, rfl⟩) rfl rfl dX12_fits_115 (fun t4393 H lc M4394 X4395 => ?_)
                          have I4396 := Inv_mu I4343 M4394 (R_any i4340)
                          have F4397 : Fr [(131, 0), (131, 2), (131, 3), (131, 4), (131, 5), (131, 28), (131, 29), (131, 30)] [] τ t4393 := Fr_mu F4344 M4394 (by decide)
                          refine r_aload_n S dX12_fits_118 rfl (lv_at hl 0 rfl) ?_
                          refine r_iload_n S dX12_fits_119 rfl (lv_at hl 3 rfl) ?_
                          refine r_put (K := 38) (ty := .int) S X4395 (Nat.le_of_ble_eq_true rfl) rfl lk12_350_10 (fun _ => ⟨_, rfl, Nat.le_of_ble_eq_true rfl, rfl⟩) (fun _ _ _ h => by cases h; exact ⟨rfl, rfl⟩) rfl rfl dX12_fits_120 (fun t4398 H lc M4399 X4400 => ?_)
                          have I4401 := Inv_mu I4396 M4399 (R_any i4340)
                          have F4402 : Fr [(131, 0), (131, 2), (131, 3), (131, 4), (131, 5), (131, 28), (131, 29), (131, 30)] [] τ t4398 := Fr_mu F4397 M4399 (by decide)
                          refine r_aload_n S dX12_fits_123 rfl (lv_at hl 0 rfl) ?_
                          refine r_iconst S dX12_fits_124 (by decide) (fun v4403 z4404 => ?_)
                          have r4405 := R_eq z4404
                          refine r_put (K := 38) (ty := .boolean) S X4400 (Nat.le_of_ble_eq_true rfl) rfl lk12_353_10 (fun _ => ⟨_, rfl, Nat.le_of_ble_eq_true rfl, rfl⟩) (fun _ _ _ h => by cases h; exact ⟨rfl, rfl⟩) (nr_bool (R_of (lo := 0) (hi := 1) r4405 rfl)) (ft_bool (R_of (lo := 0) (hi := 1) r4405 rfl)) dX12_fits_125 (fun t4406 H lc M4407 X4408 => ?_)
                          have I4409 := Inv_mu I4401 M4407 (show Rg (kd 131) 30 v4403 from (R_of (lo := 0) (hi := 1) r4405 rfl))
                          have F4410 : Fr [(131, 0), (131, 2), (131, 3), (131, 4), (131, 5), (131, 28), (131, 29), (131, 30)] [] τ t4406 := Fr_mu F4402 M4407 (by decide)
                          refine r_iinc (k := 2) S dX12_fits_128 hl rfl (by decide) (by decide) (fun v4411 d4412 ls z4413 z4414 hl => ?_)
                          obtain ⟨e4415, r4416⟩ := i_add (lo := 1) (hi := 1) z4413 r4392 (R_eq z4414) rfl
                          have hl : lv_has ls 4 [(2, .int v4411), (0, .ref (G.2.2.2.1 131)), (1, .int a0), (3, .int i4340)] := hl
                          refine r_iinc (k := 3) S dX12_fits_131 hl rfl (by decide) (by decide) (fun v4417 d4418 ls z4419 z4420 hl => ?_)
                          obtain ⟨e4421, r4422⟩ := i_add (lo := -8) (hi := 10) z4419 r4358 (R_eq z4420) rfl
                          have hl : lv_has ls 4 [(3, .int v4417), (2, .int v4411), (0, .ref (G.2.2.2.1 131)), (1, .int a0)] := hl
                          refine r_goto (tgt := 91) S dX12_fits_134 (by decide) ?_
                          exact ih4352 t4406 _ _ _ v4411 v4417 X4408 I4409 F4410 (R_of r4416 rfl) (R_of r4422 rfl) ((M4407.2 131 0 (Or.inr (by decide))).trans ((M4399.2 131 0 (Or.inr (by decide))).trans ((M4394.2 131 0 (Or.inr (by decide))).trans z4346))) ((M4407.2 131 2 (Or.inr (by decide))).trans ((M4399.2 131 2 (Or.inr (by decide))).trans ((M4394.2 131 2 (Or.inr (by decide))).trans z4347))) ((M4407.2 133 1 (Or.inl (by decide))).trans ((M4399.2 133 1 (Or.inl (by decide))).trans ((M4394.2 133 1 (Or.inl (by decide))).trans z4348))) ((M4407.2 133 0 (Or.inl (by decide))).trans ((M4399.2 133 0 (Or.inl (by decide))).trans ((M4394.2 133 0 (Or.inl (by decide))).trans z4349))) ((M4407.2 131 3 (Or.inr (by decide))).trans ((M4399.2 131 3 (Or.inr (by decide))).trans ((M4394.2 131 3 (Or.inr (by decide))).trans z4350))) (lv_sub hl [2, 3, 1, 0] rfl) (by omega)
                      ·
                        have r4423 : R (0) (0) v4362 := ⟨by omega, by omega⟩
                        refine r_goto (tgt := 131) S dX12_fits_106 (by decide) ?_
                        refine r_iinc (k := 3) S dX12_fits_131 hl rfl (by decide) (by decide) (fun v4424 d4425 ls z4426 z4427 hl => ?_)
                        obtain ⟨e4428, r4429⟩ := i_add (lo := -8) (hi := 10) z4426 r4358 (R_eq z4427) rfl
                        have hl : lv_has ls 4 [(3, .int v4424), (0, .ref (G.2.2.2.1 131)), (1, .int a0), (2, .int i4338)] := hl
                        refine r_goto (tgt := 91) S dX12_fits_134 (by decide) ?_
                        exact ih4352 t4342 _ _ _ i4338 v4424 X4360 I4343 F4344 r4339 (R_of r4429 rfl) z4346 z4347 z4348 z4349 z4350 (lv_sub hl [1, 2, 3, 0] rfl) (by omega)
                exact L4351 _ t14 _ _ _ v457 v460 X443 q15 F18 (R_of r459 rfl) (R_of r462 rfl) ((q16 131 0 (by decide)).trans M5.1) z20 z38 (zc (n := 0) (by omega) z43) z52 (lv_sub hl [2, 3, 1, 0] rfl) (Nat.lt_succ_self _)
              ·
                have r4430 : R (0) (39) v449 := ⟨by omega, by omega⟩
                have r4431 : R (0) (19) i441 := ⟨by omega, by omega⟩
                refine r_aload_n S dX12_fits_66 rfl (lv_at hl 0 rfl) ?_
                refine r_aload_n S dX12_fits_67 rfl (lv_at hl 0 rfl) ?_
                refine r_iload_n S dX12_fits_68 rfl (lv_at hl 2 rfl) ?_
                refine r_ki (q_V (As := [.int i441]) (rest := [.ref (G.2.2.2.1 131)]) (K := 38) (ci := 10) S X443 (c_X12_setAt l G t14 q15 i441 (R_of (lo := 0) (hi := 400) r4431 rfl)) ck12_341 (Nat.le_of_ble_eq_true rfl) rfl (fun _ => ⟨_, rfl⟩) ⟨_, _, rfl⟩ ⟨Nat.le_of_ble_eq_true rfl, Nat.le_of_ble_eq_true rfl⟩ rfl hl.1 rfl (Nat.le_of_ble_eq_true rfl) dX12_fits_69 ⟨Nat.le_refl 0, Nat.le_refl 0⟩) X443 (fun v4435 t4434 H lc q4432 X4433 => ?_)
                unfold po_X12_setAt at q4432
                obtain ⟨q4436, q4437⟩ := q4432
                rw [q4436] at X4433
                refine r_ki (q_V (As := [.int v4435]) (rest := []) (K := 38) (ci := 10) S X4433 (c_X12_isSet l G t14 q15 v4435 (R_of (lo := -2147483648) (hi := 2147483647) q4437 rfl)) ck12_296 (Nat.le_of_ble_eq_true rfl) rfl (fun _ => ⟨_, rfl⟩) ⟨_, _, rfl⟩ ⟨Nat.le_of_ble_eq_true rfl, Nat.le_of_ble_eq_true rfl⟩ rfl hl.1 rfl (Nat.le_of_ble_eq_true rfl) dX12_fits_72 ⟨Nat.le_refl 0, Nat.le_refl 0⟩) X4433 (fun v4441 t4440 H lc q4438 X4439 => ?_)
                unfold po_X12_isSet at q4438
                obtain ⟨q4442, q4443, q4444⟩ := q4438
                rw [q4442] at X4439
                refine r_if_ne (tgt := 80) S dX12_fits_75 (by decide) (fun c4445 => ?_) (fun c4445 => ?_)
                ·
                  have r4446 : R (1) (1) v4441 := ⟨by omega, by omega⟩
                  have p4447 := q4444 (by omega)
                  have r4448 : R (0) (1023) v4435 := ⟨by omega, by omega⟩
                  refine r_iinc (k := 2) S dX12_fits_80 hl rfl (by decide) (by decide) (fun v4449 d4450 ls z4451 z4452 hl => ?_)
                  obtain ⟨e4453, r4454⟩ := i_add (lo := 1) (hi := 20) z4451 r4431 (R_eq z4452) rfl
                  have hl : lv_has ls 4 [(2, .int v4449), (0, .ref (G.2.2.2.1 131)), (1, .int a0)] := hl
                  refine r_goto (tgt := 56) S dX12_fits_83 (by decide) ?_
                  exact ih445 _ _ _ v4449 X4439 (R_of r4454 rfl) (lv_sub hl [1, 2, 0] rfl) (by omega)
                ·
                  have r4455 : R (0) (0) v4441 := ⟨by omega, by omega⟩
                  refine r_iconst S dX12_fits_78 (by decide) (fun v4456 z4457 => ?_)
                  have r4458 := R_eq z4457
                  exact r_ret S hr hlk X4439 ⟨q15, F18, (by rw [z20]; exact R_of q17 rfl)⟩ rfl dX12_fits_79
          exact L444 _ _ _ _ v89 X61 (R_of r91 rfl) (lv_sub hl [1, 2, 0] rfl) (Nat.lt_succ_self _)
        ·
          have r4459 : R (1) (1) v79 := ⟨by omega, by omega⟩
          refine r_iconst S dX12_fits_52 (by decide) (fun v4460 z4461 => ?_)
          have r4462 := R_eq z4461
          exact r_ret S hr hlk X61 ⟨q15, F18, (by rw [z20]; exact R_of q17 rfl)⟩ rfl dX12_fits_53
