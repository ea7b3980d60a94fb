def po_X11_bit (τ : Tau)  (a0 a1 : Int32) (r : Int32) (u : Tau) : Prop := u = τ ∧ R (0) (1) r
set_option maxHeartbeats 4000000 in
set_option maxRecDepth 100000 in
theorem c_X11_bit (l : Launch) (G : Gx) (τ : Tau) (hI : Inv τ) (a0 a1 : Int32) (h_a0 : R (-2147483648) (2147483647) a0) (h_a1 : R (-2147483648) (2147483647) a1) : Ci l G yX11_bit cX11_bit 2 (some .int) 0 0 [.int a0, .int a1] τ (po_X11_bit τ  a0 a1) := by
  unfold Ci
  refine C_of (own := RX11) (by decide) rfl (Nat.le_of_ble_eq_true rfl) ?_
  intro p e s m below meth c ls S hr hlk X hl
  have hl : lv_has ls 2 [(0, .int a0), (1, .int a1)] := hl
  refine r_iload_n S dX11_bit_0 rfl (lv_at hl 0 rfl) ?_
  refine r_iload_n S dX11_bit_1 rfl (lv_at hl 1 rfl) ?_
  refine r_ishr S dX11_bit_2 (fun v1 z2 => ?_)
  refine r_iconst S dX11_bit_3 (by decide) (fun v3 z4 => ?_)
  have r5 := R_eq z4
  refine r_iand S dX11_bit_4 (fun v6 z7 => ?_)
  have r9 : R (0) (1) v6 := i_and2 z7 (R_any v1) r5 rfl
  exact r_ret S hr hlk X ⟨rfl, r9⟩ rfl dX11_bit_5
def po_X2_everyone (τ : Tau) (k : Nat)  (r : Int32) (u : Tau) : Prop := u = τ ∧ R (0) (1023) r
set_option maxHeartbeats 4000000 in
set_option maxRecDepth 100000 in
theorem c_X2_everyone (l : Launch) (G : Gx) (τ : Tau) (hI : Inv τ) (k : Nat) (hk_k : k < NC) (hkd_k : kd k = 4) : Ci l G yX2_everyone cX2_everyone 1 (some .int) 0 0 [.ref (G.2.2.2.1 k)] τ (po_X2_everyone τ k ) := by
  unfold Ci
  refine C_of (own := RX2) (by decide) rfl (Nat.le_of_ble_eq_true rfl) ?_
  intro p e s m below meth c ls S hr hlk X hl
  have hl : lv_has ls 1 [(0, .ref (G.2.2.2.1 k))] := hl
  refine r_iconst S dX2_everyone_0 (by decide) (fun v1 z2 => ?_)
  have r3 := R_eq z2
  refine r_aload_n S dX2_everyone_1 rfl (lv_at hl 0 rfl) ?_
  refine r_getn (K := 4) S X hk_k hkd_k lk2_44_2 (fun _ => ⟨_, rfl, rfl⟩) dX2_everyone_2 (fun v4 z5 => ?_)
  have r6 : R (0) (10) v4 := rd hI hkd_k z5
  refine r_ishl S dX2_everyone_5 (fun v7 z8 => ?_)
  have r10 : R (1) (1024) v7 := i_shl z8 r3 r6 rfl
  refine r_iconst S dX2_everyone_6 (by decide) (fun v11 z12 => ?_)
  have r13 := R_eq z12
  refine r_isub S dX2_everyone_7 (fun v14 z15 => ?_)
  obtain ⟨e16, r17⟩ := i_sub (lo := 0) (hi := 1023) z15 r10 r13 rfl
  exact r_ret S hr hlk X ⟨rfl, r17⟩ rfl dX2_everyone_8
def po_X10_hasMan (τ : Tau)  (a0 : Int32) (r : Int32) (u : Tau) : Prop := u = τ ∧ R (0) (1) r ∧ (r.toInt = 1 → R (0) (9) a0)
set_option maxHeartbeats 4000000 in
set_option maxRecDepth 100000 in
theorem c_X10_hasMan (l : Launch) (G : Gx) (τ : Tau) (hI : Inv τ) (a0 : Int32) (h_a0 : R (-2147483648) (2147483647) a0) : Ci l G yX10_hasMan cX10_hasMan 2 (some .boolean) 0 0 [.ref (G.2.2.2.1 22), .int a0] τ (po_X10_hasMan τ  a0) := by
  unfold Ci
  refine C_of (own := RX10) (by decide) rfl (Nat.le_of_ble_eq_true rfl) ?_
  intro p e s m below meth c ls S hr hlk X hl
  have hl : lv_has ls 2 [(0, .ref (G.2.2.2.1 22)), (1, .int a0)] := hl
  refine r_iload_n S dX10_hasMan_0 rfl (lv_at hl 1 rfl) ?_
  refine r_if_lt (tgt := 19) S dX10_hasMan_1 (by decide) (fun c1 => ?_) (fun c1 => ?_)
  ·
    have r2 : R (-2147483648) (-1) a0 := ⟨by omega, by omega⟩
    refine r_iconst S dX10_hasMan_19 (by decide) (fun v3 z4 => ?_)
    have r5 := R_eq z4
    exact r_ret S hr hlk X ⟨rfl, (R_of r5 rfl), (fun h => by exfalso; omega)⟩ (nr_bool (R_of (lo := 0) (hi := 1) r5 rfl)) dX10_hasMan_20
  ·
    have r6 : R (0) (2147483647) a0 := ⟨by omega, by omega⟩
    refine r_iload_n S dX10_hasMan_4 rfl (lv_at hl 1 rfl) ?_
    refine r_aload_n S dX10_hasMan_5 rfl (lv_at hl 0 rfl) ?_
    refine r_get (K := 22) (v := .ref (G.2.2.2.1 23)) S X (Nat.le_of_ble_eq_true rfl) rfl lk10_12_8 (fun _ => ⟨_, rfl, rfl⟩) dX10_hasMan_6 ?_
    refine r_getn (K := 4) S X (Nat.le_of_ble_eq_true rfl) rfl lk10_49_2 (fun _ => ⟨_, rfl, rfl⟩) dX10_hasMan_9 (fun v7 z8 => ?_)
    have r9 : R (0) (10) v7 := rd hI rfl z8
    refine r_icmp_ge (tgt := 19) S dX10_hasMan_12 (by decide) (fun c10 => ?_) (fun c10 => ?_)
    ·
      refine r_iconst S dX10_hasMan_19 (by decide) (fun v11 z12 => ?_)
      have r13 := R_eq z12
      exact r_ret S hr hlk X ⟨rfl, (R_of r13 rfl), (fun h => by exfalso; omega)⟩ (nr_bool (R_of (lo := 0) (hi := 1) r13 rfl)) dX10_hasMan_20
    ·
      have r14 : R (0) (9) a0 := ⟨by omega, by omega⟩
      have r15 : R (1) (10) v7 := ⟨by omega, by omega⟩
      refine r_iconst S dX10_hasMan_15 (by decide) (fun v16 z17 => ?_)
      have r18 := R_eq z17
      refine r_goto (tgt := 20) S dX10_hasMan_16 (by decide) ?_
      exact r_ret S hr hlk X ⟨rfl, (R_of r18 rfl), (fun h => ⟨by omega, by omega⟩)⟩ (nr_bool (R_of (lo := 0) (hi := 1) r18 rfl)) dX10_hasMan_20
def po_X10_hasAsk (τ : Tau)  (a0 : Int32) (r : Int32) (u : Tau) : Prop := u = τ ∧ R (0) (1) r ∧ (r.toInt = 1 → R (0) (8) a0)
set_option maxHeartbeats 4000000 in
set_option maxRecDepth 100000 in
theorem c_X10_hasAsk (l : Launch) (G : Gx) (τ : Tau) (hI : Inv τ) (a0 : Int32) (h_a0 : R (-2147483648) (2147483647) a0) : Ci l G yX10_hasAsk cX10_hasAsk 2 (some .boolean) 0 0 [.ref (G.2.2.2.1 22), .int a0] τ (po_X10_hasAsk τ  a0) := by
  unfold Ci
  refine C_of (own := RX10) (by decide) rfl (Nat.le_of_ble_eq_true rfl) ?_
  intro p e s m below meth c ls S hr hlk X hl
  have hl : lv_has ls 2 [(0, .ref (G.2.2.2.1 22)), (1, .int a0)] := hl
  refine r_iload_n S dX10_hasAsk_0 rfl (lv_at hl 1 rfl) ?_
  refine r_if_lt (tgt := 19) S dX10_hasAsk_1 (by decide) (fun c1 => ?_) (fun c1 => ?_)
  ·
    have r2 : R (-2147483648) (-1) a0 := ⟨by omega, by omega⟩
    refine r_iconst S dX10_hasAsk_19 (by decide) (fun v3 z4 => ?_)
    have r5 := R_eq z4
    exact r_ret S hr hlk X ⟨rfl, (R_of r5 rfl), (fun h => by exfalso; omega)⟩ (nr_bool (R_of (lo := 0) (hi := 1) r5 rfl)) dX10_hasAsk_20
  ·
    have r6 : R (0) (2147483647) a0 := ⟨by omega, by omega⟩
    refine r_iload_n S dX10_hasAsk_4 rfl (lv_at hl 1 rfl) ?_
    refine r_aload_n S dX10_hasAsk_5 rfl (lv_at hl 0 rfl) ?_
    refine r_get (K := 22) (v := .ref (G.2.2.2.1 23)) S X (Nat.le_of_ble_eq_true rfl) rfl lk10_12_8 (fun _ => ⟨_, rfl, rfl⟩) dX10_hasAsk_6 ?_
    refine r_getn (K := 4) S X (Nat.le_of_ble_eq_true rfl) rfl lk10_52_2 (fun _ => ⟨_, rfl, rfl⟩) dX10_hasAsk_9 (fun v7 z8 => ?_)
    have r9 : R (0) (9) v7 := rd hI rfl z8
    refine r_icmp_ge (tgt := 19) S dX10_hasAsk_12 (by decide) (fun c10 => ?_) (fun c10 => ?_)
    ·
      refine r_iconst S dX10_hasAsk_19 (by decide) (fun v11 z12 => ?_)
      have r13 := R_eq z12
      exact r_ret S hr hlk X ⟨rfl, (R_of r13 rfl), (fun h => by exfalso; omega)⟩ (nr_bool (R_of (lo := 0) (hi := 1) r13 rfl)) dX10_hasAsk_20
    ·
      have r14 : R (0) (8) a0 := ⟨by omega, by omega⟩
      have r15 : R (1) (9) v7 := ⟨by omega, by omega⟩
      refine r_iconst S dX10_hasAsk_15 (by decide) (fun v16 z17 => ?_)
      have r18 := R_eq z17
      refine r_goto (tgt := 20) S dX10_hasAsk_16 (by decide) ?_
      exact r_ret S hr hlk X ⟨rfl, (R_of r18 rfl), (fun h => ⟨by omega, by omega⟩)⟩ (nr_bool (R_of (lo := 0) (hi := 1) r18 rfl)) dX10_hasAsk_20
def po_X10_isLevel (τ : Tau)  (a0 : Int32) (r : Int32) (u : Tau) : Prop := u = τ ∧ R (0) (1) r
set_option maxHeartbeats 4000000 in
set_option maxRecDepth 100000 in
theorem c_X10_isLevel (l : Launch) (G : Gx) (τ : Tau) (hI : Inv τ) (a0 : Int32) (h_a0 : R (-2147483648) (2147483647) a0) : Ci l G yX10_isLevel cX10_isLevel 2 (some .boolean) 0 0 [.ref (G.2.2.2.1 22), .int a0] τ (po_X10_isLevel τ  a0) := by
  unfold Ci
  refine C_of (own := RX10) (by decide) rfl (Nat.le_of_ble_eq_true rfl) ?_
  intro p e s m below meth c ls S hr hlk X hl
  have hl : lv_has ls 2 [(0, .ref (G.2.2.2.1 22)), (1, .int a0)] := hl
  refine r_iload_n S dX10_isLevel_0 rfl (lv_at hl 1 rfl) ?_
  refine r_aload_n S dX10_isLevel_1 rfl (lv_at hl 0 rfl) ?_
  refine r_get (K := 22) (v := .ref (G.2.2.2.1 23)) S X (Nat.le_of_ble_eq_true rfl) rfl lk10_12_8 (fun _ => ⟨_, rfl, rfl⟩) dX10_isLevel_2 ?_
  refine r_getn (K := 4) S X (Nat.le_of_ble_eq_true rfl) rfl lk10_97_2 (fun _ => ⟨_, rfl, rfl⟩) dX10_isLevel_5 (fun v1 z2 => ?_)
  have r3 : R (0) (9) v1 := rd hI rfl z2
  refine r_icmp_gt (tgt := 27) S dX10_isLevel_8 (by decide) (fun c4 => ?_) (fun c4 => ?_)
  ·
    have r5 : R (1) (2147483647) a0 := ⟨by omega, by omega⟩
    refine r_iconst S dX10_isLevel_27 (by decide) (fun v6 z7 => ?_)
    have r8 := R_eq z7
    exact r_ret S hr hlk X ⟨rfl, (R_of r8 rfl)⟩ (nr_bool (R_of (lo := 0) (hi := 1) r8 rfl)) dX10_isLevel_28
  ·
    have r9 : R (-2147483648) (9) a0 := ⟨by omega, by omega⟩
    refine r_iload_n S dX10_isLevel_11 rfl (lv_at hl 1 rfl) ?_
    refine r_aload_n S dX10_isLevel_12 rfl (lv_at hl 0 rfl) ?_
    refine r_get (K := 22) (v := .ref (G.2.2.2.1 23)) S X (Nat.le_of_ble_eq_true rfl) rfl lk10_12_8 (fun _ => ⟨_, rfl, rfl⟩) dX10_isLevel_13 ?_
    refine r_geti (K := 4) S X (Nat.le_of_ble_eq_true rfl) rfl lk10_97_2 (fun _ => ⟨_, rfl, rfl⟩) z2 dX10_isLevel_16 ?_
    refine r_ineg S dX10_isLevel_19 (fun v10 z11 => ?_)
    obtain ⟨e12, r13⟩ := i_neg (lo := -9) (hi := 0) z11 r3 rfl
    refine r_icmp_lt (tgt := 27) S dX10_isLevel_20 (by decide) (fun c14 => ?_) (fun c14 => ?_)
    ·
      have r15 : R (-2147483648) (-1) a0 := ⟨by omega, by omega⟩
      refine r_iconst S dX10_isLevel_27 (by decide) (fun v16 z17 => ?_)
      have r18 := R_eq z17
      exact r_ret S hr hlk X ⟨rfl, (R_of r18 rfl)⟩ (nr_bool (R_of (lo := 0) (hi := 1) r18 rfl)) dX10_isLevel_28
    ·
      have r19 : R (-9) (9) a0 := ⟨by omega, by omega⟩
      refine r_iconst S dX10_isLevel_23 (by decide) (fun v20 z21 => ?_)
      have r22 := R_eq z21
      refine r_goto (tgt := 28) S dX10_isLevel_24 (by decide) ?_
      exact r_ret S hr hlk X ⟨rfl, (R_of r22 rfl)⟩ (nr_bool (R_of (lo := 0) (hi := 1) r22 rfl)) dX10_isLevel_28
def po_X10_here (τ : Tau)   (r : Int32) (u : Tau) : Prop := u = τ ∧ R (0) (1023) r
set_option maxHeartbeats 4000000 in
set_option maxRecDepth 100000 in
theorem c_X10_here (l : Launch) (G : Gx) (τ : Tau) (hI : Inv τ) : Ci l G yX10_here cX10_here 1 (some .int) 1 20 [.ref (G.2.2.2.1 22)] τ (po_X10_here τ  ) := by
  unfold Ci
  refine C_of (own := RX10) (by decide) rfl (Nat.le_of_ble_eq_true rfl) ?_
  intro p e s m below meth c ls S hr hlk X hl
  have hl : lv_has ls 1 [(0, .ref (G.2.2.2.1 22))] := hl
  refine r_aload_n S dX10_here_0 rfl (lv_at hl 0 rfl) ?_
  refine r_get (K := 22) (v := .ref (G.2.2.2.1 30)) S X (Nat.le_of_ble_eq_true rfl) rfl lk10_21_8 (fun _ => ⟨_, rfl, rfl⟩) dX10_here_1 ?_
  refine r_getn (K := 23) S X (Nat.le_of_ble_eq_true rfl) rfl lk10_59_3 (fun _ => ⟨_, rfl, rfl⟩) dX10_here_4 (fun v1 z2 => ?_)
  have r3 : R (0) (1) v1 := rd hI rfl z2
  refine r_iconst S dX10_here_7 (by decide) (fun v4 z5 => ?_)
  have r6 := R_eq z5
  refine r_icmp_ne (tgt := 21) S dX10_here_8 (by decide) (fun c7 => ?_) (fun c7 => ?_)
  ·
    have r8 : R (0) (0) v1 := ⟨by omega, by omega⟩
    refine r_aload_n S dX10_here_21 rfl (lv_at hl 0 rfl) ?_
    refine r_get (K := 22) (v := .ref (G.2.2.2.1 23)) S X (Nat.le_of_ble_eq_true rfl) rfl lk10_12_8 (fun _ => ⟨_, rfl, rfl⟩) dX10_here_22 ?_
    refine r_ki (q_V (As := []) (rest := []) (K := 4) (ci := 2) S X (c_X2_everyone l G τ hI 23 (Nat.le_of_ble_eq_true rfl) rfl) ck10_55 (Nat.le_of_ble_eq_true rfl) rfl (fun _ => ⟨_, rfl⟩) ⟨_, _, rfl⟩ ⟨Nat.le_of_ble_eq_true rfl, Nat.le_of_ble_eq_true rfl⟩ rfl hl.1 rfl (Nat.le_of_ble_eq_true rfl) dX10_here_25 ⟨Nat.le_refl 0, Nat.le_refl 0⟩) X (fun v12 t11 H lc q9 X10 => ?_)
    unfold po_X2_everyone at q9
    obtain ⟨q13, q14⟩ := q9
    rw [q13] at X10
    refine r_aload_n S dX10_here_28 rfl (lv_at hl 0 rfl) ?_
    refine r_get (K := 22) (v := .ref (G.2.2.2.1 30)) S X10 (Nat.le_of_ble_eq_true rfl) rfl lk10_21_8 (fun _ => ⟨_, rfl, rfl⟩) dX10_here_29 ?_
    refine r_getn (K := 23) S X10 (Nat.le_of_ble_eq_true rfl) rfl lk10_62_3 (fun _ => ⟨_, rfl, rfl⟩) dX10_here_32 (fun v15 z16 => ?_)
    have r17 : R (0) (1023) v15 := rd hI rfl z16
    refine r_iconst S dX10_here_35 (by decide) (fun v18 z19 => ?_)
    have r20 := R_eq z19
    refine r_ixor S dX10_here_36 (fun v21 z22 => ?_)
    refine r_iand S dX10_here_37 (fun v23 z24 => ?_)
    have r26 : R (0) (1023) v23 := i_and1 z24 q14 (R_any v21) rfl
    exact r_ret S hr hlk X10 ⟨rfl, r26⟩ rfl dX10_here_38
  ·
    have r27 : R (1) (1) v1 := ⟨by omega, by omega⟩
    refine r_aload_n S dX10_here_11 rfl (lv_at hl 0 rfl) ?_
    refine r_get (K := 22) (v := .ref (G.2.2.2.1 30)) S X (Nat.le_of_ble_eq_true rfl) rfl lk10_21_8 (fun _ => ⟨_, rfl, rfl⟩) dX10_here_12 ?_
    refine r_getn (K := 23) S X (Nat.le_of_ble_eq_true rfl) rfl lk10_62_3 (fun _ => ⟨_, rfl, rfl⟩) dX10_here_15 (fun v28 z29 => ?_)
    have r30 : R (0) (1023) v28 := rd hI rfl z29
    refine r_goto (tgt := 38) S dX10_here_18 (by decide) ?_
    exact r_ret S hr hlk X ⟨rfl, r30⟩ rfl dX10_here_38
def po_X7_addNumber (τ : Tau)  (a0 : Int32) (u : Tau) : Prop := Inv u ∧ Fr [(1, 1)] [2] τ u
set_option maxHeartbeats 4000000 in
set_option maxRecDepth 100000 in
theorem c_X7_addNumber (l : Launch) (G : Gx) (τ : Tau) (hI : Inv τ) (a0 : Int32) (h_a0 : R (-2147483648) (2147483647) a0) : Cv l G yX7_addNumber cX7_addNumber 3 0 0 [.ref (G.2.2.2.1 1), .int a0] τ (po_X7_addNumber τ  a0) := by
  unfold Cv
  refine C_of (own := RX7) (by decide) rfl (Nat.le_of_ble_eq_true rfl) ?_
  intro p e s m below meth c ls S hr hlk X hl
  have hl : lv_has ls 3 [(0, .ref (G.2.2.2.1 1)), (1, .int a0)] := hl
  refine r_aload_n S dX7_addNumber_0 rfl (lv_at hl 0 rfl) ?_
  refine r_getn (K := 1) S X (Nat.le_of_ble_eq_true rfl) rfl lk7_15_7 (fun _ => ⟨_, rfl, rfl⟩) dX7_addNumber_1 (fun v1 z2 => ?_)
  have r3 : R (0) (940) v1 := rd hI rfl z2
  refine r_iconst S dX7_addNumber_4 (by decide) (fun v4 z5 => ?_)
  have r6 := R_eq z5
  refine r_iadd S dX7_addNumber_5 (fun v7 z8 => ?_)
  obtain ⟨e9, r10⟩ := i_add (lo := 4) (hi := 944) z8 r3 r6 rfl
  refine r_sipush S dX7_addNumber_6 (by decide) (fun v11 z12 => ?_)
  have r13 := R_eq z12
  refine r_icmp_le (tgt := 13) S dX7_addNumber_9 (by decide) (fun c14 => ?_) (fun c14 => ?_)
  ·
    have r15 : R (4) (940) v7 := ⟨by omega, by omega⟩
    refine r_bipush S dX7_addNumber_13 (by decide) (fun v16 z17 => ?_)
    have r18 := R_eq z17
    refine r_istore_n (lv' := [(2, .int v16), (0, .ref (G.2.2.2.1 1)), (1, .int a0)]) S dX7_addNumber_15 rfl hl (by decide) rfl (fun ls hl => ?_)
    refine r_iload_n S dX7_addNumber_16 rfl (lv_at hl 0 rfl) ?_
    refine r_if_lt (tgt := 52) S dX7_addNumber_17 (by decide) (fun c19 => ?_) (fun c19 => ?_)
    ·
      exfalso; omega
    ·
      refine r_aload_n S dX7_addNumber_20 rfl (lv_at hl 1 rfl) ?_
      refine r_get (K := 1) (v := .ref (G.2.2.2.1 2)) S X (Nat.le_of_ble_eq_true rfl) rfl lk7_9_7 (fun _ => ⟨_, rfl, rfl⟩) dX7_addNumber_21 ?_
      refine r_aload_n S dX7_addNumber_24 rfl (lv_at hl 1 rfl) ?_
      refine r_geti (K := 1) S X (Nat.le_of_ble_eq_true rfl) rfl lk7_15_7 (fun _ => ⟨_, rfl, rfl⟩) z2 dX7_addNumber_25 ?_
      refine r_iload_n S dX7_addNumber_28 rfl (lv_at hl 2 rfl) ?_
      refine r_iload_n S dX7_addNumber_29 rfl (lv_at hl 0 rfl) ?_
      refine r_iushr S dX7_addNumber_30 (fun v20 z21 => ?_)
      have r23 : R (0) (255) v20 := i_ushrc z21 h_a0 r18 rfl
      refine r_sipush S dX7_addNumber_31 (by decide) (fun v24 z25 => ?_)
      have r26 := R_eq z25
      refine r_iand S dX7_addNumber_34 (fun v27 z28 => ?_)
      have r30 : R (0) (255) v27 := i_and1 z28 r23 r26 rfl
      refine r_ast (n := 940) (K := 2) S X (Nat.le_of_ble_eq_true rfl) rfl (fun _ _ => rfl) (by omega) dX7_addNumber_35 (fun t31 H lc M32 X33 => ?_)
      have I34 := Inv_mu hI M32 (show Rg (kd 2) _ v27 from (R_of (lo := 0) (hi := 255) r30 rfl))
      have F35 : Fr [(1, 1)] [2] τ t31 := Fr_cell Fr_rfl M32 (by decide)
      refine r_aload_n S dX7_addNumber_36 rfl (lv_at hl 1 rfl) ?_
      refine r_dup S dX7_addNumber_37 rfl ?_
      refine r_geti (K := 1) S X33 (Nat.le_of_ble_eq_true rfl) rfl lk7_15_7 (fun _ => ⟨_, rfl, rfl⟩) ((M32.2 _ _ (Or.inl (by decide))).trans z2) dX7_addNumber_38 ?_
      refine r_iconst S dX7_addNumber_41 (by decide) (fun v36 z37 => ?_)
      have r38 := R_eq z37
      refine r_iadd S dX7_addNumber_42 (fun v39 z40 => ?_)
      obtain ⟨e41, r42⟩ := i_add (lo := 1) (hi := 941) z40 r3 r38 rfl
      refine r_put (K := 1) (ty := .int) S X33 (Nat.le_of_ble_eq_true rfl) rfl lk7_15_7 (fun _ => ⟨_, rfl, Nat.le_of_ble_eq_true rfl, rfl⟩) (fun _ _ _ h => by cases h; exact ⟨rfl, rfl⟩) rfl rfl dX7_addNumber_43 (fun t43 H lc M44 X45 => ?_)
      have I46 := Inv_mu I34 M44 (show Rg (kd 1) 1 v39 from (show R (0) (940) v39 from ⟨by omega, by omega⟩))
      have F47 : Fr [(1, 1)] [2] τ t43 := Fr_mu F35 M44 (by decide)
      have r48 : R (1) (940) v39 := ⟨by omega, by omega⟩
      refine r_iinc (k := 0) S dX7_addNumber_46 hl rfl (by decide) (by decide) (fun v49 d50 ls z51 z52 hl => ?_)
      obtain ⟨e53, r54⟩ := i_add (lo := 16) (hi := 16) z51 r18 (R_eq z52) rfl
      have hl : lv_has ls 3 [(2, .int v49), (0, .ref (G.2.2.2.1 1)), (1, .int a0)] := hl
      refine r_goto (tgt := 16) S dX7_addNumber_49 (by decide) ?_
      refine r_iload_n S dX7_addNumber_16 rfl (lv_at hl 0 rfl) ?_
      refine r_if_lt (tgt := 52) S dX7_addNumber_17 (by decide) (fun c55 => ?_) (fun c55 => ?_)
      ·
        exfalso; omega
      ·
        refine r_aload_n S dX7_addNumber_20 rfl (lv_at hl 1 rfl) ?_
        refine r_get (K := 1) (v := .ref (G.2.2.2.1 2)) S X45 (Nat.le_of_ble_eq_true rfl) rfl lk7_9_7 (fun _ => ⟨_, rfl, rfl⟩) dX7_addNumber_21 ?_
        refine r_aload_n S dX7_addNumber_24 rfl (lv_at hl 1 rfl) ?_
        refine r_geti (K := 1) S X45 (Nat.le_of_ble_eq_true rfl) rfl lk7_15_7 (fun _ => ⟨_, rfl, rfl⟩) M44.1 dX7_addNumber_25 ?_
        refine r_iload_n S dX7_addNumber_28 rfl (lv_at hl 2 rfl) ?_
        refine r_iload_n S dX7_addNumber_29 rfl (lv_at hl 0 rfl) ?_
        refine r_iushr S dX7_addNumber_30 (fun v56 z57 => ?_)
        have r59 : R (0) (65535) v56 := i_ushrc z57 h_a0 r54 rfl
        refine r_sipush S dX7_addNumber_31 (by decide) (fun v60 z61 => ?_)
        have r62 := R_eq z61
        refine r_iand S dX7_addNumber_34 (fun v63 z64 => ?_)
        have r66 : R (0) (255) v63 := i_and2 z64 r59 r62 rfl
        refine r_ast (n := 940) (K := 2) S X45 (Nat.le_of_ble_eq_true rfl) rfl (fun _ _ => rfl) (by omega) dX7_addNumber_35 (fun t67 H lc M68 X69 => ?_)
        have I70 := Inv_mu I46 M68 (show Rg (kd 2) _ v63 from (R_of (lo := 0) (hi := 255) r66 rfl))
        have F71 : Fr [(1, 1)] [2] τ t67 := Fr_cell F47 M68 (by decide)
        refine r_aload_n S dX7_addNumber_36 rfl (lv_at hl 1 rfl) ?_
        refine r_dup S dX7_addNumber_37 rfl ?_
        refine r_geti (K := 1) S X69 (Nat.le_of_ble_eq_true rfl) rfl lk7_15_7 (fun _ => ⟨_, rfl, rfl⟩) ((M68.2 _ _ (Or.inl (by decide))).trans M44.1) dX7_addNumber_38 ?_
        refine r_iconst S dX7_addNumber_41 (by decide) (fun v72 z73 => ?_)
        have r74 := R_eq z73
        refine r_iadd S dX7_addNumber_42 (fun v75 z76 => ?_)
        obtain ⟨e77, r78⟩ := i_add (lo := 2) (hi := 941) z76 r48 r74 rfl
        refine r_put (K := 1) (ty := .int) S X69 (Nat.le_of_ble_eq_true rfl) rfl lk7_15_7 (fun _ => ⟨_, rfl, Nat.le_of_ble_eq_true rfl, rfl⟩) (fun _ _ _ h => by cases h; exact ⟨rfl, rfl⟩) rfl rfl dX7_addNumber_43 (fun t79 H lc M80 X81 => ?_)
        have I82 := Inv_mu I70 M80 (show Rg (kd 1) 1 v75 from (show R (0) (940) v75 from ⟨by omega, by omega⟩))
        have F83 : Fr [(1, 1)] [2] τ t79 := Fr_mu F71 M80 (by decide)
        have r84 : R (2) (940) v75 := ⟨by omega, by omega⟩
        refine r_iinc (k := 0) S dX7_addNumber_46 hl rfl (by decide) (by decide) (fun v85 d86 ls z87 z88 hl => ?_)
        obtain ⟨e89, r90⟩ := i_add (lo := 8) (hi := 8) z87 r54 (R_eq z88) rfl
        have hl : lv_has ls 3 [(2, .int v85), (0, .ref (G.2.2.2.1 1)), (1, .int a0)] := hl
        refine r_goto (tgt := 16) S dX7_addNumber_49 (by decide) ?_
        refine r_iload_n S dX7_addNumber_16 rfl (lv_at hl 0 rfl) ?_
        refine r_if_lt (tgt := 52) S dX7_addNumber_17 (by decide) (fun c91 => ?_) (fun c91 => ?_)
        ·
          exfalso; omega
        ·
          refine r_aload_n S dX7_addNumber_20 rfl (lv_at hl 1 rfl) ?_
          refine r_get (K := 1) (v := .ref (G.2.2.2.1 2)) S X81 (Nat.le_of_ble_eq_true rfl) rfl lk7_9_7 (fun _ => ⟨_, rfl, rfl⟩) dX7_addNumber_21 ?_
          refine r_aload_n S dX7_addNumber_24 rfl (lv_at hl 1 rfl) ?_
          refine r_geti (K := 1) S X81 (Nat.le_of_ble_eq_true rfl) rfl lk7_15_7 (fun _ => ⟨_, rfl, rfl⟩) M80.1 dX7_addNumber_25 ?_
          refine r_iload_n S dX7_addNumber_28 rfl (lv_at hl 2 rfl) ?_
          refine r_iload_n S dX7_addNumber_29 rfl (lv_at hl 0 rfl) ?_
          refine r_iushr S dX7_addNumber_30 (fun v92 z93 => ?_)
          have r95 : R (0) (16777215) v92 := i_ushrc z93 h_a0 r90 rfl
          refine r_sipush S dX7_addNumber_31 (by decide) (fun v96 z97 => ?_)
          have r98 := R_eq z97
          refine r_iand S dX7_addNumber_34 (fun v99 z100 => ?_)
          have r102 : R (0) (255) v99 := i_and2 z100 r95 r98 rfl
          refine r_ast (n := 940) (K := 2) S X81 (Nat.le_of_ble_eq_true rfl) rfl (fun _ _ => rfl) (by omega) dX7_addNumber_35 (fun t103 H lc M104 X105 => ?_)
          have I106 := Inv_mu I82 M104 (show Rg (kd 2) _ v99 from (R_of (lo := 0) (hi := 255) r102 rfl))
          have F107 : Fr [(1, 1)] [2] τ t103 := Fr_cell F83 M104 (by decide)
          refine r_aload_n S dX7_addNumber_36 rfl (lv_at hl 1 rfl) ?_
          refine r_dup S dX7_addNumber_37 rfl ?_
          refine r_geti (K := 1) S X105 (Nat.le_of_ble_eq_true rfl) rfl lk7_15_7 (fun _ => ⟨_, rfl, rfl⟩) ((M104.2 _ _ (Or.inl (by decide))).trans M80.1) dX7_addNumber_38 ?_
          refine r_iconst S dX7_addNumber_41 (by decide) (fun v108 z109 => ?_)
          have r110 := R_eq z109
          refine r_iadd S dX7_addNumber_42 (fun v111 z112 => ?_)
          obtain ⟨e113, r114⟩ := i_add (lo := 3) (hi := 941) z112 r84 r110 rfl
          refine r_put (K := 1) (ty := .int) S X105 (Nat.le_of_ble_eq_true rfl) rfl lk7_15_7 (fun _ => ⟨_, rfl, Nat.le_of_ble_eq_true rfl, rfl⟩) (fun _ _ _ h => by cases h; exact ⟨rfl, rfl⟩) rfl rfl dX7_addNumber_43 (fun t115 H lc M116 X117 => ?_)
          have I118 := Inv_mu I106 M116 (show Rg (kd 1) 1 v111 from (show R (0) (940) v111 from ⟨by omega, by omega⟩))
          have F119 : Fr [(1, 1)] [2] τ t115 := Fr_mu F107 M116 (by decide)
          have r120 : R (3) (940) v111 := ⟨by omega, by omega⟩
          refine r_iinc (k := 0) S dX7_addNumber_46 hl rfl (by decide) (by decide) (fun v121 d122 ls z123 z124 hl => ?_)
          obtain ⟨e125, r126⟩ := i_add (lo := 0) (hi := 0) z123 r90 (R_eq z124) rfl
          have hl : lv_has ls 3 [(2, .int v121), (0, .ref (G.2.2.2.1 1)), (1, .int a0)] := hl
          refine r_goto (tgt := 16) S dX7_addNumber_49 (by decide) ?_
          refine r_iload_n S dX7_addNumber_16 rfl (lv_at hl 0 rfl) ?_
          refine r_if_lt (tgt := 52) S dX7_addNumber_17 (by decide) (fun c127 => ?_) (fun c127 => ?_)
          ·
            exfalso; omega
          ·
            refine r_aload_n S dX7_addNumber_20 rfl (lv_at hl 1 rfl) ?_
            refine r_get (K := 1) (v := .ref (G.2.2.2.1 2)) S X117 (Nat.le_of_ble_eq_true rfl) rfl lk7_9_7 (fun _ => ⟨_, rfl, rfl⟩) dX7_addNumber_21 ?_
            refine r_aload_n S dX7_addNumber_24 rfl (lv_at hl 1 rfl) ?_
            refine r_geti (K := 1) S X117 (Nat.le_of_ble_eq_true rfl) rfl lk7_15_7 (fun _ => ⟨_, rfl, rfl⟩) M116.1 dX7_addNumber_25 ?_
            refine r_iload_n S dX7_addNumber_28 rfl (lv_at hl 2 rfl) ?_
            refine r_iload_n S dX7_addNumber_29 rfl (lv_at hl 0 rfl) ?_
            refine r_iushr S dX7_addNumber_30 (fun v128 z129 => ?_)
            refine r_sipush S dX7_addNumber_31 (by decide) (fun v130 z131 => ?_)
            have r132 := R_eq z131
            refine r_iand S dX7_addNumber_34 (fun v133 z134 => ?_)
            have r136 : R (0) (255) v133 := i_and2 z134 (R_any v128) r132 rfl
            refine r_ast (n := 940) (K := 2) S X117 (Nat.le_of_ble_eq_true rfl) rfl (fun _ _ => rfl) (by omega) dX7_addNumber_35 (fun t137 H lc M138 X139 => ?_)
            have I140 := Inv_mu I118 M138 (show Rg (kd 2) _ v133 from (R_of (lo := 0) (hi := 255) r136 rfl))
            have F141 : Fr [(1, 1)] [2] τ t137 := Fr_cell F119 M138 (by decide)
            refine r_aload_n S dX7_addNumber_36 rfl (lv_at hl 1 rfl) ?_
            refine r_dup S dX7_addNumber_37 rfl ?_
            refine r_geti (K := 1) S X139 (Nat.le_of_ble_eq_true rfl) rfl lk7_15_7 (fun _ => ⟨_, rfl, rfl⟩) ((M138.2 _ _ (Or.inl (by decide))).trans M116.1) dX7_addNumber_38 ?_
            refine r_iconst S dX7_addNumber_41 (by decide) (fun v142 z143 => ?_)
            have r144 := R_eq z143
            refine r_iadd S dX7_addNumber_42 (fun v145 z146 => ?_)
            obtain ⟨e147, r148⟩ := i_add (lo := 4) (hi := 941) z146 r120 r144 rfl
            refine r_put (K := 1) (ty := .int) S X139 (Nat.le_of_ble_eq_true rfl) rfl lk7_15_7 (fun _ => ⟨_, rfl, Nat.le_of_ble_eq_true rfl, rfl⟩) (fun _ _ _ h => by cases h; exact ⟨rfl, rfl⟩) rfl rfl dX7_addNumber_43 (fun t149 H lc M150 X151 => ?_)
            have I152 := Inv_mu I140 M150 (show Rg (kd 1) 1 v145 from (show R (0) (940) v145 from ⟨by omega, by omega⟩))
            have F153 : Fr [(1, 1)] [2] τ t149 := Fr_mu F141 M150 (by decide)
            have r154 : R (4) (940) v145 := ⟨by omega, by omega⟩
            refine r_iinc (k := 0) S dX7_addNumber_46 hl rfl (by decide) (by decide) (fun v155 d156 ls z157 z158 hl => ?_)
            obtain ⟨e159, r160⟩ := i_add (lo := -8) (hi := -8) z157 r126 (R_eq z158) rfl
            have hl : lv_has ls 3 [(2, .int v155), (0, .ref (G.2.2.2.1 1)), (1, .int a0)] := hl
            refine r_goto (tgt := 16) S dX7_addNumber_49 (by decide) ?_
            refine r_iload_n S dX7_addNumber_16 rfl (lv_at hl 0 rfl) ?_
            refine r_if_lt (tgt := 52) S dX7_addNumber_17 (by decide) (fun c161 => ?_) (fun c161 => ?_)
            ·
              exact r_vret S hr hlk X151 ⟨I152, F153⟩ dX7_addNumber_52
            ·
              exfalso; omega
  ·
    have r162 : R (941) (944) v7 := ⟨by omega, by omega⟩
    exact r_vret S hr hlk X ⟨hI, Fr_rfl⟩ dX7_addNumber_12
