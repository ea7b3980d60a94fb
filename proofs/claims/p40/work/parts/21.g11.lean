def po_X12_peek_x (τ : Tau)   (r : Int32) (u : Tau) : Prop := u = τ ∧ R (-1) (255) r ∧ (0 ≤ r.toInt → R (0) (939) (u 131 4)) ∧ r.toInt = pkv u
set_option maxHeartbeats 4000000 in
set_option maxRecDepth 100000 in
theorem c_X12_peek_x (l : Launch) (G : Gx) (τ : Tau) (hI : Inv τ) : Ci l G yX12_peek cX12_peek 1 (some .int) 0 0 [.ref (G.2.2.2.1 131)] τ (po_X12_peek_x τ  ) := by
  unfold Ci
  refine C_of (own := RX12) (by decide) rfl (Nat.le_of_ble_eq_true rfl) ?_
  intro p e s m below meth c ls S hr hlk X hl
  have hl : lv_has ls 1 [(0, .ref (G.2.2.2.1 131))] := hl
  refine r_aload_n S dX12_peek_0 rfl (lv_at hl 0 rfl) ?_
  refine r_getn (K := 38) S X (Nat.le_of_ble_eq_true rfl) rfl lk12_21_10 (fun _ => ⟨_, rfl, rfl⟩) dX12_peek_1 (fun v1 z2 => ?_)
  have r3 : R (0) (940) v1 := rd hI rfl z2
  refine r_aload_n S dX12_peek_4 rfl (lv_at hl 0 rfl) ?_
  refine r_getn (K := 38) S X (Nat.le_of_ble_eq_true rfl) rfl lk12_18_10 (fun _ => ⟨_, rfl, rfl⟩) dX12_peek_5 (fun v4 z5 => ?_)
  have r6 : R (0) (940) v4 := rd hI rfl z5
  refine r_icmp_ge (tgt := 27) S dX12_peek_8 (by decide) (fun c7 => ?_) (fun c7 => ?_)
  ·
    refine r_iconst S dX12_peek_27 (by decide) (fun v8 z9 => ?_)
    have r10 := R_eq z9
    exact r_ret S hr hlk X ⟨rfl, (R_of r10 rfl), (fun h => by exfalso; omega), (pkv_out z2 z5 (by omega) (by omega))⟩ rfl dX12_peek_28
  ·
    have r11 : R (0) (939) v1 := ⟨by omega, by omega⟩
    have r12 : R (1) (940) v4 := ⟨by omega, by omega⟩
    refine r_aload_n S dX12_peek_11 rfl (lv_at hl 0 rfl) ?_
    refine r_get (K := 38) (v := .ref (G.2.2.2.1 132)) S X (Nat.le_of_ble_eq_true rfl) rfl lk12_14_10 (fun _ => ⟨_, rfl, rfl⟩) dX12_peek_12 ?_
    refine r_aload_n S dX12_peek_15 rfl (lv_at hl 0 rfl) ?_
    refine r_geti (K := 38) S X (Nat.le_of_ble_eq_true rfl) rfl lk12_21_10 (fun _ => ⟨_, rfl, rfl⟩) z2 dX12_peek_16 ?_
    refine r_bald (n := 940) (K := 39) S X (Nat.le_of_ble_eq_true rfl) rfl (fun _ => rfl) (ix_of r11 rfl) dX12_peek_19 (fun v13 z14 => ?_)
    have r15 : R (-128) (127) v13 := rd hI rfl z14
    refine r_sipush S dX12_peek_20 (by decide) (fun v16 z17 => ?_)
    have r18 := R_eq z17
    refine r_iand S dX12_peek_23 (fun v19 z20 => ?_)
    have r22 : R (0) (255) v19 := i_and2 z20 r15 r18 rfl
    refine r_goto (tgt := 28) S dX12_peek_24 (by decide) ?_
    exact r_ret S hr hlk X ⟨rfl, (R_of r22 rfl), (fun h => (by rw [z2]; exact R_of r11 rfl)), (pkv_in (r := v19) z2 z5 (by omega) (by assumption) (by assumption) (by assumption))⟩ rfl dX12_peek_28
def po_X12_isSmall_x (τ : Tau)  (a0 : Int32) (r : Int32) (u : Tau) : Prop := u = τ ∧ R (0) (1) r ∧ (r.toInt = 1 → R (97) (122) a0) ∧ (97 ≤ a0.toInt ∧ a0.toInt ≤ 122 → r.toInt = 1)
set_option maxHeartbeats 4000000 in
set_option maxRecDepth 100000 in
theorem c_X12_isSmall_x (l : Launch) (G : Gx) (τ : Tau) (hI : Inv τ) (a0 : Int32) (h_a0 : R (-2147483648) (2147483647) a0) : Ci l G yX12_isSmall cX12_isSmall 1 (some .boolean) 0 0 [.int a0] τ (po_X12_isSmall_x τ  a0) := by
  unfold Ci
  refine C_of (own := RX12) (by decide) rfl (Nat.le_of_ble_eq_true rfl) ?_
  intro p e s m below meth c ls S hr hlk X hl
  have hl : lv_has ls 1 [(0, .int a0)] := hl
  refine r_iload_n S dX12_isSmall_0 rfl (lv_at hl 0 rfl) ?_
  refine r_bipush S dX12_isSmall_1 (by decide) (fun v1 z2 => ?_)
  have r3 := R_eq z2
  refine r_icmp_lt (tgt := 16) S dX12_isSmall_3 (by decide) (fun c4 => ?_) (fun c4 => ?_)
  ·
    have r5 : R (-2147483648) (96) a0 := ⟨by omega, by omega⟩
    refine r_iconst S dX12_isSmall_16 (by decide) (fun v6 z7 => ?_)
    have r8 := R_eq z7
    exact r_ret S hr hlk X ⟨rfl, (R_of r8 rfl), (fun h => by exfalso; omega), (by omega)⟩ (nr_bool (R_of (lo := 0) (hi := 1) r8 rfl)) dX12_isSmall_17
  ·
    have r9 : R (97) (2147483647) a0 := ⟨by omega, by omega⟩
    refine r_iload_n S dX12_isSmall_6 rfl (lv_at hl 0 rfl) ?_
    refine r_bipush S dX12_isSmall_7 (by decide) (fun v10 z11 => ?_)
    have r12 := R_eq z11
    refine r_icmp_gt (tgt := 16) S dX12_isSmall_9 (by decide) (fun c13 => ?_) (fun c13 => ?_)
    ·
      have r14 : R (123) (2147483647) a0 := ⟨by omega, by omega⟩
      refine r_iconst S dX12_isSmall_16 (by decide) (fun v15 z16 => ?_)
      have r17 := R_eq z16
      exact r_ret S hr hlk X ⟨rfl, (R_of r17 rfl), (fun h => by exfalso; omega), (by omega)⟩ (nr_bool (R_of (lo := 0) (hi := 1) r17 rfl)) dX12_isSmall_17
    ·
      have r18 : R (97) (122) a0 := ⟨by omega, by omega⟩
      refine r_iconst S dX12_isSmall_12 (by decide) (fun v19 z20 => ?_)
      have r21 := R_eq z20
      refine r_goto (tgt := 17) S dX12_isSmall_13 (by decide) ?_
      exact r_ret S hr hlk X ⟨rfl, (R_of r21 rfl), (fun h => ⟨by omega, by omega⟩), (by omega)⟩ (nr_bool (R_of (lo := 0) (hi := 1) r21 rfl)) dX12_isSmall_17
def po_X12_isDigit_x (τ : Tau)  (a0 : Int32) (r : Int32) (u : Tau) : Prop := u = τ ∧ R (0) (1) r ∧ (r.toInt = 1 → R (48) (57) a0) ∧ (48 ≤ a0.toInt ∧ a0.toInt ≤ 57 → r.toInt = 1)
set_option maxHeartbeats 4000000 in
set_option maxRecDepth 100000 in
theorem c_X12_isDigit_x (l : Launch) (G : Gx) (τ : Tau) (hI : Inv τ) (a0 : Int32) (h_a0 : R (-2147483648) (2147483647) a0) : Ci l G yX12_isDigit cX12_isDigit 1 (some .boolean) 0 0 [.int a0] τ (po_X12_isDigit_x τ  a0) := by
  unfold Ci
  refine C_of (own := RX12) (by decide) rfl (Nat.le_of_ble_eq_true rfl) ?_
  intro p e s m below meth c ls S hr hlk X hl
  have hl : lv_has ls 1 [(0, .int a0)] := hl
  refine r_iload_n S dX12_isDigit_0 rfl (lv_at hl 0 rfl) ?_
  refine r_bipush S dX12_isDigit_1 (by decide) (fun v1 z2 => ?_)
  have r3 := R_eq z2
  refine r_icmp_lt (tgt := 16) S dX12_isDigit_3 (by decide) (fun c4 => ?_) (fun c4 => ?_)
  ·
    have r5 : R (-2147483648) (47) a0 := ⟨by omega, by omega⟩
    refine r_iconst S dX12_isDigit_16 (by decide) (fun v6 z7 => ?_)
    have r8 := R_eq z7
    exact r_ret S hr hlk X ⟨rfl, (R_of r8 rfl), (fun h => by exfalso; omega), (by omega)⟩ (nr_bool (R_of (lo := 0) (hi := 1) r8 rfl)) dX12_isDigit_17
  ·
    have r9 : R (48) (2147483647) a0 := ⟨by omega, by omega⟩
    refine r_iload_n S dX12_isDigit_6 rfl (lv_at hl 0 rfl) ?_
    refine r_bipush S dX12_isDigit_7 (by decide) (fun v10 z11 => ?_)
    have r12 := R_eq z11
    refine r_icmp_gt (tgt := 16) S dX12_isDigit_9 (by decide) (fun c13 => ?_) (fun c13 => ?_)
    ·
      have r14 : R (58) (2147483647) a0 := ⟨by omega, by omega⟩
      refine r_iconst S dX12_isDigit_16 (by decide) (fun v15 z16 => ?_)
      have r17 := R_eq z16
      exact r_ret S hr hlk X ⟨rfl, (R_of r17 rfl), (fun h => by exfalso; omega), (by omega)⟩ (nr_bool (R_of (lo := 0) (hi := 1) r17 rfl)) dX12_isDigit_17
    ·
      have r18 : R (48) (57) a0 := ⟨by omega, by omega⟩
      refine r_iconst S dX12_isDigit_12 (by decide) (fun v19 z20 => ?_)
      have r21 := R_eq z20
      refine r_goto (tgt := 17) S dX12_isDigit_13 (by decide) ?_
      exact r_ret S hr hlk X ⟨rfl, (R_of r21 rfl), (fun h => ⟨by omega, by omega⟩), (by omega)⟩ (nr_bool (R_of (lo := 0) (hi := 1) r21 rfl)) dX12_isDigit_17
def po_X12_skip (τ : Tau)   (u : Tau) : Prop := Inv u ∧ Fr [(131, 4), (131, 11), (131, 12), (131, 13), (131, 14)] [] τ u ∧ R (0) (940) (u 131 4) ∧ R (0) (4) (u 131 11) ∧ (τ 131 4).toInt ≤ (u 131 4).toInt ∧ (1 ≤ (u 131 11).toInt ∧ (u 131 11).toInt ≤ 3 → (τ 131 4).toInt < (u 131 4).toInt)
set_option maxHeartbeats 4000000 in
set_option maxRecDepth 100000 in
theorem c_X12_skip (l : Launch) (G : Gx) (τ : Tau) (hI : Inv τ) : Cv l G yX12_skip cX12_skip 4 1 20 [.ref (G.2.2.2.1 131)] τ (po_X12_skip τ  ) := by
  unfold Cv
  refine C_of (own := RX12) (by decide) rfl (Nat.le_of_ble_eq_true rfl) ?_
  intro p e s m below meth c ls S hr hlk X hl
  have hl : lv_has ls 4 [(0, .ref (G.2.2.2.1 131))] := hl
  obtain ⟨v1, z2⟩ : ∃ x, τ 131 4 = x := ⟨_, rfl⟩
  have r3 : R (0) (940) v1 := rd hI rfl z2
  obtain ⟨v4, z5⟩ : ∃ x, τ 131 3 = x := ⟨_, rfl⟩
  have r6 : R (0) (940) v4 := rd hI rfl z5
  have L198 : ∀ (n : Nat) (t190 : Tau) (H : Heap) (lc : List Loc) (ls : Array Slot) (f194 : Int32), Xd G s H lc t190 → Inv t190 → Fr [(131, 4), (131, 11), (131, 12), (131, 13), (131, 14)] [] τ t190 → t190 131 4 = f194 → R (0) (940) f194 → t190 131 3 = v4 → v1.toInt ≤ f194.toInt → lv_has ls 4 [(0, .ref (G.2.2.2.1 131))] → (940 - f194.toInt).toNat < n → W p l e (Rm 1 20) s m ([.ref (G.2.2.2.1 131)] : List Value).toArray below meth c H lc 0 0 (MQ below (va_Qv (po_X12_skip τ  ) (Bs G) G.2.2.2.2) ([.ref (G.2.2.2.1 131)] : List Value).toArray s 0 0 G.2.2.2.2) (F0 m 0 ls []) := by
    intro n
    induction n with
    | zero => intros; omega
    | succ n ih200 =>
      intro t190 H lc ls f194 X193 I191 F192 z196 r195 z197 x199 hl hm
      refine r_aload_n S dX12_skip_0 rfl (lv_at hl 0 rfl) ?_
      refine r_ki (q_V (As := []) (rest := []) (K := 38) (ci := 10) S X193 (c_X12_peek_x l G t190 I191 ) ck12_147 (Nat.le_of_ble_eq_true rfl) rfl (fun _ => ⟨_, rfl⟩) ⟨_, _, rfl⟩ ⟨Nat.le_of_ble_eq_true rfl, Nat.le_of_ble_eq_true rfl⟩ rfl hl.1 rfl (Nat.le_of_ble_eq_true rfl) dX12_skip_1 ⟨Nat.le_refl 0, Nat.le_refl 0⟩) X193 (fun v204 t203 H lc q201 X202 => ?_)
      unfold po_X12_peek_x at q201
      obtain ⟨q205, q206, q207, q208⟩ := q201
      rw [q205] at X202
      rw [q205] at q207
      rw [q205] at q208
      refine r_bipush S dX12_skip_4 (by decide) (fun v209 z210 => ?_)
      have r211 := R_eq z210
      refine r_icmp_eq (tgt := 18) S dX12_skip_6 (by decide) (fun c212 => ?_) (fun c212 => ?_)
      ·
        have r213 : R (32) (32) v204 := ⟨by omega, by omega⟩
        have p214 := q207 (by omega)
        have r215 : R (0) (939) f194 := z196 ▸ p214
        have r216 : R (0) (939) f194 := ⟨by omega, by omega⟩
        refine r_aload_n S dX12_skip_18 rfl (lv_at hl 0 rfl) ?_
        refine r_dup S dX12_skip_19 rfl ?_
        refine r_geti (K := 38) S X202 (Nat.le_of_ble_eq_true rfl) rfl lk12_21_10 (fun _ => ⟨_, rfl, rfl⟩) z196 dX12_skip_20 ?_
        refine r_iconst S dX12_skip_23 (by decide) (fun v217 z218 => ?_)
        have r219 := R_eq z218
        refine r_iadd S dX12_skip_24 (fun v220 z221 => ?_)
        obtain ⟨e222, r223⟩ := i_add (lo := 1) (hi := 940) z221 r216 r219 rfl
        refine r_put (K := 38) (ty := .int) S X202 (Nat.le_of_ble_eq_true rfl) rfl lk12_21_10 (fun _ => ⟨_, rfl, Nat.le_of_ble_eq_true rfl, rfl⟩) (fun _ _ _ h => by cases h; exact ⟨rfl, rfl⟩) rfl rfl dX12_skip_25 (fun t224 H lc M225 X226 => ?_)
        have I227 := Inv_mu I191 M225 (show Rg (kd 131) 4 v220 from (R_of (lo := 0) (hi := 940) r223 rfl))
        have F228 : Fr [(131, 4), (131, 11), (131, 12), (131, 13), (131, 14)] [] τ t224 := Fr_mu F192 M225 (by decide)
        refine r_goto (tgt := 0) S dX12_skip_28 (by decide) ?_
        exact ih200 t224 _ _ _ v220 X226 I227 F228 M225.1 ⟨by omega, by omega⟩ ((M225.2 131 3 (Or.inr (by decide))).trans z197) (by omega) (lv_sub hl [0] rfl) (by omega)
      ·
        refine r_aload_n S dX12_skip_9 rfl (lv_at hl 0 rfl) ?_
        refine r_ki (q_V (As := []) (rest := []) (K := 38) (ci := 10) S X202 (c_X12_peek_x l G t190 I191 ) ck12_147 (Nat.le_of_ble_eq_true rfl) rfl (fun _ => ⟨_, rfl⟩) ⟨_, _, rfl⟩ ⟨Nat.le_of_ble_eq_true rfl, Nat.le_of_ble_eq_true rfl⟩ rfl hl.1 rfl (Nat.le_of_ble_eq_true rfl) dX12_skip_10 ⟨Nat.le_refl 0, Nat.le_refl 0⟩) X202 (fun v232 t231 H lc q229 X230 => ?_)
        unfold po_X12_peek_x at q229
        obtain ⟨q233, q234, q235, q236⟩ := q229
        rw [q233] at X230
        rw [q233] at q235
        rw [q233] at q236
        refine r_bipush S dX12_skip_13 (by decide) (fun v237 z238 => ?_)
        have r239 := R_eq z238
        refine r_icmp_ne (tgt := 31) S dX12_skip_15 (by decide) (fun c240 => ?_) (fun c240 => ?_)
        ·
          refine r_aload_n S dX12_skip_31 rfl (lv_at hl 0 rfl) ?_
          refine r_aload_n S dX12_skip_32 rfl (lv_at hl 0 rfl) ?_
          refine r_geti (K := 38) S X230 (Nat.le_of_ble_eq_true rfl) rfl lk12_21_10 (fun _ => ⟨_, rfl, rfl⟩) z196 dX12_skip_33 ?_
          refine r_put (K := 38) (ty := .int) S X230 (Nat.le_of_ble_eq_true rfl) rfl lk12_151_10 (fun _ => ⟨_, rfl, Nat.le_of_ble_eq_true rfl, rfl⟩) (fun _ _ _ h => by cases h; exact ⟨rfl, rfl⟩) rfl rfl dX12_skip_36 (fun t241 H lc M242 X243 => ?_)
          have I244 := Inv_mu I191 M242 (show Rg (kd 131) 12 f194 from (R_of (lo := 0) (hi := 940) r195 rfl))
          have F245 : Fr [(131, 4), (131, 11), (131, 12), (131, 13), (131, 14)] [] τ t241 := Fr_mu F192 M242 (by decide)
          refine r_aload_n S dX12_skip_39 rfl (lv_at hl 0 rfl) ?_
          refine r_iconst S dX12_skip_40 (by decide) (fun v246 z247 => ?_)
          have r248 := R_eq z247
          refine r_put (K := 38) (ty := .int) S X243 (Nat.le_of_ble_eq_true rfl) rfl lk12_154_10 (fun _ => ⟨_, rfl, Nat.le_of_ble_eq_true rfl, rfl⟩) (fun _ _ _ h => by cases h; exact ⟨rfl, rfl⟩) rfl rfl dX12_skip_41 (fun t249 H lc M250 X251 => ?_)
          have I252 := Inv_mu I244 M250 (show Rg (kd 131) 13 v246 from (R_of (lo := 0) (hi := 940) r248 rfl))
          have F253 : Fr [(131, 4), (131, 11), (131, 12), (131, 13), (131, 14)] [] τ t249 := Fr_mu F245 M250 (by decide)
          refine r_aload_n S dX12_skip_44 rfl (lv_at hl 0 rfl) ?_
          refine r_geti (K := 38) S X251 (Nat.le_of_ble_eq_true rfl) rfl lk12_18_10 (fun _ => ⟨_, rfl, rfl⟩) ((M250.2 131 3 (Or.inr (by decide))).trans ((M242.2 131 3 (Or.inr (by decide))).trans z197)) dX12_skip_45 ?_
          refine r_aload_n S dX12_skip_48 rfl (lv_at hl 0 rfl) ?_
          refine r_getn (K := 38) S X251 (Nat.le_of_ble_eq_true rfl) rfl lk12_24_10 (fun _ => ⟨_, rfl, rfl⟩) dX12_skip_49 (fun v254 z255 => ?_)
          have r256 : R (0) (940) v254 := rd I252 rfl z255
          have J277 : ∀ (H : Heap) (lc : List Loc) (ls : Array Slot), Xd G s H lc t249 → lv_has ls 4 [(0, .ref (G.2.2.2.1 131))] → W p l e (Rm 1 20) s m ([.ref (G.2.2.2.1 131)] : List Value).toArray below meth c H lc 0 0 (MQ below (va_Qv (po_X12_skip τ  ) (Bs G) G.2.2.2.2) ([.ref (G.2.2.2.1 131)] : List Value).toArray s 0 0 G.2.2.2.2) (F0 m 80 ls []) := by
            intro H lc ls X276 hl
            refine r_aload_n S dX12_skip_80 rfl (lv_at hl 0 rfl) ?_
            refine r_ki (q_V (As := []) (rest := []) (K := 38) (ci := 10) S X276 (c_X12_peek_x l G t249 I252 ) ck12_147 (Nat.le_of_ble_eq_true rfl) rfl (fun _ => ⟨_, rfl⟩) ⟨_, _, rfl⟩ ⟨Nat.le_of_ble_eq_true rfl, Nat.le_of_ble_eq_true rfl⟩ rfl hl.1 rfl (Nat.le_of_ble_eq_true rfl) dX12_skip_81 ⟨Nat.le_refl 0, Nat.le_refl 0⟩) X276 (fun v281 t280 H lc q278 X279 => ?_)
            unfold po_X12_peek_x at q278
            obtain ⟨q282, q283, q284, q285⟩ := q278
            rw [q282] at X279
            rw [q282] at q284
            rw [q282] at q285
            refine r_istore_n (lv' := [(1, .int v281), (0, .ref (G.2.2.2.1 131))]) S dX12_skip_84 rfl hl (by decide) rfl (fun ls hl => ?_)
            refine r_iload_n S dX12_skip_85 rfl (lv_at hl 0 rfl) ?_
            refine r_if_ge (tgt := 95) S dX12_skip_86 (by decide) (fun c286 => ?_) (fun c286 => ?_)
            ·
              have r287 : R (0) (255) v281 := ⟨by omega, by omega⟩
              have p288 := q284 (by omega)
              have r289 : R (0) (939) f194 := ((M250.2 131 4 (Or.inr (by decide))).trans ((M242.2 131 4 (Or.inr (by decide))).trans z196)) ▸ p288
              have r290 : R (0) (939) f194 := ⟨by omega, by omega⟩
              refine r_iload_n S dX12_skip_95 rfl (lv_at hl 0 rfl) ?_
              refine r_ki (q_S (As := [.int v281]) (rest := []) S X279 (c_X12_isSmall_x l G t249 I252 v281 (R_of (lo := -2147483648) (hi := 2147483647) r287 rfl)) ck12_160 ⟨Nat.le_of_ble_eq_true rfl, Nat.le_of_ble_eq_true rfl⟩ rfl hl.1 rfl (Nat.le_of_ble_eq_true rfl) dX12_skip_96 ⟨Nat.le_refl 0, Nat.le_refl 0⟩) X279 (fun v294 t293 H lc q291 X292 => ?_)
              unfold po_X12_isSmall_x at q291
              obtain ⟨q295, q296, q297, q298⟩ := q291
              rw [q295] at X292
              refine r_if_ne (tgt := 164) S dX12_skip_99 (by decide) (fun c299 => ?_) (fun c299 => ?_)
              ·
                have r300 : R (1) (1) v294 := ⟨by omega, by omega⟩
                have p301 := q297 (by omega)
                have r302 : R (97) (122) v281 := ⟨by omega, by omega⟩
                have p303 := q284 (by omega)
                have r304 : R (0) (939) f194 := ((M250.2 131 4 (Or.inr (by decide))).trans ((M242.2 131 4 (Or.inr (by decide))).trans z196)) ▸ p303
                have r305 : R (0) (939) f194 := ⟨by omega, by omega⟩
                refine r_iload_n S dX12_skip_164 rfl (lv_at hl 0 rfl) ?_
                refine r_ki (q_S (As := [.int v281]) (rest := []) S X292 (c_X12_isSmall_x l G t249 I252 v281 (R_of (lo := -2147483648) (hi := 2147483647) r302 rfl)) ck12_160 ⟨Nat.le_of_ble_eq_true rfl, Nat.le_of_ble_eq_true rfl⟩ rfl hl.1 rfl (Nat.le_of_ble_eq_true rfl) dX12_skip_165 ⟨Nat.le_refl 0, Nat.le_refl 0⟩) X292 (fun v309 t308 H lc q306 X307 => ?_)
                unfold po_X12_isSmall_x at q306
                obtain ⟨q310, q311, q312, q313⟩ := q306
                rw [q310] at X307
                refine r_istore_n (lv' := [(2, .int v309), (1, .int v281), (0, .ref (G.2.2.2.1 131))]) S dX12_skip_168 rfl hl (by decide) rfl (fun ls hl => ?_)
                refine r_iconst S dX12_skip_169 (by decide) (fun v314 z315 => ?_)
                have r316 := R_eq z315
                refine r_istore_n (lv' := [(3, .int v314), (2, .int v309), (1, .int v281), (0, .ref (G.2.2.2.1 131))]) S dX12_skip_170 rfl hl (by decide) rfl (fun ls hl => ?_)
                refine r_aload_n S dX12_skip_171 rfl (lv_at hl 3 rfl) ?_
                refine lv_lconst S.1.1 S.1.2.1 dX12_skip_172 rfl ?_
                refine lv_topl (fun j317 _ => ?_)
                refine r_putJ (K := 38) S X307 (Nat.le_of_ble_eq_true rfl) rfl lk12_170_10 (fun _ => ⟨_, rfl, Nat.le_of_ble_eq_true rfl, rfl⟩) (fun _ _ _ h => by cases h; exact ⟨rfl, rfl⟩) dX12_skip_173 (fun H lc X318 => ?_)
                refine r_aload_n S dX12_skip_176 rfl (lv_at hl 3 rfl) ?_
                refine r_iconst S dX12_skip_177 (by decide) (fun v319 z320 => ?_)
                have r321 := R_eq z320
                refine r_put (K := 38) (ty := .int) S X318 (Nat.le_of_ble_eq_true rfl) rfl lk12_167_10 (fun _ => ⟨_, rfl, Nat.le_of_ble_eq_true rfl, rfl⟩) (fun _ _ _ h => by cases h; exact ⟨rfl, rfl⟩) rfl rfl dX12_skip_178 (fun t322 H lc M323 X324 => ?_)
                have I325 := Inv_mu I252 M323 (R_any v319)
                have F326 : Fr [(131, 4), (131, 11), (131, 12), (131, 13), (131, 14)] [] τ t322 := Fr_mu F253 M323 (by decide)
                have L10211 : ∀ (n : Nat) (t10195 : Tau) (H : Heap) (lc : List Loc) (ls : Array Slot) (i10193 : Int32) (f10199 : Int32) (f10204 : Int32) (f10208 : Int32), Xd G s H lc t10195 → Inv t10195 → Fr [(131, 4), (131, 11), (131, 12), (131, 13), (131, 14)] [] τ t10195 → R (0) (1) i10193 → t10195 131 4 = f10199 → R (0) (940) f10199 → t10195 131 3 = v4 → t10195 131 12 = f194 → t10195 131 13 = f10204 → R (0) (940) f10204 → t10195 131 5 = v254 → t10195 131 14 = f10208 → R (-2147483648) (2147483647) f10208 → 0 ≤ f10204.toInt → f10199.toInt = f194.toInt + f10204.toInt → (f10204.toInt = 0 → pkv t10195 = v281.toInt) → lv_has ls 4 [(0, .ref (G.2.2.2.1 131)), (2, .int v309), (3, .int i10193)] → (940 - f10199.toInt).toNat < n → W p l e (Rm 1 20) s m ([.ref (G.2.2.2.1 131)] : List Value).toArray below meth c H lc 0 0 (MQ below (va_Qv (po_X12_skip τ  ) (Bs G) G.2.2.2.2) ([.ref (G.2.2.2.1 131)] : List Value).toArray s 0 0 G.2.2.2.2) (F0 m 181 ls []) := by
                  intro n
                  induction n with
                  | zero => intros; omega
                  | succ n ih10215 =>
                    intro t10195 H lc ls i10193 f10199 f10204 f10208 X10198 I10196 F10197 r10194 z10201 r10200 z10202 z10203 z10206 r10205 z10207 z10210 r10209 x10212 x10213 x10214 hl hm
                    refine r_aload_n S dX12_skip_181 rfl (lv_at hl 0 rfl) ?_
                    refine r_ki (q_V (As := []) (rest := []) (K := 38) (ci := 10) S X10198 (c_X12_peek_x l G t10195 I10196 ) ck12_147 (Nat.le_of_ble_eq_true rfl) rfl (fun _ => ⟨_, rfl⟩) ⟨_, _, rfl⟩ ⟨Nat.le_of_ble_eq_true rfl, Nat.le_of_ble_eq_true rfl⟩ rfl hl.1 rfl (Nat.le_of_ble_eq_true rfl) dX12_skip_182 ⟨Nat.le_refl 0, Nat.le_refl 0⟩) X10198 (fun v10219 t10218 H lc q10216 X10217 => ?_)
                    unfold po_X12_peek_x at q10216
                    obtain ⟨q10220, q10221, q10222, q10223⟩ := q10216
                    rw [q10220] at X10217
                    rw [q10220] at q10222
                    rw [q10220] at q10223
                    refine r_ki (q_S (As := [.int v10219]) (rest := []) S X10217 (c_X12_isSmall_x l G t10195 I10196 v10219 (R_of (lo := -2147483648) (hi := 2147483647) q10221 rfl)) ck12_160 ⟨Nat.le_of_ble_eq_true rfl, Nat.le_of_ble_eq_true rfl⟩ rfl hl.1 rfl (Nat.le_of_ble_eq_true rfl) dX12_skip_185 ⟨Nat.le_refl 0, Nat.le_refl 0⟩) X10217 (fun v10227 t10226 H lc q10224 X10225 => ?_)
                    unfold po_X12_isSmall_x at q10224
                    obtain ⟨q10228, q10229, q10230, q10231⟩ := q10224
                    rw [q10228] at X10225
                    have J10329 : ∀ (H : Heap) (lc : List Loc) (ls : Array Slot), Xd G s H lc t10195 → R (0) (939) f10199 → lv_has ls 4 [(0, .ref (G.2.2.2.1 131)), (2, .int v309), (3, .int i10193)] → W p l e (Rm 1 20) s m ([.ref (G.2.2.2.1 131)] : List Value).toArray below meth c H lc 0 0 (MQ below (va_Qv (po_X12_skip τ  ) (Bs G) G.2.2.2.2) ([.ref (G.2.2.2.1 131)] : List Value).toArray s 0 0 G.2.2.2.2) (F0 m 201 ls []) := by
                      intro H lc ls X10327 r10328 hl
                      refine r_iload_n S dX12_skip_201 rfl (lv_at hl 2 rfl) ?_
                      have J10362 : ∀ (H : Heap) (lc : List Loc) (ls : Array Slot) (i10360 : Int32), Xd G s H lc t10195 → R (0) (1) i10360 → lv_has ls 4 [(0, .ref (G.2.2.2.1 131)), (2, .int v309)] → W p l e (Rm 1 20) s m ([.ref (G.2.2.2.1 131)] : List Value).toArray below meth c H lc 0 0 (MQ below (va_Qv (po_X12_skip τ  ) (Bs G) G.2.2.2.2) ([.ref (G.2.2.2.1 131)] : List Value).toArray s 0 0 G.2.2.2.2) (F0 m 221 ls [.int i10360]) := by
                        intro H lc ls i10360 X10359 r10361 hl
                        refine r_istore_n (lv' := [(3, .int i10360), (0, .ref (G.2.2.2.1 131)), (2, .int v309)]) S dX12_skip_221 rfl hl (by decide) rfl (fun ls hl => ?_)
                        refine r_aload_n S dX12_skip_222 rfl (lv_at hl 1 rfl) ?_
                        refine r_geti (K := 38) S X10359 (Nat.le_of_ble_eq_true rfl) rfl lk12_154_10 (fun _ => ⟨_, rfl, rfl⟩) z10206 dX12_skip_223 ?_
                        refine r_bipush S dX12_skip_226 (by decide) (fun v10363 z10364 => ?_)
                        have r10365 := R_eq z10364
                        have J10387 : ∀ (H : Heap) (lc : List Loc) (ls : Array Slot), Xd G s H lc t10195 → R (0) (940) f10204 → lv_has ls 4 [(0, .ref (G.2.2.2.1 131)), (2, .int v309), (3, .int i10360)] → W p l e (Rm 1 20) s m ([.ref (G.2.2.2.1 131)] : List Value).toArray below meth c H lc 0 0 (MQ below (va_Qv (po_X12_skip τ  ) (Bs G) G.2.2.2.2) ([.ref (G.2.2.2.1 131)] : List Value).toArray s 0 0 G.2.2.2.2) (F0 m 248 ls []) := by
                          intro H lc ls X10385 r10386 hl
                          refine r_aload_n S dX12_skip_248 rfl (lv_at hl 0 rfl) ?_
                          refine r_geti (K := 38) S X10385 (Nat.le_of_ble_eq_true rfl) rfl lk12_154_10 (fun _ => ⟨_, rfl, rfl⟩) z10206 dX12_skip_249 ?_
                          refine r_iconst S dX12_skip_252 (by decide) (fun v10388 z10389 => ?_)
                          have r10390 := R_eq z10389
                          have J10435 : ∀ (t10422 : Tau) (H : Heap) (lc : List Loc) (ls : Array Slot) (i10432 : Int32), Xd G s H lc t10422 → Inv t10422 → Fr [(131, 4), (131, 11), (131, 12), (131, 13), (131, 14)] [] τ t10422 → t10422 131 4 = f10199 → t10422 131 3 = v4 → t10422 131 12 = f194 → R (0) (940) f10204 → t10422 131 13 = f10204 → t10422 131 5 = v254 → R (-2147483648) (2147483647) i10432 → t10422 131 14 = i10432 → lv_has ls 4 [(0, .ref (G.2.2.2.1 131)), (2, .int v309), (3, .int i10360)] → W p l e (Rm 1 20) s m ([.ref (G.2.2.2.1 131)] : List Value).toArray below meth c H lc 0 0 (MQ below (va_Qv (po_X12_skip τ  ) (Bs G) G.2.2.2.2) ([.ref (G.2.2.2.1 131)] : List Value).toArray s 0 0 G.2.2.2.2) (F0 m 275 ls []) := by
                            intro t10422 H lc ls i10432 X10425 I10423 F10424 z10426 z10427 z10428 r10429 z10430 z10431 r10433 z10434 hl
                            refine r_aload_n S dX12_skip_275 rfl (lv_at hl 0 rfl) ?_
                            refine r_dup S dX12_skip_276 rfl ?_
                            refine r_geti (K := 38) S X10425 (Nat.le_of_ble_eq_true rfl) rfl lk12_154_10 (fun _ => ⟨_, rfl, rfl⟩) z10430 dX12_skip_277 ?_
                            refine r_iconst S dX12_skip_280 (by decide) (fun v10436 z10437 => ?_)
                            have r10438 := R_eq z10437
                            refine r_iadd S dX12_skip_281 (fun v10439 z10440 => ?_)
                            obtain ⟨e10441, r10442⟩ := i_add (lo := 1) (hi := 941) z10440 r10429 r10438 rfl
                            refine r_put (K := 38) (ty := .int) S X10425 (Nat.le_of_ble_eq_true rfl) rfl lk12_154_10 (fun _ => ⟨_, rfl, Nat.le_of_ble_eq_true rfl, rfl⟩) (fun _ _ _ h => by cases h; exact ⟨rfl, rfl⟩) rfl rfl dX12_skip_282 (fun t10443 H lc M10444 X10445 => ?_)
                            have I10446 := Inv_mu I10423 M10444 (show Rg (kd 131) 13 v10439 from (show R (0) (940) v10439 from ⟨by omega, by omega⟩))
                            have F10447 : Fr [(131, 4), (131, 11), (131, 12), (131, 13), (131, 14)] [] τ t10443 := Fr_mu F10424 M10444 (by decide)
                            have r10448 : R (1) (940) v10439 := ⟨by omega, by omega⟩
                            refine r_aload_n S dX12_skip_285 rfl (lv_at hl 0 rfl) ?_
                            refine r_dup S dX12_skip_286 rfl ?_
                            refine r_geti (K := 38) S X10445 (Nat.le_of_ble_eq_true rfl) rfl lk12_21_10 (fun _ => ⟨_, rfl, rfl⟩) ((M10444.2 131 4 (Or.inr (by decide))).trans z10426) dX12_skip_287 ?_
                            refine r_iconst S dX12_skip_290 (by decide) (fun v10449 z10450 => ?_)
                            have r10451 := R_eq z10450
                            refine r_iadd S dX12_skip_291 (fun v10452 z10453 => ?_)
                            obtain ⟨e10454, r10455⟩ := i_add (lo := 1) (hi := 940) z10453 r10328 r10451 rfl
                            refine r_put (K := 38) (ty := .int) S X10445 (Nat.le_of_ble_eq_true rfl) rfl lk12_21_10 (fun _ => ⟨_, rfl, Nat.le_of_ble_eq_true rfl, rfl⟩) (fun _ _ _ h => by cases h; exact ⟨rfl, rfl⟩) rfl rfl dX12_skip_292 (fun t10456 H lc M10457 X10458 => ?_)
                            have I10459 := Inv_mu I10446 M10457 (show Rg (kd 131) 4 v10452 from (R_of (lo := 0) (hi := 940) r10455 rfl))
                            have F10460 : Fr [(131, 4), (131, 11), (131, 12), (131, 13), (131, 14)] [] τ t10456 := Fr_mu F10447 M10457 (by decide)
                            refine r_goto (tgt := 181) S dX12_skip_295 (by decide) ?_
                            exact ih10215 t10456 _ _ _ i10360 v10452 v10439 i10432 X10458 I10459 F10460 r10361 M10457.1 ⟨by omega, by omega⟩ ((M10457.2 131 3 (Or.inr (by decide))).trans ((M10444.2 131 3 (Or.inr (by decide))).trans z10427)) ((M10457.2 131 12 (Or.inr (by decide))).trans ((M10444.2 131 12 (Or.inr (by decide))).trans z10428)) ((M10457.2 131 13 (Or.inr (by decide))).trans M10444.1) ⟨by omega, by omega⟩ ((M10457.2 131 5 (Or.inr (by decide))).trans ((M10444.2 131 5 (Or.inr (by decide))).trans z10431)) ((M10457.2 131 14 (Or.inr (by decide))).trans ((M10444.2 131 14 (Or.inr (by decide))).trans z10434)) ⟨by omega, by omega⟩ (by omega) (by omega) (fun h => by exfalso; omega) (lv_sub hl [0, 1, 2] rfl) (by omega)
                          refine r_icmp_ge (tgt := 275) S dX12_skip_253 (by decide) (fun c10461 => ?_) (fun c10461 => ?_)
                          ·
                            have r10462 : R (2) (940) f10204 := ⟨by omega, by omega⟩
                            exact J10435 t10195 _ _ _ f10208 X10385 I10196 F10197 z10201 z10202 z10203 (R_of r10462 rfl) z10206 z10207 r10209 z10210 (lv_sub hl [0, 1, 2] rfl)
                          ·
                            have r10463 : R (0) (1) f10204 := ⟨by omega, by omega⟩
                            refine r_aload_n S dX12_skip_256 rfl (lv_at hl 0 rfl) ?_
                            refine r_bipush S dX12_skip_257 (by decide) (fun v10464 z10465 => ?_)
                            have r10466 := R_eq z10465
                            refine r_aload_n S dX12_skip_259 rfl (lv_at hl 0 rfl) ?_
                            refine r_geti (K := 38) S X10385 (Nat.le_of_ble_eq_true rfl) rfl lk12_167_10 (fun _ => ⟨_, rfl, rfl⟩) z10210 dX12_skip_260 ?_
                            refine r_imul S dX12_skip_263 (fun v10467 z10468 => ?_)
                            have r10469 := R_any v10467
                            refine r_aload_n S dX12_skip_264 rfl (lv_at hl 0 rfl) ?_
                            refine r_ki (q_V (As := []) (rest := [.int v10467, .ref (G.2.2.2.1 131)]) (K := 38) (ci := 10) S X10385 (c_X12_peek_x l G t10195 I10196 ) ck12_147 (Nat.le_of_ble_eq_true rfl) rfl (fun _ => ⟨_, rfl⟩) ⟨_, _, rfl⟩ ⟨Nat.le_of_ble_eq_true rfl, Nat.le_of_ble_eq_true rfl⟩ rfl hl.1 rfl (Nat.le_of_ble_eq_true rfl) dX12_skip_265 ⟨Nat.le_refl 0, Nat.le_refl 0⟩) X10385 (fun v10473 t10472 H lc q10470 X10471 => ?_)
                            unfold po_X12_peek_x at q10470
                            obtain ⟨q10474, q10475, q10476, q10477⟩ := q10470
                            rw [q10474] at X10471
                            rw [q10474] at q10476
                            rw [q10474] at q10477
                            refine r_iadd S dX12_skip_268 (fun v10478 z10479 => ?_)
                            have r10480 := R_any v10478
                            refine r_bipush S dX12_skip_269 (by decide) (fun v10481 z10482 => ?_)
                            have r10483 := R_eq z10482
                            refine r_isub S dX12_skip_271 (fun v10484 z10485 => ?_)
                            have r10486 := R_any v10484
                            refine r_put (K := 38) (ty := .int) S X10471 (Nat.le_of_ble_eq_true rfl) rfl lk12_167_10 (fun _ => ⟨_, rfl, Nat.le_of_ble_eq_true rfl, rfl⟩) (fun _ _ _ h => by cases h; exact ⟨rfl, rfl⟩) rfl rfl dX12_skip_272 (fun t10487 H lc M10488 X10489 => ?_)
                            have I10490 := Inv_mu I10196 M10488 (R_any v10484)
                            have F10491 : Fr [(131, 4), (131, 11), (131, 12), (131, 13), (131, 14)] [] τ t10487 := Fr_mu F10197 M10488 (by decide)
                            exact J10435 t10487 _ _ _ v10484 X10489 I10490 F10491 ((M10488.2 131 4 (Or.inr (by decide))).trans z10201) ((M10488.2 131 3 (Or.inr (by decide))).trans z10202) ((M10488.2 131 12 (Or.inr (by decide))).trans z10203) (R_of r10463 rfl) ((M10488.2 131 13 (Or.inr (by decide))).trans z10206) ((M10488.2 131 5 (Or.inr (by decide))).trans z10207) r10486 M10488.1 (lv_sub hl [0, 1, 2] rfl)
                        refine r_icmp_ge (tgt := 248) S dX12_skip_228 (by decide) (fun c10492 => ?_) (fun c10492 => ?_)
                        ·
                          have r10493 : R (7) (940) f10204 := ⟨by omega, by omega⟩
                          exact J10387 _ _ _ X10359 (R_of r10493 rfl) (lv_sub hl [1, 2, 0] rfl)
                        ·
                          have r10494 : R (0) (6) f10204 := ⟨by omega, by omega⟩
                          refine r_aload_n S dX12_skip_231 rfl (lv_at hl 1 rfl) ?_
                          refine r_aload_n S dX12_skip_232 rfl (lv_at hl 1 rfl) ?_
                          refine r_getJ (K := 38) S X10359 (Nat.le_of_ble_eq_true rfl) rfl lk12_170_10 (fun _ => ⟨_, rfl, rfl⟩) dX12_skip_233 (fun j10495 => ?_)
                          refine r_bipush S dX12_skip_236 (by decide) (fun v10496 z10497 => ?_)
                          have r10498 := R_eq z10497
                          refine lv_lshl S.1.1 S.1.2.1 dX12_skip_238 rfl ?_
                          refine lv_topl (fun j10499 _ => ?_)
                          refine r_aload_n S dX12_skip_239 rfl (lv_at hl 1 rfl) ?_
                          refine r_ki (q_V (As := []) (rest := [.long j10499, .ref (G.2.2.2.1 131)]) (K := 38) (ci := 10) S X10359 (c_X12_peek_x l G t10195 I10196 ) ck12_147 (Nat.le_of_ble_eq_true rfl) rfl (fun _ => ⟨_, rfl⟩) ⟨_, _, rfl⟩ ⟨Nat.le_of_ble_eq_true rfl, Nat.le_of_ble_eq_true rfl⟩ rfl hl.1 rfl (Nat.le_of_ble_eq_true rfl) dX12_skip_240 ⟨Nat.le_refl 0, Nat.le_refl 0⟩) X10359 (fun v10503 t10502 H lc q10500 X10501 => ?_)
                          unfold po_X12_peek_x at q10500
                          obtain ⟨q10504, q10505, q10506, q10507⟩ := q10500
                          rw [q10504] at X10501
                          rw [q10504] at q10506
                          rw [q10504] at q10507
                          refine lv_i2l S.1.1 S.1.2.1 dX12_skip_243 rfl ?_
                          refine lv_topl (fun j10508 _ => ?_)
                          refine lv_lor S.1.1 S.1.2.1 dX12_skip_244 ?_
                          refine lv_topl (fun j10509 _ => ?_)
                          refine r_putJ (K := 38) S X10501 (Nat.le_of_ble_eq_true rfl) rfl lk12_170_10 (fun _ => ⟨_, rfl, Nat.le_of_ble_eq_true rfl, rfl⟩) (fun _ _ _ h => by cases h; exact ⟨rfl, rfl⟩) dX12_skip_245 (fun H lc X10510 => ?_)
                          exact J10387 _ _ _ X10510 (R_of r10494 rfl) (lv_sub hl [1, 2, 0] rfl)
                      refine r_if_eq (tgt := 220) S dX12_skip_202 (by decide) (fun c10511 => ?_) (fun c10511 => ?_)
                      ·
                        have r10512 : R (0) (0) i10193 := ⟨by omega, by omega⟩
                        refine r_iconst S dX12_skip_220 (by decide) (fun v10513 z10514 => ?_)
                        have r10515 := R_eq z10514
                        exact J10362 _ _ _ v10513 X10327 (R_of r10515 rfl) (lv_sub hl [0, 1] rfl)
                      ·
                        have r10516 : R (1) (1) i10193 := ⟨by omega, by omega⟩
                        refine r_aload_n S dX12_skip_205 rfl (lv_at hl 0 rfl) ?_
                        refine r_ki (q_V (As := []) (rest := []) (K := 38) (ci := 10) S X10327 (c_X12_peek_x l G t10195 I10196 ) ck12_147 (Nat.le_of_ble_eq_true rfl) rfl (fun _ => ⟨_, rfl⟩) ⟨_, _, rfl⟩ ⟨Nat.le_of_ble_eq_true rfl, Nat.le_of_ble_eq_true rfl⟩ rfl hl.1 rfl (Nat.le_of_ble_eq_true rfl) dX12_skip_206 ⟨Nat.le_refl 0, Nat.le_refl 0⟩) X10327 (fun v10520 t10519 H lc q10517 X10518 => ?_)
                        unfold po_X12_peek_x at q10517
                        obtain ⟨q10521, q10522, q10523, q10524⟩ := q10517
                        rw [q10521] at X10518
                        rw [q10521] at q10523
                        rw [q10521] at q10524
                        refine r_ki (q_S (As := [.int v10520]) (rest := []) S X10518 (c_X12_isSmall_x l G t10195 I10196 v10520 (R_of (lo := -2147483648) (hi := 2147483647) q10522 rfl)) ck12_160 ⟨Nat.le_of_ble_eq_true rfl, Nat.le_of_ble_eq_true rfl⟩ rfl hl.1 rfl (Nat.le_of_ble_eq_true rfl) dX12_skip_209 ⟨Nat.le_refl 0, Nat.le_refl 0⟩) X10518 (fun v10528 t10527 H lc q10525 X10526 => ?_)
                        unfold po_X12_isSmall_x at q10525
                        obtain ⟨q10529, q10530, q10531, q10532⟩ := q10525
                        rw [q10529] at X10526
                        refine r_iload_n S dX12_skip_212 rfl (lv_at hl 1 rfl) ?_
                        refine r_icmp_ne (tgt := 220) S dX12_skip_213 (by decide) (fun c10533 => ?_) (fun c10533 => ?_)
                        ·
                          refine r_iconst S dX12_skip_220 (by decide) (fun v10534 z10535 => ?_)
                          have r10536 := R_eq z10535
                          exact J10362 _ _ _ v10534 X10526 (R_of r10536 rfl) (lv_sub hl [0, 1] rfl)
                        ·
                          refine r_iconst S dX12_skip_216 (by decide) (fun v10537 z10538 => ?_)
                          have r10539 := R_eq z10538
                          refine r_goto (tgt := 221) S dX12_skip_217 (by decide) ?_
                          exact J10362 _ _ _ v10537 X10526 (R_of r10539 rfl) (lv_sub hl [0, 1] rfl)
                    refine r_if_ne (tgt := 201) S dX12_skip_188 (by decide) (fun c10540 => ?_) (fun c10540 => ?_)
                    ·
                      have r10541 : R (1) (1) v10227 := ⟨by omega, by omega⟩
                      have p10542 := q10230 (by omega)
                      have r10543 : R (97) (122) v10219 := ⟨by omega, by omega⟩
                      have p10544 := q10222 (by omega)
                      have r10545 : R (0) (939) f10199 := z10201 ▸ p10544
                      have r10546 : R (0) (939) f10199 := ⟨by omega, by omega⟩
                      exact J10329 _ _ _ X10225 r10546 (lv_sub hl [0, 1, 2] rfl)
                    ·
                      have r10547 : R (0) (0) v10227 := ⟨by omega, by omega⟩
                      refine r_aload_n S dX12_skip_191 rfl (lv_at hl 0 rfl) ?_
                      refine r_ki (q_V (As := []) (rest := []) (K := 38) (ci := 10) S X10225 (c_X12_peek_x l G t10195 I10196 ) ck12_147 (Nat.le_of_ble_eq_true rfl) rfl (fun _ => ⟨_, rfl⟩) ⟨_, _, rfl⟩ ⟨Nat.le_of_ble_eq_true rfl, Nat.le_of_ble_eq_true rfl⟩ rfl hl.1 rfl (Nat.le_of_ble_eq_true rfl) dX12_skip_192 ⟨Nat.le_refl 0, Nat.le_refl 0⟩) X10225 (fun v10551 t10550 H lc q10548 X10549 => ?_)
                      unfold po_X12_peek_x at q10548
                      obtain ⟨q10552, q10553, q10554, q10555⟩ := q10548
                      rw [q10552] at X10549
                      rw [q10552] at q10554
                      rw [q10552] at q10555
                      refine r_ki (q_S (As := [.int v10551]) (rest := []) S X10549 (c_X12_isDigit_x l G t10195 I10196 v10551 (R_of (lo := -2147483648) (hi := 2147483647) q10553 rfl)) ck12_164 ⟨Nat.le_of_ble_eq_true rfl, Nat.le_of_ble_eq_true rfl⟩ rfl hl.1 rfl (Nat.le_of_ble_eq_true rfl) dX12_skip_195 ⟨Nat.le_refl 0, Nat.le_refl 0⟩) X10549 (fun v10559 t10558 H lc q10556 X10557 => ?_)
                      unfold po_X12_isDigit_x at q10556
                      obtain ⟨q10560, q10561, q10562, q10563⟩ := q10556
                      rw [q10560] at X10557
                      refine r_if_eq (tgt := 298) S dX12_skip_198 (by decide) (fun c10564 => ?_) (fun c10564 => ?_)
                      ·
                        have r10565 : R (0) (0) v10559 := ⟨by omega, by omega⟩
                        refine r_aload_n S dX12_skip_298 rfl (lv_at hl 0 rfl) ?_
                        refine r_iload_n S dX12_skip_299 rfl (lv_at hl 2 rfl) ?_
                        refine r_if_eq (tgt := 320) S dX12_skip_300 (by decide) (fun c10566 => ?_) (fun c10566 => ?_)
                        ·
                          have r10567 : R (0) (0) i10193 := ⟨by omega, by omega⟩
                          refine r_iconst S dX12_skip_320 (by decide) (fun v10568 z10569 => ?_)
                          have r10570 := R_eq z10569
                          refine r_goto (tgt := 333) S dX12_skip_321 (by decide) ?_
                          refine r_put (K := 38) (ty := .int) S X10557 (Nat.le_of_ble_eq_true rfl) rfl lk12_157_10 (fun _ => ⟨_, rfl, Nat.le_of_ble_eq_true rfl, rfl⟩) (fun _ _ _ h => by cases h; exact ⟨rfl, rfl⟩) rfl rfl dX12_skip_333 (fun t10571 H lc M10572 X10573 => ?_)
                          have I10574 := Inv_mu I10196 M10572 (show Rg (kd 131) 11 v10568 from (R_of (lo := 0) (hi := 4) r10570 rfl))
                          have F10575 : Fr [(131, 4), (131, 11), (131, 12), (131, 13), (131, 14)] [] τ t10571 := Fr_mu F10197 M10572 (by decide)
                          exact r_vret S hr hlk X10573 ⟨I10574, F10575, (by rw [((M10572.2 131 4 (Or.inr (by decide))).trans z10201)]; exact R_of r10200 rfl), (by rw [M10572.1]; exact R_of r10570 rfl), (by have h1_0 := congrArg Int32.toInt ((M10572.2 131 4 (Or.inr (by decide))).trans z10201); have h2_0 := congrArg Int32.toInt z2; omega), (by have h1_0 := congrArg Int32.toInt ((M10572.2 131 4 (Or.inr (by decide))).trans z10201); have h2_0 := congrArg Int32.toInt z2; have h1_1 := congrArg Int32.toInt M10572.1; omega)⟩ dX12_skip_336
                        ·
                          have r10576 : R (1) (1) i10193 := ⟨by omega, by omega⟩
                          refine r_aload_n S dX12_skip_303 rfl (lv_at hl 0 rfl) ?_
                          refine r_geti (K := 38) S X10557 (Nat.le_of_ble_eq_true rfl) rfl lk12_154_10 (fun _ => ⟨_, rfl, rfl⟩) z10206 dX12_skip_304 ?_
                          refine r_iload_n S dX12_skip_307 rfl (lv_at hl 1 rfl) ?_
                          refine r_if_eq (tgt := 316) S dX12_skip_308 (by decide) (fun c10577 => ?_) (fun c10577 => ?_)
                          ·
                            have r10578 : R (0) (0) v309 := ⟨by omega, by omega⟩
                            refine r_iconst S dX12_skip_316 (by decide) (fun v10579 z10580 => ?_)
                            have r10581 := R_eq z10580
                            refine r_icmp_le (tgt := 324) S dX12_skip_317 (by decide) (fun c10582 => ?_) (fun c10582 => ?_)
                            ·
                              have r10583 : R (0) (2) f10204 := ⟨by omega, by omega⟩
                              refine r_iload_n S dX12_skip_324 rfl (lv_at hl 1 rfl) ?_
                              refine r_if_eq (tgt := 332) S dX12_skip_325 (by decide) (fun c10584 => ?_) (fun c10584 => ?_)
                              ·
                                refine r_iconst S dX12_skip_332 (by decide) (fun v10585 z10586 => ?_)
                                have r10587 := R_eq z10586
                                refine r_put (K := 38) (ty := .int) S X10557 (Nat.le_of_ble_eq_true rfl) rfl lk12_157_10 (fun _ => ⟨_, rfl, Nat.le_of_ble_eq_true rfl, rfl⟩) (fun _ _ _ h => by cases h; exact ⟨rfl, rfl⟩) rfl rfl dX12_skip_333 (fun t10588 H lc M10589 X10590 => ?_)
                                have I10591 := Inv_mu I10196 M10589 (show Rg (kd 131) 11 v10585 from (R_of (lo := 0) (hi := 4) r10587 rfl))
                                have F10592 : Fr [(131, 4), (131, 11), (131, 12), (131, 13), (131, 14)] [] τ t10588 := Fr_mu F10197 M10589 (by decide)
                                exact r_vret S hr hlk X10590 ⟨I10591, F10592, (by rw [((M10589.2 131 4 (Or.inr (by decide))).trans z10201)]; exact R_of r10200 rfl), (by rw [M10589.1]; exact R_of r10587 rfl), (by have h1_0 := congrArg Int32.toInt ((M10589.2 131 4 (Or.inr (by decide))).trans z10201); have h2_0 := congrArg Int32.toInt z2; omega), (by have h1_0 := congrArg Int32.toInt ((M10589.2 131 4 (Or.inr (by decide))).trans z10201); have h2_0 := congrArg Int32.toInt z2; have h1_1 := congrArg Int32.toInt M10589.1; omega)⟩ dX12_skip_336
                              ·
                                exfalso; omega
                            ·
                              have r10593 : R (3) (940) f10204 := ⟨by omega, by omega⟩
                              refine r_iconst S dX12_skip_320 (by decide) (fun v10594 z10595 => ?_)
                              have r10596 := R_eq z10595
                              refine r_goto (tgt := 333) S dX12_skip_321 (by decide) ?_
                              refine r_put (K := 38) (ty := .int) S X10557 (Nat.le_of_ble_eq_true rfl) rfl lk12_157_10 (fun _ => ⟨_, rfl, Nat.le_of_ble_eq_true rfl, rfl⟩) (fun _ _ _ h => by cases h; exact ⟨rfl, rfl⟩) rfl rfl dX12_skip_333 (fun t10597 H lc M10598 X10599 => ?_)
                              have I10600 := Inv_mu I10196 M10598 (show Rg (kd 131) 11 v10594 from (R_of (lo := 0) (hi := 4) r10596 rfl))
                              have F10601 : Fr [(131, 4), (131, 11), (131, 12), (131, 13), (131, 14)] [] τ t10597 := Fr_mu F10197 M10598 (by decide)
                              exact r_vret S hr hlk X10599 ⟨I10600, F10601, (by rw [((M10598.2 131 4 (Or.inr (by decide))).trans z10201)]; exact R_of r10200 rfl), (by rw [M10598.1]; exact R_of r10596 rfl), (by have h1_0 := congrArg Int32.toInt ((M10598.2 131 4 (Or.inr (by decide))).trans z10201); have h2_0 := congrArg Int32.toInt z2; omega), (by have h1_0 := congrArg Int32.toInt ((M10598.2 131 4 (Or.inr (by decide))).trans z10201); have h2_0 := congrArg Int32.toInt z2; have h1_1 := congrArg Int32.toInt M10598.1; omega)⟩ dX12_skip_336
                          ·
                            have r10602 : R (1) (1) v309 := ⟨by omega, by omega⟩
                            have p10603 := q312 (by omega)
                            have r10604 : R (97) (122) v281 := ⟨by omega, by omega⟩
                            have p10605 := q284 (by omega)
                            refine r_bipush S dX12_skip_311 (by decide) (fun v10606 z10607 => ?_)
                            have r10608 := R_eq z10607
                            refine r_goto (tgt := 317) S dX12_skip_313 (by decide) ?_
                            refine r_icmp_le (tgt := 324) S dX12_skip_317 (by decide) (fun c10609 => ?_) (fun c10609 => ?_)
                            ·
                              have r10610 : R (0) (7) f10204 := ⟨by omega, by omega⟩
                              refine r_iload_n S dX12_skip_324 rfl (lv_at hl 1 rfl) ?_
                              refine r_if_eq (tgt := 332) S dX12_skip_325 (by decide) (fun c10611 => ?_) (fun c10611 => ?_)
                              ·
                                exfalso; omega
                              ·
                                refine r_iconst S dX12_skip_328 (by decide) (fun v10612 z10613 => ?_)
                                have r10614 := R_eq z10613
                                refine r_goto (tgt := 333) S dX12_skip_329 (by decide) ?_
                                refine r_put (K := 38) (ty := .int) S X10557 (Nat.le_of_ble_eq_true rfl) rfl lk12_157_10 (fun _ => ⟨_, rfl, Nat.le_of_ble_eq_true rfl, rfl⟩) (fun _ _ _ h => by cases h; exact ⟨rfl, rfl⟩) rfl rfl dX12_skip_333 (fun t10615 H lc M10616 X10617 => ?_)
                                have I10618 := Inv_mu I10196 M10616 (show Rg (kd 131) 11 v10612 from (R_of (lo := 0) (hi := 4) r10614 rfl))
                                have F10619 : Fr [(131, 4), (131, 11), (131, 12), (131, 13), (131, 14)] [] τ t10615 := Fr_mu F10197 M10616 (by decide)
                                exact r_vret S hr hlk X10617 ⟨I10618, F10619, (by rw [((M10616.2 131 4 (Or.inr (by decide))).trans z10201)]; exact R_of r10200 rfl), (by rw [M10616.1]; exact R_of r10614 rfl), (by have h1_0 := congrArg Int32.toInt ((M10616.2 131 4 (Or.inr (by decide))).trans z10201); have h2_0 := congrArg Int32.toInt z2; omega), (by have h1_0 := congrArg Int32.toInt ((M10616.2 131 4 (Or.inr (by decide))).trans z10201); have h2_0 := congrArg Int32.toInt z2; have h1_1 := congrArg Int32.toInt M10616.1; omega)⟩ dX12_skip_336
                            ·
                              have r10620 : R (8) (940) f10204 := ⟨by omega, by omega⟩
                              refine r_iconst S dX12_skip_320 (by decide) (fun v10621 z10622 => ?_)
                              have r10623 := R_eq z10622
                              refine r_goto (tgt := 333) S dX12_skip_321 (by decide) ?_
                              refine r_put (K := 38) (ty := .int) S X10557 (Nat.le_of_ble_eq_true rfl) rfl lk12_157_10 (fun _ => ⟨_, rfl, Nat.le_of_ble_eq_true rfl, rfl⟩) (fun _ _ _ h => by cases h; exact ⟨rfl, rfl⟩) rfl rfl dX12_skip_333 (fun t10624 H lc M10625 X10626 => ?_)
                              have I10627 := Inv_mu I10196 M10625 (show Rg (kd 131) 11 v10621 from (R_of (lo := 0) (hi := 4) r10623 rfl))
                              have F10628 : Fr [(131, 4), (131, 11), (131, 12), (131, 13), (131, 14)] [] τ t10624 := Fr_mu F10197 M10625 (by decide)
                              exact r_vret S hr hlk X10626 ⟨I10627, F10628, (by rw [((M10625.2 131 4 (Or.inr (by decide))).trans z10201)]; exact R_of r10200 rfl), (by rw [M10625.1]; exact R_of r10623 rfl), (by have h1_0 := congrArg Int32.toInt ((M10625.2 131 4 (Or.inr (by decide))).trans z10201); have h2_0 := congrArg Int32.toInt z2; omega), (by have h1_0 := congrArg Int32.toInt ((M10625.2 131 4 (Or.inr (by decide))).trans z10201); have h2_0 := congrArg Int32.toInt z2; have h1_1 := congrArg Int32.toInt M10625.1; omega)⟩ dX12_skip_336
                      ·
                        have r10629 : R (1) (1) v10559 := ⟨by omega, by omega⟩
                        have p10630 := q10562 (by omega)
                        have r10631 : R (48) (57) v10551 := ⟨by omega, by omega⟩
                        have p10632 := q10554 (by omega)
                        have r10633 : R (0) (939) f10199 := z10201 ▸ p10632
                        have r10634 : R (0) (939) f10199 := ⟨by omega, by omega⟩
                        exact J10329 _ _ _ X10557 r10634 (lv_sub hl [0, 1, 2] rfl)
                exact L10211 _ t322 _ _ _ v314 f194 v246 v319 X324 I325 F326 (R_of r316 rfl) ((M323.2 131 4 (Or.inr (by decide))).trans ((M250.2 131 4 (Or.inr (by decide))).trans ((M242.2 131 4 (Or.inr (by decide))).trans z196))) ⟨by omega, by omega⟩ ((M323.2 131 3 (Or.inr (by decide))).trans ((M250.2 131 3 (Or.inr (by decide))).trans ((M242.2 131 3 (Or.inr (by decide))).trans z197))) ((M323.2 131 12 (Or.inr (by decide))).trans ((M250.2 131 12 (Or.inr (by decide))).trans M242.1)) ((M323.2 131 13 (Or.inr (by decide))).trans M250.1) ⟨by omega, by omega⟩ ((M323.2 131 5 (Or.inr (by decide))).trans z255) M323.1 ⟨by omega, by omega⟩ (by omega) (by omega) (fun _ => (pkv_eq ((M323.2 131 4 (Or.inr (by decide))).trans rfl) ((M323.2 131 3 (Or.inr (by decide))).trans rfl) (fun j => ((M323.2 132 j (Or.inl (by decide))).trans rfl))).trans q285.symm) (lv_sub hl [3, 1, 0] rfl) (Nat.lt_succ_self _)
              ·
                have r10635 : R (0) (0) v294 := ⟨by omega, by omega⟩
                refine r_iload_n S dX12_skip_102 rfl (lv_at hl 0 rfl) ?_
                refine r_ki (q_S (As := [.int v281]) (rest := []) S X292 (c_X12_isDigit_x l G t249 I252 v281 (R_of (lo := -2147483648) (hi := 2147483647) r287 rfl)) ck12_164 ⟨Nat.le_of_ble_eq_true rfl, Nat.le_of_ble_eq_true rfl⟩ rfl hl.1 rfl (Nat.le_of_ble_eq_true rfl) dX12_skip_103 ⟨Nat.le_refl 0, Nat.le_refl 0⟩) X292 (fun v10639 t10638 H lc q10636 X10637 => ?_)
                unfold po_X12_isDigit_x at q10636
                obtain ⟨q10640, q10641, q10642, q10643⟩ := q10636
                rw [q10640] at X10637
                refine r_if_ne (tgt := 164) S dX12_skip_106 (by decide) (fun c10644 => ?_) (fun c10644 => ?_)
                ·
                  have r10645 : R (1) (1) v10639 := ⟨by omega, by omega⟩
                  have p10646 := q10642 (by omega)
                  have r10647 : R (48) (57) v281 := ⟨by omega, by omega⟩
                  have p10648 := q284 (by omega)
                  have r10649 : R (0) (939) f194 := ((M250.2 131 4 (Or.inr (by decide))).trans ((M242.2 131 4 (Or.inr (by decide))).trans z196)) ▸ p10648
                  have r10650 : R (0) (939) f194 := ⟨by omega, by omega⟩
                  refine r_iload_n S dX12_skip_164 rfl (lv_at hl 0 rfl) ?_
                  refine r_ki (q_S (As := [.int v281]) (rest := []) S X10637 (c_X12_isSmall_x l G t249 I252 v281 (R_of (lo := -2147483648) (hi := 2147483647) r10647 rfl)) ck12_160 ⟨Nat.le_of_ble_eq_true rfl, Nat.le_of_ble_eq_true rfl⟩ rfl hl.1 rfl (Nat.le_of_ble_eq_true rfl) dX12_skip_165 ⟨Nat.le_refl 0, Nat.le_refl 0⟩) X10637 (fun v10654 t10653 H lc q10651 X10652 => ?_)
                  unfold po_X12_isSmall_x at q10651
                  obtain ⟨q10655, q10656, q10657, q10658⟩ := q10651
                  rw [q10655] at X10652
                  refine r_istore_n (lv' := [(2, .int v10654), (1, .int v281), (0, .ref (G.2.2.2.1 131))]) S dX12_skip_168 rfl hl (by decide) rfl (fun ls hl => ?_)
                  refine r_iconst S dX12_skip_169 (by decide) (fun v10659 z10660 => ?_)
                  have r10661 := R_eq z10660
                  refine r_istore_n (lv' := [(3, .int v10659), (2, .int v10654), (1, .int v281), (0, .ref (G.2.2.2.1 131))]) S dX12_skip_170 rfl hl (by decide) rfl (fun ls hl => ?_)
                  refine r_aload_n S dX12_skip_171 rfl (lv_at hl 3 rfl) ?_
                  refine lv_lconst S.1.1 S.1.2.1 dX12_skip_172 rfl ?_
                  refine lv_topl (fun j10662 _ => ?_)
                  refine r_putJ (K := 38) S X10652 (Nat.le_of_ble_eq_true rfl) rfl lk12_170_10 (fun _ => ⟨_, rfl, Nat.le_of_ble_eq_true rfl, rfl⟩) (fun _ _ _ h => by cases h; exact ⟨rfl, rfl⟩) dX12_skip_173 (fun H lc X10663 => ?_)
                  refine r_aload_n S dX12_skip_176 rfl (lv_at hl 3 rfl) ?_
                  refine r_iconst S dX12_skip_177 (by decide) (fun v10664 z10665 => ?_)
                  have r10666 := R_eq z10665
                  refine r_put (K := 38) (ty := .int) S X10663 (Nat.le_of_ble_eq_true rfl) rfl lk12_167_10 (fun _ => ⟨_, rfl, Nat.le_of_ble_eq_true rfl, rfl⟩) (fun _ _ _ h => by cases h; exact ⟨rfl, rfl⟩) rfl rfl dX12_skip_178 (fun t10667 H lc M10668 X10669 => ?_)
                  have I10670 := Inv_mu I252 M10668 (R_any v10664)
                  have F10671 : Fr [(131, 4), (131, 11), (131, 12), (131, 13), (131, 14)] [] τ t10667 := Fr_mu F253 M10668 (by decide)
                  have L20556 : ∀ (n : Nat) (t20540 : Tau) (H : Heap) (lc : List Loc) (ls : Array Slot) (i20538 : Int32) (f20544 : Int32) (f20549 : Int32) (f20553 : Int32), Xd G s H lc t20540 → Inv t20540 → Fr [(131, 4), (131, 11), (131, 12), (131, 13), (131, 14)] [] τ t20540 → R (0) (1) i20538 → t20540 131 4 = f20544 → R (0) (940) f20544 → t20540 131 3 = v4 → t20540 131 12 = f194 → t20540 131 13 = f20549 → R (0) (940) f20549 → t20540 131 5 = v254 → t20540 131 14 = f20553 → R (-2147483648) (2147483647) f20553 → 0 ≤ f20549.toInt → f20544.toInt = f194.toInt + f20549.toInt → (f20549.toInt = 0 → pkv t20540 = v281.toInt) → lv_has ls 4 [(0, .ref (G.2.2.2.1 131)), (2, .int v10654), (3, .int i20538)] → (940 - f20544.toInt).toNat < n → W p l e (Rm 1 20) s m ([.ref (G.2.2.2.1 131)] : List Value).toArray below meth c H lc 0 0 (MQ below (va_Qv (po_X12_skip τ  ) (Bs G) G.2.2.2.2) ([.ref (G.2.2.2.1 131)] : List Value).toArray s 0 0 G.2.2.2.2) (F0 m 181 ls []) := by
                    intro n
                    induction n with
                    | zero => intros; omega
                    | succ n ih20560 =>
                      intro t20540 H lc ls i20538 f20544 f20549 f20553 X20543 I20541 F20542 r20539 z20546 r20545 z20547 z20548 z20551 r20550 z20552 z20555 r20554 x20557 x20558 x20559 hl hm
                      refine r_aload_n S dX12_skip_181 rfl (lv_at hl 0 rfl) ?_
                      refine r_ki (q_V (As := []) (rest := []) (K := 38) (ci := 10) S X20543 (c_X12_peek_x l G t20540 I20541 ) ck12_147 (Nat.le_of_ble_eq_true rfl) rfl (fun _ => ⟨_, rfl⟩) ⟨_, _, rfl⟩ ⟨Nat.le_of_ble_eq_true rfl, Nat.le_of_ble_eq_true rfl⟩ rfl hl.1 rfl (Nat.le_of_ble_eq_true rfl) dX12_skip_182 ⟨Nat.le_refl 0, Nat.le_refl 0⟩) X20543 (fun v20564 t20563 H lc q20561 X20562 => ?_)
                      unfold po_X12_peek_x at q20561
                      obtain ⟨q20565, q20566, q20567, q20568⟩ := q20561
                      rw [q20565] at X20562
                      rw [q20565] at q20567
                      rw [q20565] at q20568
                      refine r_ki (q_S (As := [.int v20564]) (rest := []) S X20562 (c_X12_isSmall_x l G t20540 I20541 v20564 (R_of (lo := -2147483648) (hi := 2147483647) q20566 rfl)) ck12_160 ⟨Nat.le_of_ble_eq_true rfl, Nat.le_of_ble_eq_true rfl⟩ rfl hl.1 rfl (Nat.le_of_ble_eq_true rfl) dX12_skip_185 ⟨Nat.le_refl 0, Nat.le_refl 0⟩) X20562 (fun v20572 t20571 H lc q20569 X20570 => ?_)
                      unfold po_X12_isSmall_x at q20569
                      obtain ⟨q20573, q20574, q20575, q20576⟩ := q20569
                      rw [q20573] at X20570
                      have J20649 : ∀ (H : Heap) (lc : List Loc) (ls : Array Slot), Xd G s H lc t20540 → R (0) (939) f20544 → lv_has ls 4 [(0, .ref (G.2.2.2.1 131)), (2, .int v10654), (3, .int i20538)] → W p l e (Rm 1 20) s m ([.ref (G.2.2.2.1 131)] : List Value).toArray below meth c H lc 0 0 (MQ below (va_Qv (po_X12_skip τ  ) (Bs G) G.2.2.2.2) ([.ref (G.2.2.2.1 131)] : List Value).toArray s 0 0 G.2.2.2.2) (F0 m 201 ls []) := by
                        intro H lc ls X20647 r20648 hl
                        refine r_iload_n S dX12_skip_201 rfl (lv_at hl 2 rfl) ?_
                        have J20682 : ∀ (H : Heap) (lc : List Loc) (ls : Array Slot) (i20680 : Int32), Xd G s H lc t20540 → R (0) (1) i20680 → lv_has ls 4 [(0, .ref (G.2.2.2.1 131)), (2, .int v10654)] → W p l e (Rm 1 20) s m ([.ref (G.2.2.2.1 131)] : List Value).toArray below meth c H lc 0 0 (MQ below (va_Qv (po_X12_skip τ  ) (Bs G) G.2.2.2.2) ([.ref (G.2.2.2.1 131)] : List Value).toArray s 0 0 G.2.2.2.2) (F0 m 221 ls [.int i20680]) := by
                          intro H lc ls i20680 X20679 r20681 hl
                          refine r_istore_n (lv' := [(3, .int i20680), (0, .ref (G.2.2.2.1 131)), (2, .int v10654)]) S dX12_skip_221 rfl hl (by decide) rfl (fun ls hl => ?_)
                          refine r_aload_n S dX12_skip_222 rfl (lv_at hl 1 rfl) ?_
                          refine r_geti (K := 38) S X20679 (Nat.le_of_ble_eq_true rfl) rfl lk12_154_10 (fun _ => ⟨_, rfl, rfl⟩) z20551 dX12_skip_223 ?_
                          refine r_bipush S dX12_skip_226 (by decide) (fun v20683 z20684 => ?_)
                          have r20685 := R_eq z20684
                          have J20707 : ∀ (H : Heap) (lc : List Loc) (ls : Array Slot), Xd G s H lc t20540 → R (0) (940) f20549 → lv_has ls 4 [(0, .ref (G.2.2.2.1 131)), (2, .int v10654), (3, .int i20680)] → W p l e (Rm 1 20) s m ([.ref (G.2.2.2.1 131)] : List Value).toArray below meth c H lc 0 0 (MQ below (va_Qv (po_X12_skip τ  ) (Bs G) G.2.2.2.2) ([.ref (G.2.2.2.1 131)] : List Value).toArray s 0 0 G.2.2.2.2) (F0 m 248 ls []) := by
                            intro H lc ls X20705 r20706 hl
                            refine r_aload_n S dX12_skip_248 rfl (lv_at hl 0 rfl) ?_
                            refine r_geti (K := 38) S X20705 (Nat.le_of_ble_eq_true rfl) rfl lk12_154_10 (fun _ => ⟨_, rfl, rfl⟩) z20551 dX12_skip_249 ?_
                            refine r_iconst S dX12_skip_252 (by decide) (fun v20708 z20709 => ?_)
                            have r20710 := R_eq z20709
                            have J20755 : ∀ (t20742 : Tau) (H : Heap) (lc : List Loc) (ls : Array Slot) (i20752 : Int32), Xd G s H lc t20742 → Inv t20742 → Fr [(131, 4), (131, 11), (131, 12), (131, 13), (131, 14)] [] τ t20742 → t20742 131 4 = f20544 → t20742 131 3 = v4 → t20742 131 12 = f194 → R (0) (940) f20549 → t20742 131 13 = f20549 → t20742 131 5 = v254 → R (-2147483648) (2147483647) i20752 → t20742 131 14 = i20752 → lv_has ls 4 [(0, .ref (G.2.2.2.1 131)), (2, .int v10654), (3, .int i20680)] → W p l e (Rm 1 20) s m ([.ref (G.2.2.2.1 131)] : List Value).toArray below meth c H lc 0 0 (MQ below (va_Qv (po_X12_skip τ  ) (Bs G) G.2.2.2.2) ([.ref (G.2.2.2.1 131)] : List Value).toArray s 0 0 G.2.2.2.2) (F0 m 275 ls []) := by
                              intro t20742 H lc ls i20752 X20745 I20743 F20744 z20746 z20747 z20748 r20749 z20750 z20751 r20753 z20754 hl
                              refine r_aload_n S dX12_skip_275 rfl (lv_at hl 0 rfl) ?_
                              refine r_dup S dX12_skip_276 rfl ?_
                              refine r_geti (K := 38) S X20745 (Nat.le_of_ble_eq_true rfl) rfl lk12_154_10 (fun _ => ⟨_, rfl, rfl⟩) z20750 dX12_skip_277 ?_
                              refine r_iconst S dX12_skip_280 (by decide) (fun v20756 z20757 => ?_)
                              have r20758 := R_eq z20757
                              refine r_iadd S dX12_skip_281 (fun v20759 z20760 => ?_)
                              obtain ⟨e20761, r20762⟩ := i_add (lo := 1) (hi := 941) z20760 r20749 r20758 rfl
                              refine r_put (K := 38) (ty := .int) S X20745 (Nat.le_of_ble_eq_true rfl) rfl lk12_154_10 (fun _ => ⟨_, rfl, Nat.le_of_ble_eq_true rfl, rfl⟩) (fun _ _ _ h => by cases h; exact ⟨rfl, rfl⟩) rfl rfl dX12_skip_282 (fun t20763 H lc M20764 X20765 => ?_)
                              have I20766 := Inv_mu I20743 M20764 (show Rg (kd 131) 13 v20759 from (show R (0) (940) v20759 from ⟨by omega, by omega⟩))
                              have F20767 : Fr [(131, 4), (131, 11), (131, 12), (131, 13), (131, 14)] [] τ t20763 := Fr_mu F20744 M20764 (by decide)
                              have r20768 : R (1) (940) v20759 := ⟨by omega, by omega⟩
                              refine r_aload_n S dX12_skip_285 rfl (lv_at hl 0 rfl) ?_
                              refine r_dup S dX12_skip_286 rfl ?_
                              refine r_geti (K := 38) S X20765 (Nat.le_of_ble_eq_true rfl) rfl lk12_21_10 (fun _ => ⟨_, rfl, rfl⟩) ((M20764.2 131 4 (Or.inr (by decide))).trans z20746) dX12_skip_287 ?_
                              refine r_iconst S dX12_skip_290 (by decide) (fun v20769 z20770 => ?_)
                              have r20771 := R_eq z20770
                              refine r_iadd S dX12_skip_291 (fun v20772 z20773 => ?_)
                              obtain ⟨e20774, r20775⟩ := i_add (lo := 1) (hi := 940) z20773 r20648 r20771 rfl
                              refine r_put (K := 38) (ty := .int) S X20765 (Nat.le_of_ble_eq_true rfl) rfl lk12_21_10 (fun _ => ⟨_, rfl, Nat.le_of_ble_eq_true rfl, rfl⟩) (fun _ _ _ h => by cases h; exact ⟨rfl, rfl⟩) rfl rfl dX12_skip_292 (fun t20776 H lc M20777 X20778 => ?_)
                              have I20779 := Inv_mu I20766 M20777 (show Rg (kd 131) 4 v20772 from (R_of (lo := 0) (hi := 940) r20775 rfl))
                              have F20780 : Fr [(131, 4), (131, 11), (131, 12), (131, 13), (131, 14)] [] τ t20776 := Fr_mu F20767 M20777 (by decide)
                              refine r_goto (tgt := 181) S dX12_skip_295 (by decide) ?_
                              exact ih20560 t20776 _ _ _ i20680 v20772 v20759 i20752 X20778 I20779 F20780 r20681 M20777.1 ⟨by omega, by omega⟩ ((M20777.2 131 3 (Or.inr (by decide))).trans ((M20764.2 131 3 (Or.inr (by decide))).trans z20747)) ((M20777.2 131 12 (Or.inr (by decide))).trans ((M20764.2 131 12 (Or.inr (by decide))).trans z20748)) ((M20777.2 131 13 (Or.inr (by decide))).trans M20764.1) ⟨by omega, by omega⟩ ((M20777.2 131 5 (Or.inr (by decide))).trans ((M20764.2 131 5 (Or.inr (by decide))).trans z20751)) ((M20777.2 131 14 (Or.inr (by decide))).trans ((M20764.2 131 14 (Or.inr (by decide))).trans z20754)) ⟨by omega, by omega⟩ (by omega) (by omega) (fun h => by exfalso; omega) (lv_sub hl [0, 1, 2] rfl) (by omega)
                            refine r_icmp_ge (tgt := 275) S dX12_skip_253 (by decide) (fun c20781 => ?_) (fun c20781 => ?_)
                            ·
                              have r20782 : R (2) (940) f20549 := ⟨by omega, by omega⟩
                              exact J20755 t20540 _ _ _ f20553 X20705 I20541 F20542 z20546 z20547 z20548 (R_of r20782 rfl) z20551 z20552 r20554 z20555 (lv_sub hl [0, 1, 2] rfl)
                            ·
                              have r20783 : R (0) (1) f20549 := ⟨by omega, by omega⟩
                              refine r_aload_n S dX12_skip_256 rfl (lv_at hl 0 rfl) ?_
                              refine r_bipush S dX12_skip_257 (by decide) (fun v20784 z20785 => ?_)
                              have r20786 := R_eq z20785
                              refine r_aload_n S dX12_skip_259 rfl (lv_at hl 0 rfl) ?_
                              refine r_geti (K := 38) S X20705 (Nat.le_of_ble_eq_true rfl) rfl lk12_167_10 (fun _ => ⟨_, rfl, rfl⟩) z20555 dX12_skip_260 ?_
                              refine r_imul S dX12_skip_263 (fun v20787 z20788 => ?_)
                              have r20789 := R_any v20787
                              refine r_aload_n S dX12_skip_264 rfl (lv_at hl 0 rfl) ?_
                              refine r_ki (q_V (As := []) (rest := [.int v20787, .ref (G.2.2.2.1 131)]) (K := 38) (ci := 10) S X20705 (c_X12_peek_x l G t20540 I20541 ) ck12_147 (Nat.le_of_ble_eq_true rfl) rfl (fun _ => ⟨_, rfl⟩) ⟨_, _, rfl⟩ ⟨Nat.le_of_ble_eq_true rfl, Nat.le_of_ble_eq_true rfl⟩ rfl hl.1 rfl (Nat.le_of_ble_eq_true rfl) dX12_skip_265 ⟨Nat.le_refl 0, Nat.le_refl 0⟩) X20705 (fun v20793 t20792 H lc q20790 X20791 => ?_)
                              unfold po_X12_peek_x at q20790
                              obtain ⟨q20794, q20795, q20796, q20797⟩ := q20790
                              rw [q20794] at X20791
                              rw [q20794] at q20796
                              rw [q20794] at q20797
                              refine r_iadd S dX12_skip_268 (fun v20798 z20799 => ?_)
                              have r20800 := R_any v20798
                              refine r_bipush S dX12_skip_269 (by decide) (fun v20801 z20802 => ?_)
                              have r20803 := R_eq z20802
                              refine r_isub S dX12_skip_271 (fun v20804 z20805 => ?_)
                              have r20806 := R_any v20804
                              refine r_put (K := 38) (ty := .int) S X20791 (Nat.le_of_ble_eq_true rfl) rfl lk12_167_10 (fun _ => ⟨_, rfl, Nat.le_of_ble_eq_true rfl, rfl⟩) (fun _ _ _ h => by cases h; exact ⟨rfl, rfl⟩) rfl rfl dX12_skip_272 (fun t20807 H lc M20808 X20809 => ?_)
                              have I20810 := Inv_mu I20541 M20808 (R_any v20804)
                              have F20811 : Fr [(131, 4), (131, 11), (131, 12), (131, 13), (131, 14)] [] τ t20807 := Fr_mu F20542 M20808 (by decide)
                              exact J20755 t20807 _ _ _ v20804 X20809 I20810 F20811 ((M20808.2 131 4 (Or.inr (by decide))).trans z20546) ((M20808.2 131 3 (Or.inr (by decide))).trans z20547) ((M20808.2 131 12 (Or.inr (by decide))).trans z20548) (R_of r20783 rfl) ((M20808.2 131 13 (Or.inr (by decide))).trans z20551) ((M20808.2 131 5 (Or.inr (by decide))).trans z20552) r20806 M20808.1 (lv_sub hl [0, 1, 2] rfl)
                          refine r_icmp_ge (tgt := 248) S dX12_skip_228 (by decide) (fun c20812 => ?_) (fun c20812 => ?_)
                          ·
                            have r20813 : R (7) (940) f20549 := ⟨by omega, by omega⟩
                            exact J20707 _ _ _ X20679 (R_of r20813 rfl) (lv_sub hl [1, 2, 0] rfl)
                          ·
                            have r20814 : R (0) (6) f20549 := ⟨by omega, by omega⟩
                            refine r_aload_n S dX12_skip_231 rfl (lv_at hl 1 rfl) ?_
                            refine r_aload_n S dX12_skip_232 rfl (lv_at hl 1 rfl) ?_
                            refine r_getJ (K := 38) S X20679 (Nat.le_of_ble_eq_true rfl) rfl lk12_170_10 (fun _ => ⟨_, rfl, rfl⟩) dX12_skip_233 (fun j20815 => ?_)
                            refine r_bipush S dX12_skip_236 (by decide) (fun v20816 z20817 => ?_)
                            have r20818 := R_eq z20817
                            refine lv_lshl S.1.1 S.1.2.1 dX12_skip_238 rfl ?_
                            refine lv_topl (fun j20819 _ => ?_)
                            refine r_aload_n S dX12_skip_239 rfl (lv_at hl 1 rfl) ?_
                            refine r_ki (q_V (As := []) (rest := [.long j20819, .ref (G.2.2.2.1 131)]) (K := 38) (ci := 10) S X20679 (c_X12_peek_x l G t20540 I20541 ) ck12_147 (Nat.le_of_ble_eq_true rfl) rfl (fun _ => ⟨_, rfl⟩) ⟨_, _, rfl⟩ ⟨Nat.le_of_ble_eq_true rfl, Nat.le_of_ble_eq_true rfl⟩ rfl hl.1 rfl (Nat.le_of_ble_eq_true rfl) dX12_skip_240 ⟨Nat.le_refl 0, Nat.le_refl 0⟩) X20679 (fun v20823 t20822 H lc q20820 X20821 => ?_)
                            unfold po_X12_peek_x at q20820
                            obtain ⟨q20824, q20825, q20826, q20827⟩ := q20820
                            rw [q20824] at X20821
                            rw [q20824] at q20826
                            rw [q20824] at q20827
                            refine lv_i2l S.1.1 S.1.2.1 dX12_skip_243 rfl ?_
                            refine lv_topl (fun j20828 _ => ?_)
                            refine lv_lor S.1.1 S.1.2.1 dX12_skip_244 ?_
                            refine lv_topl (fun j20829 _ => ?_)
                            refine r_putJ (K := 38) S X20821 (Nat.le_of_ble_eq_true rfl) rfl lk12_170_10 (fun _ => ⟨_, rfl, Nat.le_of_ble_eq_true rfl, rfl⟩) (fun _ _ _ h => by cases h; exact ⟨rfl, rfl⟩) dX12_skip_245 (fun H lc X20830 => ?_)
                            exact J20707 _ _ _ X20830 (R_of r20814 rfl) (lv_sub hl [1, 2, 0] rfl)
                        refine r_if_eq (tgt := 220) S dX12_skip_202 (by decide) (fun c20831 => ?_) (fun c20831 => ?_)
                        ·
                          have r20832 : R (0) (0) i20538 := ⟨by omega, by omega⟩
                          refine r_iconst S dX12_skip_220 (by decide) (fun v20833 z20834 => ?_)
                          have r20835 := R_eq z20834
                          exact J20682 _ _ _ v20833 X20647 (R_of r20835 rfl) (lv_sub hl [0, 1] rfl)
                        ·
                          have r20836 : R (1) (1) i20538 := ⟨by omega, by omega⟩
                          refine r_aload_n S dX12_skip_205 rfl (lv_at hl 0 rfl) ?_
                          refine r_ki (q_V (As := []) (rest := []) (K := 38) (ci := 10) S X20647 (c_X12_peek_x l G t20540 I20541 ) ck12_147 (Nat.le_of_ble_eq_true rfl) rfl (fun _ => ⟨_, rfl⟩) ⟨_, _, rfl⟩ ⟨Nat.le_of_ble_eq_true rfl, Nat.le_of_ble_eq_true rfl⟩ rfl hl.1 rfl (Nat.le_of_ble_eq_true rfl) dX12_skip_206 ⟨Nat.le_refl 0, Nat.le_refl 0⟩) X20647 (fun v20840 t20839 H lc q20837 X20838 => ?_)
                          unfold po_X12_peek_x at q20837
                          obtain ⟨q20841, q20842, q20843, q20844⟩ := q20837
                          rw [q20841] at X20838
                          rw [q20841] at q20843
                          rw [q20841] at q20844
                          refine r_ki (q_S (As := [.int v20840]) (rest := []) S X20838 (c_X12_isSmall_x l G t20540 I20541 v20840 (R_of (lo := -2147483648) (hi := 2147483647) q20842 rfl)) ck12_160 ⟨Nat.le_of_ble_eq_true rfl, Nat.le_of_ble_eq_true rfl⟩ rfl hl.1 rfl (Nat.le_of_ble_eq_true rfl) dX12_skip_209 ⟨Nat.le_refl 0, Nat.le_refl 0⟩) X20838 (fun v20848 t20847 H lc q20845 X20846 => ?_)
                          unfold po_X12_isSmall_x at q20845
                          obtain ⟨q20849, q20850, q20851, q20852⟩ := q20845
                          rw [q20849] at X20846
                          refine r_iload_n S dX12_skip_212 rfl (lv_at hl 1 rfl) ?_
                          refine r_icmp_ne (tgt := 220) S dX12_skip_213 (by decide) (fun c20853 => ?_) (fun c20853 => ?_)
                          ·
                            refine r_iconst S dX12_skip_220 (by decide) (fun v20854 z20855 => ?_)
                            have r20856 := R_eq z20855
                            exact J20682 _ _ _ v20854 X20846 (R_of r20856 rfl) (lv_sub hl [0, 1] rfl)
                          ·
                            refine r_iconst S dX12_skip_216 (by decide) (fun v20857 z20858 => ?_)
                            have r20859 := R_eq z20858
                            refine r_goto (tgt := 221) S dX12_skip_217 (by decide) ?_
                            exact J20682 _ _ _ v20857 X20846 (R_of r20859 rfl) (lv_sub hl [0, 1] rfl)
                      refine r_if_ne (tgt := 201) S dX12_skip_188 (by decide) (fun c20860 => ?_) (fun c20860 => ?_)
                      ·
                        have r20861 : R (1) (1) v20572 := ⟨by omega, by omega⟩
                        have p20862 := q20575 (by omega)
                        have r20863 : R (97) (122) v20564 := ⟨by omega, by omega⟩
                        have p20864 := q20567 (by omega)
                        have r20865 : R (0) (939) f20544 := z20546 ▸ p20864
                        have r20866 : R (0) (939) f20544 := ⟨by omega, by omega⟩
                        exact J20649 _ _ _ X20570 r20866 (lv_sub hl [0, 1, 2] rfl)
                      ·
                        have r20867 : R (0) (0) v20572 := ⟨by omega, by omega⟩
                        refine r_aload_n S dX12_skip_191 rfl (lv_at hl 0 rfl) ?_
                        refine r_ki (q_V (As := []) (rest := []) (K := 38) (ci := 10) S X20570 (c_X12_peek_x l G t20540 I20541 ) ck12_147 (Nat.le_of_ble_eq_true rfl) rfl (fun _ => ⟨_, rfl⟩) ⟨_, _, rfl⟩ ⟨Nat.le_of_ble_eq_true rfl, Nat.le_of_ble_eq_true rfl⟩ rfl hl.1 rfl (Nat.le_of_ble_eq_true rfl) dX12_skip_192 ⟨Nat.le_refl 0, Nat.le_refl 0⟩) X20570 (fun v20871 t20870 H lc q20868 X20869 => ?_)
                        unfold po_X12_peek_x at q20868
                        obtain ⟨q20872, q20873, q20874, q20875⟩ := q20868
                        rw [q20872] at X20869
                        rw [q20872] at q20874
                        rw [q20872] at q20875
                        refine r_ki (q_S (As := [.int v20871]) (rest := []) S X20869 (c_X12_isDigit_x l G t20540 I20541 v20871 (R_of (lo := -2147483648) (hi := 2147483647) q20873 rfl)) ck12_164 ⟨Nat.le_of_ble_eq_true rfl, Nat.le_of_ble_eq_true rfl⟩ rfl hl.1 rfl (Nat.le_of_ble_eq_true rfl) dX12_skip_195 ⟨Nat.le_refl 0, Nat.le_refl 0⟩) X20869 (fun v20879 t20878 H lc q20876 X20877 => ?_)
                        unfold po_X12_isDigit_x at q20876
                        obtain ⟨q20880, q20881, q20882, q20883⟩ := q20876
                        rw [q20880] at X20877
                        refine r_if_eq (tgt := 298) S dX12_skip_198 (by decide) (fun c20884 => ?_) (fun c20884 => ?_)
                        ·
                          have r20885 : R (0) (0) v20879 := ⟨by omega, by omega⟩
                          refine r_aload_n S dX12_skip_298 rfl (lv_at hl 0 rfl) ?_
                          refine r_iload_n S dX12_skip_299 rfl (lv_at hl 2 rfl) ?_
                          refine r_if_eq (tgt := 320) S dX12_skip_300 (by decide) (fun c20886 => ?_) (fun c20886 => ?_)
                          ·
                            have r20887 : R (0) (0) i20538 := ⟨by omega, by omega⟩
                            refine r_iconst S dX12_skip_320 (by decide) (fun v20888 z20889 => ?_)
                            have r20890 := R_eq z20889
                            refine r_goto (tgt := 333) S dX12_skip_321 (by decide) ?_
                            refine r_put (K := 38) (ty := .int) S X20877 (Nat.le_of_ble_eq_true rfl) rfl lk12_157_10 (fun _ => ⟨_, rfl, Nat.le_of_ble_eq_true rfl, rfl⟩) (fun _ _ _ h => by cases h; exact ⟨rfl, rfl⟩) rfl rfl dX12_skip_333 (fun t20891 H lc M20892 X20893 => ?_)
                            have I20894 := Inv_mu I20541 M20892 (show Rg (kd 131) 11 v20888 from (R_of (lo := 0) (hi := 4) r20890 rfl))
                            have F20895 : Fr [(131, 4), (131, 11), (131, 12), (131, 13), (131, 14)] [] τ t20891 := Fr_mu F20542 M20892 (by decide)
                            exact r_vret S hr hlk X20893 ⟨I20894, F20895, (by rw [((M20892.2 131 4 (Or.inr (by decide))).trans z20546)]; exact R_of r20545 rfl), (by rw [M20892.1]; exact R_of r20890 rfl), (by have h1_0 := congrArg Int32.toInt ((M20892.2 131 4 (Or.inr (by decide))).trans z20546); have h2_0 := congrArg Int32.toInt z2; omega), (by have h1_0 := congrArg Int32.toInt ((M20892.2 131 4 (Or.inr (by decide))).trans z20546); have h2_0 := congrArg Int32.toInt z2; have h1_1 := congrArg Int32.toInt M20892.1; omega)⟩ dX12_skip_336
                          ·
                            have r20896 : R (1) (1) i20538 := ⟨by omega, by omega⟩
                            refine r_aload_n S dX12_skip_303 rfl (lv_at hl 0 rfl) ?_
                            refine r_geti (K := 38) S X20877 (Nat.le_of_ble_eq_true rfl) rfl lk12_154_10 (fun _ => ⟨_, rfl, rfl⟩) z20551 dX12_skip_304 ?_
                            refine r_iload_n S dX12_skip_307 rfl (lv_at hl 1 rfl) ?_
                            refine r_if_eq (tgt := 316) S dX12_skip_308 (by decide) (fun c20897 => ?_) (fun c20897 => ?_)
                            ·
                              have r20898 : R (0) (0) v10654 := ⟨by omega, by omega⟩
                              refine r_iconst S dX12_skip_316 (by decide) (fun v20899 z20900 => ?_)
                              have r20901 := R_eq z20900
                              refine r_icmp_le (tgt := 324) S dX12_skip_317 (by decide) (fun c20902 => ?_) (fun c20902 => ?_)
                              ·
                                have r20903 : R (0) (2) f20549 := ⟨by omega, by omega⟩
                                refine r_iload_n S dX12_skip_324 rfl (lv_at hl 1 rfl) ?_
                                refine r_if_eq (tgt := 332) S dX12_skip_325 (by decide) (fun c20904 => ?_) (fun c20904 => ?_)
                                ·
                                  refine r_iconst S dX12_skip_332 (by decide) (fun v20905 z20906 => ?_)
                                  have r20907 := R_eq z20906
                                  refine r_put (K := 38) (ty := .int) S X20877 (Nat.le_of_ble_eq_true rfl) rfl lk12_157_10 (fun _ => ⟨_, rfl, Nat.le_of_ble_eq_true rfl, rfl⟩) (fun _ _ _ h => by cases h; exact ⟨rfl, rfl⟩) rfl rfl dX12_skip_333 (fun t20908 H lc M20909 X20910 => ?_)
                                  have I20911 := Inv_mu I20541 M20909 (show Rg (kd 131) 11 v20905 from (R_of (lo := 0) (hi := 4) r20907 rfl))
                                  have F20912 : Fr [(131, 4), (131, 11), (131, 12), (131, 13), (131, 14)] [] τ t20908 := Fr_mu F20542 M20909 (by decide)
                                  exact r_vret S hr hlk X20910 ⟨I20911, F20912, (by rw [((M20909.2 131 4 (Or.inr (by decide))).trans z20546)]; exact R_of r20545 rfl), (by rw [M20909.1]; exact R_of r20907 rfl), (by have h1_0 := congrArg Int32.toInt ((M20909.2 131 4 (Or.inr (by decide))).trans z20546); have h2_0 := congrArg Int32.toInt z2; omega), (by have h1_0 := congrArg Int32.toInt ((M20909.2 131 4 (Or.inr (by decide))).trans z20546); have h2_0 := congrArg Int32.toInt z2; have h1_1 := congrArg Int32.toInt M20909.1; omega)⟩ dX12_skip_336
                                ·
                                  exfalso; omega
                              ·
                                have r20913 : R (3) (940) f20549 := ⟨by omega, by omega⟩
                                refine r_iconst S dX12_skip_320 (by decide) (fun v20914 z20915 => ?_)
                                have r20916 := R_eq z20915
                                refine r_goto (tgt := 333) S dX12_skip_321 (by decide) ?_
                                refine r_put (K := 38) (ty := .int) S X20877 (Nat.le_of_ble_eq_true rfl) rfl lk12_157_10 (fun _ => ⟨_, rfl, Nat.le_of_ble_eq_true rfl, rfl⟩) (fun _ _ _ h => by cases h; exact ⟨rfl, rfl⟩) rfl rfl dX12_skip_333 (fun t20917 H lc M20918 X20919 => ?_)
                                have I20920 := Inv_mu I20541 M20918 (show Rg (kd 131) 11 v20914 from (R_of (lo := 0) (hi := 4) r20916 rfl))
                                have F20921 : Fr [(131, 4), (131, 11), (131, 12), (131, 13), (131, 14)] [] τ t20917 := Fr_mu F20542 M20918 (by decide)
                                exact r_vret S hr hlk X20919 ⟨I20920, F20921, (by rw [((M20918.2 131 4 (Or.inr (by decide))).trans z20546)]; exact R_of r20545 rfl), (by rw [M20918.1]; exact R_of r20916 rfl), (by have h1_0 := congrArg Int32.toInt ((M20918.2 131 4 (Or.inr (by decide))).trans z20546); have h2_0 := congrArg Int32.toInt z2; omega), (by have h1_0 := congrArg Int32.toInt ((M20918.2 131 4 (Or.inr (by decide))).trans z20546); have h2_0 := congrArg Int32.toInt z2; have h1_1 := congrArg Int32.toInt M20918.1; omega)⟩ dX12_skip_336
                            ·
                              exfalso; omega
                        ·
                          have r20924 : R (1) (1) v20879 := ⟨by omega, by omega⟩
                          have p20925 := q20882 (by omega)
                          have r20926 : R (48) (57) v20871 := ⟨by omega, by omega⟩
                          have p20927 := q20874 (by omega)
                          have r20928 : R (0) (939) f20544 := z20546 ▸ p20927
                          have r20929 : R (0) (939) f20544 := ⟨by omega, by omega⟩
                          exact J20649 _ _ _ X20877 r20929 (lv_sub hl [0, 1, 2] rfl)
                  exact L20556 _ t10667 _ _ _ v10659 f194 v246 v10664 X10669 I10670 F10671 (R_of r10661 rfl) ((M10668.2 131 4 (Or.inr (by decide))).trans ((M250.2 131 4 (Or.inr (by decide))).trans ((M242.2 131 4 (Or.inr (by decide))).trans z196))) ⟨by omega, by omega⟩ ((M10668.2 131 3 (Or.inr (by decide))).trans ((M250.2 131 3 (Or.inr (by decide))).trans ((M242.2 131 3 (Or.inr (by decide))).trans z197))) ((M10668.2 131 12 (Or.inr (by decide))).trans ((M250.2 131 12 (Or.inr (by decide))).trans M242.1)) ((M10668.2 131 13 (Or.inr (by decide))).trans M250.1) ⟨by omega, by omega⟩ ((M10668.2 131 5 (Or.inr (by decide))).trans z255) M10668.1 ⟨by omega, by omega⟩ (by omega) (by omega) (fun _ => (pkv_eq ((M10668.2 131 4 (Or.inr (by decide))).trans rfl) ((M10668.2 131 3 (Or.inr (by decide))).trans rfl) (fun j => ((M10668.2 132 j (Or.inl (by decide))).trans rfl))).trans q285.symm) (lv_sub hl [3, 1, 0] rfl) (Nat.lt_succ_self _)
                ·
                  have r20930 : R (0) (0) v10639 := ⟨by omega, by omega⟩
                  refine r_aload_n S dX12_skip_109 rfl (lv_at hl 1 rfl) ?_
                  refine r_iload_n S dX12_skip_110 rfl (lv_at hl 0 rfl) ?_
                  refine r_bipush S dX12_skip_111 (by decide) (fun v20931 z20932 => ?_)
                  have r20933 := R_eq z20932
                  have J21003 : ∀ (H : Heap) (lc : List Loc) (ls : Array Slot) (i20999 : Int32), Xd G s H lc t249 → R (0) (255) v281 → R (3) (4) i20999 → R (0) (939) f194 → R (0) (939) f194 → lv_has ls 4 [(0, .ref (G.2.2.2.1 131)), (1, .int v281)] → W p l e (Rm 1 20) s m ([.ref (G.2.2.2.1 131)] : List Value).toArray below meth c H lc 0 0 (MQ below (va_Qv (po_X12_skip τ  ) (Bs G) G.2.2.2.2) ([.ref (G.2.2.2.1 131)] : List Value).toArray s 0 0 G.2.2.2.2) (F0 m 145 ls [.int i20999, .ref (G.2.2.2.1 131)]) := by
                    intro H lc ls i20999 X20997 r20998 r21000 r21001 r21002 hl
                    refine r_put (K := 38) (ty := .int) S X20997 (Nat.le_of_ble_eq_true rfl) rfl lk12_157_10 (fun _ => ⟨_, rfl, Nat.le_of_ble_eq_true rfl, rfl⟩) (fun _ _ _ h => by cases h; exact ⟨rfl, rfl⟩) rfl rfl dX12_skip_145 (fun t21004 H lc M21005 X21006 => ?_)
                    have I21007 := Inv_mu I252 M21005 (show Rg (kd 131) 11 i20999 from (R_of (lo := 0) (hi := 4) r21000 rfl))
                    have F21008 : Fr [(131, 4), (131, 11), (131, 12), (131, 13), (131, 14)] [] τ t21004 := Fr_mu F253 M21005 (by decide)
                    refine r_aload_n S dX12_skip_148 rfl (lv_at hl 0 rfl) ?_
                    refine r_iload_n S dX12_skip_149 rfl (lv_at hl 1 rfl) ?_
                    refine r_put (K := 38) (ty := .int) S X21006 (Nat.le_of_ble_eq_true rfl) rfl lk12_167_10 (fun _ => ⟨_, rfl, Nat.le_of_ble_eq_true rfl, rfl⟩) (fun _ _ _ h => by cases h; exact ⟨rfl, rfl⟩) rfl rfl dX12_skip_150 (fun t21009 H lc M21010 X21011 => ?_)
                    have I21012 := Inv_mu I21007 M21010 (R_any v281)
                    have F21013 : Fr [(131, 4), (131, 11), (131, 12), (131, 13), (131, 14)] [] τ t21009 := Fr_mu F21008 M21010 (by decide)
                    refine r_aload_n S dX12_skip_153 rfl (lv_at hl 0 rfl) ?_
                    refine r_dup S dX12_skip_154 rfl ?_
                    refine r_geti (K := 38) S X21011 (Nat.le_of_ble_eq_true rfl) rfl lk12_21_10 (fun _ => ⟨_, rfl, rfl⟩) ((M21010.2 131 4 (Or.inr (by decide))).trans ((M21005.2 131 4 (Or.inr (by decide))).trans ((M250.2 131 4 (Or.inr (by decide))).trans ((M242.2 131 4 (Or.inr (by decide))).trans z196)))) dX12_skip_155 ?_
                    refine r_iconst S dX12_skip_158 (by decide) (fun v21014 z21015 => ?_)
                    have r21016 := R_eq z21015
                    refine r_iadd S dX12_skip_159 (fun v21017 z21018 => ?_)
                    obtain ⟨e21019, r21020⟩ := i_add (lo := 1) (hi := 940) z21018 r21001 r21016 rfl
                    refine r_put (K := 38) (ty := .int) S X21011 (Nat.le_of_ble_eq_true rfl) rfl lk12_21_10 (fun _ => ⟨_, rfl, Nat.le_of_ble_eq_true rfl, rfl⟩) (fun _ _ _ h => by cases h; exact ⟨rfl, rfl⟩) rfl rfl dX12_skip_160 (fun t21021 H lc M21022 X21023 => ?_)
                    have I21024 := Inv_mu I21012 M21022 (show Rg (kd 131) 4 v21017 from (R_of (lo := 0) (hi := 940) r21020 rfl))
                    have F21025 : Fr [(131, 4), (131, 11), (131, 12), (131, 13), (131, 14)] [] τ t21021 := Fr_mu F21013 M21022 (by decide)
                    exact r_vret S hr hlk X21023 ⟨I21024, F21025, (by rw [M21022.1]; exact R_of r21020 rfl), (by rw [((M21022.2 131 11 (Or.inr (by decide))).trans ((M21010.2 131 11 (Or.inr (by decide))).trans M21005.1))]; exact R_of r21000 rfl), (by have h1_0 := congrArg Int32.toInt M21022.1; have h2_0 := congrArg Int32.toInt z2; omega), (by have h1_0 := congrArg Int32.toInt M21022.1; have h2_0 := congrArg Int32.toInt z2; have h1_1 := congrArg Int32.toInt ((M21022.2 131 11 (Or.inr (by decide))).trans ((M21010.2 131 11 (Or.inr (by decide))).trans M21005.1)); omega)⟩ dX12_skip_163
                  refine r_icmp_eq (tgt := 140) S dX12_skip_113 (by decide) (fun c21026 => ?_) (fun c21026 => ?_)
                  ·
                    have r21027 : R (59) (59) v281 := ⟨by omega, by omega⟩
                    have p21028 := q284 (by omega)
                    have r21029 : R (0) (939) f194 := ((M250.2 131 4 (Or.inr (by decide))).trans ((M242.2 131 4 (Or.inr (by decide))).trans z196)) ▸ p21028
                    have r21030 : R (0) (939) f194 := ⟨by omega, by omega⟩
                    refine r_iconst S dX12_skip_140 (by decide) (fun v21031 z21032 => ?_)
                    have r21033 := R_eq z21032
                    refine r_goto (tgt := 145) S dX12_skip_141 (by decide) ?_
                    exact J21003 _ _ _ v21031 X10637 (R_of r21027 rfl) (R_of r21033 rfl) r21030 r21030 (lv_sub hl [1, 0] rfl)
                  ·
                    refine r_iload_n S dX12_skip_116 rfl (lv_at hl 0 rfl) ?_
                    refine r_bipush S dX12_skip_117 (by decide) (fun v21034 z21035 => ?_)
                    have r21036 := R_eq z21035
                    refine r_icmp_eq (tgt := 140) S dX12_skip_119 (by decide) (fun c21037 => ?_) (fun c21037 => ?_)
                    ·
                      have r21038 : R (40) (40) v281 := ⟨by omega, by omega⟩
                      have p21039 := q284 (by omega)
                      have r21040 : R (0) (939) f194 := ((M250.2 131 4 (Or.inr (by decide))).trans ((M242.2 131 4 (Or.inr (by decide))).trans z196)) ▸ p21039
                      have r21041 : R (0) (939) f194 := ⟨by omega, by omega⟩
                      refine r_iconst S dX12_skip_140 (by decide) (fun v21042 z21043 => ?_)
                      have r21044 := R_eq z21043
                      refine r_goto (tgt := 145) S dX12_skip_141 (by decide) ?_
                      exact J21003 _ _ _ v21042 X10637 (R_of r21038 rfl) (R_of r21044 rfl) r21041 r21041 (lv_sub hl [1, 0] rfl)
                    ·
                      refine r_iload_n S dX12_skip_122 rfl (lv_at hl 0 rfl) ?_
                      refine r_bipush S dX12_skip_123 (by decide) (fun v21045 z21046 => ?_)
                      have r21047 := R_eq z21046
                      refine r_icmp_eq (tgt := 140) S dX12_skip_125 (by decide) (fun c21048 => ?_) (fun c21048 => ?_)
                      ·
                        have r21049 : R (41) (41) v281 := ⟨by omega, by omega⟩
                        have p21050 := q284 (by omega)
                        have r21051 : R (0) (939) f194 := ((M250.2 131 4 (Or.inr (by decide))).trans ((M242.2 131 4 (Or.inr (by decide))).trans z196)) ▸ p21050
                        have r21052 : R (0) (939) f194 := ⟨by omega, by omega⟩
                        refine r_iconst S dX12_skip_140 (by decide) (fun v21053 z21054 => ?_)
                        have r21055 := R_eq z21054
                        refine r_goto (tgt := 145) S dX12_skip_141 (by decide) ?_
                        exact J21003 _ _ _ v21053 X10637 (R_of r21049 rfl) (R_of r21055 rfl) r21052 r21052 (lv_sub hl [1, 0] rfl)
                      ·
                        refine r_iload_n S dX12_skip_128 rfl (lv_at hl 0 rfl) ?_
                        refine r_bipush S dX12_skip_129 (by decide) (fun v21056 z21057 => ?_)
                        have r21058 := R_eq z21057
                        refine r_icmp_lt (tgt := 144) S dX12_skip_131 (by decide) (fun c21059 => ?_) (fun c21059 => ?_)
                        ·
                          have r21060 : R (0) (59) v281 := ⟨by omega, by omega⟩
                          have p21061 := q284 (by omega)
                          have r21062 : R (0) (939) f194 := ((M250.2 131 4 (Or.inr (by decide))).trans ((M242.2 131 4 (Or.inr (by decide))).trans z196)) ▸ p21061
                          have r21063 : R (0) (939) f194 := ⟨by omega, by omega⟩
                          refine r_iconst S dX12_skip_144 (by decide) (fun v21064 z21065 => ?_)
                          have r21066 := R_eq z21065
                          exact J21003 _ _ _ v21064 X10637 (R_of r21060 rfl) (R_of r21066 rfl) r21063 r21063 (lv_sub hl [1, 0] rfl)
                        ·
                          have r21067 : R (60) (255) v281 := ⟨by omega, by omega⟩
                          have p21068 := q284 (by omega)
                          have r21069 : R (0) (939) f194 := ((M250.2 131 4 (Or.inr (by decide))).trans ((M242.2 131 4 (Or.inr (by decide))).trans z196)) ▸ p21068
                          have r21070 : R (0) (939) f194 := ⟨by omega, by omega⟩
                          refine r_iload_n S dX12_skip_134 rfl (lv_at hl 0 rfl) ?_
                          refine r_bipush S dX12_skip_135 (by decide) (fun v21071 z21072 => ?_)
                          have r21073 := R_eq z21072
                          refine r_icmp_gt (tgt := 144) S dX12_skip_137 (by decide) (fun c21074 => ?_) (fun c21074 => ?_)
                          ·
                            have r21075 : R (63) (255) v281 := ⟨by omega, by omega⟩
                            have p21076 := q284 (by omega)
                            have r21077 : R (0) (939) f194 := ((M250.2 131 4 (Or.inr (by decide))).trans ((M242.2 131 4 (Or.inr (by decide))).trans z196)) ▸ p21076
                            have r21078 : R (0) (939) f194 := ⟨by omega, by omega⟩
                            refine r_iconst S dX12_skip_144 (by decide) (fun v21079 z21080 => ?_)
                            have r21081 := R_eq z21080
                            exact J21003 _ _ _ v21079 X10637 (R_of r21075 rfl) (R_of r21081 rfl) r21078 r21078 (lv_sub hl [1, 0] rfl)
                          ·
                            have r21082 : R (60) (62) v281 := ⟨by omega, by omega⟩
                            have p21083 := q284 (by omega)
                            have r21084 : R (0) (939) f194 := ((M250.2 131 4 (Or.inr (by decide))).trans ((M242.2 131 4 (Or.inr (by decide))).trans z196)) ▸ p21083
                            have r21085 : R (0) (939) f194 := ⟨by omega, by omega⟩
                            refine r_iconst S dX12_skip_140 (by decide) (fun v21086 z21087 => ?_)
                            have r21088 := R_eq z21087
                            refine r_goto (tgt := 145) S dX12_skip_141 (by decide) ?_
                            exact J21003 _ _ _ v21086 X10637 (R_of r21082 rfl) (R_of r21088 rfl) r21085 r21085 (lv_sub hl [1, 0] rfl)
            ·
              have r21089 : R (-1) (-1) v281 := ⟨by omega, by omega⟩
              refine r_aload_n S dX12_skip_89 rfl (lv_at hl 1 rfl) ?_
              refine r_iconst S dX12_skip_90 (by decide) (fun v21090 z21091 => ?_)
              have r21092 := R_eq z21091
              refine r_put (K := 38) (ty := .int) S X279 (Nat.le_of_ble_eq_true rfl) rfl lk12_157_10 (fun _ => ⟨_, rfl, Nat.le_of_ble_eq_true rfl, rfl⟩) (fun _ _ _ h => by cases h; exact ⟨rfl, rfl⟩) rfl rfl dX12_skip_91 (fun t21093 H lc M21094 X21095 => ?_)
              have I21096 := Inv_mu I252 M21094 (show Rg (kd 131) 11 v21090 from (R_of (lo := 0) (hi := 4) r21092 rfl))
              have F21097 : Fr [(131, 4), (131, 11), (131, 12), (131, 13), (131, 14)] [] τ t21093 := Fr_mu F253 M21094 (by decide)
              exact r_vret S hr hlk X21095 ⟨I21096, F21097, (by rw [((M21094.2 131 4 (Or.inr (by decide))).trans ((M250.2 131 4 (Or.inr (by decide))).trans ((M242.2 131 4 (Or.inr (by decide))).trans z196)))]; exact R_of r195 rfl), (by rw [M21094.1]; exact R_of r21092 rfl), (by have h1_0 := congrArg Int32.toInt ((M21094.2 131 4 (Or.inr (by decide))).trans ((M250.2 131 4 (Or.inr (by decide))).trans ((M242.2 131 4 (Or.inr (by decide))).trans z196))); have h2_0 := congrArg Int32.toInt z2; omega), (by have h1_0 := congrArg Int32.toInt ((M21094.2 131 4 (Or.inr (by decide))).trans ((M250.2 131 4 (Or.inr (by decide))).trans ((M242.2 131 4 (Or.inr (by decide))).trans z196))); have h2_0 := congrArg Int32.toInt z2; have h1_1 := congrArg Int32.toInt M21094.1; omega)⟩ dX12_skip_94
          refine r_icmp_le (tgt := 80) S dX12_skip_52 (by decide) (fun c21098 => ?_) (fun c21098 => ?_)
          ·
            exact J277 _ _ _ X251 (lv_sub hl [0] rfl)
          ·
            have r21099 : R (0) (939) v254 := ⟨by omega, by omega⟩
            have r21100 : R (1) (940) v4 := ⟨by omega, by omega⟩
            refine r_aload_n S dX12_skip_55 rfl (lv_at hl 0 rfl) ?_
            refine r_geti (K := 38) S X251 (Nat.le_of_ble_eq_true rfl) rfl lk12_21_10 (fun _ => ⟨_, rfl, rfl⟩) ((M250.2 131 4 (Or.inr (by decide))).trans ((M242.2 131 4 (Or.inr (by decide))).trans z196)) dX12_skip_56 ?_
            refine r_aload_n S dX12_skip_59 rfl (lv_at hl 0 rfl) ?_
            refine r_geti (K := 38) S X251 (Nat.le_of_ble_eq_true rfl) rfl lk12_24_10 (fun _ => ⟨_, rfl, rfl⟩) z255 dX12_skip_60 ?_
            refine r_icmp_lt (tgt := 80) S dX12_skip_63 (by decide) (fun c21101 => ?_) (fun c21101 => ?_)
            ·
              have r21102 : R (0) (938) f194 := ⟨by omega, by omega⟩
              have r21103 : R (1) (939) v254 := ⟨by omega, by omega⟩
              exact J277 _ _ _ X251 (lv_sub hl [0] rfl)
            ·
              refine r_aload_n S dX12_skip_66 rfl (lv_at hl 0 rfl) ?_
              refine r_aload_n S dX12_skip_67 rfl (lv_at hl 0 rfl) ?_
              refine r_geti (K := 38) S X251 (Nat.le_of_ble_eq_true rfl) rfl lk12_24_10 (fun _ => ⟨_, rfl, rfl⟩) z255 dX12_skip_68 ?_
              refine r_put (K := 38) (ty := .int) S X251 (Nat.le_of_ble_eq_true rfl) rfl lk12_151_10 (fun _ => ⟨_, rfl, Nat.le_of_ble_eq_true rfl, rfl⟩) (fun _ _ _ h => by cases h; exact ⟨rfl, rfl⟩) rfl rfl dX12_skip_71 (fun t21104 H lc M21105 X21106 => ?_)
              have I21107 := Inv_mu I252 M21105 (show Rg (kd 131) 12 v254 from (R_of (lo := 0) (hi := 940) r21099 rfl))
              have F21108 : Fr [(131, 4), (131, 11), (131, 12), (131, 13), (131, 14)] [] τ t21104 := Fr_mu F253 M21105 (by decide)
              refine r_aload_n S dX12_skip_74 rfl (lv_at hl 0 rfl) ?_
              refine r_iconst S dX12_skip_75 (by decide) (fun v21109 z21110 => ?_)
              have r21111 := R_eq z21110
              refine r_put (K := 38) (ty := .int) S X21106 (Nat.le_of_ble_eq_true rfl) rfl lk12_157_10 (fun _ => ⟨_, rfl, Nat.le_of_ble_eq_true rfl, rfl⟩) (fun _ _ _ h => by cases h; exact ⟨rfl, rfl⟩) rfl rfl dX12_skip_76 (fun t21112 H lc M21113 X21114 => ?_)
              have I21115 := Inv_mu I21107 M21113 (show Rg (kd 131) 11 v21109 from (R_of (lo := 0) (hi := 4) r21111 rfl))
              have F21116 : Fr [(131, 4), (131, 11), (131, 12), (131, 13), (131, 14)] [] τ t21112 := Fr_mu F21108 M21113 (by decide)
              exact r_vret S hr hlk X21114 ⟨I21115, F21116, (by rw [((M21113.2 131 4 (Or.inr (by decide))).trans ((M21105.2 131 4 (Or.inr (by decide))).trans ((M250.2 131 4 (Or.inr (by decide))).trans ((M242.2 131 4 (Or.inr (by decide))).trans z196))))]; exact R_of r195 rfl), (by rw [M21113.1]; exact R_of r21111 rfl), (by have h1_0 := congrArg Int32.toInt ((M21113.2 131 4 (Or.inr (by decide))).trans ((M21105.2 131 4 (Or.inr (by decide))).trans ((M250.2 131 4 (Or.inr (by decide))).trans ((M242.2 131 4 (Or.inr (by decide))).trans z196)))); have h2_0 := congrArg Int32.toInt z2; omega), (by have h1_0 := congrArg Int32.toInt ((M21113.2 131 4 (Or.inr (by decide))).trans ((M21105.2 131 4 (Or.inr (by decide))).trans ((M250.2 131 4 (Or.inr (by decide))).trans ((M242.2 131 4 (Or.inr (by decide))).trans z196)))); have h2_0 := congrArg Int32.toInt z2; have h1_1 := congrArg Int32.toInt M21113.1; omega)⟩ dX12_skip_79
        ·
          have r21117 : R (10) (10) v232 := ⟨by omega, by omega⟩
          have p21118 := q235 (by omega)
          have r21119 : R (0) (939) f194 := z196 ▸ p21118
          have r21120 : R (0) (939) f194 := ⟨by omega, by omega⟩
          refine r_aload_n S dX12_skip_18 rfl (lv_at hl 0 rfl) ?_
          refine r_dup S dX12_skip_19 rfl ?_
          refine r_geti (K := 38) S X230 (Nat.le_of_ble_eq_true rfl) rfl lk12_21_10 (fun _ => ⟨_, rfl, rfl⟩) z196 dX12_skip_20 ?_
          refine r_iconst S dX12_skip_23 (by decide) (fun v21121 z21122 => ?_)
          have r21123 := R_eq z21122
          refine r_iadd S dX12_skip_24 (fun v21124 z21125 => ?_)
          obtain ⟨e21126, r21127⟩ := i_add (lo := 1) (hi := 940) z21125 r21120 r21123 rfl
          refine r_put (K := 38) (ty := .int) S X230 (Nat.le_of_ble_eq_true rfl) rfl lk12_21_10 (fun _ => ⟨_, rfl, Nat.le_of_ble_eq_true rfl, rfl⟩) (fun _ _ _ h => by cases h; exact ⟨rfl, rfl⟩) rfl rfl dX12_skip_25 (fun t21128 H lc M21129 X21130 => ?_)
          have I21131 := Inv_mu I191 M21129 (show Rg (kd 131) 4 v21124 from (R_of (lo := 0) (hi := 940) r21127 rfl))
          have F21132 : Fr [(131, 4), (131, 11), (131, 12), (131, 13), (131, 14)] [] τ t21128 := Fr_mu F192 M21129 (by decide)
          refine r_goto (tgt := 0) S dX12_skip_28 (by decide) ?_
          exact ih200 t21128 _ _ _ v21124 X21130 I21131 F21132 M21129.1 ⟨by omega, by omega⟩ ((M21129.2 131 3 (Or.inr (by decide))).trans z197) (by omega) (lv_sub hl [0] rfl) (by omega)
  exact L198 _ τ _ _ _ v1 X hI Fr_rfl z2 ⟨by omega, by omega⟩ z5 (by omega) (lv_sub hl [0] rfl) (Nat.lt_succ_self _)
