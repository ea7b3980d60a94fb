def po_X12_peek_x (τ : Tau)     (r : Int32) (u : Tau) : Prop := u = τ ∧ R (-1) (255) r ∧ (0 ≤ r.toInt → R (0) (939) (u 131 4)) ∧ r.toInt = pkv u
set_option maxHeartbeats 4000000 in
set_option maxRecDepth 100000 in
theorem c_X12_peek_x (l : Launch) (G : Gx) (τ : Tau) (hI : Inv τ) : Ci l G yX12_peek cX12_peek 1 (some .int) 0 0 [.ref (G.2.2.2.1 131)] τ (po_X12_peek_x τ    ) := by
  unfold Ci
  refine C_of (own := RX12) (by decide) rfl (Nat.le_of_ble_eq_true rfl) ?_
  intro p e s m below meth c ls S hr hlk X hl
  have hl : lv_has ls 1 [(0, .ref (G.2.2.2.1 131))] := hl
  refine r_aload_n S dX12_peek_0 rfl (lv_at hl 0 rfl) ?_
  refine r_getn (K := 38) S X (Nat.le_of_ble_eq_true rfl) rfl lk12_21_10 (fun _ => ⟨_, rfl, rfl⟩) dX12_peek_1 (fun v1 z2 => ?_)
  have r3 : R (0) (940) v1 := rd hI rfl z2
  refine r_aload_n S dX12_peek_4 rfl (lv_at hl 0 rfl) ?_
  refine r_getn (K := 38) S X (Nat.le_of_ble_eq_true rfl) rfl lk12_18_10 (fun _ => ⟨_, rfl, rfl⟩) dX12_peek_5 (fun v4 z5 => ?_)
  have r6 : R (0) (940) v4 := rd hI rfl z5
  refine r_icmp_ge (tgt := 27) S dX12_peek_8 (by decide) (fun c7 => ?_) (fun c7 => ?_)
  ·
    refine r_iconst S dX12_peek_27 (by decide) (fun v8 z9 => ?_)
    have r10 := R_eq z9
    exact r_ret S hr hlk X ⟨rfl, (R_of r10 rfl), (fun h => by exfalso; omega), (pkv_out z2 z5 (by omega) (by omega))⟩ rfl dX12_peek_28
  ·
    have r11 : R (0) (939) v1 := ⟨by omega, by omega⟩
    have r12 : R (1) (940) v4 := ⟨by omega, by omega⟩
    refine r_aload_n S dX12_peek_11 rfl (lv_at hl 0 rfl) ?_
    refine r_get (K := 38) (v := .ref (G.2.2.2.1 132)) S X (Nat.le_of_ble_eq_true rfl) rfl lk12_14_10 (fun _ => ⟨_, rfl, rfl⟩) dX12_peek_12 ?_
    refine r_aload_n S dX12_peek_15 rfl (lv_at hl 0 rfl) ?_
    refine r_geti (K := 38) S X (Nat.le_of_ble_eq_true rfl) rfl lk12_21_10 (fun _ => ⟨_, rfl, rfl⟩) z2 dX12_peek_16 ?_
    refine r_bald (n := 940) (K := 39) S X (Nat.le_of_ble_eq_true rfl) rfl (fun _ => rfl) (ix_of r11 rfl) dX12_peek_19 (fun v13 z14 => ?_)
    have r15 : R (-128) (127) v13 := rd hI rfl z14
    refine r_sipush S dX12_peek_20 (by decide) (fun v16 z17 => ?_)
    have r18 := R_eq z17
    refine r_iand S dX12_peek_23 (fun v19 z20 => ?_)
    have r22 : R (0) (255) v19 := i_and2 z20 r15 r18 rfl
    refine r_goto (tgt := 28) S dX12_peek_24 (by decide) ?_
    exact r_ret S hr hlk X ⟨rfl, (R_of r22 rfl), (fun h => (by rw [z2]; exact R_of r11 rfl)), (pkv_in (r := v19) z2 z5 (by omega) (by assumption) (by assumption) (by assumption))⟩ rfl dX12_peek_28
def po_X12_isSmall_x (τ : Tau)  (a0 : Int32)   (r : Int32) (u : Tau) : Prop := u = τ ∧ R (0) (1) r ∧ (r.toInt = 1 → R (97) (122) a0) ∧ (97 ≤ a0.toInt ∧ a0.toInt ≤ 122 → r.toInt = 1)
set_option maxHeartbeats 4000000 in
set_option maxRecDepth 100000 in
theorem c_X12_isSmall_x (l : Launch) (G : Gx) (τ : Tau) (hI : Inv τ) (a0 : Int32) (h_a0 : R (-2147483648) (2147483647) a0) : Ci l G yX12_isSmall cX12_isSmall 1 (some .boolean) 0 0 [.int a0] τ (po_X12_isSmall_x τ  a0  ) := by
  unfold Ci
  refine C_of (own := RX12) (by decide) rfl (Nat.le_of_ble_eq_true rfl) ?_
  intro p e s m below meth c ls S hr hlk X hl
  have hl : lv_has ls 1 [(0, .int a0)] := hl
  refine r_iload_n S dX12_isSmall_0 rfl (lv_at hl 0 rfl) ?_
  refine r_bipush S dX12_isSmall_1 (by decide) (fun v1 z2 => ?_)
  have r3 := R_eq z2
  refine r_icmp_lt (tgt := 16) S dX12_isSmall_3 (by decide) (fun c4 => ?_) (fun c4 => ?_)
  ·
    have r5 : R (-2147483648) (96) a0 := ⟨by omega, by omega⟩
    refine r_iconst S dX12_isSmall_16 (by decide) (fun v6 z7 => ?_)
    have r8 := R_eq z7
    exact r_ret S hr hlk X ⟨rfl, (R_of r8 rfl), (fun h => by exfalso; omega), (by omega)⟩ (nr_bool (R_of (lo := 0) (hi := 1) r8 rfl)) dX12_isSmall_17
  ·
    have r9 : R (97) (2147483647) a0 := ⟨by omega, by omega⟩
    refine r_iload_n S dX12_isSmall_6 rfl (lv_at hl 0 rfl) ?_
    refine r_bipush S dX12_isSmall_7 (by decide) (fun v10 z11 => ?_)
    have r12 := R_eq z11
    refine r_icmp_gt (tgt := 16) S dX12_isSmall_9 (by decide) (fun c13 => ?_) (fun c13 => ?_)
    ·
      have r14 : R (123) (2147483647) a0 := ⟨by omega, by omega⟩
      refine r_iconst S dX12_isSmall_16 (by decide) (fun v15 z16 => ?_)
      have r17 := R_eq z16
      exact r_ret S hr hlk X ⟨rfl, (R_of r17 rfl), (fun h => by exfalso; omega), (by omega)⟩ (nr_bool (R_of (lo := 0) (hi := 1) r17 rfl)) dX12_isSmall_17
    ·
      have r18 : R (97) (122) a0 := ⟨by omega, by omega⟩
      refine r_iconst S dX12_isSmall_12 (by decide) (fun v19 z20 => ?_)
      have r21 := R_eq z20
      refine r_goto (tgt := 17) S dX12_isSmall_13 (by decide) ?_
      exact r_ret S hr hlk X ⟨rfl, (R_of r21 rfl), (fun h => ⟨by omega, by omega⟩), (by omega)⟩ (nr_bool (R_of (lo := 0) (hi := 1) r21 rfl)) dX12_isSmall_17
def po_X12_isDigit_x (τ : Tau)  (a0 : Int32)   (r : Int32) (u : Tau) : Prop := u = τ ∧ R (0) (1) r ∧ (r.toInt = 1 → R (48) (57) a0) ∧ (48 ≤ a0.toInt ∧ a0.toInt ≤ 57 → r.toInt = 1)
set_option maxHeartbeats 4000000 in
set_option maxRecDepth 100000 in
theorem c_X12_isDigit_x (l : Launch) (G : Gx) (τ : Tau) (hI : Inv τ) (a0 : Int32) (h_a0 : R (-2147483648) (2147483647) a0) : Ci l G yX12_isDigit cX12_isDigit 1 (some .boolean) 0 0 [.int a0] τ (po_X12_isDigit_x τ  a0  ) := by
  unfold Ci
  refine C_of (own := RX12) (by decide) rfl (Nat.le_of_ble_eq_true rfl) ?_
  intro p e s m below meth c ls S hr hlk X hl
  have hl : lv_has ls 1 [(0, .int a0)] := hl
  refine r_iload_n S dX12_isDigit_0 rfl (lv_at hl 0 rfl) ?_
  refine r_bipush S dX12_isDigit_1 (by decide) (fun v1 z2 => ?_)
  have r3 := R_eq z2
  refine r_icmp_lt (tgt := 16) S dX12_isDigit_3 (by decide) (fun c4 => ?_) (fun c4 => ?_)
  ·
    have r5 : R (-2147483648) (47) a0 := ⟨by omega, by omega⟩
    refine r_iconst S dX12_isDigit_16 (by decide) (fun v6 z7 => ?_)
    have r8 := R_eq z7
    exact r_ret S hr hlk X ⟨rfl, (R_of r8 rfl), (fun h => by exfalso; omega), (by omega)⟩ (nr_bool (R_of (lo := 0) (hi := 1) r8 rfl)) dX12_isDigit_17
  ·
    have r9 : R (48) (2147483647) a0 := ⟨by omega, by omega⟩
    refine r_iload_n S dX12_isDigit_6 rfl (lv_at hl 0 rfl) ?_
    refine r_bipush S dX12_isDigit_7 (by decide) (fun v10 z11 => ?_)
    have r12 := R_eq z11
    refine r_icmp_gt (tgt := 16) S dX12_isDigit_9 (by decide) (fun c13 => ?_) (fun c13 => ?_)
    ·
      have r14 : R (58) (2147483647) a0 := ⟨by omega, by omega⟩
      refine r_iconst S dX12_isDigit_16 (by decide) (fun v15 z16 => ?_)
      have r17 := R_eq z16
      exact r_ret S hr hlk X ⟨rfl, (R_of r17 rfl), (fun h => by exfalso; omega), (by omega)⟩ (nr_bool (R_of (lo := 0) (hi := 1) r17 rfl)) dX12_isDigit_17
    ·
      have r18 : R (48) (57) a0 := ⟨by omega, by omega⟩
      refine r_iconst S dX12_isDigit_12 (by decide) (fun v19 z20 => ?_)
      have r21 := R_eq z20
      refine r_goto (tgt := 17) S dX12_isDigit_13 (by decide) ?_
      exact r_ret S hr hlk X ⟨rfl, (R_of r21 rfl), (fun h => ⟨by omega, by omega⟩), (by omega)⟩ (nr_bool (R_of (lo := 0) (hi := 1) r21 rfl)) dX12_isDigit_17
def po_X12_skip (τ : Tau)     (u : Tau) : Prop := Inv u ∧ Fr [(131, 4), (131, 11), (131, 12), (131, 13), (131, 14)] [331] τ u ∧ R (0) (940) (u 131 4) ∧ R (0) (4) (u 131 11) ∧ (τ 131 4).toInt ≤ (u 131 4).toInt ∧ (1 ≤ (u 131 11).toInt ∧ (u 131 11).toInt ≤ 3 → (τ 131 4).toInt < (u 131 4).toInt)
set_option maxHeartbeats 4000000 in
set_option maxRecDepth 100000 in
theorem c_X12_skip (l : Launch) (G : Gx) (τ : Tau) (hI : Inv τ) : Cv l G yX12_skip cX12_skip 4 1 20 [.ref (G.2.2.2.1 131)] τ (po_X12_skip τ    ) := by
  unfold Cv
  refine C_of (own := RX12) (by decide) rfl (Nat.le_of_ble_eq_true rfl) ?_
  intro p e s m below meth c ls S hr hlk X hl
  have hl : lv_has ls 4 [(0, .ref (G.2.2.2.1 131))] := hl
  obtain ⟨v1, z2⟩ : ∃ x, τ 131 4 = x := ⟨_, rfl⟩
  have r3 : R (0) (940) v1 := rd hI rfl z2
  obtain ⟨v4, z5⟩ : ∃ x, τ 131 3 = x := ⟨_, rfl⟩
  have r6 : R (0) (940) v4 := rd hI rfl z5
  have L198 : ∀ (n : Nat) (t190 : Tau) (H : Heap) (lc : List Loc) (ls : Array Slot) (f194 : Int32), Xd G s H lc t190 → Inv t190 → Fr [(131, 4), (131, 11), (131, 12), (131, 13), (131, 14)] [331] τ t190 → t190 131 4 = f194 → R (0) (940) f194 → t190 131 3 = v4 → v1.toInt ≤ f194.toInt → lv_has ls 4 [(0, .ref (G.2.2.2.1 131))] → (940 - f194.toInt).toNat < n → W p l e (Rm 1 20) s m ([.ref (G.2.2.2.1 131)] : List Value).toArray below meth c H lc 0 0 (MQ below (va_Qv (po_X12_skip τ    ) (Bs G) G.2.2.2.2) ([.ref (G.2.2.2.1 131)] : List Value).toArray s 0 0 G.2.2.2.2) (F0 m 0 ls []) := by
    intro n
    induction n with
    | zero => intros; omega
    | succ n ih200 =>
      intro t190 H lc ls f194 X193 I191 F192 z196 r195 z197 x199 hl hm
      refine r_aload_n S dX12_skip_0 rfl (lv_at hl 0 rfl) ?_
      refine r_ki (q_V (As := []) (rest := []) (K := 38) (ci := 10) S X193 (c_X12_peek_x l G t190 I191 ) ck12_147 (Nat.le_of_ble_eq_true rfl) rfl (fun _ => ⟨_, rfl⟩) ⟨_, _, rfl⟩ ⟨Nat.le_of_ble_eq_true rfl, Nat.le_of_ble_eq_true rfl⟩ rfl hl.1 rfl (Nat.le_of_ble_eq_true rfl) dX12_skip_1 ⟨Nat.le_refl 0, Nat.le_refl 0⟩) X193 (fun v204 t203 H lc q201 X202 => ?_)
      unfold po_X12_peek_x at q201
      obtain ⟨q205, q206, q207, q208⟩ := q201
      rw [q205] at X202
      rw [q205] at q207
      rw [q205] at q208
      refine r_bipush S dX12_skip_4 (by decide) (fun v209 z210 => ?_)
      have r211 := R_eq z210
      refine r_icmp_eq (tgt := 18) S dX12_skip_6 (by decide) (fun c212 => ?_) (fun c212 => ?_)
      ·
        have r213 : R (32) (32) v204 := ⟨by omega, by omega⟩
        have p214 := q207 (by omega)
        have r215 : R (0) (939) f194 := z196 ▸ p214
        have r216 : R (0) (939) f194 := ⟨by omega, by omega⟩
        refine r_aload_n S dX12_skip_18 rfl (lv_at hl 0 rfl) ?_
        refine r_dup S dX12_skip_19 rfl ?_
        refine r_geti (K := 38) S X202 (Nat.le_of_ble_eq_true rfl) rfl lk12_21_10 (fun _ => ⟨_, rfl, rfl⟩) z196 dX12_skip_20 ?_
        refine r_iconst S dX12_skip_23 (by decide) (fun v217 z218 => ?_)
        have r219 := R_eq z218
        refine r_iadd S dX12_skip_24 (fun v220 z221 => ?_)
        obtain ⟨e222, r223⟩ := i_add (lo := 1) (hi := 940) z221 r216 r219 rfl
        refine r_put (K := 38) (ty := .int) S X202 (Nat.le_of_ble_eq_true rfl) rfl lk12_21_10 (fun _ => ⟨_, rfl, Nat.le_of_ble_eq_true rfl, rfl⟩) (fun _ _ _ h => by cases h; exact ⟨rfl, rfl⟩) rfl rfl dX12_skip_25 (fun t224 H lc M225 X226 => ?_)
        have I227 := Inv_mu I191 M225 (show Rg (kd 131) 4 v220 from (R_of (lo := 0) (hi := 940) r223 rfl))
        have F228 : Fr [(131, 4), (131, 11), (131, 12), (131, 13), (131, 14)] [331] τ t224 := Fr_mu F192 M225 (by decide)
        refine r_goto (tgt := 0) S dX12_skip_28 (by decide) ?_
        exact ih200 t224 _ _ _ v220 X226 I227 F228 M225.1 ⟨by omega, by omega⟩ ((M225.2 131 3 (Or.inr (by decide))).trans z197) (by omega) (lv_sub hl [0] rfl) (by omega)
      ·
        refine r_aload_n S dX12_skip_9 rfl (lv_at hl 0 rfl) ?_
        refine r_ki (q_V (As := []) (rest := []) (K := 38) (ci := 10) S X202 (c_X12_peek_x l G t190 I191 ) ck12_147 (Nat.le_of_ble_eq_true rfl) rfl (fun _ => ⟨_, rfl⟩) ⟨_, _, rfl⟩ ⟨Nat.le_of_ble_eq_true rfl, Nat.le_of_ble_eq_true rfl⟩ rfl hl.1 rfl (Nat.le_of_ble_eq_true rfl) dX12_skip_10 ⟨Nat.le_refl 0, Nat.le_refl 0⟩) X202 (fun v232 t231 H lc q229 X230 => ?_)
        unfold po_X12_peek_x at q229
        obtain ⟨q233, q234, q235, q236⟩ := q229
        rw [q233] at X230
        rw [q233] at q235
        rw [q233] at q236
        refine r_bipush S dX12_skip_13 (by decide) (fun v237 z238 => ?_)
        have r239 := R_eq z238
        refine r_icmp_ne (tgt := 31) S dX12_skip_15 (by decide) (fun c240 => ?_) (fun c240 => ?_)
        ·
          refine r_aload_n S dX12_skip_31 rfl (lv_at hl 0 rfl) ?_
          refine r_aload_n S dX12_skip_32 rfl (lv_at hl 0 rfl) ?_
          refine r_geti (K := 38) S X230 (Nat.le_of_ble_eq_true rfl) rfl lk12_21_10 (fun _ => ⟨_, rfl, rfl⟩) z196 dX12_skip_33 ?_
          refine r_put (K := 38) (ty := .int) S X230 (Nat.le_of_ble_eq_true rfl) rfl lk12_151_10 (fun _ => ⟨_, rfl, Nat.le_of_ble_eq_true rfl, rfl⟩) (fun _ _ _ h => by cases h; exact ⟨rfl, rfl⟩) rfl rfl dX12_skip_36 (fun t241 H lc M242 X243 => ?_)
          have I244 := Inv_mu I191 M242 (show Rg (kd 131) 12 f194 from (R_of (lo := 0) (hi := 940) r195 rfl))
          have F245 : Fr [(131, 4), (131, 11), (131, 12), (131, 13), (131, 14)] [331] τ t241 := Fr_mu F192 M242 (by decide)
          refine r_aload_n S dX12_skip_39 rfl (lv_at hl 0 rfl) ?_
          refine r_iconst S dX12_skip_40 (by decide) (fun v246 z247 => ?_)
          have r248 := R_eq z247
          refine r_put (K := 38) (ty := .int) S X243 (Nat.le_of_ble_eq_true rfl) rfl lk12_154_10 (fun _ => ⟨_, rfl, Nat.le_of_ble_eq_true rfl, rfl⟩) (fun _ _ _ h => by cases h; exact ⟨rfl, rfl⟩) rfl rfl dX12_skip_41 (fun t249 H lc M250 X251 => ?_)
          have I252 := Inv_mu I244 M250 (show Rg (kd 131) 13 v246 from (R_of (lo := 0) (hi := 940) r248 rfl))
          have F253 : Fr [(131, 4), (131, 11), (131, 12), (131, 13), (131, 14)] [331] τ t249 := Fr_mu F245 M250 (by decide)
          refine r_aload_n S dX12_skip_44 rfl (lv_at hl 0 rfl) ?_
          refine r_geti (K := 38) S X251 (Nat.le_of_ble_eq_true rfl) rfl lk12_18_10 (fun _ => ⟨_, rfl, rfl⟩) ((M250.2 131 3 (Or.inr (by decide))).trans ((M242.2 131 3 (Or.inr (by decide))).trans z197)) dX12_skip_45 ?_
          refine r_aload_n S dX12_skip_48 rfl (lv_at hl 0 rfl) ?_
          refine r_getn (K := 38) S X251 (Nat.le_of_ble_eq_true rfl) rfl lk12_24_10 (fun _ => ⟨_, rfl, rfl⟩) dX12_skip_49 (fun v254 z255 => ?_)
          have r256 : R (0) (940) v254 := rd I252 rfl z255
          have J277 : ∀ (H : Heap) (lc : List Loc) (ls : Array Slot), Xd G s H lc t249 → lv_has ls 4 [(0, .ref (G.2.2.2.1 131))] → W p l e (Rm 1 20) s m ([.ref (G.2.2.2.1 131)] : List Value).toArray below meth c H lc 0 0 (MQ below (va_Qv (po_X12_skip τ    ) (Bs G) G.2.2.2.2) ([.ref (G.2.2.2.1 131)] : List Value).toArray s 0 0 G.2.2.2.2) (F0 m 80 ls []) := by
            intro H lc ls X276 hl
            refine r_aload_n S dX12_skip_80 rfl (lv_at hl 0 rfl) ?_
            refine r_ki (q_V (As := []) (rest := []) (K := 38) (ci := 10) S X276 (c_X12_peek_x l G t249 I252 ) ck12_147 (Nat.le_of_ble_eq_true rfl) rfl (fun _ => ⟨_, rfl⟩) ⟨_, _, rfl⟩ ⟨Nat.le_of_ble_eq_true rfl, Nat.le_of_ble_eq_true rfl⟩ rfl hl.1 rfl (Nat.le_of_ble_eq_true rfl) dX12_skip_81 ⟨Nat.le_refl 0, Nat.le_refl 0⟩) X276 (fun v281 t280 H lc q278 X279 => ?_)
            unfold po_X12_peek_x at q278
            obtain ⟨q282, q283, q284, q285⟩ := q278
            rw [q282] at X279
            rw [q282] at q284
            rw [q282] at q285
            refine r_istore_n (lv' := [(1, .int v281), (0, .ref (G.2.2.2.1 131))]) S dX12_skip_84 rfl hl (by decide) rfl (fun ls hl => ?_)
            refine r_iload_n S dX12_skip_85 rfl (lv_at hl 0 rfl) ?_
            refine r_if_ge (tgt := 95) S dX12_skip_86 (by decide) (fun c286 => ?_) (fun c286 => ?_)
            ·
              have r287 : R (0) (255) v281 := ⟨by omega, by omega⟩
              have p288 := q284 (by omega)
              have r289 : R (0) (939) f194 := ((M250.2 131 4 (Or.inr (by decide))).trans ((M242.2 131 4 (Or.inr (by decide))).trans z196)) ▸ p288
              have r290 : R (0) (939) f194 := ⟨by omega, by omega⟩
              refine r_iload_n S dX12_skip_95 rfl (lv_at hl 0 rfl) ?_
              refine r_ki (q_S (As := [.int v281]) (rest := []) S X279 (c_X12_isSmall_x l G t249 I252 v281 (R_of (lo := -2147483648) (hi := 2147483647) r287 rfl)) ck12_160 ⟨Nat.le_of_ble_eq_true rfl, Nat.le_of_ble_eq_true rfl⟩ rfl hl.1 rfl (Nat.le_of_ble_eq_true rfl) dX12_skip_96 ⟨Nat.le_refl 0, Nat.le_refl 0⟩) X279 (fun v294 t293 H lc q291 X292 => ?_)
              unfold po_X12_isSmall_x at q291
              obtain ⟨q295, q296, q297, q298⟩ := q291
              rw [q295] at X292
              refine r_if_ne (tgt := 164) S dX12_skip_99 (by decide) (fun c299 => ?_) (fun c299 => ?_)
              ·
                have r300 : R (1) (1) v294 := ⟨by omega, by omega⟩
                have p301 := q297 (by omega)
                have r302 : R (97) (122) v281 := ⟨by omega, by omega⟩
                have p303 := q284 (by omega)
                have r304 : R (0) (939) f194 := ((M250.2 131 4 (Or.inr (by decide))).trans ((M242.2 131 4 (Or.inr (by decide))).trans z196)) ▸ p303
                have r305 : R (0) (939) f194 := ⟨by omega, by omega⟩
                refine r_iload_n S dX12_skip_164 rfl (lv_at hl 0 rfl) ?_
                refine r_ki (q_S (As := [.int v281]) (rest := []) S X292 (c_X12_isSmall_x l G t249 I252 v281 (R_of (lo := -2147483648) (hi := 2147483647) r302 rfl)) ck12_160 ⟨Nat.le_of_ble_eq_true rfl, Nat.le_of_ble_eq_true rfl⟩ rfl hl.1 rfl (Nat.le_of_ble_eq_true rfl) dX12_skip_165 ⟨Nat.le_refl 0, Nat.le_refl 0⟩) X292 (fun v309 t308 H lc q306 X307 => ?_)
                unfold po_X12_isSmall_x at q306
                obtain ⟨q310, q311, q312, q313⟩ := q306
                rw [q310] at X307
                refine r_istore_n (lv' := [(2, .int v309), (1, .int v281), (0, .ref (G.2.2.2.1 131))]) S dX12_skip_168 rfl hl (by decide) rfl (fun ls hl => ?_)
                refine r_iconst S dX12_skip_169 (by decide) (fun v314 z315 => ?_)
                have r316 := R_eq z315
                refine r_istore_n (lv' := [(3, .int v314), (2, .int v309), (1, .int v281), (0, .ref (G.2.2.2.1 131))]) S dX12_skip_170 rfl hl (by decide) rfl (fun ls hl => ?_)
                refine r_aload_n S dX12_skip_171 rfl (lv_at hl 3 rfl) ?_
                refine lv_lconst S.1.1 S.1.2.1 dX12_skip_172 rfl ?_
                refine lv_topl (fun j317 z318 => ?_)
                refine r_putJ (K := 38) S X307 (Nat.le_of_ble_eq_true rfl) rfl lk12_170_10 (fun _ => ⟨_, rfl, Nat.le_of_ble_eq_true rfl, rfl⟩) (fun _ _ _ h => by cases h; exact ⟨rfl, rfl⟩) dX12_skip_173 (fun t320 H lc M321 X319 => ?_)
                have I322 := Inv_ml I252 M321
                have F323 : Fr [(131, 4), (131, 11), (131, 12), (131, 13), (131, 14)] [331] τ t320 := Fr_ml F253 M321 (by decide)
                refine r_aload_n S dX12_skip_176 rfl (lv_at hl 3 rfl) ?_
                refine r_iconst S dX12_skip_177 (by decide) (fun v324 z325 => ?_)
                have r326 := R_eq z325
                refine r_put (K := 38) (ty := .int) S X319 (Nat.le_of_ble_eq_true rfl) rfl lk12_167_10 (fun _ => ⟨_, rfl, Nat.le_of_ble_eq_true rfl, rfl⟩) (fun _ _ _ h => by cases h; exact ⟨rfl, rfl⟩) rfl rfl dX12_skip_178 (fun t327 H lc M328 X329 => ?_)
                have I330 := Inv_mu I322 M328 (R_any v324)
                have F331 : Fr [(131, 4), (131, 11), (131, 12), (131, 13), (131, 14)] [331] τ t327 := Fr_mu F323 M328 (by decide)
                have L11016 : ∀ (n : Nat) (t11000 : Tau) (H : Heap) (lc : List Loc) (ls : Array Slot) (i10998 : Int32) (f11004 : Int32) (f11009 : Int32) (f11013 : Int32), Xd G s H lc t11000 → Inv t11000 → Fr [(131, 4), (131, 11), (131, 12), (131, 13), (131, 14)] [331] τ t11000 → R (0) (1) i10998 → t11000 131 4 = f11004 → R (0) (940) f11004 → t11000 131 3 = v4 → t11000 131 12 = f194 → t11000 131 13 = f11009 → R (0) (940) f11009 → t11000 131 5 = v254 → t11000 131 14 = f11013 → R (-2147483648) (2147483647) f11013 → 0 ≤ f11009.toInt → f11004.toInt = f194.toInt + f11009.toInt → (f11009.toInt = 0 → pkv t11000 = v281.toInt) → lv_has ls 4 [(0, .ref (G.2.2.2.1 131)), (2, .int v309), (3, .int i10998)] → (940 - f11004.toInt).toNat < n → W p l e (Rm 1 20) s m ([.ref (G.2.2.2.1 131)] : List Value).toArray below meth c H lc 0 0 (MQ below (va_Qv (po_X12_skip τ    ) (Bs G) G.2.2.2.2) ([.ref (G.2.2.2.1 131)] : List Value).toArray s 0 0 G.2.2.2.2) (F0 m 181 ls []) := by
                  intro n
                  induction n with
                  | zero => intros; omega
                  | succ n ih11020 =>
                    intro t11000 H lc ls i10998 f11004 f11009 f11013 X11003 I11001 F11002 r10999 z11006 r11005 z11007 z11008 z11011 r11010 z11012 z11015 r11014 x11017 x11018 x11019 hl hm
                    refine r_aload_n S dX12_skip_181 rfl (lv_at hl 0 rfl) ?_
                    refine r_ki (q_V (As := []) (rest := []) (K := 38) (ci := 10) S X11003 (c_X12_peek_x l G t11000 I11001 ) ck12_147 (Nat.le_of_ble_eq_true rfl) rfl (fun _ => ⟨_, rfl⟩) ⟨_, _, rfl⟩ ⟨Nat.le_of_ble_eq_true rfl, Nat.le_of_ble_eq_true rfl⟩ rfl hl.1 rfl (Nat.le_of_ble_eq_true rfl) dX12_skip_182 ⟨Nat.le_refl 0, Nat.le_refl 0⟩) X11003 (fun v11024 t11023 H lc q11021 X11022 => ?_)
                    unfold po_X12_peek_x at q11021
                    obtain ⟨q11025, q11026, q11027, q11028⟩ := q11021
                    rw [q11025] at X11022
                    rw [q11025] at q11027
                    rw [q11025] at q11028
                    refine r_ki (q_S (As := [.int v11024]) (rest := []) S X11022 (c_X12_isSmall_x l G t11000 I11001 v11024 (R_of (lo := -2147483648) (hi := 2147483647) q11026 rfl)) ck12_160 ⟨Nat.le_of_ble_eq_true rfl, Nat.le_of_ble_eq_true rfl⟩ rfl hl.1 rfl (Nat.le_of_ble_eq_true rfl) dX12_skip_185 ⟨Nat.le_refl 0, Nat.le_refl 0⟩) X11022 (fun v11032 t11031 H lc q11029 X11030 => ?_)
                    unfold po_X12_isSmall_x at q11029
                    obtain ⟨q11033, q11034, q11035, q11036⟩ := q11029
                    rw [q11033] at X11030
                    have J11134 : ∀ (H : Heap) (lc : List Loc) (ls : Array Slot), Xd G s H lc t11000 → R (0) (939) f11004 → lv_has ls 4 [(0, .ref (G.2.2.2.1 131)), (2, .int v309), (3, .int i10998)] → W p l e (Rm 1 20) s m ([.ref (G.2.2.2.1 131)] : List Value).toArray below meth c H lc 0 0 (MQ below (va_Qv (po_X12_skip τ    ) (Bs G) G.2.2.2.2) ([.ref (G.2.2.2.1 131)] : List Value).toArray s 0 0 G.2.2.2.2) (F0 m 201 ls []) := by
                      intro H lc ls X11132 r11133 hl
                      refine r_iload_n S dX12_skip_201 rfl (lv_at hl 2 rfl) ?_
                      have J11167 : ∀ (H : Heap) (lc : List Loc) (ls : Array Slot) (i11165 : Int32), Xd G s H lc t11000 → R (0) (1) i11165 → lv_has ls 4 [(0, .ref (G.2.2.2.1 131)), (2, .int v309)] → W p l e (Rm 1 20) s m ([.ref (G.2.2.2.1 131)] : List Value).toArray below meth c H lc 0 0 (MQ below (va_Qv (po_X12_skip τ    ) (Bs G) G.2.2.2.2) ([.ref (G.2.2.2.1 131)] : List Value).toArray s 0 0 G.2.2.2.2) (F0 m 221 ls [.int i11165]) := by
                        intro H lc ls i11165 X11164 r11166 hl
                        refine r_istore_n (lv' := [(3, .int i11165), (0, .ref (G.2.2.2.1 131)), (2, .int v309)]) S dX12_skip_221 rfl hl (by decide) rfl (fun ls hl => ?_)
                        refine r_aload_n S dX12_skip_222 rfl (lv_at hl 1 rfl) ?_
                        refine r_geti (K := 38) S X11164 (Nat.le_of_ble_eq_true rfl) rfl lk12_154_10 (fun _ => ⟨_, rfl, rfl⟩) z11011 dX12_skip_223 ?_
                        refine r_bipush S dX12_skip_226 (by decide) (fun v11168 z11169 => ?_)
                        have r11170 := R_eq z11169
                        have J11209 : ∀ (t11198 : Tau) (H : Heap) (lc : List Loc) (ls : Array Slot), Xd G s H lc t11198 → Inv t11198 → Fr [(131, 4), (131, 11), (131, 12), (131, 13), (131, 14)] [331] τ t11198 → t11198 131 4 = f11004 → t11198 131 3 = v4 → t11198 131 12 = f194 → R (0) (940) f11009 → t11198 131 13 = f11009 → t11198 131 5 = v254 → t11198 131 14 = f11013 → lv_has ls 4 [(0, .ref (G.2.2.2.1 131)), (2, .int v309), (3, .int i11165)] → W p l e (Rm 1 20) s m ([.ref (G.2.2.2.1 131)] : List Value).toArray below meth c H lc 0 0 (MQ below (va_Qv (po_X12_skip τ    ) (Bs G) G.2.2.2.2) ([.ref (G.2.2.2.1 131)] : List Value).toArray s 0 0 G.2.2.2.2) (F0 m 248 ls []) := by
                          intro t11198 H lc ls X11201 I11199 F11200 z11202 z11203 z11204 r11205 z11206 z11207 z11208 hl
                          refine r_aload_n S dX12_skip_248 rfl (lv_at hl 0 rfl) ?_
                          refine r_geti (K := 38) S X11201 (Nat.le_of_ble_eq_true rfl) rfl lk12_154_10 (fun _ => ⟨_, rfl, rfl⟩) z11206 dX12_skip_249 ?_
                          refine r_iconst S dX12_skip_252 (by decide) (fun v11210 z11211 => ?_)
                          have r11212 := R_eq z11211
                          have J11257 : ∀ (t11244 : Tau) (H : Heap) (lc : List Loc) (ls : Array Slot) (i11254 : Int32), Xd G s H lc t11244 → Inv t11244 → Fr [(131, 4), (131, 11), (131, 12), (131, 13), (131, 14)] [331] τ t11244 → t11244 131 4 = f11004 → t11244 131 3 = v4 → t11244 131 12 = f194 → R (0) (940) f11009 → t11244 131 13 = f11009 → t11244 131 5 = v254 → R (-2147483648) (2147483647) i11254 → t11244 131 14 = i11254 → lv_has ls 4 [(0, .ref (G.2.2.2.1 131)), (2, .int v309), (3, .int i11165)] → W p l e (Rm 1 20) s m ([.ref (G.2.2.2.1 131)] : List Value).toArray below meth c H lc 0 0 (MQ below (va_Qv (po_X12_skip τ    ) (Bs G) G.2.2.2.2) ([.ref (G.2.2.2.1 131)] : List Value).toArray s 0 0 G.2.2.2.2) (F0 m 275 ls []) := by
                            intro t11244 H lc ls i11254 X11247 I11245 F11246 z11248 z11249 z11250 r11251 z11252 z11253 r11255 z11256 hl
                            refine r_aload_n S dX12_skip_275 rfl (lv_at hl 0 rfl) ?_
                            refine r_dup S dX12_skip_276 rfl ?_
                            refine r_geti (K := 38) S X11247 (Nat.le_of_ble_eq_true rfl) rfl lk12_154_10 (fun _ => ⟨_, rfl, rfl⟩) z11252 dX12_skip_277 ?_
                            refine r_iconst S dX12_skip_280 (by decide) (fun v11258 z11259 => ?_)
                            have r11260 := R_eq z11259
                            refine r_iadd S dX12_skip_281 (fun v11261 z11262 => ?_)
                            obtain ⟨e11263, r11264⟩ := i_add (lo := 1) (hi := 941) z11262 r11251 r11260 rfl
                            refine r_put (K := 38) (ty := .int) S X11247 (Nat.le_of_ble_eq_true rfl) rfl lk12_154_10 (fun _ => ⟨_, rfl, Nat.le_of_ble_eq_true rfl, rfl⟩) (fun _ _ _ h => by cases h; exact ⟨rfl, rfl⟩) rfl rfl dX12_skip_282 (fun t11265 H lc M11266 X11267 => ?_)
                            have I11268 := Inv_mu I11245 M11266 (show Rg (kd 131) 13 v11261 from (show R (0) (940) v11261 from ⟨by omega, by omega⟩))
                            have F11269 : Fr [(131, 4), (131, 11), (131, 12), (131, 13), (131, 14)] [331] τ t11265 := Fr_mu F11246 M11266 (by decide)
                            have r11270 : R (1) (940) v11261 := ⟨by omega, by omega⟩
                            refine r_aload_n S dX12_skip_285 rfl (lv_at hl 0 rfl) ?_
                            refine r_dup S dX12_skip_286 rfl ?_
                            refine r_geti (K := 38) S X11267 (Nat.le_of_ble_eq_true rfl) rfl lk12_21_10 (fun _ => ⟨_, rfl, rfl⟩) ((M11266.2 131 4 (Or.inr (by decide))).trans z11248) dX12_skip_287 ?_
                            refine r_iconst S dX12_skip_290 (by decide) (fun v11271 z11272 => ?_)
                            have r11273 := R_eq z11272
                            refine r_iadd S dX12_skip_291 (fun v11274 z11275 => ?_)
                            obtain ⟨e11276, r11277⟩ := i_add (lo := 1) (hi := 940) z11275 r11133 r11273 rfl
                            refine r_put (K := 38) (ty := .int) S X11267 (Nat.le_of_ble_eq_true rfl) rfl lk12_21_10 (fun _ => ⟨_, rfl, Nat.le_of_ble_eq_true rfl, rfl⟩) (fun _ _ _ h => by cases h; exact ⟨rfl, rfl⟩) rfl rfl dX12_skip_292 (fun t11278 H lc M11279 X11280 => ?_)
                            have I11281 := Inv_mu I11268 M11279 (show Rg (kd 131) 4 v11274 from (R_of (lo := 0) (hi := 940) r11277 rfl))
                            have F11282 : Fr [(131, 4), (131, 11), (131, 12), (131, 13), (131, 14)] [331] τ t11278 := Fr_mu F11269 M11279 (by decide)
                            refine r_goto (tgt := 181) S dX12_skip_295 (by decide) ?_
                            exact ih11020 t11278 _ _ _ i11165 v11274 v11261 i11254 X11280 I11281 F11282 r11166 M11279.1 ⟨by omega, by omega⟩ ((M11279.2 131 3 (Or.inr (by decide))).trans ((M11266.2 131 3 (Or.inr (by decide))).trans z11249)) ((M11279.2 131 12 (Or.inr (by decide))).trans ((M11266.2 131 12 (Or.inr (by decide))).trans z11250)) ((M11279.2 131 13 (Or.inr (by decide))).trans M11266.1) ⟨by omega, by omega⟩ ((M11279.2 131 5 (Or.inr (by decide))).trans ((M11266.2 131 5 (Or.inr (by decide))).trans z11253)) ((M11279.2 131 14 (Or.inr (by decide))).trans ((M11266.2 131 14 (Or.inr (by decide))).trans z11256)) ⟨by omega, by omega⟩ (by omega) (by omega) (fun h => by exfalso; omega) (lv_sub hl [0, 1, 2] rfl) (by omega)
                          refine r_icmp_ge (tgt := 275) S dX12_skip_253 (by decide) (fun c11283 => ?_) (fun c11283 => ?_)
                          ·
                            have r11284 : R (2) (940) f11009 := ⟨by omega, by omega⟩
                            exact J11257 t11198 _ _ _ f11013 X11201 I11199 F11200 z11202 z11203 z11204 (R_of r11284 rfl) z11206 z11207 r11014 z11208 (lv_sub hl [0, 1, 2] rfl)
                          ·
                            have r11285 : R (0) (1) f11009 := ⟨by omega, by omega⟩
                            refine r_aload_n S dX12_skip_256 rfl (lv_at hl 0 rfl) ?_
                            refine r_bipush S dX12_skip_257 (by decide) (fun v11286 z11287 => ?_)
                            have r11288 := R_eq z11287
                            refine r_aload_n S dX12_skip_259 rfl (lv_at hl 0 rfl) ?_
                            refine r_geti (K := 38) S X11201 (Nat.le_of_ble_eq_true rfl) rfl lk12_167_10 (fun _ => ⟨_, rfl, rfl⟩) z11208 dX12_skip_260 ?_
                            refine r_imul S dX12_skip_263 (fun v11289 z11290 => ?_)
                            have r11291 := R_any v11289
                            refine r_aload_n S dX12_skip_264 rfl (lv_at hl 0 rfl) ?_
                            refine r_ki (q_V (As := []) (rest := [.int v11289, .ref (G.2.2.2.1 131)]) (K := 38) (ci := 10) S X11201 (c_X12_peek_x l G t11198 I11199 ) ck12_147 (Nat.le_of_ble_eq_true rfl) rfl (fun _ => ⟨_, rfl⟩) ⟨_, _, rfl⟩ ⟨Nat.le_of_ble_eq_true rfl, Nat.le_of_ble_eq_true rfl⟩ rfl hl.1 rfl (Nat.le_of_ble_eq_true rfl) dX12_skip_265 ⟨Nat.le_refl 0, Nat.le_refl 0⟩) X11201 (fun v11295 t11294 H lc q11292 X11293 => ?_)
                            unfold po_X12_peek_x at q11292
                            obtain ⟨q11296, q11297, q11298, q11299⟩ := q11292
                            rw [q11296] at X11293
                            rw [q11296] at q11298
                            rw [q11296] at q11299
                            refine r_iadd S dX12_skip_268 (fun v11300 z11301 => ?_)
                            have r11302 := R_any v11300
                            refine r_bipush S dX12_skip_269 (by decide) (fun v11303 z11304 => ?_)
                            have r11305 := R_eq z11304
                            refine r_isub S dX12_skip_271 (fun v11306 z11307 => ?_)
                            have r11308 := R_any v11306
                            refine r_put (K := 38) (ty := .int) S X11293 (Nat.le_of_ble_eq_true rfl) rfl lk12_167_10 (fun _ => ⟨_, rfl, Nat.le_of_ble_eq_true rfl, rfl⟩) (fun _ _ _ h => by cases h; exact ⟨rfl, rfl⟩) rfl rfl dX12_skip_272 (fun t11309 H lc M11310 X11311 => ?_)
                            have I11312 := Inv_mu I11199 M11310 (R_any v11306)
                            have F11313 : Fr [(131, 4), (131, 11), (131, 12), (131, 13), (131, 14)] [331] τ t11309 := Fr_mu F11200 M11310 (by decide)
                            exact J11257 t11309 _ _ _ v11306 X11311 I11312 F11313 ((M11310.2 131 4 (Or.inr (by decide))).trans z11202) ((M11310.2 131 3 (Or.inr (by decide))).trans z11203) ((M11310.2 131 12 (Or.inr (by decide))).trans z11204) (R_of r11285 rfl) ((M11310.2 131 13 (Or.inr (by decide))).trans z11206) ((M11310.2 131 5 (Or.inr (by decide))).trans z11207) r11308 M11310.1 (lv_sub hl [0, 1, 2] rfl)
                        refine r_icmp_ge (tgt := 248) S dX12_skip_228 (by decide) (fun c11314 => ?_) (fun c11314 => ?_)
                        ·
                          have r11315 : R (7) (940) f11009 := ⟨by omega, by omega⟩
                          exact J11209 t11000 _ _ _ X11164 I11001 F11002 z11006 z11007 z11008 (R_of r11315 rfl) z11011 z11012 z11015 (lv_sub hl [1, 2, 0] rfl)
                        ·
                          have r11316 : R (0) (6) f11009 := ⟨by omega, by omega⟩
                          refine r_aload_n S dX12_skip_231 rfl (lv_at hl 1 rfl) ?_
                          refine r_aload_n S dX12_skip_232 rfl (lv_at hl 1 rfl) ?_
                          refine r_getJ (K := 38) S X11164 (Nat.le_of_ble_eq_true rfl) rfl lk12_170_10 (fun _ => ⟨_, rfl, rfl⟩) dX12_skip_233 (fun j11317 z11318 => ?_)
                          refine r_bipush S dX12_skip_236 (by decide) (fun v11319 z11320 => ?_)
                          have r11321 := R_eq z11320
                          refine lv_lshl S.1.1 S.1.2.1 dX12_skip_238 rfl ?_
                          refine lv_topl (fun j11322 z11323 => ?_)
                          refine r_aload_n S dX12_skip_239 rfl (lv_at hl 1 rfl) ?_
                          refine r_ki (q_V (As := []) (rest := [.long j11322, .ref (G.2.2.2.1 131)]) (K := 38) (ci := 10) S X11164 (c_X12_peek_x l G t11000 I11001 ) ck12_147 (Nat.le_of_ble_eq_true rfl) rfl (fun _ => ⟨_, rfl⟩) ⟨_, _, rfl⟩ ⟨Nat.le_of_ble_eq_true rfl, Nat.le_of_ble_eq_true rfl⟩ rfl hl.1 rfl (Nat.le_of_ble_eq_true rfl) dX12_skip_240 ⟨Nat.le_refl 0, Nat.le_refl 0⟩) X11164 (fun v11327 t11326 H lc q11324 X11325 => ?_)
                          unfold po_X12_peek_x at q11324
                          obtain ⟨q11328, q11329, q11330, q11331⟩ := q11324
                          rw [q11328] at X11325
                          rw [q11328] at q11330
                          rw [q11328] at q11331
                          refine lv_i2l S.1.1 S.1.2.1 dX12_skip_243 rfl ?_
                          refine lv_topl (fun j11332 z11333 => ?_)
                          refine lv_lor S.1.1 S.1.2.1 dX12_skip_244 ?_
                          refine lv_topl (fun j11334 z11335 => ?_)
                          refine r_putJ (K := 38) S X11325 (Nat.le_of_ble_eq_true rfl) rfl lk12_170_10 (fun _ => ⟨_, rfl, Nat.le_of_ble_eq_true rfl, rfl⟩) (fun _ _ _ h => by cases h; exact ⟨rfl, rfl⟩) dX12_skip_245 (fun t11337 H lc M11338 X11336 => ?_)
                          have I11339 := Inv_ml I11001 M11338
                          have F11340 : Fr [(131, 4), (131, 11), (131, 12), (131, 13), (131, 14)] [331] τ t11337 := Fr_ml F11002 M11338 (by decide)
                          exact J11209 t11337 _ _ _ X11336 I11339 F11340 ((M11338.1 131 (by decide) 4).trans z11006) ((M11338.1 131 (by decide) 3).trans z11007) ((M11338.1 131 (by decide) 12).trans z11008) (R_of r11316 rfl) ((M11338.1 131 (by decide) 13).trans z11011) ((M11338.1 131 (by decide) 5).trans z11012) ((M11338.1 131 (by decide) 14).trans z11015) (lv_sub hl [1, 2, 0] rfl)
                      refine r_if_eq (tgt := 220) S dX12_skip_202 (by decide) (fun c11341 => ?_) (fun c11341 => ?_)
                      ·
                        have r11342 : R (0) (0) i10998 := ⟨by omega, by omega⟩
                        refine r_iconst S dX12_skip_220 (by decide) (fun v11343 z11344 => ?_)
                        have r11345 := R_eq z11344
                        exact J11167 _ _ _ v11343 X11132 (R_of r11345 rfl) (lv_sub hl [0, 1] rfl)
                      ·
                        have r11346 : R (1) (1) i10998 := ⟨by omega, by omega⟩
                        refine r_aload_n S dX12_skip_205 rfl (lv_at hl 0 rfl) ?_
                        refine r_ki (q_V (As := []) (rest := []) (K := 38) (ci := 10) S X11132 (c_X12_peek_x l G t11000 I11001 ) ck12_147 (Nat.le_of_ble_eq_true rfl) rfl (fun _ => ⟨_, rfl⟩) ⟨_, _, rfl⟩ ⟨Nat.le_of_ble_eq_true rfl, Nat.le_of_ble_eq_true rfl⟩ rfl hl.1 rfl (Nat.le_of_ble_eq_true rfl) dX12_skip_206 ⟨Nat.le_refl 0, Nat.le_refl 0⟩) X11132 (fun v11350 t11349 H lc q11347 X11348 => ?_)
                        unfold po_X12_peek_x at q11347
                        obtain ⟨q11351, q11352, q11353, q11354⟩ := q11347
                        rw [q11351] at X11348
                        rw [q11351] at q11353
                        rw [q11351] at q11354
                        refine r_ki (q_S (As := [.int v11350]) (rest := []) S X11348 (c_X12_isSmall_x l G t11000 I11001 v11350 (R_of (lo := -2147483648) (hi := 2147483647) q11352 rfl)) ck12_160 ⟨Nat.le_of_ble_eq_true rfl, Nat.le_of_ble_eq_true rfl⟩ rfl hl.1 rfl (Nat.le_of_ble_eq_true rfl) dX12_skip_209 ⟨Nat.le_refl 0, Nat.le_refl 0⟩) X11348 (fun v11358 t11357 H lc q11355 X11356 => ?_)
                        unfold po_X12_isSmall_x at q11355
                        obtain ⟨q11359, q11360, q11361, q11362⟩ := q11355
                        rw [q11359] at X11356
                        refine r_iload_n S dX12_skip_212 rfl (lv_at hl 1 rfl) ?_
                        refine r_icmp_ne (tgt := 220) S dX12_skip_213 (by decide) (fun c11363 => ?_) (fun c11363 => ?_)
                        ·
                          refine r_iconst S dX12_skip_220 (by decide) (fun v11364 z11365 => ?_)
                          have r11366 := R_eq z11365
                          exact J11167 _ _ _ v11364 X11356 (R_of r11366 rfl) (lv_sub hl [0, 1] rfl)
                        ·
                          refine r_iconst S dX12_skip_216 (by decide) (fun v11367 z11368 => ?_)
                          have r11369 := R_eq z11368
                          refine r_goto (tgt := 221) S dX12_skip_217 (by decide) ?_
                          exact J11167 _ _ _ v11367 X11356 (R_of r11369 rfl) (lv_sub hl [0, 1] rfl)
                    refine r_if_ne (tgt := 201) S dX12_skip_188 (by decide) (fun c11370 => ?_) (fun c11370 => ?_)
                    ·
                      have r11371 : R (1) (1) v11032 := ⟨by omega, by omega⟩
                      have p11372 := q11035 (by omega)
                      have r11373 : R (97) (122) v11024 := ⟨by omega, by omega⟩
                      have p11374 := q11027 (by omega)
                      have r11375 : R (0) (939) f11004 := z11006 ▸ p11374
                      have r11376 : R (0) (939) f11004 := ⟨by omega, by omega⟩
                      exact J11134 _ _ _ X11030 r11376 (lv_sub hl [0, 1, 2] rfl)
                    ·
                      have r11377 : R (0) (0) v11032 := ⟨by omega, by omega⟩
                      refine r_aload_n S dX12_skip_191 rfl (lv_at hl 0 rfl) ?_
                      refine r_ki (q_V (As := []) (rest := []) (K := 38) (ci := 10) S X11030 (c_X12_peek_x l G t11000 I11001 ) ck12_147 (Nat.le_of_ble_eq_true rfl) rfl (fun _ => ⟨_, rfl⟩) ⟨_, _, rfl⟩ ⟨Nat.le_of_ble_eq_true rfl, Nat.le_of_ble_eq_true rfl⟩ rfl hl.1 rfl (Nat.le_of_ble_eq_true rfl) dX12_skip_192 ⟨Nat.le_refl 0, Nat.le_refl 0⟩) X11030 (fun v11381 t11380 H lc q11378 X11379 => ?_)
                      unfold po_X12_peek_x at q11378
                      obtain ⟨q11382, q11383, q11384, q11385⟩ := q11378
                      rw [q11382] at X11379
                      rw [q11382] at q11384
                      rw [q11382] at q11385
                      refine r_ki (q_S (As := [.int v11381]) (rest := []) S X11379 (c_X12_isDigit_x l G t11000 I11001 v11381 (R_of (lo := -2147483648) (hi := 2147483647) q11383 rfl)) ck12_164 ⟨Nat.le_of_ble_eq_true rfl, Nat.le_of_ble_eq_true rfl⟩ rfl hl.1 rfl (Nat.le_of_ble_eq_true rfl) dX12_skip_195 ⟨Nat.le_refl 0, Nat.le_refl 0⟩) X11379 (fun v11389 t11388 H lc q11386 X11387 => ?_)
                      unfold po_X12_isDigit_x at q11386
                      obtain ⟨q11390, q11391, q11392, q11393⟩ := q11386
                      rw [q11390] at X11387
                      refine r_if_eq (tgt := 298) S dX12_skip_198 (by decide) (fun c11394 => ?_) (fun c11394 => ?_)
                      ·
                        have r11395 : R (0) (0) v11389 := ⟨by omega, by omega⟩
                        refine r_aload_n S dX12_skip_298 rfl (lv_at hl 0 rfl) ?_
                        refine r_iload_n S dX12_skip_299 rfl (lv_at hl 2 rfl) ?_
                        refine r_if_eq (tgt := 320) S dX12_skip_300 (by decide) (fun c11396 => ?_) (fun c11396 => ?_)
                        ·
                          have r11397 : R (0) (0) i10998 := ⟨by omega, by omega⟩
                          refine r_iconst S dX12_skip_320 (by decide) (fun v11398 z11399 => ?_)
                          have r11400 := R_eq z11399
                          refine r_goto (tgt := 333) S dX12_skip_321 (by decide) ?_
                          refine r_put (K := 38) (ty := .int) S X11387 (Nat.le_of_ble_eq_true rfl) rfl lk12_157_10 (fun _ => ⟨_, rfl, Nat.le_of_ble_eq_true rfl, rfl⟩) (fun _ _ _ h => by cases h; exact ⟨rfl, rfl⟩) rfl rfl dX12_skip_333 (fun t11401 H lc M11402 X11403 => ?_)
                          have I11404 := Inv_mu I11001 M11402 (show Rg (kd 131) 11 v11398 from (R_of (lo := 0) (hi := 4) r11400 rfl))
                          have F11405 : Fr [(131, 4), (131, 11), (131, 12), (131, 13), (131, 14)] [331] τ t11401 := Fr_mu F11002 M11402 (by decide)
                          exact r_vret S hr hlk X11403 ⟨I11404, F11405, (by rw [((M11402.2 131 4 (Or.inr (by decide))).trans z11006)]; exact R_of r11005 rfl), (by rw [M11402.1]; exact R_of r11400 rfl), (by have h1_0 := congrArg Int32.toInt ((M11402.2 131 4 (Or.inr (by decide))).trans z11006); have h2_0 := congrArg Int32.toInt z2; omega), (by have h1_0 := congrArg Int32.toInt ((M11402.2 131 4 (Or.inr (by decide))).trans z11006); have h2_0 := congrArg Int32.toInt z2; have h1_1 := congrArg Int32.toInt M11402.1; omega)⟩ dX12_skip_336
                        ·
                          have r11406 : R (1) (1) i10998 := ⟨by omega, by omega⟩
                          refine r_aload_n S dX12_skip_303 rfl (lv_at hl 0 rfl) ?_
                          refine r_geti (K := 38) S X11387 (Nat.le_of_ble_eq_true rfl) rfl lk12_154_10 (fun _ => ⟨_, rfl, rfl⟩) z11011 dX12_skip_304 ?_
                          refine r_iload_n S dX12_skip_307 rfl (lv_at hl 1 rfl) ?_
                          refine r_if_eq (tgt := 316) S dX12_skip_308 (by decide) (fun c11407 => ?_) (fun c11407 => ?_)
                          ·
                            have r11408 : R (0) (0) v309 := ⟨by omega, by omega⟩
                            refine r_iconst S dX12_skip_316 (by decide) (fun v11409 z11410 => ?_)
                            have r11411 := R_eq z11410
                            refine r_icmp_le (tgt := 324) S dX12_skip_317 (by decide) (fun c11412 => ?_) (fun c11412 => ?_)
                            ·
                              have r11413 : R (0) (2) f11009 := ⟨by omega, by omega⟩
                              refine r_iload_n S dX12_skip_324 rfl (lv_at hl 1 rfl) ?_
                              refine r_if_eq (tgt := 332) S dX12_skip_325 (by decide) (fun c11414 => ?_) (fun c11414 => ?_)
                              ·
                                refine r_iconst S dX12_skip_332 (by decide) (fun v11415 z11416 => ?_)
                                have r11417 := R_eq z11416
                                refine r_put (K := 38) (ty := .int) S X11387 (Nat.le_of_ble_eq_true rfl) rfl lk12_157_10 (fun _ => ⟨_, rfl, Nat.le_of_ble_eq_true rfl, rfl⟩) (fun _ _ _ h => by cases h; exact ⟨rfl, rfl⟩) rfl rfl dX12_skip_333 (fun t11418 H lc M11419 X11420 => ?_)
                                have I11421 := Inv_mu I11001 M11419 (show Rg (kd 131) 11 v11415 from (R_of (lo := 0) (hi := 4) r11417 rfl))
                                have F11422 : Fr [(131, 4), (131, 11), (131, 12), (131, 13), (131, 14)] [331] τ t11418 := Fr_mu F11002 M11419 (by decide)
                                exact r_vret S hr hlk X11420 ⟨I11421, F11422, (by rw [((M11419.2 131 4 (Or.inr (by decide))).trans z11006)]; exact R_of r11005 rfl), (by rw [M11419.1]; exact R_of r11417 rfl), (by have h1_0 := congrArg Int32.toInt ((M11419.2 131 4 (Or.inr (by decide))).trans z11006); have h2_0 := congrArg Int32.toInt z2; omega), (by have h1_0 := congrArg Int32.toInt ((M11419.2 131 4 (Or.inr (by decide))).trans z11006); have h2_0 := congrArg Int32.toInt z2; have h1_1 := congrArg Int32.toInt M11419.1; omega)⟩ dX12_skip_336
                              ·
                                exfalso; omega
                            ·
                              have r11423 : R (3) (940) f11009 := ⟨by omega, by omega⟩
                              refine r_iconst S dX12_skip_320 (by decide) (fun v11424 z11425 => ?_)
                              have r11426 := R_eq z11425
                              refine r_goto (tgt := 333) S dX12_skip_321 (by decide) ?_
                              refine r_put (K := 38) (ty := .int) S X11387 (Nat.le_of_ble_eq_true rfl) rfl lk12_157_10 (fun _ => ⟨_, rfl, Nat.le_of_ble_eq_true rfl, rfl⟩) (fun _ _ _ h => by cases h; exact ⟨rfl, rfl⟩) rfl rfl dX12_skip_333 (fun t11427 H lc M11428 X11429 => ?_)
                              have I11430 := Inv_mu I11001 M11428 (show Rg (kd 131) 11 v11424 from (R_of (lo := 0) (hi := 4) r11426 rfl))
                              have F11431 : Fr [(131, 4), (131, 11), (131, 12), (131, 13), (131, 14)] [331] τ t11427 := Fr_mu F11002 M11428 (by decide)
                              exact r_vret S hr hlk X11429 ⟨I11430, F11431, (by rw [((M11428.2 131 4 (Or.inr (by decide))).trans z11006)]; exact R_of r11005 rfl), (by rw [M11428.1]; exact R_of r11426 rfl), (by have h1_0 := congrArg Int32.toInt ((M11428.2 131 4 (Or.inr (by decide))).trans z11006); have h2_0 := congrArg Int32.toInt z2; omega), (by have h1_0 := congrArg Int32.toInt ((M11428.2 131 4 (Or.inr (by decide))).trans z11006); have h2_0 := congrArg Int32.toInt z2; have h1_1 := congrArg Int32.toInt M11428.1; omega)⟩ dX12_skip_336
                          ·
                            have r11432 : R (1) (1) v309 := ⟨by omega, by omega⟩
                            have p11433 := q312 (by omega)
                            have r11434 : R (97) (122) v281 := ⟨by omega, by omega⟩
                            have p11435 := q284 (by omega)
                            refine r_bipush S dX12_skip_311 (by decide) (fun v11436 z11437 => ?_)
                            have r11438 := R_eq z11437
                            refine r_goto (tgt := 317) S dX12_skip_313 (by decide) ?_
                            refine r_icmp_le (tgt := 324) S dX12_skip_317 (by decide) (fun c11439 => ?_) (fun c11439 => ?_)
                            ·
                              have r11440 : R (0) (7) f11009 := ⟨by omega, by omega⟩
                              refine r_iload_n S dX12_skip_324 rfl (lv_at hl 1 rfl) ?_
                              refine r_if_eq (tgt := 332) S dX12_skip_325 (by decide) (fun c11441 => ?_) (fun c11441 => ?_)
                              ·
                                exfalso; omega
                              ·
                                refine r_iconst S dX12_skip_328 (by decide) (fun v11442 z11443 => ?_)
                                have r11444 := R_eq z11443
                                refine r_goto (tgt := 333) S dX12_skip_329 (by decide) ?_
                                refine r_put (K := 38) (ty := .int) S X11387 (Nat.le_of_ble_eq_true rfl) rfl lk12_157_10 (fun _ => ⟨_, rfl, Nat.le_of_ble_eq_true rfl, rfl⟩) (fun _ _ _ h => by cases h; exact ⟨rfl, rfl⟩) rfl rfl dX12_skip_333 (fun t11445 H lc M11446 X11447 => ?_)
                                have I11448 := Inv_mu I11001 M11446 (show Rg (kd 131) 11 v11442 from (R_of (lo := 0) (hi := 4) r11444 rfl))
                                have F11449 : Fr [(131, 4), (131, 11), (131, 12), (131, 13), (131, 14)] [331] τ t11445 := Fr_mu F11002 M11446 (by decide)
                                exact r_vret S hr hlk X11447 ⟨I11448, F11449, (by rw [((M11446.2 131 4 (Or.inr (by decide))).trans z11006)]; exact R_of r11005 rfl), (by rw [M11446.1]; exact R_of r11444 rfl), (by have h1_0 := congrArg Int32.toInt ((M11446.2 131 4 (Or.inr (by decide))).trans z11006); have h2_0 := congrArg Int32.toInt z2; omega), (by have h1_0 := congrArg Int32.toInt ((M11446.2 131 4 (Or.inr (by decide))).trans z11006); have h2_0 := congrArg Int32.toInt z2; have h1_1 := congrArg Int32.toInt M11446.1; omega)⟩ dX12_skip_336
                            ·
                              have r11450 : R (8) (940) f11009 := ⟨by omega, by omega⟩
                              refine r_iconst S dX12_skip_320 (by decide) (fun v11451 z11452 => ?_)
                              have r11453 := R_eq z11452
                              refine r_goto (tgt := 333) S dX12_skip_321 (by decide) ?_
                              refine r_put (K := 38) (ty := .int) S X11387 (Nat.le_of_ble_eq_true rfl) rfl lk12_157_10 (fun _ => ⟨_, rfl, Nat.le_of_ble_eq_true rfl, rfl⟩) (fun _ _ _ h => by cases h; exact ⟨rfl, rfl⟩) rfl rfl dX12_skip_333 (fun t11454 H lc M11455 X11456 => ?_)
                              have I11457 := Inv_mu I11001 M11455 (show Rg (kd 131) 11 v11451 from (R_of (lo := 0) (hi := 4) r11453 rfl))
                              have F11458 : Fr [(131, 4), (131, 11), (131, 12), (131, 13), (131, 14)] [331] τ t11454 := Fr_mu F11002 M11455 (by decide)
                              exact r_vret S hr hlk X11456 ⟨I11457, F11458, (by rw [((M11455.2 131 4 (Or.inr (by decide))).trans z11006)]; exact R_of r11005 rfl), (by rw [M11455.1]; exact R_of r11453 rfl), (by have h1_0 := congrArg Int32.toInt ((M11455.2 131 4 (Or.inr (by decide))).trans z11006); have h2_0 := congrArg Int32.toInt z2; omega), (by have h1_0 := congrArg Int32.toInt ((M11455.2 131 4 (Or.inr (by decide))).trans z11006); have h2_0 := congrArg Int32.toInt z2; have h1_1 := congrArg Int32.toInt M11455.1; omega)⟩ dX12_skip_336
                      ·
                        have r11459 : R (1) (1) v11389 := ⟨by omega, by omega⟩
                        have p11460 := q11392 (by omega)
                        have r11461 : R (48) (57) v11381 := ⟨by omega, by omega⟩
                        have p11462 := q11384 (by omega)
                        have r11463 : R (0) (939) f11004 := z11006 ▸ p11462
                        have r11464 : R (0) (939) f11004 := ⟨by omega, by omega⟩
                        exact J11134 _ _ _ X11387 r11464 (lv_sub hl [0, 1, 2] rfl)
                exact L11016 _ t327 _ _ _ v314 f194 v246 v324 X329 I330 F331 (R_of r316 rfl) ((M328.2 131 4 (Or.inr (by decide))).trans ((M321.1 131 (by decide) 4).trans ((M250.2 131 4 (Or.inr (by decide))).trans ((M242.2 131 4 (Or.inr (by decide))).trans z196)))) ⟨by omega, by omega⟩ ((M328.2 131 3 (Or.inr (by decide))).trans ((M321.1 131 (by decide) 3).trans ((M250.2 131 3 (Or.inr (by decide))).trans ((M242.2 131 3 (Or.inr (by decide))).trans z197)))) ((M328.2 131 12 (Or.inr (by decide))).trans ((M321.1 131 (by decide) 12).trans ((M250.2 131 12 (Or.inr (by decide))).trans M242.1))) ((M328.2 131 13 (Or.inr (by decide))).trans ((M321.1 131 (by decide) 13).trans M250.1)) ⟨by omega, by omega⟩ ((M328.2 131 5 (Or.inr (by decide))).trans ((M321.1 131 (by decide) 5).trans z255)) M328.1 ⟨by omega, by omega⟩ (by omega) (by omega) (fun _ => (pkv_eq ((M328.2 131 4 (Or.inr (by decide))).trans ((M321.1 131 (by decide) 4).trans rfl)) ((M328.2 131 3 (Or.inr (by decide))).trans ((M321.1 131 (by decide) 3).trans rfl)) (fun j => ((M328.2 132 j (Or.inl (by decide))).trans ((M321.1 132 (by decide) j).trans rfl)))).trans q285.symm) (lv_sub hl [3, 1, 0] rfl) (Nat.lt_succ_self _)
              ·
                have r11465 : R (0) (0) v294 := ⟨by omega, by omega⟩
                refine r_iload_n S dX12_skip_102 rfl (lv_at hl 0 rfl) ?_
                refine r_ki (q_S (As := [.int v281]) (rest := []) S X292 (c_X12_isDigit_x l G t249 I252 v281 (R_of (lo := -2147483648) (hi := 2147483647) r287 rfl)) ck12_164 ⟨Nat.le_of_ble_eq_true rfl, Nat.le_of_ble_eq_true rfl⟩ rfl hl.1 rfl (Nat.le_of_ble_eq_true rfl) dX12_skip_103 ⟨Nat.le_refl 0, Nat.le_refl 0⟩) X292 (fun v11469 t11468 H lc q11466 X11467 => ?_)
                unfold po_X12_isDigit_x at q11466
                obtain ⟨q11470, q11471, q11472, q11473⟩ := q11466
                rw [q11470] at X11467
                refine r_if_ne (tgt := 164) S dX12_skip_106 (by decide) (fun c11474 => ?_) (fun c11474 => ?_)
                ·
                  have r11475 : R (1) (1) v11469 := ⟨by omega, by omega⟩
                  have p11476 := q11472 (by omega)
                  have r11477 : R (48) (57) v281 := ⟨by omega, by omega⟩
                  have p11478 := q284 (by omega)
                  have r11479 : R (0) (939) f194 := ((M250.2 131 4 (Or.inr (by decide))).trans ((M242.2 131 4 (Or.inr (by decide))).trans z196)) ▸ p11478
                  have r11480 : R (0) (939) f194 := ⟨by omega, by omega⟩
                  refine r_iload_n S dX12_skip_164 rfl (lv_at hl 0 rfl) ?_
                  refine r_ki (q_S (As := [.int v281]) (rest := []) S X11467 (c_X12_isSmall_x l G t249 I252 v281 (R_of (lo := -2147483648) (hi := 2147483647) r11477 rfl)) ck12_160 ⟨Nat.le_of_ble_eq_true rfl, Nat.le_of_ble_eq_true rfl⟩ rfl hl.1 rfl (Nat.le_of_ble_eq_true rfl) dX12_skip_165 ⟨Nat.le_refl 0, Nat.le_refl 0⟩) X11467 (fun v11484 t11483 H lc q11481 X11482 => ?_)
                  unfold po_X12_isSmall_x at q11481
                  obtain ⟨q11485, q11486, q11487, q11488⟩ := q11481
                  rw [q11485] at X11482
                  refine r_istore_n (lv' := [(2, .int v11484), (1, .int v281), (0, .ref (G.2.2.2.1 131))]) S dX12_skip_168 rfl hl (by decide) rfl (fun ls hl => ?_)
                  refine r_iconst S dX12_skip_169 (by decide) (fun v11489 z11490 => ?_)
                  have r11491 := R_eq z11490
                  refine r_istore_n (lv' := [(3, .int v11489), (2, .int v11484), (1, .int v281), (0, .ref (G.2.2.2.1 131))]) S dX12_skip_170 rfl hl (by decide) rfl (fun ls hl => ?_)
                  refine r_aload_n S dX12_skip_171 rfl (lv_at hl 3 rfl) ?_
                  refine lv_lconst S.1.1 S.1.2.1 dX12_skip_172 rfl ?_
                  refine lv_topl (fun j11492 z11493 => ?_)
                  refine r_putJ (K := 38) S X11482 (Nat.le_of_ble_eq_true rfl) rfl lk12_170_10 (fun _ => ⟨_, rfl, Nat.le_of_ble_eq_true rfl, rfl⟩) (fun _ _ _ h => by cases h; exact ⟨rfl, rfl⟩) dX12_skip_173 (fun t11495 H lc M11496 X11494 => ?_)
                  have I11497 := Inv_ml I252 M11496
                  have F11498 : Fr [(131, 4), (131, 11), (131, 12), (131, 13), (131, 14)] [331] τ t11495 := Fr_ml F253 M11496 (by decide)
                  refine r_aload_n S dX12_skip_176 rfl (lv_at hl 3 rfl) ?_
                  refine r_iconst S dX12_skip_177 (by decide) (fun v11499 z11500 => ?_)
                  have r11501 := R_eq z11500
                  refine r_put (K := 38) (ty := .int) S X11494 (Nat.le_of_ble_eq_true rfl) rfl lk12_167_10 (fun _ => ⟨_, rfl, Nat.le_of_ble_eq_true rfl, rfl⟩) (fun _ _ _ h => by cases h; exact ⟨rfl, rfl⟩) rfl rfl dX12_skip_178 (fun t11502 H lc M11503 X11504 => ?_)
                  have I11505 := Inv_mu I11497 M11503 (R_any v11499)
                  have F11506 : Fr [(131, 4), (131, 11), (131, 12), (131, 13), (131, 14)] [331] τ t11502 := Fr_mu F11498 M11503 (by decide)
                  have L22191 : ∀ (n : Nat) (t22175 : Tau) (H : Heap) (lc : List Loc) (ls : Array Slot) (i22173 : Int32) (f22179 : Int32) (f22184 : Int32) (f22188 : Int32), Xd G s H lc t22175 → Inv t22175 → Fr [(131, 4), (131, 11), (131, 12), (131, 13), (131, 14)] [331] τ t22175 → R (0) (1) i22173 → t22175 131 4 = f22179 → R (0) (940) f22179 → t22175 131 3 = v4 → t22175 131 12 = f194 → t22175 131 13 = f22184 → R (0) (940) f22184 → t22175 131 5 = v254 → t22175 131 14 = f22188 → R (-2147483648) (2147483647) f22188 → 0 ≤ f22184.toInt → f22179.toInt = f194.toInt + f22184.toInt → (f22184.toInt = 0 → pkv t22175 = v281.toInt) → lv_has ls 4 [(0, .ref (G.2.2.2.1 131)), (2, .int v11484), (3, .int i22173)] → (940 - f22179.toInt).toNat < n → W p l e (Rm 1 20) s m ([.ref (G.2.2.2.1 131)] : List Value).toArray below meth c H lc 0 0 (MQ below (va_Qv (po_X12_skip τ    ) (Bs G) G.2.2.2.2) ([.ref (G.2.2.2.1 131)] : List Value).toArray s 0 0 G.2.2.2.2) (F0 m 181 ls []) := by
                    intro n
                    induction n with
                    | zero => intros; omega
                    | succ n ih22195 =>
                      intro t22175 H lc ls i22173 f22179 f22184 f22188 X22178 I22176 F22177 r22174 z22181 r22180 z22182 z22183 z22186 r22185 z22187 z22190 r22189 x22192 x22193 x22194 hl hm
                      refine r_aload_n S dX12_skip_181 rfl (lv_at hl 0 rfl) ?_
                      refine r_ki (q_V (As := []) (rest := []) (K := 38) (ci := 10) S X22178 (c_X12_peek_x l G t22175 I22176 ) ck12_147 (Nat.le_of_ble_eq_true rfl) rfl (fun _ => ⟨_, rfl⟩) ⟨_, _, rfl⟩ ⟨Nat.le_of_ble_eq_true rfl, Nat.le_of_ble_eq_true rfl⟩ rfl hl.1 rfl (Nat.le_of_ble_eq_true rfl) dX12_skip_182 ⟨Nat.le_refl 0, Nat.le_refl 0⟩) X22178 (fun v22199 t22198 H lc q22196 X22197 => ?_)
                      unfold po_X12_peek_x at q22196
                      obtain ⟨q22200, q22201, q22202, q22203⟩ := q22196
                      rw [q22200] at X22197
                      rw [q22200] at q22202
                      rw [q22200] at q22203
                      refine r_ki (q_S (As := [.int v22199]) (rest := []) S X22197 (c_X12_isSmall_x l G t22175 I22176 v22199 (R_of (lo := -2147483648) (hi := 2147483647) q22201 rfl)) ck12_160 ⟨Nat.le_of_ble_eq_true rfl, Nat.le_of_ble_eq_true rfl⟩ rfl hl.1 rfl (Nat.le_of_ble_eq_true rfl) dX12_skip_185 ⟨Nat.le_refl 0, Nat.le_refl 0⟩) X22197 (fun v22207 t22206 H lc q22204 X22205 => ?_)
                      unfold po_X12_isSmall_x at q22204
                      obtain ⟨q22208, q22209, q22210, q22211⟩ := q22204
                      rw [q22208] at X22205
                      have J22284 : ∀ (H : Heap) (lc : List Loc) (ls : Array Slot), Xd G s H lc t22175 → R (0) (939) f22179 → lv_has ls 4 [(0, .ref (G.2.2.2.1 131)), (2, .int v11484), (3, .int i22173)] → W p l e (Rm 1 20) s m ([.ref (G.2.2.2.1 131)] : List Value).toArray below meth c H lc 0 0 (MQ below (va_Qv (po_X12_skip τ    ) (Bs G) G.2.2.2.2) ([.ref (G.2.2.2.1 131)] : List Value).toArray s 0 0 G.2.2.2.2) (F0 m 201 ls []) := by
                        intro H lc ls X22282 r22283 hl
                        refine r_iload_n S dX12_skip_201 rfl (lv_at hl 2 rfl) ?_
                        have J22317 : ∀ (H : Heap) (lc : List Loc) (ls : Array Slot) (i22315 : Int32), Xd G s H lc t22175 → R (0) (1) i22315 → lv_has ls 4 [(0, .ref (G.2.2.2.1 131)), (2, .int v11484)] → W p l e (Rm 1 20) s m ([.ref (G.2.2.2.1 131)] : List Value).toArray below meth c H lc 0 0 (MQ below (va_Qv (po_X12_skip τ    ) (Bs G) G.2.2.2.2) ([.ref (G.2.2.2.1 131)] : List Value).toArray s 0 0 G.2.2.2.2) (F0 m 221 ls [.int i22315]) := by
                          intro H lc ls i22315 X22314 r22316 hl
                          refine r_istore_n (lv' := [(3, .int i22315), (0, .ref (G.2.2.2.1 131)), (2, .int v11484)]) S dX12_skip_221 rfl hl (by decide) rfl (fun ls hl => ?_)
                          refine r_aload_n S dX12_skip_222 rfl (lv_at hl 1 rfl) ?_
                          refine r_geti (K := 38) S X22314 (Nat.le_of_ble_eq_true rfl) rfl lk12_154_10 (fun _ => ⟨_, rfl, rfl⟩) z22186 dX12_skip_223 ?_
                          refine r_bipush S dX12_skip_226 (by decide) (fun v22318 z22319 => ?_)
                          have r22320 := R_eq z22319
                          have J22359 : ∀ (t22348 : Tau) (H : Heap) (lc : List Loc) (ls : Array Slot), Xd G s H lc t22348 → Inv t22348 → Fr [(131, 4), (131, 11), (131, 12), (131, 13), (131, 14)] [331] τ t22348 → t22348 131 4 = f22179 → t22348 131 3 = v4 → t22348 131 12 = f194 → R (0) (940) f22184 → t22348 131 13 = f22184 → t22348 131 5 = v254 → t22348 131 14 = f22188 → lv_has ls 4 [(0, .ref (G.2.2.2.1 131)), (2, .int v11484), (3, .int i22315)] → W p l e (Rm 1 20) s m ([.ref (G.2.2.2.1 131)] : List Value).toArray below meth c H lc 0 0 (MQ below (va_Qv (po_X12_skip τ    ) (Bs G) G.2.2.2.2) ([.ref (G.2.2.2.1 131)] : List Value).toArray s 0 0 G.2.2.2.2) (F0 m 248 ls []) := by
                            intro t22348 H lc ls X22351 I22349 F22350 z22352 z22353 z22354 r22355 z22356 z22357 z22358 hl
                            refine r_aload_n S dX12_skip_248 rfl (lv_at hl 0 rfl) ?_
                            refine r_geti (K := 38) S X22351 (Nat.le_of_ble_eq_true rfl) rfl lk12_154_10 (fun _ => ⟨_, rfl, rfl⟩) z22356 dX12_skip_249 ?_
                            refine r_iconst S dX12_skip_252 (by decide) (fun v22360 z22361 => ?_)
                            have r22362 := R_eq z22361
                            have J22407 : ∀ (t22394 : Tau) (H : Heap) (lc : List Loc) (ls : Array Slot) (i22404 : Int32), Xd G s H lc t22394 → Inv t22394 → Fr [(131, 4), (131, 11), (131, 12), (131, 13), (131, 14)] [331] τ t22394 → t22394 131 4 = f22179 → t22394 131 3 = v4 → t22394 131 12 = f194 → R (0) (940) f22184 → t22394 131 13 = f22184 → t22394 131 5 = v254 → R (-2147483648) (2147483647) i22404 → t22394 131 14 = i22404 → lv_has ls 4 [(0, .ref (G.2.2.2.1 131)), (2, .int v11484), (3, .int i22315)] → W p l e (Rm 1 20) s m ([.ref (G.2.2.2.1 131)] : List Value).toArray below meth c H lc 0 0 (MQ below (va_Qv (po_X12_skip τ    ) (Bs G) G.2.2.2.2) ([.ref (G.2.2.2.1 131)] : List Value).toArray s 0 0 G.2.2.2.2) (F0 m 275 ls []) := by
                              intro t22394 H lc ls i22404 X22397 I22395 F22396 z22398 z22399 z22400 r22401 z22402 z22403 r22405 z22406 hl
                              refine r_aload_n S dX12_skip_275 rfl (lv_at hl 0 rfl) ?_
                              refine r_dup S dX12_skip_276 rfl ?_
                              refine r_geti (K := 38) S X22397 (Nat.le_of_ble_eq_true rfl) rfl lk12_154_10 (fun _ => ⟨_, rfl, rfl⟩) z22402 dX12_skip_277 ?_
                              refine r_iconst S dX12_skip_280 (by decide) (fun v22408 z22409 => ?_)
                              have r22410 := R_eq z22409
                              refine r_iadd S dX12_skip_281 (fun v22411 z22412 => ?_)
                              obtain ⟨e22413, r22414⟩ := i_add (lo := 1) (hi := 941) z22412 r22401 r22410 rfl
                              refine r_put (K := 38) (ty := .int) S X22397 (Nat.le_of_ble_eq_true rfl) rfl lk12_154_10 (fun _ => ⟨_, rfl, Nat.le_of_ble_eq_true rfl, rfl⟩) (fun _ _ _ h => by cases h; exact ⟨rfl, rfl⟩) rfl rfl dX12_skip_282 (fun t22415 H lc M22416 X22417 => ?_)
                              have I22418 := Inv_mu I22395 M22416 (show Rg (kd 131) 13 v22411 from (show R (0) (940) v22411 from ⟨by omega, by omega⟩))
                              have F22419 : Fr [(131, 4), (131, 11), (131, 12), (131, 13), (131, 14)] [331] τ t22415 := Fr_mu F22396 M22416 (by decide)
                              have r22420 : R (1) (940) v22411 := ⟨by omega, by omega⟩
                              refine r_aload_n S dX12_skip_285 rfl (lv_at hl 0 rfl) ?_
                              refine r_dup S dX12_skip_286 rfl ?_
                              refine r_geti (K := 38) S X22417 (Nat.le_of_ble_eq_true rfl) rfl lk12_21_10 (fun _ => ⟨_, rfl, rfl⟩) ((M22416.2 131 4 (Or.inr (by decide))).trans z22398) dX12_skip_287 ?_
                              refine r_iconst S dX12_skip_290 (by decide) (fun v22421 z22422 => ?_)
                              have r22423 := R_eq z22422
                              refine r_iadd S dX12_skip_291 (fun v22424 z22425 => ?_)
                              obtain ⟨e22426, r22427⟩ := i_add (lo := 1) (hi := 940) z22425 r22283 r22423 rfl
                              refine r_put (K := 38) (ty := .int) S X22417 (Nat.le_of_ble_eq_true rfl) rfl lk12_21_10 (fun _ => ⟨_, rfl, Nat.le_of_ble_eq_true rfl, rfl⟩) (fun _ _ _ h => by cases h; exact ⟨rfl, rfl⟩) rfl rfl dX12_skip_292 (fun t22428 H lc M22429 X22430 => ?_)
                              have I22431 := Inv_mu I22418 M22429 (show Rg (kd 131) 4 v22424 from (R_of (lo := 0) (hi := 940) r22427 rfl))
                              have F22432 : Fr [(131, 4), (131, 11), (131, 12), (131, 13), (131, 14)] [331] τ t22428 := Fr_mu F22419 M22429 (by decide)
                              refine r_goto (tgt := 181) S dX12_skip_295 (by decide) ?_
                              exact ih22195 t22428 _ _ _ i22315 v22424 v22411 i22404 X22430 I22431 F22432 r22316 M22429.1 ⟨by omega, by omega⟩ ((M22429.2 131 3 (Or.inr (by decide))).trans ((M22416.2 131 3 (Or.inr (by decide))).trans z22399)) ((M22429.2 131 12 (Or.inr (by decide))).trans ((M22416.2 131 12 (Or.inr (by decide))).trans z22400)) ((M22429.2 131 13 (Or.inr (by decide))).trans M22416.1) ⟨by omega, by omega⟩ ((M22429.2 131 5 (Or.inr (by decide))).trans ((M22416.2 131 5 (Or.inr (by decide))).trans z22403)) ((M22429.2 131 14 (Or.inr (by decide))).trans ((M22416.2 131 14 (Or.inr (by decide))).trans z22406)) ⟨by omega, by omega⟩ (by omega) (by omega) (fun h => by exfalso; omega) (lv_sub hl [0, 1, 2] rfl) (by omega)
                            refine r_icmp_ge (tgt := 275) S dX12_skip_253 (by decide) (fun c22433 => ?_) (fun c22433 => ?_)
                            ·
                              have r22434 : R (2) (940) f22184 := ⟨by omega, by omega⟩
                              exact J22407 t22348 _ _ _ f22188 X22351 I22349 F22350 z22352 z22353 z22354 (R_of r22434 rfl) z22356 z22357 r22189 z22358 (lv_sub hl [0, 1, 2] rfl)
                            ·
                              have r22435 : R (0) (1) f22184 := ⟨by omega, by omega⟩
                              refine r_aload_n S dX12_skip_256 rfl (lv_at hl 0 rfl) ?_
                              refine r_bipush S dX12_skip_257 (by decide) (fun v22436 z22437 => ?_)
                              have r22438 := R_eq z22437
                              refine r_aload_n S dX12_skip_259 rfl (lv_at hl 0 rfl) ?_
                              refine r_geti (K := 38) S X22351 (Nat.le_of_ble_eq_true rfl) rfl lk12_167_10 (fun _ => ⟨_, rfl, rfl⟩) z22358 dX12_skip_260 ?_
                              refine r_imul S dX12_skip_263 (fun v22439 z22440 => ?_)
                              have r22441 := R_any v22439
                              refine r_aload_n S dX12_skip_264 rfl (lv_at hl 0 rfl) ?_
                              refine r_ki (q_V (As := []) (rest := [.int v22439, .ref (G.2.2.2.1 131)]) (K := 38) (ci := 10) S X22351 (c_X12_peek_x l G t22348 I22349 ) ck12_147 (Nat.le_of_ble_eq_true rfl) rfl (fun _ => ⟨_, rfl⟩) ⟨_, _, rfl⟩ ⟨Nat.le_of_ble_eq_true rfl, Nat.le_of_ble_eq_true rfl⟩ rfl hl.1 rfl (Nat.le_of_ble_eq_true rfl) dX12_skip_265 ⟨Nat.le_refl 0, Nat.le_refl 0⟩) X22351 (fun v22445 t22444 H lc q22442 X22443 => ?_)
                              unfold po_X12_peek_x at q22442
                              obtain ⟨q22446, q22447, q22448, q22449⟩ := q22442
                              rw [q22446] at X22443
                              rw [q22446] at q22448
                              rw [q22446] at q22449
                              refine r_iadd S dX12_skip_268 (fun v22450 z22451 => ?_)
                              have r22452 := R_any v22450
                              refine r_bipush S dX12_skip_269 (by decide) (fun v22453 z22454 => ?_)
                              have r22455 := R_eq z22454
                              refine r_isub S dX12_skip_271 (fun v22456 z22457 => ?_)
                              have r22458 := R_any v22456
                              refine r_put (K := 38) (ty := .int) S X22443 (Nat.le_of_ble_eq_true rfl) rfl lk12_167_10 (fun _ => ⟨_, rfl, Nat.le_of_ble_eq_true rfl, rfl⟩) (fun _ _ _ h => by cases h; exact ⟨rfl, rfl⟩) rfl rfl dX12_skip_272 (fun t22459 H lc M22460 X22461 => ?_)
                              have I22462 := Inv_mu I22349 M22460 (R_any v22456)
                              have F22463 : Fr [(131, 4), (131, 11), (131, 12), (131, 13), (131, 14)] [331] τ t22459 := Fr_mu F22350 M22460 (by decide)
                              exact J22407 t22459 _ _ _ v22456 X22461 I22462 F22463 ((M22460.2 131 4 (Or.inr (by decide))).trans z22352) ((M22460.2 131 3 (Or.inr (by decide))).trans z22353) ((M22460.2 131 12 (Or.inr (by decide))).trans z22354) (R_of r22435 rfl) ((M22460.2 131 13 (Or.inr (by decide))).trans z22356) ((M22460.2 131 5 (Or.inr (by decide))).trans z22357) r22458 M22460.1 (lv_sub hl [0, 1, 2] rfl)
                          refine r_icmp_ge (tgt := 248) S dX12_skip_228 (by decide) (fun c22464 => ?_) (fun c22464 => ?_)
                          ·
                            have r22465 : R (7) (940) f22184 := ⟨by omega, by omega⟩
                            exact J22359 t22175 _ _ _ X22314 I22176 F22177 z22181 z22182 z22183 (R_of r22465 rfl) z22186 z22187 z22190 (lv_sub hl [1, 2, 0] rfl)
                          ·
                            have r22466 : R (0) (6) f22184 := ⟨by omega, by omega⟩
                            refine r_aload_n S dX12_skip_231 rfl (lv_at hl 1 rfl) ?_
                            refine r_aload_n S dX12_skip_232 rfl (lv_at hl 1 rfl) ?_
                            refine r_getJ (K := 38) S X22314 (Nat.le_of_ble_eq_true rfl) rfl lk12_170_10 (fun _ => ⟨_, rfl, rfl⟩) dX12_skip_233 (fun j22467 z22468 => ?_)
                            refine r_bipush S dX12_skip_236 (by decide) (fun v22469 z22470 => ?_)
                            have r22471 := R_eq z22470
                            refine lv_lshl S.1.1 S.1.2.1 dX12_skip_238 rfl ?_
                            refine lv_topl (fun j22472 z22473 => ?_)
                            refine r_aload_n S dX12_skip_239 rfl (lv_at hl 1 rfl) ?_
                            refine r_ki (q_V (As := []) (rest := [.long j22472, .ref (G.2.2.2.1 131)]) (K := 38) (ci := 10) S X22314 (c_X12_peek_x l G t22175 I22176 ) ck12_147 (Nat.le_of_ble_eq_true rfl) rfl (fun _ => ⟨_, rfl⟩) ⟨_, _, rfl⟩ ⟨Nat.le_of_ble_eq_true rfl, Nat.le_of_ble_eq_true rfl⟩ rfl hl.1 rfl (Nat.le_of_ble_eq_true rfl) dX12_skip_240 ⟨Nat.le_refl 0, Nat.le_refl 0⟩) X22314 (fun v22477 t22476 H lc q22474 X22475 => ?_)
                            unfold po_X12_peek_x at q22474
                            obtain ⟨q22478, q22479, q22480, q22481⟩ := q22474
                            rw [q22478] at X22475
                            rw [q22478] at q22480
                            rw [q22478] at q22481
                            refine lv_i2l S.1.1 S.1.2.1 dX12_skip_243 rfl ?_
                            refine lv_topl (fun j22482 z22483 => ?_)
                            refine lv_lor S.1.1 S.1.2.1 dX12_skip_244 ?_
                            refine lv_topl (fun j22484 z22485 => ?_)
                            refine r_putJ (K := 38) S X22475 (Nat.le_of_ble_eq_true rfl) rfl lk12_170_10 (fun _ => ⟨_, rfl, Nat.le_of_ble_eq_true rfl, rfl⟩) (fun _ _ _ h => by cases h; exact ⟨rfl, rfl⟩) dX12_skip_245 (fun t22487 H lc M22488 X22486 => ?_)
                            have I22489 := Inv_ml I22176 M22488
                            have F22490 : Fr [(131, 4), (131, 11), (131, 12), (131, 13), (131, 14)] [331] τ t22487 := Fr_ml F22177 M22488 (by decide)
                            exact J22359 t22487 _ _ _ X22486 I22489 F22490 ((M22488.1 131 (by decide) 4).trans z22181) ((M22488.1 131 (by decide) 3).trans z22182) ((M22488.1 131 (by decide) 12).trans z22183) (R_of r22466 rfl) ((M22488.1 131 (by decide) 13).trans z22186) ((M22488.1 131 (by decide) 5).trans z22187) ((M22488.1 131 (by decide) 14).trans z22190) (lv_sub hl [1, 2, 0] rfl)
                        refine r_if_eq (tgt := 220) S dX12_skip_202 (by decide) (fun c22491 => ?_) (fun c22491 => ?_)
                        ·
                          have r22492 : R (0) (0) i22173 := ⟨by omega, by omega⟩
                          refine r_iconst S dX12_skip_220 (by decide) (fun v22493 z22494 => ?_)
                          have r22495 := R_eq z22494
                          exact J22317 _ _ _ v22493 X22282 (R_of r22495 rfl) (lv_sub hl [0, 1] rfl)
                        ·
                          have r22496 : R (1) (1) i22173 := ⟨by omega, by omega⟩
                          refine r_aload_n S dX12_skip_205 rfl (lv_at hl 0 rfl) ?_
                          refine r_ki (q_V (As := []) (rest := []) (K := 38) (ci := 10) S X22282 (c_X12_peek_x l G t22175 I22176 ) ck12_147 (Nat.le_of_ble_eq_true rfl) rfl (fun _ => ⟨_, rfl⟩) ⟨_, _, rfl⟩ ⟨Nat.le_of_ble_eq_true rfl, Nat.le_of_ble_eq_true rfl⟩ rfl hl.1 rfl (Nat.le_of_ble_eq_true rfl) dX12_skip_206 ⟨Nat.le_refl 0, Nat.le_refl 0⟩) X22282 (fun v22500 t22499 H lc q22497 X22498 => ?_)
                          unfold po_X12_peek_x at q22497
                          obtain ⟨q22501, q22502, q22503, q22504⟩ := q22497
                          rw [q22501] at X22498
                          rw [q22501] at q22503
                          rw [q22501] at q22504
                          refine r_ki (q_S (As := [.int v22500]) (rest := []) S X22498 (c_X12_isSmall_x l G t22175 I22176 v22500 (R_of (lo := -2147483648) (hi := 2147483647) q22502 rfl)) ck12_160 ⟨Nat.le_of_ble_eq_true rfl, Nat.le_of_ble_eq_true rfl⟩ rfl hl.1 rfl (Nat.le_of_ble_eq_true rfl) dX12_skip_209 ⟨Nat.le_refl 0, Nat.le_refl 0⟩) X22498 (fun v22508 t22507 H lc q22505 X22506 => ?_)
                          unfold po_X12_isSmall_x at q22505
                          obtain ⟨q22509, q22510, q22511, q22512⟩ := q22505
                          rw [q22509] at X22506
                          refine r_iload_n S dX12_skip_212 rfl (lv_at hl 1 rfl) ?_
                          refine r_icmp_ne (tgt := 220) S dX12_skip_213 (by decide) (fun c22513 => ?_) (fun c22513 => ?_)
                          ·
                            refine r_iconst S dX12_skip_220 (by decide) (fun v22514 z22515 => ?_)
                            have r22516 := R_eq z22515
                            exact J22317 _ _ _ v22514 X22506 (R_of r22516 rfl) (lv_sub hl [0, 1] rfl)
                          ·
                            refine r_iconst S dX12_skip_216 (by decide) (fun v22517 z22518 => ?_)
                            have r22519 := R_eq z22518
                            refine r_goto (tgt := 221) S dX12_skip_217 (by decide) ?_
                            exact J22317 _ _ _ v22517 X22506 (R_of r22519 rfl) (lv_sub hl [0, 1] rfl)
                      refine r_if_ne (tgt := 201) S dX12_skip_188 (by decide) (fun c22520 => ?_) (fun c22520 => ?_)
                      ·
                        have r22521 : R (1) (1) v22207 := ⟨by omega, by omega⟩
                        have p22522 := q22210 (by omega)
                        have r22523 : R (97) (122) v22199 := ⟨by omega, by omega⟩
                        have p22524 := q22202 (by omega)
                        have r22525 : R (0) (939) f22179 := z22181 ▸ p22524
                        have r22526 : R (0) (939) f22179 := ⟨by omega, by omega⟩
                        exact J22284 _ _ _ X22205 r22526 (lv_sub hl [0, 1, 2] rfl)
                      ·
                        have r22527 : R (0) (0) v22207 := ⟨by omega, by omega⟩
                        refine r_aload_n S dX12_skip_191 rfl (lv_at hl 0 rfl) ?_
                        refine r_ki (q_V (As := []) (rest := []) (K := 38) (ci := 10) S X22205 (c_X12_peek_x l G t22175 I22176 ) ck12_147 (Nat.le_of_ble_eq_true rfl) rfl (fun _ => ⟨_, rfl⟩) ⟨_, _, rfl⟩ ⟨Nat.le_of_ble_eq_true rfl, Nat.le_of_ble_eq_true rfl⟩ rfl hl.1 rfl (Nat.le_of_ble_eq_true rfl) dX12_skip_192 ⟨Nat.le_refl 0, Nat.le_refl 0⟩) X22205 (fun v22531 t22530 H lc q22528 X22529 => ?_)
                        unfold po_X12_peek_x at q22528
                        obtain ⟨q22532, q22533, q22534, q22535⟩ := q22528
                        rw [q22532] at X22529
                        rw [q22532] at q22534
                        rw [q22532] at q22535
                        refine r_ki (q_S (As := [.int v22531]) (rest := []) S X22529 (c_X12_isDigit_x l G t22175 I22176 v22531 (R_of (lo := -2147483648) (hi := 2147483647) q22533 rfl)) ck12_164 ⟨Nat.le_of_ble_eq_true rfl, Nat.le_of_ble_eq_true rfl⟩ rfl hl.1 rfl (Nat.le_of_ble_eq_true rfl) dX12_skip_195 ⟨Nat.le_refl 0, Nat.le_refl 0⟩) X22529 (fun v22539 t22538 H lc q22536 X22537 => ?_)
                        unfold po_X12_isDigit_x at q22536
                        obtain ⟨q22540, q22541, q22542, q22543⟩ := q22536
                        rw [q22540] at X22537
                        refine r_if_eq (tgt := 298) S dX12_skip_198 (by decide) (fun c22544 => ?_) (fun c22544 => ?_)
                        ·
                          have r22545 : R (0) (0) v22539 := ⟨by omega, by omega⟩
                          refine r_aload_n S dX12_skip_298 rfl (lv_at hl 0 rfl) ?_
                          refine r_iload_n S dX12_skip_299 rfl (lv_at hl 2 rfl) ?_
                          refine r_if_eq (tgt := 320) S dX12_skip_300 (by decide) (fun c22546 => ?_) (fun c22546 => ?_)
                          ·
                            have r22547 : R (0) (0) i22173 := ⟨by omega, by omega⟩
                            refine r_iconst S dX12_skip_320 (by decide) (fun v22548 z22549 => ?_)
                            have r22550 := R_eq z22549
                            refine r_goto (tgt := 333) S dX12_skip_321 (by decide) ?_
                            refine r_put (K := 38) (ty := .int) S X22537 (Nat.le_of_ble_eq_true rfl) rfl lk12_157_10 (fun _ => ⟨_, rfl, Nat.le_of_ble_eq_true rfl, rfl⟩) (fun _ _ _ h => by cases h; exact ⟨rfl, rfl⟩) rfl rfl dX12_skip_333 (fun t22551 H lc M22552 X22553 => ?_)
                            have I22554 := Inv_mu I22176 M22552 (show Rg (kd 131) 11 v22548 from (R_of (lo := 0) (hi := 4) r22550 rfl))
                            have F22555 : Fr [(131, 4), (131, 11), (131, 12), (131, 13), (131, 14)] [331] τ t22551 := Fr_mu F22177 M22552 (by decide)
                            exact r_vret S hr hlk X22553 ⟨I22554, F22555, (by rw [((M22552.2 131 4 (Or.inr (by decide))).trans z22181)]; exact R_of r22180 rfl), (by rw [M22552.1]; exact R_of r22550 rfl), (by have h1_0 := congrArg Int32.toInt ((M22552.2 131 4 (Or.inr (by decide))).trans z22181); have h2_0 := congrArg Int32.toInt z2; omega), (by have h1_0 := congrArg Int32.toInt ((M22552.2 131 4 (Or.inr (by decide))).trans z22181); have h2_0 := congrArg Int32.toInt z2; have h1_1 := congrArg Int32.toInt M22552.1; omega)⟩ dX12_skip_336
                          ·
                            have r22556 : R (1) (1) i22173 := ⟨by omega, by omega⟩
                            refine r_aload_n S dX12_skip_303 rfl (lv_at hl 0 rfl) ?_
                            refine r_geti (K := 38) S X22537 (Nat.le_of_ble_eq_true rfl) rfl lk12_154_10 (fun _ => ⟨_, rfl, rfl⟩) z22186 dX12_skip_304 ?_
                            refine r_iload_n S dX12_skip_307 rfl (lv_at hl 1 rfl) ?_
                            refine r_if_eq (tgt := 316) S dX12_skip_308 (by decide) (fun c22557 => ?_) (fun c22557 => ?_)
                            ·
                              have r22558 : R (0) (0) v11484 := ⟨by omega, by omega⟩
                              refine r_iconst S dX12_skip_316 (by decide) (fun v22559 z22560 => ?_)
                              have r22561 := R_eq z22560
                              refine r_icmp_le (tgt := 324) S dX12_skip_317 (by decide) (fun c22562 => ?_) (fun c22562 => ?_)
                              ·
                                have r22563 : R (0) (2) f22184 := ⟨by omega, by omega⟩
                                refine r_iload_n S dX12_skip_324 rfl (lv_at hl 1 rfl) ?_
                                refine r_if_eq (tgt := 332) S dX12_skip_325 (by decide) (fun c22564 => ?_) (fun c22564 => ?_)
                                ·
                                  refine r_iconst S dX12_skip_332 (by decide) (fun v22565 z22566 => ?_)
                                  have r22567 := R_eq z22566
                                  refine r_put (K := 38) (ty := .int) S X22537 (Nat.le_of_ble_eq_true rfl) rfl lk12_157_10 (fun _ => ⟨_, rfl, Nat.le_of_ble_eq_true rfl, rfl⟩) (fun _ _ _ h => by cases h; exact ⟨rfl, rfl⟩) rfl rfl dX12_skip_333 (fun t22568 H lc M22569 X22570 => ?_)
                                  have I22571 := Inv_mu I22176 M22569 (show Rg (kd 131) 11 v22565 from (R_of (lo := 0) (hi := 4) r22567 rfl))
                                  have F22572 : Fr [(131, 4), (131, 11), (131, 12), (131, 13), (131, 14)] [331] τ t22568 := Fr_mu F22177 M22569 (by decide)
                                  exact r_vret S hr hlk X22570 ⟨I22571, F22572, (by rw [((M22569.2 131 4 (Or.inr (by decide))).trans z22181)]; exact R_of r22180 rfl), (by rw [M22569.1]; exact R_of r22567 rfl), (by have h1_0 := congrArg Int32.toInt ((M22569.2 131 4 (Or.inr (by decide))).trans z22181); have h2_0 := congrArg Int32.toInt z2; omega), (by have h1_0 := congrArg Int32.toInt ((M22569.2 131 4 (Or.inr (by decide))).trans z22181); have h2_0 := congrArg Int32.toInt z2; have h1_1 := congrArg Int32.toInt M22569.1; omega)⟩ dX12_skip_336
                                ·
                                  exfalso; omega
                              ·
                                have r22573 : R (3) (940) f22184 := ⟨by omega, by omega⟩
                                refine r_iconst S dX12_skip_320 (by decide) (fun v22574 z22575 => ?_)
                                have r22576 := R_eq z22575
                                refine r_goto (tgt := 333) S dX12_skip_321 (by decide) ?_
                                refine r_put (K := 38) (ty := .int) S X22537 (Nat.le_of_ble_eq_true rfl) rfl lk12_157_10 (fun _ => ⟨_, rfl, Nat.le_of_ble_eq_true rfl, rfl⟩) (fun _ _ _ h => by cases h; exact ⟨rfl, rfl⟩) rfl rfl dX12_skip_333 (fun t22577 H lc M22578 X22579 => ?_)
                                have I22580 := Inv_mu I22176 M22578 (show Rg (kd 131) 11 v22574 from (R_of (lo := 0) (hi := 4) r22576 rfl))
                                have F22581 : Fr [(131, 4), (131, 11), (131, 12), (131, 13), (131, 14)] [331] τ t22577 := Fr_mu F22177 M22578 (by decide)
                                exact r_vret S hr hlk X22579 ⟨I22580, F22581, (by rw [((M22578.2 131 4 (Or.inr (by decide))).trans z22181)]; exact R_of r22180 rfl), (by rw [M22578.1]; exact R_of r22576 rfl), (by have h1_0 := congrArg Int32.toInt ((M22578.2 131 4 (Or.inr (by decide))).trans z22181); have h2_0 := congrArg Int32.toInt z2; omega), (by have h1_0 := congrArg Int32.toInt ((M22578.2 131 4 (Or.inr (by decide))).trans z22181); have h2_0 := congrArg Int32.toInt z2; have h1_1 := congrArg Int32.toInt M22578.1; omega)⟩ dX12_skip_336
                            ·
                              exfalso; omega
                        ·
                          have r22584 : R (1) (1) v22539 := ⟨by omega, by omega⟩
                          have p22585 := q22542 (by omega)
                          have r22586 : R (48) (57) v22531 := ⟨by omega, by omega⟩
                          have p22587 := q22534 (by omega)
                          have r22588 : R (0) (939) f22179 := z22181 ▸ p22587
                          have r22589 : R (0) (939) f22179 := ⟨by omega, by omega⟩
                          exact J22284 _ _ _ X22537 r22589 (lv_sub hl [0, 1, 2] rfl)
                  exact L22191 _ t11502 _ _ _ v11489 f194 v246 v11499 X11504 I11505 F11506 (R_of r11491 rfl) ((M11503.2 131 4 (Or.inr (by decide))).trans ((M11496.1 131 (by decide) 4).trans ((M250.2 131 4 (Or.inr (by decide))).trans ((M242.2 131 4 (Or.inr (by decide))).trans z196)))) ⟨by omega, by omega⟩ ((M11503.2 131 3 (Or.inr (by decide))).trans ((M11496.1 131 (by decide) 3).trans ((M250.2 131 3 (Or.inr (by decide))).trans ((M242.2 131 3 (Or.inr (by decide))).trans z197)))) ((M11503.2 131 12 (Or.inr (by decide))).trans ((M11496.1 131 (by decide) 12).trans ((M250.2 131 12 (Or.inr (by decide))).trans M242.1))) ((M11503.2 131 13 (Or.inr (by decide))).trans ((M11496.1 131 (by decide) 13).trans M250.1)) ⟨by omega, by omega⟩ ((M11503.2 131 5 (Or.inr (by decide))).trans ((M11496.1 131 (by decide) 5).trans z255)) M11503.1 ⟨by omega, by omega⟩ (by omega) (by omega) (fun _ => (pkv_eq ((M11503.2 131 4 (Or.inr (by decide))).trans ((M11496.1 131 (by decide) 4).trans rfl)) ((M11503.2 131 3 (Or.inr (by decide))).trans ((M11496.1 131 (by decide) 3).trans rfl)) (fun j => ((M11503.2 132 j (Or.inl (by decide))).trans ((M11496.1 132 (by decide) j).trans rfl)))).trans q285.symm) (lv_sub hl [3, 1, 0] rfl) (Nat.lt_succ_self _)
                ·
                  have r22590 : R (0) (0) v11469 := ⟨by omega, by omega⟩
                  refine r_aload_n S dX12_skip_109 rfl (lv_at hl 1 rfl) ?_
                  refine r_iload_n S dX12_skip_110 rfl (lv_at hl 0 rfl) ?_
                  refine r_bipush S dX12_skip_111 (by decide) (fun v22591 z22592 => ?_)
                  have r22593 := R_eq z22592
                  have J22663 : ∀ (H : Heap) (lc : List Loc) (ls : Array Slot) (i22659 : Int32), Xd G s H lc t249 → R (0) (255) v281 → R (3) (4) i22659 → R (0) (939) f194 → R (0) (939) f194 → lv_has ls 4 [(0, .ref (G.2.2.2.1 131)), (1, .int v281)] → W p l e (Rm 1 20) s m ([.ref (G.2.2.2.1 131)] : List Value).toArray below meth c H lc 0 0 (MQ below (va_Qv (po_X12_skip τ    ) (Bs G) G.2.2.2.2) ([.ref (G.2.2.2.1 131)] : List Value).toArray s 0 0 G.2.2.2.2) (F0 m 145 ls [.int i22659, .ref (G.2.2.2.1 131)]) := by
                    intro H lc ls i22659 X22657 r22658 r22660 r22661 r22662 hl
                    refine r_put (K := 38) (ty := .int) S X22657 (Nat.le_of_ble_eq_true rfl) rfl lk12_157_10 (fun _ => ⟨_, rfl, Nat.le_of_ble_eq_true rfl, rfl⟩) (fun _ _ _ h => by cases h; exact ⟨rfl, rfl⟩) rfl rfl dX12_skip_145 (fun t22664 H lc M22665 X22666 => ?_)
                    have I22667 := Inv_mu I252 M22665 (show Rg (kd 131) 11 i22659 from (R_of (lo := 0) (hi := 4) r22660 rfl))
                    have F22668 : Fr [(131, 4), (131, 11), (131, 12), (131, 13), (131, 14)] [331] τ t22664 := Fr_mu F253 M22665 (by decide)
                    refine r_aload_n S dX12_skip_148 rfl (lv_at hl 0 rfl) ?_
                    refine r_iload_n S dX12_skip_149 rfl (lv_at hl 1 rfl) ?_
                    refine r_put (K := 38) (ty := .int) S X22666 (Nat.le_of_ble_eq_true rfl) rfl lk12_167_10 (fun _ => ⟨_, rfl, Nat.le_of_ble_eq_true rfl, rfl⟩) (fun _ _ _ h => by cases h; exact ⟨rfl, rfl⟩) rfl rfl dX12_skip_150 (fun t22669 H lc M22670 X22671 => ?_)
                    have I22672 := Inv_mu I22667 M22670 (R_any v281)
                    have F22673 : Fr [(131, 4), (131, 11), (131, 12), (131, 13), (131, 14)] [331] τ t22669 := Fr_mu F22668 M22670 (by decide)
                    refine r_aload_n S dX12_skip_153 rfl (lv_at hl 0 rfl) ?_
                    refine r_dup S dX12_skip_154 rfl ?_
                    refine r_geti (K := 38) S X22671 (Nat.le_of_ble_eq_true rfl) rfl lk12_21_10 (fun _ => ⟨_, rfl, rfl⟩) ((M22670.2 131 4 (Or.inr (by decide))).trans ((M22665.2 131 4 (Or.inr (by decide))).trans ((M250.2 131 4 (Or.inr (by decide))).trans ((M242.2 131 4 (Or.inr (by decide))).trans z196)))) dX12_skip_155 ?_
                    refine r_iconst S dX12_skip_158 (by decide) (fun v22674 z22675 => ?_)
                    have r22676 := R_eq z22675
                    refine r_iadd S dX12_skip_159 (fun v22677 z22678 => ?_)
                    obtain ⟨e22679, r22680⟩ := i_add (lo := 1) (hi := 940) z22678 r22661 r22676 rfl
                    refine r_put (K := 38) (ty := .int) S X22671 (Nat.le_of_ble_eq_true rfl) rfl lk12_21_10 (fun _ => ⟨_, rfl, Nat.le_of_ble_eq_true rfl, rfl⟩) (fun _ _ _ h => by cases h; exact ⟨rfl, rfl⟩) rfl rfl dX12_skip_160 (fun t22681 H lc M22682 X22683 => ?_)
                    have I22684 := Inv_mu I22672 M22682 (show Rg (kd 131) 4 v22677 from (R_of (lo := 0) (hi := 940) r22680 rfl))
                    have F22685 : Fr [(131, 4), (131, 11), (131, 12), (131, 13), (131, 14)] [331] τ t22681 := Fr_mu F22673 M22682 (by decide)
                    exact r_vret S hr hlk X22683 ⟨I22684, F22685, (by rw [M22682.1]; exact R_of r22680 rfl), (by rw [((M22682.2 131 11 (Or.inr (by decide))).trans ((M22670.2 131 11 (Or.inr (by decide))).trans M22665.1))]; exact R_of r22660 rfl), (by have h1_0 := congrArg Int32.toInt M22682.1; have h2_0 := congrArg Int32.toInt z2; omega), (by have h1_0 := congrArg Int32.toInt M22682.1; have h2_0 := congrArg Int32.toInt z2; have h1_1 := congrArg Int32.toInt ((M22682.2 131 11 (Or.inr (by decide))).trans ((M22670.2 131 11 (Or.inr (by decide))).trans M22665.1)); omega)⟩ dX12_skip_163
                  refine r_icmp_eq (tgt := 140) S dX12_skip_113 (by decide) (fun c22686 => ?_) (fun c22686 => ?_)
                  ·
                    have r22687 : R (59) (59) v281 := ⟨by omega, by omega⟩
                    have p22688 := q284 (by omega)
                    have r22689 : R (0) (939) f194 := ((M250.2 131 4 (Or.inr (by decide))).trans ((M242.2 131 4 (Or.inr (by decide))).trans z196)) ▸ p22688
                    have r22690 : R (0) (939) f194 := ⟨by omega, by omega⟩
                    refine r_iconst S dX12_skip_140 (by decide) (fun v22691 z22692 => ?_)
                    have r22693 := R_eq z22692
                    refine r_goto (tgt := 145) S dX12_skip_141 (by decide) ?_
                    exact J22663 _ _ _ v22691 X11467 (R_of r22687 rfl) (R_of r22693 rfl) r22690 r22690 (lv_sub hl [1, 0] rfl)
                  ·
                    refine r_iload_n S dX12_skip_116 rfl (lv_at hl 0 rfl) ?_
                    refine r_bipush S dX12_skip_117 (by decide) (fun v22694 z22695 => ?_)
                    have r22696 := R_eq z22695
                    refine r_icmp_eq (tgt := 140) S dX12_skip_119 (by decide) (fun c22697 => ?_) (fun c22697 => ?_)
                    ·
                      have r22698 : R (40) (40) v281 := ⟨by omega, by omega⟩
                      have p22699 := q284 (by omega)
                      have r22700 : R (0) (939) f194 := ((M250.2 131 4 (Or.inr (by decide))).trans ((M242.2 131 4 (Or.inr (by decide))).trans z196)) ▸ p22699
                      have r22701 : R (0) (939) f194 := ⟨by omega, by omega⟩
                      refine r_iconst S dX12_skip_140 (by decide) (fun v22702 z22703 => ?_)
                      have r22704 := R_eq z22703
                      refine r_goto (tgt := 145) S dX12_skip_141 (by decide) ?_
                      exact J22663 _ _ _ v22702 X11467 (R_of r22698 rfl) (R_of r22704 rfl) r22701 r22701 (lv_sub hl [1, 0] rfl)
                    ·
                      refine r_iload_n S dX12_skip_122 rfl (lv_at hl 0 rfl) ?_
                      refine r_bipush S dX12_skip_123 (by decide) (fun v22705 z22706 => ?_)
                      have r22707 := R_eq z22706
                      refine r_icmp_eq (tgt := 140) S dX12_skip_125 (by decide) (fun c22708 => ?_) (fun c22708 => ?_)
                      ·
                        have r22709 : R (41) (41) v281 := ⟨by omega, by omega⟩
                        have p22710 := q284 (by omega)
                        have r22711 : R (0) (939) f194 := ((M250.2 131 4 (Or.inr (by decide))).trans ((M242.2 131 4 (Or.inr (by decide))).trans z196)) ▸ p22710
                        have r22712 : R (0) (939) f194 := ⟨by omega, by omega⟩
                        refine r_iconst S dX12_skip_140 (by decide) (fun v22713 z22714 => ?_)
                        have r22715 := R_eq z22714
                        refine r_goto (tgt := 145) S dX12_skip_141 (by decide) ?_
                        exact J22663 _ _ _ v22713 X11467 (R_of r22709 rfl) (R_of r22715 rfl) r22712 r22712 (lv_sub hl [1, 0] rfl)
                      ·
                        refine r_iload_n S dX12_skip_128 rfl (lv_at hl 0 rfl) ?_
                        refine r_bipush S dX12_skip_129 (by decide) (fun v22716 z22717 => ?_)
                        have r22718 := R_eq z22717
                        refine r_icmp_lt (tgt := 144) S dX12_skip_131 (by decide) (fun c22719 => ?_) (fun c22719 => ?_)
                        ·
                          have r22720 : R (0) (59) v281 := ⟨by omega, by omega⟩
                          have p22721 := q284 (by omega)
                          have r22722 : R (0) (939) f194 := ((M250.2 131 4 (Or.inr (by decide))).trans ((M242.2 131 4 (Or.inr (by decide))).trans z196)) ▸ p22721
                          have r22723 : R (0) (939) f194 := ⟨by omega, by omega⟩
                          refine r_iconst S dX12_skip_144 (by decide) (fun v22724 z22725 => ?_)
                          have r22726 := R_eq z22725
                          exact J22663 _ _ _ v22724 X11467 (R_of r22720 rfl) (R_of r22726 rfl) r22723 r22723 (lv_sub hl [1, 0] rfl)
                        ·
                          have r22727 : R (60) (255) v281 := ⟨by omega, by omega⟩
                          have p22728 := q284 (by omega)
                          have r22729 : R (0) (939) f194 := ((M250.2 131 4 (Or.inr (by decide))).trans ((M242.2 131 4 (Or.inr (by decide))).trans z196)) ▸ p22728
                          have r22730 : R (0) (939) f194 := ⟨by omega, by omega⟩
                          refine r_iload_n S dX12_skip_134 rfl (lv_at hl 0 rfl) ?_
                          refine r_bipush S dX12_skip_135 (by decide) (fun v22731 z22732 => ?_)
                          have r22733 := R_eq z22732
                          refine r_icmp_gt (tgt := 144) S dX12_skip_137 (by decide) (fun c22734 => ?_) (fun c22734 => ?_)
                          ·
                            have r22735 : R (63) (255) v281 := ⟨by omega, by omega⟩
                            have p22736 := q284 (by omega)
                            have r22737 : R (0) (939) f194 := ((M250.2 131 4 (Or.inr (by decide))).trans ((M242.2 131 4 (Or.inr (by decide))).trans z196)) ▸ p22736
                            have r22738 : R (0) (939) f194 := ⟨by omega, by omega⟩
                            refine r_iconst S dX12_skip_144 (by decide) (fun v22739 z22740 => ?_)
                            have r22741 := R_eq z22740
                            exact J22663 _ _ _ v22739 X11467 (R_of r22735 rfl) (R_of r22741 rfl) r22738 r22738 (lv_sub hl [1, 0] rfl)
                          ·
                            have r22742 : R (60) (62) v281 := ⟨by omega, by omega⟩
                            have p22743 := q284 (by omega)
                            have r22744 : R (0) (939) f194 := ((M250.2 131 4 (Or.inr (by decide))).trans ((M242.2 131 4 (Or.inr (by decide))).trans z196)) ▸ p22743
                            have r22745 : R (0) (939) f194 := ⟨by omega, by omega⟩
                            refine r_iconst S dX12_skip_140 (by decide) (fun v22746 z22747 => ?_)
                            have r22748 := R_eq z22747
                            refine r_goto (tgt := 145) S dX12_skip_141 (by decide) ?_
                            exact J22663 _ _ _ v22746 X11467 (R_of r22742 rfl) (R_of r22748 rfl) r22745 r22745 (lv_sub hl [1, 0] rfl)
            ·
              have r22749 : R (-1) (-1) v281 := ⟨by omega, by omega⟩
              refine r_aload_n S dX12_skip_89 rfl (lv_at hl 1 rfl) ?_
              refine r_iconst S dX12_skip_90 (by decide) (fun v22750 z22751 => ?_)
              have r22752 := R_eq z22751
              refine r_put (K := 38) (ty := .int) S X279 (Nat.le_of_ble_eq_true rfl) rfl lk12_157_10 (fun _ => ⟨_, rfl, Nat.le_of_ble_eq_true rfl, rfl⟩) (fun _ _ _ h => by cases h; exact ⟨rfl, rfl⟩) rfl rfl dX12_skip_91 (fun t22753 H lc M22754 X22755 => ?_)
              have I22756 := Inv_mu I252 M22754 (show Rg (kd 131) 11 v22750 from (R_of (lo := 0) (hi := 4) r22752 rfl))
              have F22757 : Fr [(131, 4), (131, 11), (131, 12), (131, 13), (131, 14)] [331] τ t22753 := Fr_mu F253 M22754 (by decide)
              exact r_vret S hr hlk X22755 ⟨I22756, F22757, (by rw [((M22754.2 131 4 (Or.inr (by decide))).trans ((M250.2 131 4 (Or.inr (by decide))).trans ((M242.2 131 4 (Or.inr (by decide))).trans z196)))]; exact R_of r195 rfl), (by rw [M22754.1]; exact R_of r22752 rfl), (by have h1_0 := congrArg Int32.toInt ((M22754.2 131 4 (Or.inr (by decide))).trans ((M250.2 131 4 (Or.inr (by decide))).trans ((M242.2 131 4 (Or.inr (by decide))).trans z196))); have h2_0 := congrArg Int32.toInt z2; omega), (by have h1_0 := congrArg Int32.toInt ((M22754.2 131 4 (Or.inr (by decide))).trans ((M250.2 131 4 (Or.inr (by decide))).trans ((M242.2 131 4 (Or.inr (by decide))).trans z196))); have h2_0 := congrArg Int32.toInt z2; have h1_1 := congrArg Int32.toInt M22754.1; omega)⟩ dX12_skip_94
          refine r_icmp_le (tgt := 80) S dX12_skip_52 (by decide) (fun c22758 => ?_) (fun c22758 => ?_)
          ·
            exact J277 _ _ _ X251 (lv_sub hl [0] rfl)
          ·
            have r22759 : R (0) (939) v254 := ⟨by omega, by omega⟩
            have r22760 : R (1) (940) v4 := ⟨by omega, by omega⟩
            refine r_aload_n S dX12_skip_55 rfl (lv_at hl 0 rfl) ?_
            refine r_geti (K := 38) S X251 (Nat.le_of_ble_eq_true rfl) rfl lk12_21_10 (fun _ => ⟨_, rfl, rfl⟩) ((M250.2 131 4 (Or.inr (by decide))).trans ((M242.2 131 4 (Or.inr (by decide))).trans z196)) dX12_skip_56 ?_
            refine r_aload_n S dX12_skip_59 rfl (lv_at hl 0 rfl) ?_
            refine r_geti (K := 38) S X251 (Nat.le_of_ble_eq_true rfl) rfl lk12_24_10 (fun _ => ⟨_, rfl, rfl⟩) z255 dX12_skip_60 ?_
            refine r_icmp_lt (tgt := 80) S dX12_skip_63 (by decide) (fun c22761 => ?_) (fun c22761 => ?_)
            ·
              have r22762 : R (0) (938) f194 := ⟨by omega, by omega⟩
              have r22763 : R (1) (939) v254 := ⟨by omega, by omega⟩
              exact J277 _ _ _ X251 (lv_sub hl [0] rfl)
            ·
              refine r_aload_n S dX12_skip_66 rfl (lv_at hl 0 rfl) ?_
              refine r_aload_n S dX12_skip_67 rfl (lv_at hl 0 rfl) ?_
              refine r_geti (K := 38) S X251 (Nat.le_of_ble_eq_true rfl) rfl lk12_24_10 (fun _ => ⟨_, rfl, rfl⟩) z255 dX12_skip_68 ?_
              refine r_put (K := 38) (ty := .int) S X251 (Nat.le_of_ble_eq_true rfl) rfl lk12_151_10 (fun _ => ⟨_, rfl, Nat.le_of_ble_eq_true rfl, rfl⟩) (fun _ _ _ h => by cases h; exact ⟨rfl, rfl⟩) rfl rfl dX12_skip_71 (fun t22764 H lc M22765 X22766 => ?_)
              have I22767 := Inv_mu I252 M22765 (show Rg (kd 131) 12 v254 from (R_of (lo := 0) (hi := 940) r22759 rfl))
              have F22768 : Fr [(131, 4), (131, 11), (131, 12), (131, 13), (131, 14)] [331] τ t22764 := Fr_mu F253 M22765 (by decide)
              refine r_aload_n S dX12_skip_74 rfl (lv_at hl 0 rfl) ?_
              refine r_iconst S dX12_skip_75 (by decide) (fun v22769 z22770 => ?_)
              have r22771 := R_eq z22770
              refine r_put (K := 38) (ty := .int) S X22766 (Nat.le_of_ble_eq_true rfl) rfl lk12_157_10 (fun _ => ⟨_, rfl, Nat.le_of_ble_eq_true rfl, rfl⟩) (fun _ _ _ h => by cases h; exact ⟨rfl, rfl⟩) rfl rfl dX12_skip_76 (fun t22772 H lc M22773 X22774 => ?_)
              have I22775 := Inv_mu I22767 M22773 (show Rg (kd 131) 11 v22769 from (R_of (lo := 0) (hi := 4) r22771 rfl))
              have F22776 : Fr [(131, 4), (131, 11), (131, 12), (131, 13), (131, 14)] [331] τ t22772 := Fr_mu F22768 M22773 (by decide)
              exact r_vret S hr hlk X22774 ⟨I22775, F22776, (by rw [((M22773.2 131 4 (Or.inr (by decide))).trans ((M22765.2 131 4 (Or.inr (by decide))).trans ((M250.2 131 4 (Or.inr (by decide))).trans ((M242.2 131 4 (Or.inr (by decide))).trans z196))))]; exact R_of r195 rfl), (by rw [M22773.1]; exact R_of r22771 rfl), (by have h1_0 := congrArg Int32.toInt ((M22773.2 131 4 (Or.inr (by decide))).trans ((M22765.2 131 4 (Or.inr (by decide))).trans ((M250.2 131 4 (Or.inr (by decide))).trans ((M242.2 131 4 (Or.inr (by decide))).trans z196)))); have h2_0 := congrArg Int32.toInt z2; omega), (by have h1_0 := congrArg Int32.toInt ((M22773.2 131 4 (Or.inr (by decide))).trans ((M22765.2 131 4 (Or.inr (by decide))).trans ((M250.2 131 4 (Or.inr (by decide))).trans ((M242.2 131 4 (Or.inr (by decide))).trans z196)))); have h2_0 := congrArg Int32.toInt z2; have h1_1 := congrArg Int32.toInt M22773.1; omega)⟩ dX12_skip_79
        ·
          have r22777 : R (10) (10) v232 := ⟨by omega, by omega⟩
          have p22778 := q235 (by omega)
          have r22779 : R (0) (939) f194 := z196 ▸ p22778
          have r22780 : R (0) (939) f194 := ⟨by omega, by omega⟩
          refine r_aload_n S dX12_skip_18 rfl (lv_at hl 0 rfl) ?_
          refine r_dup S dX12_skip_19 rfl ?_
          refine r_geti (K := 38) S X230 (Nat.le_of_ble_eq_true rfl) rfl lk12_21_10 (fun _ => ⟨_, rfl, rfl⟩) z196 dX12_skip_20 ?_
          refine r_iconst S dX12_skip_23 (by decide) (fun v22781 z22782 => ?_)
          have r22783 := R_eq z22782
          refine r_iadd S dX12_skip_24 (fun v22784 z22785 => ?_)
          obtain ⟨e22786, r22787⟩ := i_add (lo := 1) (hi := 940) z22785 r22780 r22783 rfl
          refine r_put (K := 38) (ty := .int) S X230 (Nat.le_of_ble_eq_true rfl) rfl lk12_21_10 (fun _ => ⟨_, rfl, Nat.le_of_ble_eq_true rfl, rfl⟩) (fun _ _ _ h => by cases h; exact ⟨rfl, rfl⟩) rfl rfl dX12_skip_25 (fun t22788 H lc M22789 X22790 => ?_)
          have I22791 := Inv_mu I191 M22789 (show Rg (kd 131) 4 v22784 from (R_of (lo := 0) (hi := 940) r22787 rfl))
          have F22792 : Fr [(131, 4), (131, 11), (131, 12), (131, 13), (131, 14)] [331] τ t22788 := Fr_mu F192 M22789 (by decide)
          refine r_goto (tgt := 0) S dX12_skip_28 (by decide) ?_
          exact ih200 t22788 _ _ _ v22784 X22790 I22791 F22792 M22789.1 ⟨by omega, by omega⟩ ((M22789.2 131 3 (Or.inr (by decide))).trans z197) (by omega) (lv_sub hl [0] rfl) (by omega)
  exact L198 _ τ _ _ _ v1 X hI Fr_rfl z2 ⟨by omega, by omega⟩ z5 (by omega) (lv_sub hl [0] rfl) (Nat.lt_succ_self _)
