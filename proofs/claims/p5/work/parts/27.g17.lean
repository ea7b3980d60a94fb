def po_X12_code (τ : Tau)  (a0 a1 a2 : Int32)   (u : Tau) : Prop := Inv u ∧ Fr [(131, 41)] [135] τ u ∧ R (1) (53) (u 131 41) ∧ (u 131 41).toInt = (τ 131 41).toInt + 1 ∧ CD τ u a0 a1 a2
set_option maxHeartbeats 4000000 in
set_option maxRecDepth 100000 in
theorem c_X12_code (l : Launch) (G : Gx) (τ : Tau) (hI : Inv τ) (a0 : Int32) (a1 : Int32) (a2 : Int32) (h_a0 : R (-2147483648) (2147483647) a0) (h_a1 : R (-2147483648) (2147483647) a1) (h_a2 : R (-2147483648) (2147483647) a2) (hf_0 : R (0) (52) (τ 131 41)) : Cv l G yX12_code cX12_code 4 0 0 [.ref (G.2.2.2.1 131), .int a0, .int a1, .int a2] τ (po_X12_code τ  a0 a1 a2  ) := by
  unfold Cv
  refine C_of (own := RX12) (by decide) rfl (Nat.le_of_ble_eq_true rfl) ?_
  intro p e s m below meth c ls S hr hlk X hl
  have hl : lv_has ls 4 [(0, .ref (G.2.2.2.1 131)), (1, .int a0), (2, .int a1), (3, .int a2)] := hl
  obtain ⟨v1, z2⟩ : ∃ x, τ 131 41 = x := ⟨_, rfl⟩
  rw [z2] at hf_0
  refine r_aload_n S dX12_code_0 rfl (lv_at hl 0 rfl) ?_
  refine r_get (K := 38) (v := .ref (G.2.2.2.1 135)) S X (Nat.le_of_ble_eq_true rfl) rfl lk12_40_10 (fun _ => ⟨_, rfl, rfl⟩) dX12_code_1 ?_
  refine r_iconst S dX12_code_4 (by decide) (fun v3 z4 => ?_)
  have r5 := R_eq z4
  refine r_aload_n S dX12_code_5 rfl (lv_at hl 0 rfl) ?_
  refine r_geti (K := 38) S X (Nat.le_of_ble_eq_true rfl) rfl lk12_404_10 (fun _ => ⟨_, rfl, rfl⟩) z2 dX12_code_6 ?_
  refine r_imul S dX12_code_9 (fun v6 z7 => ?_)
  obtain ⟨e8, r9⟩ := i_mul (lo := 0) (hi := 156) z7 r5 hf_0 rfl rfl
  have e10 : v6.toInt = 3 * v1.toInt := by rw [e8, show v3.toInt = 3 by omega]
  refine r_iload_n S dX12_code_10 rfl (lv_at hl 1 rfl) ?_
  refine r_ast (n := 160) (K := 42) S X (Nat.le_of_ble_eq_true rfl) rfl (fun _ _ => rfl) (ix_of r9 rfl) dX12_code_11 (fun t11 H lc M12 X13 => ?_)
  have I14 := Inv_mu hI M12 (R_any a0)
  have F15 : Fr [(131, 41)] [135] τ t11 := Fr_cell Fr_rfl M12 (by decide)
  refine r_aload_n S dX12_code_12 rfl (lv_at hl 0 rfl) ?_
  refine r_get (K := 38) (v := .ref (G.2.2.2.1 135)) S X13 (Nat.le_of_ble_eq_true rfl) rfl lk12_40_10 (fun _ => ⟨_, rfl, rfl⟩) dX12_code_13 ?_
  refine r_iconst S dX12_code_16 (by decide) (fun v16 z17 => ?_)
  have r18 := R_eq z17
  refine r_aload_n S dX12_code_17 rfl (lv_at hl 0 rfl) ?_
  refine r_geti (K := 38) S X13 (Nat.le_of_ble_eq_true rfl) rfl lk12_404_10 (fun _ => ⟨_, rfl, rfl⟩) ((M12.2 131 41 (Or.inl (by decide))).trans z2) dX12_code_18 ?_
  refine r_imul S dX12_code_21 (fun v19 z20 => ?_)
  obtain ⟨e21, r22⟩ := i_mul (lo := 0) (hi := 156) z20 r18 hf_0 rfl rfl
  have e23 : v19.toInt = 3 * v1.toInt := by rw [e21, show v16.toInt = 3 by omega]
  refine r_iconst S dX12_code_22 (by decide) (fun v24 z25 => ?_)
  have r26 := R_eq z25
  refine r_iadd S dX12_code_23 (fun v27 z28 => ?_)
  obtain ⟨e29, r30⟩ := i_add (lo := 1) (hi := 157) z28 r22 r26 rfl
  refine r_iload_n S dX12_code_24 rfl (lv_at hl 2 rfl) ?_
  refine r_ast (n := 160) (K := 42) S X13 (Nat.le_of_ble_eq_true rfl) rfl (fun _ _ => rfl) (ix_of r30 rfl) dX12_code_25 (fun t31 H lc M32 X33 => ?_)
  have I34 := Inv_mu I14 M32 (R_any a1)
  have F35 : Fr [(131, 41)] [135] τ t31 := Fr_cell F15 M32 (by decide)
  refine r_aload_n S dX12_code_26 rfl (lv_at hl 0 rfl) ?_
  refine r_get (K := 38) (v := .ref (G.2.2.2.1 135)) S X33 (Nat.le_of_ble_eq_true rfl) rfl lk12_40_10 (fun _ => ⟨_, rfl, rfl⟩) dX12_code_27 ?_
  refine r_iconst S dX12_code_30 (by decide) (fun v36 z37 => ?_)
  have r38 := R_eq z37
  refine r_aload_n S dX12_code_31 rfl (lv_at hl 0 rfl) ?_
  refine r_geti (K := 38) S X33 (Nat.le_of_ble_eq_true rfl) rfl lk12_404_10 (fun _ => ⟨_, rfl, rfl⟩) ((M32.2 131 41 (Or.inl (by decide))).trans ((M12.2 131 41 (Or.inl (by decide))).trans z2)) dX12_code_32 ?_
  refine r_imul S dX12_code_35 (fun v39 z40 => ?_)
  obtain ⟨e41, r42⟩ := i_mul (lo := 0) (hi := 156) z40 r38 hf_0 rfl rfl
  have e43 : v39.toInt = 3 * v1.toInt := by rw [e41, show v36.toInt = 3 by omega]
  refine r_iconst S dX12_code_36 (by decide) (fun v44 z45 => ?_)
  have r46 := R_eq z45
  refine r_iadd S dX12_code_37 (fun v47 z48 => ?_)
  obtain ⟨e49, r50⟩ := i_add (lo := 2) (hi := 158) z48 r42 r46 rfl
  refine r_iload_n S dX12_code_38 rfl (lv_at hl 3 rfl) ?_
  refine r_ast (n := 160) (K := 42) S X33 (Nat.le_of_ble_eq_true rfl) rfl (fun _ _ => rfl) (ix_of r50 rfl) dX12_code_39 (fun t51 H lc M52 X53 => ?_)
  have I54 := Inv_mu I34 M52 (R_any a2)
  have F55 : Fr [(131, 41)] [135] τ t51 := Fr_cell F35 M52 (by decide)
  refine r_aload_n S dX12_code_40 rfl (lv_at hl 0 rfl) ?_
  refine r_dup S dX12_code_41 rfl ?_
  refine r_geti (K := 38) S X53 (Nat.le_of_ble_eq_true rfl) rfl lk12_404_10 (fun _ => ⟨_, rfl, rfl⟩) ((M52.2 131 41 (Or.inl (by decide))).trans ((M32.2 131 41 (Or.inl (by decide))).trans ((M12.2 131 41 (Or.inl (by decide))).trans z2))) dX12_code_42 ?_
  refine r_iconst S dX12_code_45 (by decide) (fun v56 z57 => ?_)
  have r58 := R_eq z57
  refine r_iadd S dX12_code_46 (fun v59 z60 => ?_)
  obtain ⟨e61, r62⟩ := i_add (lo := 1) (hi := 53) z60 hf_0 r58 rfl
  refine r_put (K := 38) (ty := .int) S X53 (Nat.le_of_ble_eq_true rfl) rfl lk12_404_10 (fun _ => ⟨_, rfl, Nat.le_of_ble_eq_true rfl, rfl⟩) (fun _ _ _ h => by cases h; exact ⟨rfl, rfl⟩) rfl rfl dX12_code_47 (fun t63 H lc M64 X65 => ?_)
  have I66 := Inv_mu I54 M64 (show Rg (kd 131) 41 v59 from (R_of (lo := 0) (hi := 53) r62 rfl))
  have F67 : Fr [(131, 41)] [135] τ t63 := Fr_mu F55 M64 (by decide)
  exact r_vret S hr hlk X65 ⟨I66, F67, (by rw [M64.1]; exact R_of r62 rfl), (by have h1_0 := congrArg Int32.toInt M64.1; have h2_0 := congrArg Int32.toInt z2; omega), (CD_mk z2 M12 M32 M52 M64 (by omega) (by omega) (by omega) (by omega))⟩ dX12_code_50
def po_X12_nots (τ : Tau)     (u : Tau) : Prop := Inv u ∧ Fr [(131, 41), (131, 43), (131, 44)] [135] τ u ∧ R (0) (53) (u 131 41) ∧ R (0) (45) (u 131 43) ∧ SI u
set_option maxHeartbeats 4000000 in
set_option maxRecDepth 100000 in
theorem c_X12_nots (l : Launch) (G : Gx) (τ : Tau) (hI : Inv τ) (hf_0 : R (1) (1) (τ 131 45)) (hp_0 : SI τ) : Cv l G yX12_nots cX12_nots 1 1 23 [.ref (G.2.2.2.1 131)] τ (po_X12_nots τ    ) := by
  unfold Cv
  refine C_of (own := RX12) (by decide) rfl (Nat.le_of_ble_eq_true rfl) ?_
  intro p e s m below meth c ls S hr hlk X hl
  have hl : lv_has ls 1 [(0, .ref (G.2.2.2.1 131))] := hl
  obtain ⟨v1, z2⟩ : ∃ x, τ 131 45 = x := ⟨_, rfl⟩
  rw [z2] at hf_0
  obtain ⟨v3, z4⟩ : ∃ x, τ 131 41 = x := ⟨_, rfl⟩
  have r5 : R (0) (53) v3 := rd hI rfl z4
  obtain ⟨v6, z7⟩ : ∃ x, τ 131 42 = x := ⟨_, rfl⟩
  have r8 : R (0) (20) v6 := rd hI rfl z7
  obtain ⟨v9, z10⟩ : ∃ x, τ 131 43 = x := ⟨_, rfl⟩
  have r11 : R (0) (45) v9 := rd hI rfl z10
  have L258 : ∀ (n : Nat) (t246 : Tau) (H : Heap) (lc : List Loc) (ls : Array Slot) (f251 : Int32) (f255 : Int32), Xd G s H lc t246 → Inv t246 → Fr [(131, 41), (131, 43), (131, 44)] [135] τ t246 → t246 131 45 = v1 → t246 131 41 = f251 → R (0) (53) f251 → t246 131 42 = v6 → t246 131 43 = f255 → R (0) (45) f255 → SI t246 → lv_has ls 1 [(0, .ref (G.2.2.2.1 131))] → (f255.toInt).toNat < n → W p l e (Rm 1 23) s m ([.ref (G.2.2.2.1 131)] : List Value).toArray below meth c H lc 0 0 (MQ below (va_Qv (po_X12_nots τ    ) (Bs G) G.2.2.2.2) ([.ref (G.2.2.2.1 131)] : List Value).toArray s 0 0 G.2.2.2.2) (F0 m 0 ls []) := by
    intro n
    induction n with
    | zero => intros; omega
    | succ n ih260 =>
      intro t246 H lc ls f251 f255 X249 I247 F248 z250 z253 r252 z254 z257 r256 x259 hl hm
      have h261 := SI_b x259 z253 z254 z257 z250
      have r262 : R (0) (39) f251 := ⟨by omega, by omega⟩
      have r263 : R (0) (39) f255 := ⟨by omega, by omega⟩
      refine r_aload_n S dX12_nots_0 rfl (lv_at hl 0 rfl) ?_
      refine r_geti (K := 38) S X249 (Nat.le_of_ble_eq_true rfl) rfl lk12_407_10 (fun _ => ⟨_, rfl, rfl⟩) z257 dX12_nots_1 ?_
      refine r_if_le (tgt := 54) S dX12_nots_4 (by decide) (fun c264 => ?_) (fun c264 => ?_)
      ·
        have r265 : R (0) (0) f255 := ⟨by omega, by omega⟩
        exact r_vret S hr hlk X249 ⟨I247, F248, (by rw [z253]; exact R_of r262 rfl), (by rw [z257]; exact R_of r265 rfl), x259⟩ dX12_nots_54
      ·
        have r266 : R (1) (39) f255 := ⟨by omega, by omega⟩
        refine r_aload_n S dX12_nots_7 rfl (lv_at hl 0 rfl) ?_
        refine r_get (K := 38) (v := .ref (G.2.2.2.1 148)) S X249 (Nat.le_of_ble_eq_true rfl) rfl lk12_84_10 (fun _ => ⟨_, rfl, rfl⟩) dX12_nots_8 ?_
        refine r_aload_n S dX12_nots_11 rfl (lv_at hl 0 rfl) ?_
        refine r_geti (K := 38) S X249 (Nat.le_of_ble_eq_true rfl) rfl lk12_407_10 (fun _ => ⟨_, rfl, rfl⟩) z257 dX12_nots_12 ?_
        refine r_iconst S dX12_nots_15 (by decide) (fun v267 z268 => ?_)
        have r269 := R_eq z268
        refine r_isub S dX12_nots_16 (fun v270 z271 => ?_)
        obtain ⟨e272, r273⟩ := i_sub (lo := 0) (hi := 38) z271 r266 r269 rfl
        refine r_aldn (n := 45) (K := 55) S X249 (Nat.le_of_ble_eq_true rfl) rfl (fun _ => rfl) (ix_of r273 rfl) dX12_nots_17 (fun v274 z275 => ?_)
        have r277 := R_any v274
        refine r_bipush S dX12_nots_18 (by decide) (fun v278 z279 => ?_)
        have r280 := R_eq z279
        refine r_icmp_ne (tgt := 54) S dX12_nots_20 (by decide) (fun c281 => ?_) (fun c281 => ?_)
        ·
          exact r_vret S hr hlk X249 ⟨I247, F248, (by rw [z253]; exact R_of r262 rfl), (by rw [z257]; exact R_of r266 rfl), x259⟩ dX12_nots_54
        ·
          have r282 : R (20) (20) v274 := ⟨by omega, by omega⟩
          refine r_aload_n S dX12_nots_23 rfl (lv_at hl 0 rfl) ?_
          refine r_dup S dX12_nots_24 rfl ?_
          refine r_geti (K := 38) S X249 (Nat.le_of_ble_eq_true rfl) rfl lk12_407_10 (fun _ => ⟨_, rfl, rfl⟩) z257 dX12_nots_25 ?_
          refine r_iconst S dX12_nots_28 (by decide) (fun v283 z284 => ?_)
          have r285 := R_eq z284
          refine r_isub S dX12_nots_29 (fun v286 z287 => ?_)
          obtain ⟨e288, r289⟩ := i_sub (lo := 0) (hi := 38) z287 r266 r285 rfl
          refine r_put (K := 38) (ty := .int) S X249 (Nat.le_of_ble_eq_true rfl) rfl lk12_407_10 (fun _ => ⟨_, rfl, Nat.le_of_ble_eq_true rfl, rfl⟩) (fun _ _ _ h => by cases h; exact ⟨rfl, rfl⟩) rfl rfl dX12_nots_30 (fun t290 H lc M291 X292 => ?_)
          have I293 := Inv_mu I247 M291 (show Rg (kd 131) 43 v286 from (R_of (lo := 0) (hi := 45) r289 rfl))
          have F294 : Fr [(131, 41), (131, 43), (131, 44)] [135] τ t290 := Fr_mu F248 M291 (by decide)
          refine r_aload_n S dX12_nots_33 rfl (lv_at hl 0 rfl) ?_
          refine r_dup S dX12_nots_34 rfl ?_
          refine r_getn (K := 38) S X292 (Nat.le_of_ble_eq_true rfl) rfl lk12_413_10 (fun _ => ⟨_, rfl, rfl⟩) dX12_nots_35 (fun v295 z296 => ?_)
          have r298 := R_any v295
          refine r_iconst S dX12_nots_38 (by decide) (fun v299 z300 => ?_)
          have r301 := R_eq z300
          refine r_isub S dX12_nots_39 (fun v302 z303 => ?_)
          have r304 := R_any v302
          refine r_put (K := 38) (ty := .int) S X292 (Nat.le_of_ble_eq_true rfl) rfl lk12_413_10 (fun _ => ⟨_, rfl, Nat.le_of_ble_eq_true rfl, rfl⟩) (fun _ _ _ h => by cases h; exact ⟨rfl, rfl⟩) rfl rfl dX12_nots_40 (fun t305 H lc M306 X307 => ?_)
          have I308 := Inv_mu I293 M306 (R_any v302)
          have F309 : Fr [(131, 41), (131, 43), (131, 44)] [135] τ t305 := Fr_mu F294 M306 (by decide)
          refine r_aload_n S dX12_nots_43 rfl (lv_at hl 0 rfl) ?_
          refine r_bipush S dX12_nots_44 (by decide) (fun v310 z311 => ?_)
          have r312 := R_eq z311
          refine r_iconst S dX12_nots_46 (by decide) (fun v313 z314 => ?_)
          have r315 := R_eq z314
          refine r_iconst S dX12_nots_47 (by decide) (fun v316 z317 => ?_)
          have r318 := R_eq z317
          refine r_kv (q_V (As := [.int v310, .int v313, .int v316]) (rest := []) (K := 38) (ci := 10) S X307 (c_X12_code l G t305 I308 v310 v313 v316 (R_of (lo := -2147483648) (hi := 2147483647) r312 rfl) (R_of (lo := -2147483648) (hi := 2147483647) r315 rfl) (R_of (lo := -2147483648) (hi := 2147483647) r318 rfl) (by rw [((M306.2 131 41 (Or.inr (by decide))).trans ((M291.2 131 41 (Or.inr (by decide))).trans z253))]; exact R_of r262 rfl)) ck12_410 (Nat.le_of_ble_eq_true rfl) rfl (fun _ => ⟨_, rfl⟩) ⟨_, _, rfl⟩ ⟨Nat.le_of_ble_eq_true rfl, Nat.le_of_ble_eq_true rfl⟩ rfl hl.1 rfl (Nat.le_of_ble_eq_true rfl) dX12_nots_48 ⟨Nat.le_refl 0, Nat.le_refl 0⟩) X307 (fun t321 H lc q319 X320 => ?_)
          unfold po_X12_code at q319
          obtain ⟨q322, q323, q324, q325, q326⟩ := q319
          have F327 : Fr [(131, 41), (131, 43), (131, 44)] [135] τ t321 := Fr_call F309 q323 (by decide)
          obtain ⟨v328, z329⟩ : ∃ x, t321 131 41 = x := ⟨_, rfl⟩
          rw [z329] at q324
          have e330 := congrArg Int32.toInt ((M306.2 131 41 (Or.inr (by decide))).trans ((M291.2 131 41 (Or.inr (by decide))).trans z253))
          have e331 := congrArg Int32.toInt z329
          refine r_goto (tgt := 0) S dX12_nots_51 (by decide) ?_
          exact ih260 t321 _ _ _ v328 v286 X320 q322 F327 ((q323 131 45 (by decide)).trans ((M306.2 131 45 (Or.inr (by decide))).trans ((M291.2 131 45 (Or.inr (by decide))).trans z250))) z329 ⟨by omega, by omega⟩ ((q323 131 42 (by decide)).trans ((M306.2 131 42 (Or.inr (by decide))).trans ((M291.2 131 42 (Or.inr (by decide))).trans z254))) ((q323 131 43 (by decide)).trans ((M306.2 131 43 (Or.inr (by decide))).trans M291.1)) ⟨by omega, by omega⟩ (by have n1 := congrArg Int32.toInt z257; have n2 := congrArg Int32.toInt z250; exact (SI_pop x259 (fun j => ((M306.2 135 j (Or.inl (by decide))).trans ((M291.2 135 j (Or.inl (by decide))).trans rfl))) (fun j => ((M306.2 148 j (Or.inl (by decide))).trans ((M291.2 148 j (Or.inl (by decide))).trans rfl))) ((M306.2 131 41 (Or.inr (by decide))).trans ((M291.2 131 41 (Or.inr (by decide))).trans rfl)) ((M306.2 131 42 (Or.inr (by decide))).trans ((M291.2 131 42 (Or.inr (by decide))).trans rfl)) ((M306.2 131 43 (Or.inr (by decide))).trans M291.1) ((M306.2 131 45 (Or.inr (by decide))).trans ((M291.2 131 45 (Or.inr (by decide))).trans rfl)) (by omega) (by omega) (show t246 148 v286.toNatClampNeg = v274 from (rfl).symm.trans (at_k (f := t246 148) z275 (congrArg Int32.toNatClampNeg (Int32.toInt_inj.mp (by omega))))) (by omega) (by omega) q326 q323 q325 (by omega))) (lv_sub hl [0] rfl) (by omega)
  exact L258 _ τ _ _ _ v3 v9 X hI Fr_rfl z2 z4 ⟨by omega, by omega⟩ z7 z10 ⟨by omega, by omega⟩ hp_0 (lv_sub hl [0] rfl) (Nat.lt_succ_self _)
def po_X12_joins_21 (τ : Tau)  (a0 : Int32)   (u : Tau) : Prop := Inv u ∧ Fr [(131, 41), (131, 43)] [135] τ u ∧ R (0) (53) (u 131 41) ∧ R (0) (45) (u 131 43) ∧ SI u
set_option maxHeartbeats 4000000 in
set_option maxRecDepth 100000 in
theorem c_X12_joins_21 (l : Launch) (G : Gx) (τ : Tau) (hI : Inv τ) (a0 : Int32) (h_a0 : R (21) (21) a0) (hf_0 : R (1) (1) (τ 131 45)) (hp_0 : SI τ) : Cv l G yX12_joins cX12_joins 2 1 23 [.ref (G.2.2.2.1 131), .int a0] τ (po_X12_joins_21 τ  a0  ) := by
  unfold Cv
  refine C_of (own := RX12) (by decide) rfl (Nat.le_of_ble_eq_true rfl) ?_
  intro p e s m below meth c ls S hr hlk X hl
  have hl : lv_has ls 2 [(0, .ref (G.2.2.2.1 131)), (1, .int a0)] := hl
  obtain ⟨v1, z2⟩ : ∃ x, τ 131 45 = x := ⟨_, rfl⟩
  rw [z2] at hf_0
  obtain ⟨v3, z4⟩ : ∃ x, τ 131 41 = x := ⟨_, rfl⟩
  have r5 : R (0) (53) v3 := rd hI rfl z4
  obtain ⟨v6, z7⟩ : ∃ x, τ 131 42 = x := ⟨_, rfl⟩
  have r8 : R (0) (20) v6 := rd hI rfl z7
  obtain ⟨v9, z10⟩ : ∃ x, τ 131 43 = x := ⟨_, rfl⟩
  have r11 : R (0) (45) v9 := rd hI rfl z10
  have L288 : ∀ (n : Nat) (t276 : Tau) (H : Heap) (lc : List Loc) (ls : Array Slot) (f281 : Int32) (f285 : Int32), Xd G s H lc t276 → Inv t276 → Fr [(131, 41), (131, 43)] [135] τ t276 → t276 131 45 = v1 → t276 131 41 = f281 → R (0) (53) f281 → t276 131 42 = v6 → t276 131 43 = f285 → R (0) (45) f285 → SI t276 → lv_has ls 2 [(0, .ref (G.2.2.2.1 131)), (1, .int a0)] → (f285.toInt).toNat < n → W p l e (Rm 1 23) s m ([.ref (G.2.2.2.1 131), .int a0] : List Value).toArray below meth c H lc 0 0 (MQ below (va_Qv (po_X12_joins_21 τ  a0  ) (Bs G) G.2.2.2.2) ([.ref (G.2.2.2.1 131), .int a0] : List Value).toArray s 0 0 G.2.2.2.2) (F0 m 0 ls []) := by
    intro n
    induction n with
    | zero => intros; omega
    | succ n ih290 =>
      intro t276 H lc ls f281 f285 X279 I277 F278 z280 z283 r282 z284 z287 r286 x289 hl hm
      have h291 := SI_b x289 z283 z284 z287 z280
      have r292 : R (0) (39) f281 := ⟨by omega, by omega⟩
      have r293 : R (0) (39) f285 := ⟨by omega, by omega⟩
      refine r_aload_n S dX12_joins_0 rfl (lv_at hl 0 rfl) ?_
      refine r_geti (K := 38) S X279 (Nat.le_of_ble_eq_true rfl) rfl lk12_407_10 (fun _ => ⟨_, rfl, rfl⟩) z287 dX12_joins_1 ?_
      refine r_if_le (tgt := 73) S dX12_joins_4 (by decide) (fun c294 => ?_) (fun c294 => ?_)
      ·
        have r295 : R (0) (0) f285 := ⟨by omega, by omega⟩
        exact r_vret S hr hlk X279 ⟨I277, F278, (by rw [z283]; exact R_of r292 rfl), (by rw [z287]; exact R_of r295 rfl), x289⟩ dX12_joins_73
      ·
        have r296 : R (1) (39) f285 := ⟨by omega, by omega⟩
        refine r_aload_n S dX12_joins_7 rfl (lv_at hl 0 rfl) ?_
        refine r_get (K := 38) (v := .ref (G.2.2.2.1 148)) S X279 (Nat.le_of_ble_eq_true rfl) rfl lk12_84_10 (fun _ => ⟨_, rfl, rfl⟩) dX12_joins_8 ?_
        refine r_aload_n S dX12_joins_11 rfl (lv_at hl 0 rfl) ?_
        refine r_geti (K := 38) S X279 (Nat.le_of_ble_eq_true rfl) rfl lk12_407_10 (fun _ => ⟨_, rfl, rfl⟩) z287 dX12_joins_12 ?_
        refine r_iconst S dX12_joins_15 (by decide) (fun v297 z298 => ?_)
        have r299 := R_eq z298
        refine r_isub S dX12_joins_16 (fun v300 z301 => ?_)
        obtain ⟨e302, r303⟩ := i_sub (lo := 0) (hi := 38) z301 r296 r299 rfl
        refine r_aldn (n := 45) (K := 55) S X279 (Nat.le_of_ble_eq_true rfl) rfl (fun _ => rfl) (ix_of r303 rfl) dX12_joins_17 (fun v304 z305 => ?_)
        have r307 := R_any v304
        refine r_bipush S dX12_joins_18 (by decide) (fun v308 z309 => ?_)
        have r310 := R_eq z309
        refine r_icmp_eq (tgt := 45) S dX12_joins_20 (by decide) (fun c311 => ?_) (fun c311 => ?_)
        ·
          have r312 : R (21) (21) v304 := ⟨by omega, by omega⟩
          refine r_aload_n S dX12_joins_45 rfl (lv_at hl 0 rfl) ?_
          refine r_dup S dX12_joins_46 rfl ?_
          refine r_geti (K := 38) S X279 (Nat.le_of_ble_eq_true rfl) rfl lk12_407_10 (fun _ => ⟨_, rfl, rfl⟩) z287 dX12_joins_47 ?_
          refine r_iconst S dX12_joins_50 (by decide) (fun v313 z314 => ?_)
          have r315 := R_eq z314
          refine r_isub S dX12_joins_51 (fun v316 z317 => ?_)
          obtain ⟨e318, r319⟩ := i_sub (lo := 0) (hi := 38) z317 r296 r315 rfl
          refine r_put (K := 38) (ty := .int) S X279 (Nat.le_of_ble_eq_true rfl) rfl lk12_407_10 (fun _ => ⟨_, rfl, Nat.le_of_ble_eq_true rfl, rfl⟩) (fun _ _ _ h => by cases h; exact ⟨rfl, rfl⟩) rfl rfl dX12_joins_52 (fun t320 H lc M321 X322 => ?_)
          have I323 := Inv_mu I277 M321 (show Rg (kd 131) 43 v316 from (R_of (lo := 0) (hi := 45) r319 rfl))
          have F324 : Fr [(131, 41), (131, 43)] [135] τ t320 := Fr_mu F278 M321 (by decide)
          refine r_aload_n S dX12_joins_55 rfl (lv_at hl 0 rfl) ?_
          refine r_aload_n S dX12_joins_56 rfl (lv_at hl 0 rfl) ?_
          refine r_get (K := 38) (v := .ref (G.2.2.2.1 148)) S X322 (Nat.le_of_ble_eq_true rfl) rfl lk12_84_10 (fun _ => ⟨_, rfl, rfl⟩) dX12_joins_57 ?_
          refine r_aload_n S dX12_joins_60 rfl (lv_at hl 0 rfl) ?_
          refine r_geti (K := 38) S X322 (Nat.le_of_ble_eq_true rfl) rfl lk12_407_10 (fun _ => ⟨_, rfl, rfl⟩) M321.1 dX12_joins_61 ?_
          refine r_aldn (n := 45) (K := 55) S X322 (Nat.le_of_ble_eq_true rfl) rfl (fun _ => rfl) (ix_of r319 rfl) dX12_joins_64 (fun v325 z326 => ?_)
          have r328 := R_any v325
          have h329 : v325 = v304 := z326.symm.trans ((((M321.2 148 v316.toNatClampNeg (Or.inl (by decide))).trans rfl)).trans (at_k (f := t276 148) z305 (congrArg Int32.toNatClampNeg (Int32.toInt_inj.mp (by omega)))))
          have h330 := congrArg Int32.toInt h329
          refine r_iconst S dX12_joins_65 (by decide) (fun v331 z332 => ?_)
          have r333 := R_eq z332
          refine r_iconst S dX12_joins_66 (by decide) (fun v334 z335 => ?_)
          have r336 := R_eq z335
          refine r_kv (q_V (As := [.int v325, .int v331, .int v334]) (rest := []) (K := 38) (ci := 10) S X322 (c_X12_code l G t320 I323 v325 v331 v334 r328 (R_of (lo := -2147483648) (hi := 2147483647) r333 rfl) (R_of (lo := -2147483648) (hi := 2147483647) r336 rfl) (by rw [((M321.2 131 41 (Or.inr (by decide))).trans z283)]; exact R_of r292 rfl)) ck12_410 (Nat.le_of_ble_eq_true rfl) rfl (fun _ => ⟨_, rfl⟩) ⟨_, _, rfl⟩ ⟨Nat.le_of_ble_eq_true rfl, Nat.le_of_ble_eq_true rfl⟩ rfl hl.1 rfl (Nat.le_of_ble_eq_true rfl) dX12_joins_67 ⟨Nat.le_refl 0, Nat.le_refl 0⟩) X322 (fun t339 H lc q337 X338 => ?_)
          unfold po_X12_code at q337
          obtain ⟨q340, q341, q342, q343, q344⟩ := q337
          have F345 : Fr [(131, 41), (131, 43)] [135] τ t339 := Fr_call F324 q341 (by decide)
          obtain ⟨v346, z347⟩ : ∃ x, t339 131 41 = x := ⟨_, rfl⟩
          rw [z347] at q342
          have e348 := congrArg Int32.toInt ((M321.2 131 41 (Or.inr (by decide))).trans z283)
          have e349 := congrArg Int32.toInt z347
          refine r_goto (tgt := 0) S dX12_joins_70 (by decide) ?_
          exact ih290 t339 _ _ _ v346 v316 X338 q340 F345 ((q341 131 45 (by decide)).trans ((M321.2 131 45 (Or.inr (by decide))).trans z280)) z347 ⟨by omega, by omega⟩ ((q341 131 42 (by decide)).trans ((M321.2 131 42 (Or.inr (by decide))).trans z284)) ((q341 131 43 (by decide)).trans M321.1) ⟨by omega, by omega⟩ (by have n1 := congrArg Int32.toInt z287; have n2 := congrArg Int32.toInt z280; exact (SI_pop x289 (fun j => ((M321.2 135 j (Or.inl (by decide))).trans rfl)) (fun j => ((M321.2 148 j (Or.inl (by decide))).trans rfl)) ((M321.2 131 41 (Or.inr (by decide))).trans rfl) ((M321.2 131 42 (Or.inr (by decide))).trans rfl) M321.1 ((M321.2 131 45 (Or.inr (by decide))).trans rfl) (by omega) (by omega) (show t276 148 v316.toNatClampNeg = v304 from (rfl).symm.trans (at_k (f := t276 148) z305 (congrArg Int32.toNatClampNeg (Int32.toInt_inj.mp (by omega))))) (by omega) (by omega) q344 q341 q343 (by omega))) (lv_sub hl [0, 1] rfl) (by omega)
        ·
          refine r_aload_n S dX12_joins_23 rfl (lv_at hl 0 rfl) ?_
          refine r_get (K := 38) (v := .ref (G.2.2.2.1 148)) S X279 (Nat.le_of_ble_eq_true rfl) rfl lk12_84_10 (fun _ => ⟨_, rfl, rfl⟩) dX12_joins_24 ?_
          refine r_aload_n S dX12_joins_27 rfl (lv_at hl 0 rfl) ?_
          refine r_geti (K := 38) S X279 (Nat.le_of_ble_eq_true rfl) rfl lk12_407_10 (fun _ => ⟨_, rfl, rfl⟩) z287 dX12_joins_28 ?_
          refine r_iconst S dX12_joins_31 (by decide) (fun v350 z351 => ?_)
          have r352 := R_eq z351
          refine r_isub S dX12_joins_32 (fun v353 z354 => ?_)
          obtain ⟨e355, r356⟩ := i_sub (lo := 0) (hi := 38) z354 r296 r352 rfl
          refine r_aldn (n := 45) (K := 55) S X279 (Nat.le_of_ble_eq_true rfl) rfl (fun _ => rfl) (ix_of r356 rfl) dX12_joins_33 (fun v357 z358 => ?_)
          have r360 := R_any v357
          have h361 : v357 = v304 := z358.symm.trans ((rfl).trans (at_k (f := t276 148) z305 (congrArg Int32.toNatClampNeg (Int32.toInt_inj.mp (by omega)))))
          have h362 := congrArg Int32.toInt h361
          refine r_bipush S dX12_joins_34 (by decide) (fun v363 z364 => ?_)
          have r365 := R_eq z364
          refine r_icmp_ne (tgt := 73) S dX12_joins_36 (by decide) (fun c366 => ?_) (fun c366 => ?_)
          ·
            exact r_vret S hr hlk X279 ⟨I277, F278, (by rw [z283]; exact R_of r292 rfl), (by rw [z287]; exact R_of r296 rfl), x289⟩ dX12_joins_73
          ·
            have r367 : R (22) (22) v357 := ⟨by omega, by omega⟩
            refine r_iload_n S dX12_joins_39 rfl (lv_at hl 1 rfl) ?_
            refine r_bipush S dX12_joins_40 (by decide) (fun v368 z369 => ?_)
            have r370 := R_eq z369
            refine r_icmp_ne (tgt := 73) S dX12_joins_42 (by decide) (fun c371 => ?_) (fun c371 => ?_)
            ·
              exact r_vret S hr hlk X279 ⟨I277, F278, (by rw [z283]; exact R_of r292 rfl), (by rw [z287]; exact R_of r296 rfl), x289⟩ dX12_joins_73
            ·
              exfalso; omega
  exact L288 _ τ _ _ _ v3 v9 X hI Fr_rfl z2 z4 ⟨by omega, by omega⟩ z7 z10 ⟨by omega, by omega⟩ hp_0 (lv_sub hl [0, 1] rfl) (Nat.lt_succ_self _)
def po_X12_joins_22 (τ : Tau)  (a0 : Int32)   (u : Tau) : Prop := Inv u ∧ Fr [(131, 41), (131, 43)] [135] τ u ∧ R (0) (53) (u 131 41) ∧ R (0) (45) (u 131 43) ∧ SI u ∧ (1 ≤ (u 131 43).toInt → (u 148 ((u 131 43).toInt - 1).toNat).toInt ≠ 21 ∧ (u 148 ((u 131 43).toInt - 1).toNat).toInt ≠ 22)
set_option maxHeartbeats 4000000 in
set_option maxRecDepth 100000 in
theorem c_X12_joins_22 (l : Launch) (G : Gx) (τ : Tau) (hI : Inv τ) (a0 : Int32) (h_a0 : R (22) (22) a0) (hf_0 : R (1) (1) (τ 131 45)) (hp_0 : SI τ) : Cv l G yX12_joins cX12_joins 2 1 23 [.ref (G.2.2.2.1 131), .int a0] τ (po_X12_joins_22 τ  a0  ) := by
  unfold Cv
  refine C_of (own := RX12) (by decide) rfl (Nat.le_of_ble_eq_true rfl) ?_
  intro p e s m below meth c ls S hr hlk X hl
  have hl : lv_has ls 2 [(0, .ref (G.2.2.2.1 131)), (1, .int a0)] := hl
  obtain ⟨v1, z2⟩ : ∃ x, τ 131 45 = x := ⟨_, rfl⟩
  rw [z2] at hf_0
  obtain ⟨v3, z4⟩ : ∃ x, τ 131 41 = x := ⟨_, rfl⟩
  have r5 : R (0) (53) v3 := rd hI rfl z4
  obtain ⟨v6, z7⟩ : ∃ x, τ 131 42 = x := ⟨_, rfl⟩
  have r8 : R (0) (20) v6 := rd hI rfl z7
  obtain ⟨v9, z10⟩ : ∃ x, τ 131 43 = x := ⟨_, rfl⟩
  have r11 : R (0) (45) v9 := rd hI rfl z10
  have L399 : ∀ (n : Nat) (t387 : Tau) (H : Heap) (lc : List Loc) (ls : Array Slot) (f392 : Int32) (f396 : Int32), Xd G s H lc t387 → Inv t387 → Fr [(131, 41), (131, 43)] [135] τ t387 → t387 131 45 = v1 → t387 131 41 = f392 → R (0) (53) f392 → t387 131 42 = v6 → t387 131 43 = f396 → R (0) (45) f396 → SI t387 → lv_has ls 2 [(0, .ref (G.2.2.2.1 131)), (1, .int a0)] → (f396.toInt).toNat < n → W p l e (Rm 1 23) s m ([.ref (G.2.2.2.1 131), .int a0] : List Value).toArray below meth c H lc 0 0 (MQ below (va_Qv (po_X12_joins_22 τ  a0  ) (Bs G) G.2.2.2.2) ([.ref (G.2.2.2.1 131), .int a0] : List Value).toArray s 0 0 G.2.2.2.2) (F0 m 0 ls []) := by
    intro n
    induction n with
    | zero => intros; omega
    | succ n ih401 =>
      intro t387 H lc ls f392 f396 X390 I388 F389 z391 z394 r393 z395 z398 r397 x400 hl hm
      have h402 := SI_b x400 z394 z395 z398 z391
      have r403 : R (0) (39) f392 := ⟨by omega, by omega⟩
      have r404 : R (0) (39) f396 := ⟨by omega, by omega⟩
      refine r_aload_n S dX12_joins_0 rfl (lv_at hl 0 rfl) ?_
      refine r_geti (K := 38) S X390 (Nat.le_of_ble_eq_true rfl) rfl lk12_407_10 (fun _ => ⟨_, rfl, rfl⟩) z398 dX12_joins_1 ?_
      refine r_if_le (tgt := 73) S dX12_joins_4 (by decide) (fun c405 => ?_) (fun c405 => ?_)
      ·
        have r406 : R (0) (0) f396 := ⟨by omega, by omega⟩
        exact r_vret S hr hlk X390 ⟨I388, F389, (by rw [z394]; exact R_of r403 rfl), (by rw [z398]; exact R_of r406 rfl), x400, (fun h => by exfalso; have q := congrArg Int32.toInt z398; omega)⟩ dX12_joins_73
      ·
        have r407 : R (1) (39) f396 := ⟨by omega, by omega⟩
        refine r_aload_n S dX12_joins_7 rfl (lv_at hl 0 rfl) ?_
        refine r_get (K := 38) (v := .ref (G.2.2.2.1 148)) S X390 (Nat.le_of_ble_eq_true rfl) rfl lk12_84_10 (fun _ => ⟨_, rfl, rfl⟩) dX12_joins_8 ?_
        refine r_aload_n S dX12_joins_11 rfl (lv_at hl 0 rfl) ?_
        refine r_geti (K := 38) S X390 (Nat.le_of_ble_eq_true rfl) rfl lk12_407_10 (fun _ => ⟨_, rfl, rfl⟩) z398 dX12_joins_12 ?_
        refine r_iconst S dX12_joins_15 (by decide) (fun v408 z409 => ?_)
        have r410 := R_eq z409
        refine r_isub S dX12_joins_16 (fun v411 z412 => ?_)
        obtain ⟨e413, r414⟩ := i_sub (lo := 0) (hi := 38) z412 r407 r410 rfl
        refine r_aldn (n := 45) (K := 55) S X390 (Nat.le_of_ble_eq_true rfl) rfl (fun _ => rfl) (ix_of r414 rfl) dX12_joins_17 (fun v415 z416 => ?_)
        have r418 := R_any v415
        refine r_bipush S dX12_joins_18 (by decide) (fun v419 z420 => ?_)
        have r421 := R_eq z420
        refine r_icmp_eq (tgt := 45) S dX12_joins_20 (by decide) (fun c422 => ?_) (fun c422 => ?_)
        ·
          have r423 : R (21) (21) v415 := ⟨by omega, by omega⟩
          refine r_aload_n S dX12_joins_45 rfl (lv_at hl 0 rfl) ?_
          refine r_dup S dX12_joins_46 rfl ?_
          refine r_geti (K := 38) S X390 (Nat.le_of_ble_eq_true rfl) rfl lk12_407_10 (fun _ => ⟨_, rfl, rfl⟩) z398 dX12_joins_47 ?_
          refine r_iconst S dX12_joins_50 (by decide) (fun v424 z425 => ?_)
          have r426 := R_eq z425
          refine r_isub S dX12_joins_51 (fun v427 z428 => ?_)
          obtain ⟨e429, r430⟩ := i_sub (lo := 0) (hi := 38) z428 r407 r426 rfl
          refine r_put (K := 38) (ty := .int) S X390 (Nat.le_of_ble_eq_true rfl) rfl lk12_407_10 (fun _ => ⟨_, rfl, Nat.le_of_ble_eq_true rfl, rfl⟩) (fun _ _ _ h => by cases h; exact ⟨rfl, rfl⟩) rfl rfl dX12_joins_52 (fun t431 H lc M432 X433 => ?_)
          have I434 := Inv_mu I388 M432 (show Rg (kd 131) 43 v427 from (R_of (lo := 0) (hi := 45) r430 rfl))
          have F435 : Fr [(131, 41), (131, 43)] [135] τ t431 := Fr_mu F389 M432 (by decide)
          refine r_aload_n S dX12_joins_55 rfl (lv_at hl 0 rfl) ?_
          refine r_aload_n S dX12_joins_56 rfl (lv_at hl 0 rfl) ?_
          refine r_get (K := 38) (v := .ref (G.2.2.2.1 148)) S X433 (Nat.le_of_ble_eq_true rfl) rfl lk12_84_10 (fun _ => ⟨_, rfl, rfl⟩) dX12_joins_57 ?_
          refine r_aload_n S dX12_joins_60 rfl (lv_at hl 0 rfl) ?_
          refine r_geti (K := 38) S X433 (Nat.le_of_ble_eq_true rfl) rfl lk12_407_10 (fun _ => ⟨_, rfl, rfl⟩) M432.1 dX12_joins_61 ?_
          refine r_aldn (n := 45) (K := 55) S X433 (Nat.le_of_ble_eq_true rfl) rfl (fun _ => rfl) (ix_of r430 rfl) dX12_joins_64 (fun v436 z437 => ?_)
          have r439 := R_any v436
          have h440 : v436 = v415 := z437.symm.trans ((((M432.2 148 v427.toNatClampNeg (Or.inl (by decide))).trans rfl)).trans (at_k (f := t387 148) z416 (congrArg Int32.toNatClampNeg (Int32.toInt_inj.mp (by omega)))))
          have h441 := congrArg Int32.toInt h440
          refine r_iconst S dX12_joins_65 (by decide) (fun v442 z443 => ?_)
          have r444 := R_eq z443
          refine r_iconst S dX12_joins_66 (by decide) (fun v445 z446 => ?_)
          have r447 := R_eq z446
          refine r_kv (q_V (As := [.int v436, .int v442, .int v445]) (rest := []) (K := 38) (ci := 10) S X433 (c_X12_code l G t431 I434 v436 v442 v445 r439 (R_of (lo := -2147483648) (hi := 2147483647) r444 rfl) (R_of (lo := -2147483648) (hi := 2147483647) r447 rfl) (by rw [((M432.2 131 41 (Or.inr (by decide))).trans z394)]; exact R_of r403 rfl)) ck12_410 (Nat.le_of_ble_eq_true rfl) rfl (fun _ => ⟨_, rfl⟩) ⟨_, _, rfl⟩ ⟨Nat.le_of_ble_eq_true rfl, Nat.le_of_ble_eq_true rfl⟩ rfl hl.1 rfl (Nat.le_of_ble_eq_true rfl) dX12_joins_67 ⟨Nat.le_refl 0, Nat.le_refl 0⟩) X433 (fun t450 H lc q448 X449 => ?_)
          unfold po_X12_code at q448
          obtain ⟨q451, q452, q453, q454, q455⟩ := q448
          have F456 : Fr [(131, 41), (131, 43)] [135] τ t450 := Fr_call F435 q452 (by decide)
          obtain ⟨v457, z458⟩ : ∃ x, t450 131 41 = x := ⟨_, rfl⟩
          rw [z458] at q453
          have e459 := congrArg Int32.toInt ((M432.2 131 41 (Or.inr (by decide))).trans z394)
          have e460 := congrArg Int32.toInt z458
          refine r_goto (tgt := 0) S dX12_joins_70 (by decide) ?_
          exact ih401 t450 _ _ _ v457 v427 X449 q451 F456 ((q452 131 45 (by decide)).trans ((M432.2 131 45 (Or.inr (by decide))).trans z391)) z458 ⟨by omega, by omega⟩ ((q452 131 42 (by decide)).trans ((M432.2 131 42 (Or.inr (by decide))).trans z395)) ((q452 131 43 (by decide)).trans M432.1) ⟨by omega, by omega⟩ (by have n1 := congrArg Int32.toInt z398; have n2 := congrArg Int32.toInt z391; exact (SI_pop x400 (fun j => ((M432.2 135 j (Or.inl (by decide))).trans rfl)) (fun j => ((M432.2 148 j (Or.inl (by decide))).trans rfl)) ((M432.2 131 41 (Or.inr (by decide))).trans rfl) ((M432.2 131 42 (Or.inr (by decide))).trans rfl) M432.1 ((M432.2 131 45 (Or.inr (by decide))).trans rfl) (by omega) (by omega) (show t387 148 v427.toNatClampNeg = v415 from (rfl).symm.trans (at_k (f := t387 148) z416 (congrArg Int32.toNatClampNeg (Int32.toInt_inj.mp (by omega))))) (by omega) (by omega) q455 q452 q454 (by omega))) (lv_sub hl [0, 1] rfl) (by omega)
        ·
          refine r_aload_n S dX12_joins_23 rfl (lv_at hl 0 rfl) ?_
          refine r_get (K := 38) (v := .ref (G.2.2.2.1 148)) S X390 (Nat.le_of_ble_eq_true rfl) rfl lk12_84_10 (fun _ => ⟨_, rfl, rfl⟩) dX12_joins_24 ?_
          refine r_aload_n S dX12_joins_27 rfl (lv_at hl 0 rfl) ?_
          refine r_geti (K := 38) S X390 (Nat.le_of_ble_eq_true rfl) rfl lk12_407_10 (fun _ => ⟨_, rfl, rfl⟩) z398 dX12_joins_28 ?_
          refine r_iconst S dX12_joins_31 (by decide) (fun v461 z462 => ?_)
          have r463 := R_eq z462
          refine r_isub S dX12_joins_32 (fun v464 z465 => ?_)
          obtain ⟨e466, r467⟩ := i_sub (lo := 0) (hi := 38) z465 r407 r463 rfl
          refine r_aldn (n := 45) (K := 55) S X390 (Nat.le_of_ble_eq_true rfl) rfl (fun _ => rfl) (ix_of r467 rfl) dX12_joins_33 (fun v468 z469 => ?_)
          have r471 := R_any v468
          have h472 : v468 = v415 := z469.symm.trans ((rfl).trans (at_k (f := t387 148) z416 (congrArg Int32.toNatClampNeg (Int32.toInt_inj.mp (by omega)))))
          have h473 := congrArg Int32.toInt h472
          refine r_bipush S dX12_joins_34 (by decide) (fun v474 z475 => ?_)
          have r476 := R_eq z475
          refine r_icmp_ne (tgt := 73) S dX12_joins_36 (by decide) (fun c477 => ?_) (fun c477 => ?_)
          ·
            exact r_vret S hr hlk X390 ⟨I388, F389, (by rw [z394]; exact R_of r403 rfl), (by rw [z398]; exact R_of r407 rfl), x400, (fun h => by have q := congrArg Int32.toInt z398; have z := z469; have e := tn (i := v464) (by omega); rw [show ((t387 131 43).toInt - 1).toNat = v464.toNatClampNeg by omega, z]; exact ⟨by omega, by omega⟩)⟩ dX12_joins_73
          ·
            have r478 : R (22) (22) v468 := ⟨by omega, by omega⟩
            refine r_iload_n S dX12_joins_39 rfl (lv_at hl 1 rfl) ?_
            refine r_bipush S dX12_joins_40 (by decide) (fun v479 z480 => ?_)
            have r481 := R_eq z480
            refine r_icmp_ne (tgt := 73) S dX12_joins_42 (by decide) (fun c482 => ?_) (fun c482 => ?_)
            ·
              exfalso; omega
            ·
              refine r_aload_n S dX12_joins_45 rfl (lv_at hl 0 rfl) ?_
              refine r_dup S dX12_joins_46 rfl ?_
              refine r_geti (K := 38) S X390 (Nat.le_of_ble_eq_true rfl) rfl lk12_407_10 (fun _ => ⟨_, rfl, rfl⟩) z398 dX12_joins_47 ?_
              refine r_iconst S dX12_joins_50 (by decide) (fun v483 z484 => ?_)
              have r485 := R_eq z484
              refine r_isub S dX12_joins_51 (fun v486 z487 => ?_)
              obtain ⟨e488, r489⟩ := i_sub (lo := 0) (hi := 38) z487 r407 r485 rfl
              refine r_put (K := 38) (ty := .int) S X390 (Nat.le_of_ble_eq_true rfl) rfl lk12_407_10 (fun _ => ⟨_, rfl, Nat.le_of_ble_eq_true rfl, rfl⟩) (fun _ _ _ h => by cases h; exact ⟨rfl, rfl⟩) rfl rfl dX12_joins_52 (fun t490 H lc M491 X492 => ?_)
              have I493 := Inv_mu I388 M491 (show Rg (kd 131) 43 v486 from (R_of (lo := 0) (hi := 45) r489 rfl))
              have F494 : Fr [(131, 41), (131, 43)] [135] τ t490 := Fr_mu F389 M491 (by decide)
              refine r_aload_n S dX12_joins_55 rfl (lv_at hl 0 rfl) ?_
              refine r_aload_n S dX12_joins_56 rfl (lv_at hl 0 rfl) ?_
              refine r_get (K := 38) (v := .ref (G.2.2.2.1 148)) S X492 (Nat.le_of_ble_eq_true rfl) rfl lk12_84_10 (fun _ => ⟨_, rfl, rfl⟩) dX12_joins_57 ?_
              refine r_aload_n S dX12_joins_60 rfl (lv_at hl 0 rfl) ?_
              refine r_geti (K := 38) S X492 (Nat.le_of_ble_eq_true rfl) rfl lk12_407_10 (fun _ => ⟨_, rfl, rfl⟩) M491.1 dX12_joins_61 ?_
              refine r_aldn (n := 45) (K := 55) S X492 (Nat.le_of_ble_eq_true rfl) rfl (fun _ => rfl) (ix_of r489 rfl) dX12_joins_64 (fun v495 z496 => ?_)
              have r498 := R_any v495
              have h499 : v495 = v468 := z496.symm.trans ((((M491.2 148 v486.toNatClampNeg (Or.inl (by decide))).trans rfl)).trans (at_k (f := t387 148) z469 (congrArg Int32.toNatClampNeg (Int32.toInt_inj.mp (by omega)))))
              have h500 := congrArg Int32.toInt h499
              refine r_iconst S dX12_joins_65 (by decide) (fun v501 z502 => ?_)
              have r503 := R_eq z502
              refine r_iconst S dX12_joins_66 (by decide) (fun v504 z505 => ?_)
              have r506 := R_eq z505
              refine r_kv (q_V (As := [.int v495, .int v501, .int v504]) (rest := []) (K := 38) (ci := 10) S X492 (c_X12_code l G t490 I493 v495 v501 v504 r498 (R_of (lo := -2147483648) (hi := 2147483647) r503 rfl) (R_of (lo := -2147483648) (hi := 2147483647) r506 rfl) (by rw [((M491.2 131 41 (Or.inr (by decide))).trans z394)]; exact R_of r403 rfl)) ck12_410 (Nat.le_of_ble_eq_true rfl) rfl (fun _ => ⟨_, rfl⟩) ⟨_, _, rfl⟩ ⟨Nat.le_of_ble_eq_true rfl, Nat.le_of_ble_eq_true rfl⟩ rfl hl.1 rfl (Nat.le_of_ble_eq_true rfl) dX12_joins_67 ⟨Nat.le_refl 0, Nat.le_refl 0⟩) X492 (fun t509 H lc q507 X508 => ?_)
              unfold po_X12_code at q507
              obtain ⟨q510, q511, q512, q513, q514⟩ := q507
              have F515 : Fr [(131, 41), (131, 43)] [135] τ t509 := Fr_call F494 q511 (by decide)
              obtain ⟨v516, z517⟩ : ∃ x, t509 131 41 = x := ⟨_, rfl⟩
              rw [z517] at q512
              have e518 := congrArg Int32.toInt ((M491.2 131 41 (Or.inr (by decide))).trans z394)
              have e519 := congrArg Int32.toInt z517
              refine r_goto (tgt := 0) S dX12_joins_70 (by decide) ?_
              exact ih401 t509 _ _ _ v516 v486 X508 q510 F515 ((q511 131 45 (by decide)).trans ((M491.2 131 45 (Or.inr (by decide))).trans z391)) z517 ⟨by omega, by omega⟩ ((q511 131 42 (by decide)).trans ((M491.2 131 42 (Or.inr (by decide))).trans z395)) ((q511 131 43 (by decide)).trans M491.1) ⟨by omega, by omega⟩ (by have n1 := congrArg Int32.toInt z398; have n2 := congrArg Int32.toInt z391; exact (SI_pop x400 (fun j => ((M491.2 135 j (Or.inl (by decide))).trans rfl)) (fun j => ((M491.2 148 j (Or.inl (by decide))).trans rfl)) ((M491.2 131 41 (Or.inr (by decide))).trans rfl) ((M491.2 131 42 (Or.inr (by decide))).trans rfl) M491.1 ((M491.2 131 45 (Or.inr (by decide))).trans rfl) (by omega) (by omega) (show t387 148 v486.toNatClampNeg = v468 from (rfl).symm.trans (at_k (f := t387 148) z469 (congrArg Int32.toNatClampNeg (Int32.toInt_inj.mp (by omega))))) (by omega) (by omega) q514 q511 q513 (by omega))) (lv_sub hl [0, 1] rfl) (by omega)
  exact L399 _ τ _ _ _ v3 v9 X hI Fr_rfl z2 z4 ⟨by omega, by omega⟩ z7 z10 ⟨by omega, by omega⟩ hp_0 (lv_sub hl [0, 1] rfl) (Nat.lt_succ_self _)
