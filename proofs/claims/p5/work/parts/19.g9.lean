def po_X12_throwsIf (τ : Tau)  (a0 : Int32)   (r : Int32) (u : Tau) : Prop := Inv u ∧ Fr [(131, 0)] [] τ u ∧ R (0) (1) r ∧ (r.toInt = 1 → R (1) (1) a0) ∧ (r.toInt = 0 → R (0) (0) a0)
set_option maxHeartbeats 4000000 in
set_option maxRecDepth 100000 in
theorem c_X12_throwsIf (l : Launch) (G : Gx) (τ : Tau) (hI : Inv τ) (a0 : Int32) (h_a0 : R (0) (1) a0) : Ci l G yX12_throwsIf cX12_throwsIf 2 (some .boolean) 0 0 [.ref (G.2.2.2.1 131), .int a0] τ (po_X12_throwsIf τ  a0  ) := by
  unfold Ci
  refine C_of (own := RX12) (by decide) rfl (Nat.le_of_ble_eq_true rfl) ?_
  intro p e s m below meth c ls S hr hlk X hl
  have hl : lv_has ls 2 [(0, .ref (G.2.2.2.1 131)), (1, .int a0)] := hl
  refine r_aload_n S dX12_throwsIf_0 rfl (lv_at hl 0 rfl) ?_
  refine r_iload_n S dX12_throwsIf_1 rfl (lv_at hl 1 rfl) ?_
  refine r_if_eq (tgt := 9) S dX12_throwsIf_2 (by decide) (fun c1 => ?_) (fun c1 => ?_)
  ·
    have r2 : R (0) (0) a0 := ⟨by omega, by omega⟩
    refine r_iconst S dX12_throwsIf_9 (by decide) (fun v3 z4 => ?_)
    have r5 := R_eq z4
    refine r_put (K := 38) (ty := .int) S X (Nat.le_of_ble_eq_true rfl) rfl lk12_1_10 (fun _ => ⟨_, rfl, Nat.le_of_ble_eq_true rfl, rfl⟩) (fun _ _ _ h => by cases h; exact ⟨rfl, rfl⟩) rfl rfl dX12_throwsIf_10 (fun t6 H lc M7 X8 => ?_)
    have I9 := Inv_mu hI M7 (R_any v3)
    have F10 : Fr [(131, 0)] [] τ t6 := Fr_mu Fr_rfl M7 (by decide)
    refine r_iload_n S dX12_throwsIf_13 rfl (lv_at hl 1 rfl) ?_
    exact r_ret S hr hlk X8 ⟨I9, F10, (R_of r2 rfl), (fun h => by exfalso; omega), (fun h => ⟨by omega, by omega⟩)⟩ (nr_bool (R_of (lo := 0) (hi := 1) r2 rfl)) dX12_throwsIf_14
  ·
    have r11 : R (1) (1) a0 := ⟨by omega, by omega⟩
    refine r_iconst S dX12_throwsIf_5 (by decide) (fun v12 z13 => ?_)
    have r14 := R_eq z13
    refine r_goto (tgt := 10) S dX12_throwsIf_6 (by decide) ?_
    refine r_put (K := 38) (ty := .int) S X (Nat.le_of_ble_eq_true rfl) rfl lk12_1_10 (fun _ => ⟨_, rfl, Nat.le_of_ble_eq_true rfl, rfl⟩) (fun _ _ _ h => by cases h; exact ⟨rfl, rfl⟩) rfl rfl dX12_throwsIf_10 (fun t15 H lc M16 X17 => ?_)
    have I18 := Inv_mu hI M16 (R_any v12)
    have F19 : Fr [(131, 0)] [] τ t15 := Fr_mu Fr_rfl M16 (by decide)
    refine r_iload_n S dX12_throwsIf_13 rfl (lv_at hl 1 rfl) ?_
    exact r_ret S hr hlk X17 ⟨I18, F19, (R_of r11 rfl), (fun h => ⟨by omega, by omega⟩), (fun h => by exfalso; omega)⟩ (nr_bool (R_of (lo := 0) (hi := 1) r11 rfl)) dX12_throwsIf_14
def po_X12_four_0 (τ : Tau)  (a0 : Int32)   (u : Tau) : Prop := Inv u ∧ Fr [(131, 2)] [132] τ u ∧ R (4) (924) (u 131 2) ∧ (u 131 2).toInt = (τ 131 2).toInt + 4
set_option maxHeartbeats 4000000 in
set_option maxRecDepth 100000 in
theorem c_X12_four_0 (l : Launch) (G : Gx) (τ : Tau) (hI : Inv τ) (a0 : Int32) (h_a0 : R (-2147483648) (2147483647) a0) (hf_0 : R (0) (920) (τ 131 2)) : Cv l G yX12_four cX12_four 3 0 0 [.ref (G.2.2.2.1 131), .int a0] τ (po_X12_four_0 τ  a0  ) := by
  unfold Cv
  refine C_of (own := RX12) (by decide) rfl (Nat.le_of_ble_eq_true rfl) ?_
  intro p e s m below meth c ls S hr hlk X hl
  have hl : lv_has ls 3 [(0, .ref (G.2.2.2.1 131)), (1, .int a0)] := hl
  obtain ⟨v1, z2⟩ : ∃ x, τ 131 2 = x := ⟨_, rfl⟩
  rw [z2] at hf_0
  refine r_bipush S dX12_four_0 (by decide) (fun v3 z4 => ?_)
  have r5 := R_eq z4
  refine r_istore_n (lv' := [(2, .int v3), (0, .ref (G.2.2.2.1 131)), (1, .int a0)]) S dX12_four_2 rfl hl (by decide) rfl (fun ls hl => ?_)
  refine r_iload_n S dX12_four_3 rfl (lv_at hl 0 rfl) ?_
  refine r_if_lt (tgt := 36) S dX12_four_4 (by decide) (fun c6 => ?_) (fun c6 => ?_)
  ·
    exfalso; omega
  ·
    refine r_aload_n S dX12_four_7 rfl (lv_at hl 1 rfl) ?_
    refine r_get (K := 38) (v := .ref (G.2.2.2.1 132)) S X (Nat.le_of_ble_eq_true rfl) rfl lk12_14_10 (fun _ => ⟨_, rfl, rfl⟩) dX12_four_8 ?_
    refine r_aload_n S dX12_four_11 rfl (lv_at hl 1 rfl) ?_
    refine r_geti (K := 38) S X (Nat.le_of_ble_eq_true rfl) rfl lk12_7_10 (fun _ => ⟨_, rfl, rfl⟩) z2 dX12_four_12 ?_
    refine r_iload_n S dX12_four_15 rfl (lv_at hl 2 rfl) ?_
    refine r_iload_n S dX12_four_16 rfl (lv_at hl 0 rfl) ?_
    refine r_ishr S dX12_four_17 (fun v7 z8 => ?_)
    have r9 := R_any v7
    refine r_i2b S dX12_four_18 (fun v10 r11 => ?_)
    refine r_bast (n := 940) (K := 39) S X (Nat.le_of_ble_eq_true rfl) rfl (fun _ _ => rfl) (ix_of hf_0 rfl) (R_of (lo := -128) (hi := 127) r11 rfl) dX12_four_19 (fun t12 H lc M13 X14 => ?_)
    have I15 := Inv_mu hI M13 (show Rg (kd 132) _ v10 from (R_of (lo := -128) (hi := 127) r11 rfl))
    have F16 : Fr [(131, 2)] [132] τ t12 := Fr_cell Fr_rfl M13 (by decide)
    refine r_aload_n S dX12_four_20 rfl (lv_at hl 1 rfl) ?_
    refine r_dup S dX12_four_21 rfl ?_
    refine r_geti (K := 38) S X14 (Nat.le_of_ble_eq_true rfl) rfl lk12_7_10 (fun _ => ⟨_, rfl, rfl⟩) ((M13.2 131 2 (Or.inl (by decide))).trans z2) dX12_four_22 ?_
    refine r_iconst S dX12_four_25 (by decide) (fun v17 z18 => ?_)
    have r19 := R_eq z18
    refine r_iadd S dX12_four_26 (fun v20 z21 => ?_)
    obtain ⟨e22, r23⟩ := i_add (lo := 1) (hi := 921) z21 hf_0 r19 rfl
    refine r_put (K := 38) (ty := .int) S X14 (Nat.le_of_ble_eq_true rfl) rfl lk12_7_10 (fun _ => ⟨_, rfl, Nat.le_of_ble_eq_true rfl, rfl⟩) (fun _ _ _ h => by cases h; exact ⟨rfl, rfl⟩) rfl rfl dX12_four_27 (fun t24 H lc M25 X26 => ?_)
    have I27 := Inv_mu I15 M25 (show Rg (kd 131) 2 v20 from (R_of (lo := 0) (hi := 940) r23 rfl))
    have F28 : Fr [(131, 2)] [132] τ t24 := Fr_mu F16 M25 (by decide)
    refine r_iinc (k := 0) S dX12_four_30 hl rfl (by decide) (by decide) (fun v29 d30 ls z31 z32 hl => ?_)
    obtain ⟨e33, r34⟩ := i_add (lo := 16) (hi := 16) z31 r5 (R_eq z32) rfl
    have hl : lv_has ls 3 [(2, .int v29), (0, .ref (G.2.2.2.1 131)), (1, .int a0)] := hl
    refine r_goto (tgt := 3) S dX12_four_33 (by decide) ?_
    refine r_iload_n S dX12_four_3 rfl (lv_at hl 0 rfl) ?_
    refine r_if_lt (tgt := 36) S dX12_four_4 (by decide) (fun c35 => ?_) (fun c35 => ?_)
    ·
      exfalso; omega
    ·
      refine r_aload_n S dX12_four_7 rfl (lv_at hl 1 rfl) ?_
      refine r_get (K := 38) (v := .ref (G.2.2.2.1 132)) S X26 (Nat.le_of_ble_eq_true rfl) rfl lk12_14_10 (fun _ => ⟨_, rfl, rfl⟩) dX12_four_8 ?_
      refine r_aload_n S dX12_four_11 rfl (lv_at hl 1 rfl) ?_
      refine r_geti (K := 38) S X26 (Nat.le_of_ble_eq_true rfl) rfl lk12_7_10 (fun _ => ⟨_, rfl, rfl⟩) M25.1 dX12_four_12 ?_
      refine r_iload_n S dX12_four_15 rfl (lv_at hl 2 rfl) ?_
      refine r_iload_n S dX12_four_16 rfl (lv_at hl 0 rfl) ?_
      refine r_ishr S dX12_four_17 (fun v36 z37 => ?_)
      have r38 := R_any v36
      refine r_i2b S dX12_four_18 (fun v39 r40 => ?_)
      refine r_bast (n := 940) (K := 39) S X26 (Nat.le_of_ble_eq_true rfl) rfl (fun _ _ => rfl) (ix_of r23 rfl) (R_of (lo := -128) (hi := 127) r40 rfl) dX12_four_19 (fun t41 H lc M42 X43 => ?_)
      have I44 := Inv_mu I27 M42 (show Rg (kd 132) _ v39 from (R_of (lo := -128) (hi := 127) r40 rfl))
      have F45 : Fr [(131, 2)] [132] τ t41 := Fr_cell F28 M42 (by decide)
      refine r_aload_n S dX12_four_20 rfl (lv_at hl 1 rfl) ?_
      refine r_dup S dX12_four_21 rfl ?_
      refine r_geti (K := 38) S X43 (Nat.le_of_ble_eq_true rfl) rfl lk12_7_10 (fun _ => ⟨_, rfl, rfl⟩) ((M42.2 131 2 (Or.inl (by decide))).trans M25.1) dX12_four_22 ?_
      refine r_iconst S dX12_four_25 (by decide) (fun v46 z47 => ?_)
      have r48 := R_eq z47
      refine r_iadd S dX12_four_26 (fun v49 z50 => ?_)
      obtain ⟨e51, r52⟩ := i_add (lo := 2) (hi := 922) z50 r23 r48 rfl
      refine r_put (K := 38) (ty := .int) S X43 (Nat.le_of_ble_eq_true rfl) rfl lk12_7_10 (fun _ => ⟨_, rfl, Nat.le_of_ble_eq_true rfl, rfl⟩) (fun _ _ _ h => by cases h; exact ⟨rfl, rfl⟩) rfl rfl dX12_four_27 (fun t53 H lc M54 X55 => ?_)
      have I56 := Inv_mu I44 M54 (show Rg (kd 131) 2 v49 from (R_of (lo := 0) (hi := 940) r52 rfl))
      have F57 : Fr [(131, 2)] [132] τ t53 := Fr_mu F45 M54 (by decide)
      refine r_iinc (k := 0) S dX12_four_30 hl rfl (by decide) (by decide) (fun v58 d59 ls z60 z61 hl => ?_)
      obtain ⟨e62, r63⟩ := i_add (lo := 8) (hi := 8) z60 r34 (R_eq z61) rfl
      have hl : lv_has ls 3 [(2, .int v58), (0, .ref (G.2.2.2.1 131)), (1, .int a0)] := hl
      refine r_goto (tgt := 3) S dX12_four_33 (by decide) ?_
      refine r_iload_n S dX12_four_3 rfl (lv_at hl 0 rfl) ?_
      refine r_if_lt (tgt := 36) S dX12_four_4 (by decide) (fun c64 => ?_) (fun c64 => ?_)
      ·
        exfalso; omega
      ·
        refine r_aload_n S dX12_four_7 rfl (lv_at hl 1 rfl) ?_
        refine r_get (K := 38) (v := .ref (G.2.2.2.1 132)) S X55 (Nat.le_of_ble_eq_true rfl) rfl lk12_14_10 (fun _ => ⟨_, rfl, rfl⟩) dX12_four_8 ?_
        refine r_aload_n S dX12_four_11 rfl (lv_at hl 1 rfl) ?_
        refine r_geti (K := 38) S X55 (Nat.le_of_ble_eq_true rfl) rfl lk12_7_10 (fun _ => ⟨_, rfl, rfl⟩) M54.1 dX12_four_12 ?_
        refine r_iload_n S dX12_four_15 rfl (lv_at hl 2 rfl) ?_
        refine r_iload_n S dX12_four_16 rfl (lv_at hl 0 rfl) ?_
        refine r_ishr S dX12_four_17 (fun v65 z66 => ?_)
        have r67 := R_any v65
        refine r_i2b S dX12_four_18 (fun v68 r69 => ?_)
        refine r_bast (n := 940) (K := 39) S X55 (Nat.le_of_ble_eq_true rfl) rfl (fun _ _ => rfl) (ix_of r52 rfl) (R_of (lo := -128) (hi := 127) r69 rfl) dX12_four_19 (fun t70 H lc M71 X72 => ?_)
        have I73 := Inv_mu I56 M71 (show Rg (kd 132) _ v68 from (R_of (lo := -128) (hi := 127) r69 rfl))
        have F74 : Fr [(131, 2)] [132] τ t70 := Fr_cell F57 M71 (by decide)
        refine r_aload_n S dX12_four_20 rfl (lv_at hl 1 rfl) ?_
        refine r_dup S dX12_four_21 rfl ?_
        refine r_geti (K := 38) S X72 (Nat.le_of_ble_eq_true rfl) rfl lk12_7_10 (fun _ => ⟨_, rfl, rfl⟩) ((M71.2 131 2 (Or.inl (by decide))).trans M54.1) dX12_four_22 ?_
        refine r_iconst S dX12_four_25 (by decide) (fun v75 z76 => ?_)
        have r77 := R_eq z76
        refine r_iadd S dX12_four_26 (fun v78 z79 => ?_)
        obtain ⟨e80, r81⟩ := i_add (lo := 3) (hi := 923) z79 r52 r77 rfl
        refine r_put (K := 38) (ty := .int) S X72 (Nat.le_of_ble_eq_true rfl) rfl lk12_7_10 (fun _ => ⟨_, rfl, Nat.le_of_ble_eq_true rfl, rfl⟩) (fun _ _ _ h => by cases h; exact ⟨rfl, rfl⟩) rfl rfl dX12_four_27 (fun t82 H lc M83 X84 => ?_)
        have I85 := Inv_mu I73 M83 (show Rg (kd 131) 2 v78 from (R_of (lo := 0) (hi := 940) r81 rfl))
        have F86 : Fr [(131, 2)] [132] τ t82 := Fr_mu F74 M83 (by decide)
        refine r_iinc (k := 0) S dX12_four_30 hl rfl (by decide) (by decide) (fun v87 d88 ls z89 z90 hl => ?_)
        obtain ⟨e91, r92⟩ := i_add (lo := 0) (hi := 0) z89 r63 (R_eq z90) rfl
        have hl : lv_has ls 3 [(2, .int v87), (0, .ref (G.2.2.2.1 131)), (1, .int a0)] := hl
        refine r_goto (tgt := 3) S dX12_four_33 (by decide) ?_
        refine r_iload_n S dX12_four_3 rfl (lv_at hl 0 rfl) ?_
        refine r_if_lt (tgt := 36) S dX12_four_4 (by decide) (fun c93 => ?_) (fun c93 => ?_)
        ·
          exfalso; omega
        ·
          refine r_aload_n S dX12_four_7 rfl (lv_at hl 1 rfl) ?_
          refine r_get (K := 38) (v := .ref (G.2.2.2.1 132)) S X84 (Nat.le_of_ble_eq_true rfl) rfl lk12_14_10 (fun _ => ⟨_, rfl, rfl⟩) dX12_four_8 ?_
          refine r_aload_n S dX12_four_11 rfl (lv_at hl 1 rfl) ?_
          refine r_geti (K := 38) S X84 (Nat.le_of_ble_eq_true rfl) rfl lk12_7_10 (fun _ => ⟨_, rfl, rfl⟩) M83.1 dX12_four_12 ?_
          refine r_iload_n S dX12_four_15 rfl (lv_at hl 2 rfl) ?_
          refine r_iload_n S dX12_four_16 rfl (lv_at hl 0 rfl) ?_
          refine r_ishr S dX12_four_17 (fun v94 z95 => ?_)
          have r96 := R_any v94
          refine r_i2b S dX12_four_18 (fun v97 r98 => ?_)
          refine r_bast (n := 940) (K := 39) S X84 (Nat.le_of_ble_eq_true rfl) rfl (fun _ _ => rfl) (ix_of r81 rfl) (R_of (lo := -128) (hi := 127) r98 rfl) dX12_four_19 (fun t99 H lc M100 X101 => ?_)
          have I102 := Inv_mu I85 M100 (show Rg (kd 132) _ v97 from (R_of (lo := -128) (hi := 127) r98 rfl))
          have F103 : Fr [(131, 2)] [132] τ t99 := Fr_cell F86 M100 (by decide)
          refine r_aload_n S dX12_four_20 rfl (lv_at hl 1 rfl) ?_
          refine r_dup S dX12_four_21 rfl ?_
          refine r_geti (K := 38) S X101 (Nat.le_of_ble_eq_true rfl) rfl lk12_7_10 (fun _ => ⟨_, rfl, rfl⟩) ((M100.2 131 2 (Or.inl (by decide))).trans M83.1) dX12_four_22 ?_
          refine r_iconst S dX12_four_25 (by decide) (fun v104 z105 => ?_)
          have r106 := R_eq z105
          refine r_iadd S dX12_four_26 (fun v107 z108 => ?_)
          obtain ⟨e109, r110⟩ := i_add (lo := 4) (hi := 924) z108 r81 r106 rfl
          refine r_put (K := 38) (ty := .int) S X101 (Nat.le_of_ble_eq_true rfl) rfl lk12_7_10 (fun _ => ⟨_, rfl, Nat.le_of_ble_eq_true rfl, rfl⟩) (fun _ _ _ h => by cases h; exact ⟨rfl, rfl⟩) rfl rfl dX12_four_27 (fun t111 H lc M112 X113 => ?_)
          have I114 := Inv_mu I102 M112 (show Rg (kd 131) 2 v107 from (R_of (lo := 0) (hi := 940) r110 rfl))
          have F115 : Fr [(131, 2)] [132] τ t111 := Fr_mu F103 M112 (by decide)
          refine r_iinc (k := 0) S dX12_four_30 hl rfl (by decide) (by decide) (fun v116 d117 ls z118 z119 hl => ?_)
          obtain ⟨e120, r121⟩ := i_add (lo := -8) (hi := -8) z118 r92 (R_eq z119) rfl
          have hl : lv_has ls 3 [(2, .int v116), (0, .ref (G.2.2.2.1 131)), (1, .int a0)] := hl
          refine r_goto (tgt := 3) S dX12_four_33 (by decide) ?_
          refine r_iload_n S dX12_four_3 rfl (lv_at hl 0 rfl) ?_
          refine r_if_lt (tgt := 36) S dX12_four_4 (by decide) (fun c122 => ?_) (fun c122 => ?_)
          ·
            exact r_vret S hr hlk X113 ⟨I114, F115, (by rw [M112.1]; exact R_of r110 rfl), (by have h1_0 := congrArg Int32.toInt M112.1; have h2_0 := congrArg Int32.toInt z2; omega)⟩ dX12_four_36
          ·
            exfalso; omega
def po_X12_four_1 (τ : Tau)  (a0 : Int32)   (u : Tau) : Prop := Inv u ∧ Fr [(131, 2)] [132] τ u ∧ R (8) (928) (u 131 2) ∧ (u 131 2).toInt = (τ 131 2).toInt + 4
set_option maxHeartbeats 4000000 in
set_option maxRecDepth 100000 in
theorem c_X12_four_1 (l : Launch) (G : Gx) (τ : Tau) (hI : Inv τ) (a0 : Int32) (h_a0 : R (-2147483648) (2147483647) a0) (hf_0 : R (4) (924) (τ 131 2)) : Cv l G yX12_four cX12_four 3 0 0 [.ref (G.2.2.2.1 131), .int a0] τ (po_X12_four_1 τ  a0  ) := by
  unfold Cv
  refine C_of (own := RX12) (by decide) rfl (Nat.le_of_ble_eq_true rfl) ?_
  intro p e s m below meth c ls S hr hlk X hl
  have hl : lv_has ls 3 [(0, .ref (G.2.2.2.1 131)), (1, .int a0)] := hl
  obtain ⟨v1, z2⟩ : ∃ x, τ 131 2 = x := ⟨_, rfl⟩
  rw [z2] at hf_0
  refine r_bipush S dX12_four_0 (by decide) (fun v3 z4 => ?_)
  have r5 := R_eq z4
  refine r_istore_n (lv' := [(2, .int v3), (0, .ref (G.2.2.2.1 131)), (1, .int a0)]) S dX12_four_2 rfl hl (by decide) rfl (fun ls hl => ?_)
  refine r_iload_n S dX12_four_3 rfl (lv_at hl 0 rfl) ?_
  refine r_if_lt (tgt := 36) S dX12_four_4 (by decide) (fun c6 => ?_) (fun c6 => ?_)
  ·
    exfalso; omega
  ·
    refine r_aload_n S dX12_four_7 rfl (lv_at hl 1 rfl) ?_
    refine r_get (K := 38) (v := .ref (G.2.2.2.1 132)) S X (Nat.le_of_ble_eq_true rfl) rfl lk12_14_10 (fun _ => ⟨_, rfl, rfl⟩) dX12_four_8 ?_
    refine r_aload_n S dX12_four_11 rfl (lv_at hl 1 rfl) ?_
    refine r_geti (K := 38) S X (Nat.le_of_ble_eq_true rfl) rfl lk12_7_10 (fun _ => ⟨_, rfl, rfl⟩) z2 dX12_four_12 ?_
    refine r_iload_n S dX12_four_15 rfl (lv_at hl 2 rfl) ?_
    refine r_iload_n S dX12_four_16 rfl (lv_at hl 0 rfl) ?_
    refine r_ishr S dX12_four_17 (fun v7 z8 => ?_)
    have r9 := R_any v7
    refine r_i2b S dX12_four_18 (fun v10 r11 => ?_)
    refine r_bast (n := 940) (K := 39) S X (Nat.le_of_ble_eq_true rfl) rfl (fun _ _ => rfl) (ix_of hf_0 rfl) (R_of (lo := -128) (hi := 127) r11 rfl) dX12_four_19 (fun t12 H lc M13 X14 => ?_)
    have I15 := Inv_mu hI M13 (show Rg (kd 132) _ v10 from (R_of (lo := -128) (hi := 127) r11 rfl))
    have F16 : Fr [(131, 2)] [132] τ t12 := Fr_cell Fr_rfl M13 (by decide)
    refine r_aload_n S dX12_four_20 rfl (lv_at hl 1 rfl) ?_
    refine r_dup S dX12_four_21 rfl ?_
    refine r_geti (K := 38) S X14 (Nat.le_of_ble_eq_true rfl) rfl lk12_7_10 (fun _ => ⟨_, rfl, rfl⟩) ((M13.2 131 2 (Or.inl (by decide))).trans z2) dX12_four_22 ?_
    refine r_iconst S dX12_four_25 (by decide) (fun v17 z18 => ?_)
    have r19 := R_eq z18
    refine r_iadd S dX12_four_26 (fun v20 z21 => ?_)
    obtain ⟨e22, r23⟩ := i_add (lo := 5) (hi := 925) z21 hf_0 r19 rfl
    refine r_put (K := 38) (ty := .int) S X14 (Nat.le_of_ble_eq_true rfl) rfl lk12_7_10 (fun _ => ⟨_, rfl, Nat.le_of_ble_eq_true rfl, rfl⟩) (fun _ _ _ h => by cases h; exact ⟨rfl, rfl⟩) rfl rfl dX12_four_27 (fun t24 H lc M25 X26 => ?_)
    have I27 := Inv_mu I15 M25 (show Rg (kd 131) 2 v20 from (R_of (lo := 0) (hi := 940) r23 rfl))
    have F28 : Fr [(131, 2)] [132] τ t24 := Fr_mu F16 M25 (by decide)
    refine r_iinc (k := 0) S dX12_four_30 hl rfl (by decide) (by decide) (fun v29 d30 ls z31 z32 hl => ?_)
    obtain ⟨e33, r34⟩ := i_add (lo := 16) (hi := 16) z31 r5 (R_eq z32) rfl
    have hl : lv_has ls 3 [(2, .int v29), (0, .ref (G.2.2.2.1 131)), (1, .int a0)] := hl
    refine r_goto (tgt := 3) S dX12_four_33 (by decide) ?_
    refine r_iload_n S dX12_four_3 rfl (lv_at hl 0 rfl) ?_
    refine r_if_lt (tgt := 36) S dX12_four_4 (by decide) (fun c35 => ?_) (fun c35 => ?_)
    ·
      exfalso; omega
    ·
      refine r_aload_n S dX12_four_7 rfl (lv_at hl 1 rfl) ?_
      refine r_get (K := 38) (v := .ref (G.2.2.2.1 132)) S X26 (Nat.le_of_ble_eq_true rfl) rfl lk12_14_10 (fun _ => ⟨_, rfl, rfl⟩) dX12_four_8 ?_
      refine r_aload_n S dX12_four_11 rfl (lv_at hl 1 rfl) ?_
      refine r_geti (K := 38) S X26 (Nat.le_of_ble_eq_true rfl) rfl lk12_7_10 (fun _ => ⟨_, rfl, rfl⟩) M25.1 dX12_four_12 ?_
      refine r_iload_n S dX12_four_15 rfl (lv_at hl 2 rfl) ?_
      refine r_iload_n S dX12_four_16 rfl (lv_at hl 0 rfl) ?_
      refine r_ishr S dX12_four_17 (fun v36 z37 => ?_)
      have r38 := R_any v36
      refine r_i2b S dX12_four_18 (fun v39 r40 => ?_)
      refine r_bast (n := 940) (K := 39) S X26 (Nat.le_of_ble_eq_true rfl) rfl (fun _ _ => rfl) (ix_of r23 rfl) (R_of (lo := -128) (hi := 127) r40 rfl) dX12_four_19 (fun t41 H lc M42 X43 => ?_)
      have I44 := Inv_mu I27 M42 (show Rg (kd 132) _ v39 from (R_of (lo := -128) (hi := 127) r40 rfl))
      have F45 : Fr [(131, 2)] [132] τ t41 := Fr_cell F28 M42 (by decide)
      refine r_aload_n S dX12_four_20 rfl (lv_at hl 1 rfl) ?_
      refine r_dup S dX12_four_21 rfl ?_
      refine r_geti (K := 38) S X43 (Nat.le_of_ble_eq_true rfl) rfl lk12_7_10 (fun _ => ⟨_, rfl, rfl⟩) ((M42.2 131 2 (Or.inl (by decide))).trans M25.1) dX12_four_22 ?_
      refine r_iconst S dX12_four_25 (by decide) (fun v46 z47 => ?_)
      have r48 := R_eq z47
      refine r_iadd S dX12_four_26 (fun v49 z50 => ?_)
      obtain ⟨e51, r52⟩ := i_add (lo := 6) (hi := 926) z50 r23 r48 rfl
      refine r_put (K := 38) (ty := .int) S X43 (Nat.le_of_ble_eq_true rfl) rfl lk12_7_10 (fun _ => ⟨_, rfl, Nat.le_of_ble_eq_true rfl, rfl⟩) (fun _ _ _ h => by cases h; exact ⟨rfl, rfl⟩) rfl rfl dX12_four_27 (fun t53 H lc M54 X55 => ?_)
      have I56 := Inv_mu I44 M54 (show Rg (kd 131) 2 v49 from (R_of (lo := 0) (hi := 940) r52 rfl))
      have F57 : Fr [(131, 2)] [132] τ t53 := Fr_mu F45 M54 (by decide)
      refine r_iinc (k := 0) S dX12_four_30 hl rfl (by decide) (by decide) (fun v58 d59 ls z60 z61 hl => ?_)
      obtain ⟨e62, r63⟩ := i_add (lo := 8) (hi := 8) z60 r34 (R_eq z61) rfl
      have hl : lv_has ls 3 [(2, .int v58), (0, .ref (G.2.2.2.1 131)), (1, .int a0)] := hl
      refine r_goto (tgt := 3) S dX12_four_33 (by decide) ?_
      refine r_iload_n S dX12_four_3 rfl (lv_at hl 0 rfl) ?_
      refine r_if_lt (tgt := 36) S dX12_four_4 (by decide) (fun c64 => ?_) (fun c64 => ?_)
      ·
        exfalso; omega
      ·
        refine r_aload_n S dX12_four_7 rfl (lv_at hl 1 rfl) ?_
        refine r_get (K := 38) (v := .ref (G.2.2.2.1 132)) S X55 (Nat.le_of_ble_eq_true rfl) rfl lk12_14_10 (fun _ => ⟨_, rfl, rfl⟩) dX12_four_8 ?_
        refine r_aload_n S dX12_four_11 rfl (lv_at hl 1 rfl) ?_
        refine r_geti (K := 38) S X55 (Nat.le_of_ble_eq_true rfl) rfl lk12_7_10 (fun _ => ⟨_, rfl, rfl⟩) M54.1 dX12_four_12 ?_
        refine r_iload_n S dX12_four_15 rfl (lv_at hl 2 rfl) ?_
        refine r_iload_n S dX12_four_16 rfl (lv_at hl 0 rfl) ?_
        refine r_ishr S dX12_four_17 (fun v65 z66 => ?_)
        have r67 := R_any v65
        refine r_i2b S dX12_four_18 (fun v68 r69 => ?_)
        refine r_bast (n := 940) (K := 39) S X55 (Nat.le_of_ble_eq_true rfl) rfl (fun _ _ => rfl) (ix_of r52 rfl) (R_of (lo := -128) (hi := 127) r69 rfl) dX12_four_19 (fun t70 H lc M71 X72 => ?_)
        have I73 := Inv_mu I56 M71 (show Rg (kd 132) _ v68 from (R_of (lo := -128) (hi := 127) r69 rfl))
        have F74 : Fr [(131, 2)] [132] τ t70 := Fr_cell F57 M71 (by decide)
        refine r_aload_n S dX12_four_20 rfl (lv_at hl 1 rfl) ?_
        refine r_dup S dX12_four_21 rfl ?_
        refine r_geti (K := 38) S X72 (Nat.le_of_ble_eq_true rfl) rfl lk12_7_10 (fun _ => ⟨_, rfl, rfl⟩) ((M71.2 131 2 (Or.inl (by decide))).trans M54.1) dX12_four_22 ?_
        refine r_iconst S dX12_four_25 (by decide) (fun v75 z76 => ?_)
        have r77 := R_eq z76
        refine r_iadd S dX12_four_26 (fun v78 z79 => ?_)
        obtain ⟨e80, r81⟩ := i_add (lo := 7) (hi := 927) z79 r52 r77 rfl
        refine r_put (K := 38) (ty := .int) S X72 (Nat.le_of_ble_eq_true rfl) rfl lk12_7_10 (fun _ => ⟨_, rfl, Nat.le_of_ble_eq_true rfl, rfl⟩) (fun _ _ _ h => by cases h; exact ⟨rfl, rfl⟩) rfl rfl dX12_four_27 (fun t82 H lc M83 X84 => ?_)
        have I85 := Inv_mu I73 M83 (show Rg (kd 131) 2 v78 from (R_of (lo := 0) (hi := 940) r81 rfl))
        have F86 : Fr [(131, 2)] [132] τ t82 := Fr_mu F74 M83 (by decide)
        refine r_iinc (k := 0) S dX12_four_30 hl rfl (by decide) (by decide) (fun v87 d88 ls z89 z90 hl => ?_)
        obtain ⟨e91, r92⟩ := i_add (lo := 0) (hi := 0) z89 r63 (R_eq z90) rfl
        have hl : lv_has ls 3 [(2, .int v87), (0, .ref (G.2.2.2.1 131)), (1, .int a0)] := hl
        refine r_goto (tgt := 3) S dX12_four_33 (by decide) ?_
        refine r_iload_n S dX12_four_3 rfl (lv_at hl 0 rfl) ?_
        refine r_if_lt (tgt := 36) S dX12_four_4 (by decide) (fun c93 => ?_) (fun c93 => ?_)
        ·
          exfalso; omega
        ·
          refine r_aload_n S dX12_four_7 rfl (lv_at hl 1 rfl) ?_
          refine r_get (K := 38) (v := .ref (G.2.2.2.1 132)) S X84 (Nat.le_of_ble_eq_true rfl) rfl lk12_14_10 (fun _ => ⟨_, rfl, rfl⟩) dX12_four_8 ?_
          refine r_aload_n S dX12_four_11 rfl (lv_at hl 1 rfl) ?_
          refine r_geti (K := 38) S X84 (Nat.le_of_ble_eq_true rfl) rfl lk12_7_10 (fun _ => ⟨_, rfl, rfl⟩) M83.1 dX12_four_12 ?_
          refine r_iload_n S dX12_four_15 rfl (lv_at hl 2 rfl) ?_
          refine r_iload_n S dX12_four_16 rfl (lv_at hl 0 rfl) ?_
          refine r_ishr S dX12_four_17 (fun v94 z95 => ?_)
          have r96 := R_any v94
          refine r_i2b S dX12_four_18 (fun v97 r98 => ?_)
          refine r_bast (n := 940) (K := 39) S X84 (Nat.le_of_ble_eq_true rfl) rfl (fun _ _ => rfl) (ix_of r81 rfl) (R_of (lo := -128) (hi := 127) r98 rfl) dX12_four_19 (fun t99 H lc M100 X101 => ?_)
          have I102 := Inv_mu I85 M100 (show Rg (kd 132) _ v97 from (R_of (lo := -128) (hi := 127) r98 rfl))
          have F103 : Fr [(131, 2)] [132] τ t99 := Fr_cell F86 M100 (by decide)
          refine r_aload_n S dX12_four_20 rfl (lv_at hl 1 rfl) ?_
          refine r_dup S dX12_four_21 rfl ?_
          refine r_geti (K := 38) S X101 (Nat.le_of_ble_eq_true rfl) rfl lk12_7_10 (fun _ => ⟨_, rfl, rfl⟩) ((M100.2 131 2 (Or.inl (by decide))).trans M83.1) dX12_four_22 ?_
          refine r_iconst S dX12_four_25 (by decide) (fun v104 z105 => ?_)
          have r106 := R_eq z105
          refine r_iadd S dX12_four_26 (fun v107 z108 => ?_)
          obtain ⟨e109, r110⟩ := i_add (lo := 8) (hi := 928) z108 r81 r106 rfl
          refine r_put (K := 38) (ty := .int) S X101 (Nat.le_of_ble_eq_true rfl) rfl lk12_7_10 (fun _ => ⟨_, rfl, Nat.le_of_ble_eq_true rfl, rfl⟩) (fun _ _ _ h => by cases h; exact ⟨rfl, rfl⟩) rfl rfl dX12_four_27 (fun t111 H lc M112 X113 => ?_)
          have I114 := Inv_mu I102 M112 (show Rg (kd 131) 2 v107 from (R_of (lo := 0) (hi := 940) r110 rfl))
          have F115 : Fr [(131, 2)] [132] τ t111 := Fr_mu F103 M112 (by decide)
          refine r_iinc (k := 0) S dX12_four_30 hl rfl (by decide) (by decide) (fun v116 d117 ls z118 z119 hl => ?_)
          obtain ⟨e120, r121⟩ := i_add (lo := -8) (hi := -8) z118 r92 (R_eq z119) rfl
          have hl : lv_has ls 3 [(2, .int v116), (0, .ref (G.2.2.2.1 131)), (1, .int a0)] := hl
          refine r_goto (tgt := 3) S dX12_four_33 (by decide) ?_
          refine r_iload_n S dX12_four_3 rfl (lv_at hl 0 rfl) ?_
          refine r_if_lt (tgt := 36) S dX12_four_4 (by decide) (fun c122 => ?_) (fun c122 => ?_)
          ·
            exact r_vret S hr hlk X113 ⟨I114, F115, (by rw [M112.1]; exact R_of r110 rfl), (by have h1_0 := congrArg Int32.toInt M112.1; have h2_0 := congrArg Int32.toInt z2; omega)⟩ dX12_four_36
          ·
            exfalso; omega
def po_X12_four_2 (τ : Tau)  (a0 : Int32)   (u : Tau) : Prop := Inv u ∧ Fr [(131, 2)] [132] τ u ∧ R (12) (932) (u 131 2) ∧ (u 131 2).toInt = (τ 131 2).toInt + 4
set_option maxHeartbeats 4000000 in
set_option maxRecDepth 100000 in
theorem c_X12_four_2 (l : Launch) (G : Gx) (τ : Tau) (hI : Inv τ) (a0 : Int32) (h_a0 : R (-2147483648) (2147483647) a0) (hf_0 : R (8) (928) (τ 131 2)) : Cv l G yX12_four cX12_four 3 0 0 [.ref (G.2.2.2.1 131), .int a0] τ (po_X12_four_2 τ  a0  ) := by
  unfold Cv
  refine C_of (own := RX12) (by decide) rfl (Nat.le_of_ble_eq_true rfl) ?_
  intro p e s m below meth c ls S hr hlk X hl
  have hl : lv_has ls 3 [(0, .ref (G.2.2.2.1 131)), (1, .int a0)] := hl
  obtain ⟨v1, z2⟩ : ∃ x, τ 131 2 = x := ⟨_, rfl⟩
  rw [z2] at hf_0
  refine r_bipush S dX12_four_0 (by decide) (fun v3 z4 => ?_)
  have r5 := R_eq z4
  refine r_istore_n (lv' := [(2, .int v3), (0, .ref (G.2.2.2.1 131)), (1, .int a0)]) S dX12_four_2 rfl hl (by decide) rfl (fun ls hl => ?_)
  refine r_iload_n S dX12_four_3 rfl (lv_at hl 0 rfl) ?_
  refine r_if_lt (tgt := 36) S dX12_four_4 (by decide) (fun c6 => ?_) (fun c6 => ?_)
  ·
    exfalso; omega
  ·
    refine r_aload_n S dX12_four_7 rfl (lv_at hl 1 rfl) ?_
    refine r_get (K := 38) (v := .ref (G.2.2.2.1 132)) S X (Nat.le_of_ble_eq_true rfl) rfl lk12_14_10 (fun _ => ⟨_, rfl, rfl⟩) dX12_four_8 ?_
    refine r_aload_n S dX12_four_11 rfl (lv_at hl 1 rfl) ?_
    refine r_geti (K := 38) S X (Nat.le_of_ble_eq_true rfl) rfl lk12_7_10 (fun _ => ⟨_, rfl, rfl⟩) z2 dX12_four_12 ?_
    refine r_iload_n S dX12_four_15 rfl (lv_at hl 2 rfl) ?_
    refine r_iload_n S dX12_four_16 rfl (lv_at hl 0 rfl) ?_
    refine r_ishr S dX12_four_17 (fun v7 z8 => ?_)
    have r9 := R_any v7
    refine r_i2b S dX12_four_18 (fun v10 r11 => ?_)
    refine r_bast (n := 940) (K := 39) S X (Nat.le_of_ble_eq_true rfl) rfl (fun _ _ => rfl) (ix_of hf_0 rfl) (R_of (lo := -128) (hi := 127) r11 rfl) dX12_four_19 (fun t12 H lc M13 X14 => ?_)
    have I15 := Inv_mu hI M13 (show Rg (kd 132) _ v10 from (R_of (lo := -128) (hi := 127) r11 rfl))
    have F16 : Fr [(131, 2)] [132] τ t12 := Fr_cell Fr_rfl M13 (by decide)
    refine r_aload_n S dX12_four_20 rfl (lv_at hl 1 rfl) ?_
    refine r_dup S dX12_four_21 rfl ?_
    refine r_geti (K := 38) S X14 (Nat.le_of_ble_eq_true rfl) rfl lk12_7_10 (fun _ => ⟨_, rfl, rfl⟩) ((M13.2 131 2 (Or.inl (by decide))).trans z2) dX12_four_22 ?_
    refine r_iconst S dX12_four_25 (by decide) (fun v17 z18 => ?_)
    have r19 := R_eq z18
    refine r_iadd S dX12_four_26 (fun v20 z21 => ?_)
    obtain ⟨e22, r23⟩ := i_add (lo := 9) (hi := 929) z21 hf_0 r19 rfl
    refine r_put (K := 38) (ty := .int) S X14 (Nat.le_of_ble_eq_true rfl) rfl lk12_7_10 (fun _ => ⟨_, rfl, Nat.le_of_ble_eq_true rfl, rfl⟩) (fun _ _ _ h => by cases h; exact ⟨rfl, rfl⟩) rfl rfl dX12_four_27 (fun t24 H lc M25 X26 => ?_)
    have I27 := Inv_mu I15 M25 (show Rg (kd 131) 2 v20 from (R_of (lo := 0) (hi := 940) r23 rfl))
    have F28 : Fr [(131, 2)] [132] τ t24 := Fr_mu F16 M25 (by decide)
    refine r_iinc (k := 0) S dX12_four_30 hl rfl (by decide) (by decide) (fun v29 d30 ls z31 z32 hl => ?_)
    obtain ⟨e33, r34⟩ := i_add (lo := 16) (hi := 16) z31 r5 (R_eq z32) rfl
    have hl : lv_has ls 3 [(2, .int v29), (0, .ref (G.2.2.2.1 131)), (1, .int a0)] := hl
    refine r_goto (tgt := 3) S dX12_four_33 (by decide) ?_
    refine r_iload_n S dX12_four_3 rfl (lv_at hl 0 rfl) ?_
    refine r_if_lt (tgt := 36) S dX12_four_4 (by decide) (fun c35 => ?_) (fun c35 => ?_)
    ·
      exfalso; omega
    ·
      refine r_aload_n S dX12_four_7 rfl (lv_at hl 1 rfl) ?_
      refine r_get (K := 38) (v := .ref (G.2.2.2.1 132)) S X26 (Nat.le_of_ble_eq_true rfl) rfl lk12_14_10 (fun _ => ⟨_, rfl, rfl⟩) dX12_four_8 ?_
      refine r_aload_n S dX12_four_11 rfl (lv_at hl 1 rfl) ?_
      refine r_geti (K := 38) S X26 (Nat.le_of_ble_eq_true rfl) rfl lk12_7_10 (fun _ => ⟨_, rfl, rfl⟩) M25.1 dX12_four_12 ?_
      refine r_iload_n S dX12_four_15 rfl (lv_at hl 2 rfl) ?_
      refine r_iload_n S dX12_four_16 rfl (lv_at hl 0 rfl) ?_
      refine r_ishr S dX12_four_17 (fun v36 z37 => ?_)
      have r38 := R_any v36
      refine r_i2b S dX12_four_18 (fun v39 r40 => ?_)
      refine r_bast (n := 940) (K := 39) S X26 (Nat.le_of_ble_eq_true rfl) rfl (fun _ _ => rfl) (ix_of r23 rfl) (R_of (lo := -128) (hi := 127) r40 rfl) dX12_four_19 (fun t41 H lc M42 X43 => ?_)
      have I44 := Inv_mu I27 M42 (show Rg (kd 132) _ v39 from (R_of (lo := -128) (hi := 127) r40 rfl))
      have F45 : Fr [(131, 2)] [132] τ t41 := Fr_cell F28 M42 (by decide)
      refine r_aload_n S dX12_four_20 rfl (lv_at hl 1 rfl) ?_
      refine r_dup S dX12_four_21 rfl ?_
      refine r_geti (K := 38) S X43 (Nat.le_of_ble_eq_true rfl) rfl lk12_7_10 (fun _ => ⟨_, rfl, rfl⟩) ((M42.2 131 2 (Or.inl (by decide))).trans M25.1) dX12_four_22 ?_
      refine r_iconst S dX12_four_25 (by decide) (fun v46 z47 => ?_)
      have r48 := R_eq z47
      refine r_iadd S dX12_four_26 (fun v49 z50 => ?_)
      obtain ⟨e51, r52⟩ := i_add (lo := 10) (hi := 930) z50 r23 r48 rfl
      refine r_put (K := 38) (ty := .int) S X43 (Nat.le_of_ble_eq_true rfl) rfl lk12_7_10 (fun _ => ⟨_, rfl, Nat.le_of_ble_eq_true rfl, rfl⟩) (fun _ _ _ h => by cases h; exact ⟨rfl, rfl⟩) rfl rfl dX12_four_27 (fun t53 H lc M54 X55 => ?_)
      have I56 := Inv_mu I44 M54 (show Rg (kd 131) 2 v49 from (R_of (lo := 0) (hi := 940) r52 rfl))
      have F57 : Fr [(131, 2)] [132] τ t53 := Fr_mu F45 M54 (by decide)
      refine r_iinc (k := 0) S dX12_four_30 hl rfl (by decide) (by decide) (fun v58 d59 ls z60 z61 hl => ?_)
      obtain ⟨e62, r63⟩ := i_add (lo := 8) (hi := 8) z60 r34 (R_eq z61) rfl
      have hl : lv_has ls 3 [(2, .int v58), (0, .ref (G.2.2.2.1 131)), (1, .int a0)] := hl
      refine r_goto (tgt := 3) S dX12_four_33 (by decide) ?_
      refine r_iload_n S dX12_four_3 rfl (lv_at hl 0 rfl) ?_
      refine r_if_lt (tgt := 36) S dX12_four_4 (by decide) (fun c64 => ?_) (fun c64 => ?_)
      ·
        exfalso; omega
      ·
        refine r_aload_n S dX12_four_7 rfl (lv_at hl 1 rfl) ?_
        refine r_get (K := 38) (v := .ref (G.2.2.2.1 132)) S X55 (Nat.le_of_ble_eq_true rfl) rfl lk12_14_10 (fun _ => ⟨_, rfl, rfl⟩) dX12_four_8 ?_
        refine r_aload_n S dX12_four_11 rfl (lv_at hl 1 rfl) ?_
        refine r_geti (K := 38) S X55 (Nat.le_of_ble_eq_true rfl) rfl lk12_7_10 (fun _ => ⟨_, rfl, rfl⟩) M54.1 dX12_four_12 ?_
        refine r_iload_n S dX12_four_15 rfl (lv_at hl 2 rfl) ?_
        refine r_iload_n S dX12_four_16 rfl (lv_at hl 0 rfl) ?_
        refine r_ishr S dX12_four_17 (fun v65 z66 => ?_)
        have r67 := R_any v65
        refine r_i2b S dX12_four_18 (fun v68 r69 => ?_)
        refine r_bast (n := 940) (K := 39) S X55 (Nat.le_of_ble_eq_true rfl) rfl (fun _ _ => rfl) (ix_of r52 rfl) (R_of (lo := -128) (hi := 127) r69 rfl) dX12_four_19 (fun t70 H lc M71 X72 => ?_)
        have I73 := Inv_mu I56 M71 (show Rg (kd 132) _ v68 from (R_of (lo := -128) (hi := 127) r69 rfl))
        have F74 : Fr [(131, 2)] [132] τ t70 := Fr_cell F57 M71 (by decide)
        refine r_aload_n S dX12_four_20 rfl (lv_at hl 1 rfl) ?_
        refine r_dup S dX12_four_21 rfl ?_
        refine r_geti (K := 38) S X72 (Nat.le_of_ble_eq_true rfl) rfl lk12_7_10 (fun _ => ⟨_, rfl, rfl⟩) ((M71.2 131 2 (Or.inl (by decide))).trans M54.1) dX12_four_22 ?_
        refine r_iconst S dX12_four_25 (by decide) (fun v75 z76 => ?_)
        have r77 := R_eq z76
        refine r_iadd S dX12_four_26 (fun v78 z79 => ?_)
        obtain ⟨e80, r81⟩ := i_add (lo := 11) (hi := 931) z79 r52 r77 rfl
        refine r_put (K := 38) (ty := .int) S X72 (Nat.le_of_ble_eq_true rfl) rfl lk12_7_10 (fun _ => ⟨_, rfl, Nat.le_of_ble_eq_true rfl, rfl⟩) (fun _ _ _ h => by cases h; exact ⟨rfl, rfl⟩) rfl rfl dX12_four_27 (fun t82 H lc M83 X84 => ?_)
        have I85 := Inv_mu I73 M83 (show Rg (kd 131) 2 v78 from (R_of (lo := 0) (hi := 940) r81 rfl))
        have F86 : Fr [(131, 2)] [132] τ t82 := Fr_mu F74 M83 (by decide)
        refine r_iinc (k := 0) S dX12_four_30 hl rfl (by decide) (by decide) (fun v87 d88 ls z89 z90 hl => ?_)
        obtain ⟨e91, r92⟩ := i_add (lo := 0) (hi := 0) z89 r63 (R_eq z90) rfl
        have hl : lv_has ls 3 [(2, .int v87), (0, .ref (G.2.2.2.1 131)), (1, .int a0)] := hl
        refine r_goto (tgt := 3) S dX12_four_33 (by decide) ?_
        refine r_iload_n S dX12_four_3 rfl (lv_at hl 0 rfl) ?_
        refine r_if_lt (tgt := 36) S dX12_four_4 (by decide) (fun c93 => ?_) (fun c93 => ?_)
        ·
          exfalso; omega
        ·
          refine r_aload_n S dX12_four_7 rfl (lv_at hl 1 rfl) ?_
          refine r_get (K := 38) (v := .ref (G.2.2.2.1 132)) S X84 (Nat.le_of_ble_eq_true rfl) rfl lk12_14_10 (fun _ => ⟨_, rfl, rfl⟩) dX12_four_8 ?_
          refine r_aload_n S dX12_four_11 rfl (lv_at hl 1 rfl) ?_
          refine r_geti (K := 38) S X84 (Nat.le_of_ble_eq_true rfl) rfl lk12_7_10 (fun _ => ⟨_, rfl, rfl⟩) M83.1 dX12_four_12 ?_
          refine r_iload_n S dX12_four_15 rfl (lv_at hl 2 rfl) ?_
          refine r_iload_n S dX12_four_16 rfl (lv_at hl 0 rfl) ?_
          refine r_ishr S dX12_four_17 (fun v94 z95 => ?_)
          have r96 := R_any v94
          refine r_i2b S dX12_four_18 (fun v97 r98 => ?_)
          refine r_bast (n := 940) (K := 39) S X84 (Nat.le_of_ble_eq_true rfl) rfl (fun _ _ => rfl) (ix_of r81 rfl) (R_of (lo := -128) (hi := 127) r98 rfl) dX12_four_19 (fun t99 H lc M100 X101 => ?_)
          have I102 := Inv_mu I85 M100 (show Rg (kd 132) _ v97 from (R_of (lo := -128) (hi := 127) r98 rfl))
          have F103 : Fr [(131, 2)] [132] τ t99 := Fr_cell F86 M100 (by decide)
          refine r_aload_n S dX12_four_20 rfl (lv_at hl 1 rfl) ?_
          refine r_dup S dX12_four_21 rfl ?_
          refine r_geti (K := 38) S X101 (Nat.le_of_ble_eq_true rfl) rfl lk12_7_10 (fun _ => ⟨_, rfl, rfl⟩) ((M100.2 131 2 (Or.inl (by decide))).trans M83.1) dX12_four_22 ?_
          refine r_iconst S dX12_four_25 (by decide) (fun v104 z105 => ?_)
          have r106 := R_eq z105
          refine r_iadd S dX12_four_26 (fun v107 z108 => ?_)
          obtain ⟨e109, r110⟩ := i_add (lo := 12) (hi := 932) z108 r81 r106 rfl
          refine r_put (K := 38) (ty := .int) S X101 (Nat.le_of_ble_eq_true rfl) rfl lk12_7_10 (fun _ => ⟨_, rfl, Nat.le_of_ble_eq_true rfl, rfl⟩) (fun _ _ _ h => by cases h; exact ⟨rfl, rfl⟩) rfl rfl dX12_four_27 (fun t111 H lc M112 X113 => ?_)
          have I114 := Inv_mu I102 M112 (show Rg (kd 131) 2 v107 from (R_of (lo := 0) (hi := 940) r110 rfl))
          have F115 : Fr [(131, 2)] [132] τ t111 := Fr_mu F103 M112 (by decide)
          refine r_iinc (k := 0) S dX12_four_30 hl rfl (by decide) (by decide) (fun v116 d117 ls z118 z119 hl => ?_)
          obtain ⟨e120, r121⟩ := i_add (lo := -8) (hi := -8) z118 r92 (R_eq z119) rfl
          have hl : lv_has ls 3 [(2, .int v116), (0, .ref (G.2.2.2.1 131)), (1, .int a0)] := hl
          refine r_goto (tgt := 3) S dX12_four_33 (by decide) ?_
          refine r_iload_n S dX12_four_3 rfl (lv_at hl 0 rfl) ?_
          refine r_if_lt (tgt := 36) S dX12_four_4 (by decide) (fun c122 => ?_) (fun c122 => ?_)
          ·
            exact r_vret S hr hlk X113 ⟨I114, F115, (by rw [M112.1]; exact R_of r110 rfl), (by have h1_0 := congrArg Int32.toInt M112.1; have h2_0 := congrArg Int32.toInt z2; omega)⟩ dX12_four_36
          ·
            exfalso; omega
def po_X12_four_3 (τ : Tau)  (a0 : Int32)   (u : Tau) : Prop := Inv u ∧ Fr [(131, 2)] [132] τ u ∧ R (16) (936) (u 131 2) ∧ (u 131 2).toInt = (τ 131 2).toInt + 4
set_option maxHeartbeats 4000000 in
set_option maxRecDepth 100000 in
theorem c_X12_four_3 (l : Launch) (G : Gx) (τ : Tau) (hI : Inv τ) (a0 : Int32) (h_a0 : R (-2147483648) (2147483647) a0) (hf_0 : R (12) (932) (τ 131 2)) : Cv l G yX12_four cX12_four 3 0 0 [.ref (G.2.2.2.1 131), .int a0] τ (po_X12_four_3 τ  a0  ) := by
  unfold Cv
  refine C_of (own := RX12) (by decide) rfl (Nat.le_of_ble_eq_true rfl) ?_
  intro p e s m below meth c ls S hr hlk X hl
  have hl : lv_has ls 3 [(0, .ref (G.2.2.2.1 131)), (1, .int a0)] := hl
  obtain ⟨v1, z2⟩ : ∃ x, τ 131 2 = x := ⟨_, rfl⟩
  rw [z2] at hf_0
  refine r_bipush S dX12_four_0 (by decide) (fun v3 z4 => ?_)
  have r5 := R_eq z4
  refine r_istore_n (lv' := [(2, .int v3), (0, .ref (G.2.2.2.1 131)), (1, .int a0)]) S dX12_four_2 rfl hl (by decide) rfl (fun ls hl => ?_)
  refine r_iload_n S dX12_four_3 rfl (lv_at hl 0 rfl) ?_
  refine r_if_lt (tgt := 36) S dX12_four_4 (by decide) (fun c6 => ?_) (fun c6 => ?_)
  ·
    exfalso; omega
  ·
    refine r_aload_n S dX12_four_7 rfl (lv_at hl 1 rfl) ?_
    refine r_get (K := 38) (v := .ref (G.2.2.2.1 132)) S X (Nat.le_of_ble_eq_true rfl) rfl lk12_14_10 (fun _ => ⟨_, rfl, rfl⟩) dX12_four_8 ?_
    refine r_aload_n S dX12_four_11 rfl (lv_at hl 1 rfl) ?_
    refine r_geti (K := 38) S X (Nat.le_of_ble_eq_true rfl) rfl lk12_7_10 (fun _ => ⟨_, rfl, rfl⟩) z2 dX12_four_12 ?_
    refine r_iload_n S dX12_four_15 rfl (lv_at hl 2 rfl) ?_
    refine r_iload_n S dX12_four_16 rfl (lv_at hl 0 rfl) ?_
    refine r_ishr S dX12_four_17 (fun v7 z8 => ?_)
    have r9 := R_any v7
    refine r_i2b S dX12_four_18 (fun v10 r11 => ?_)
    refine r_bast (n := 940) (K := 39) S X (Nat.le_of_ble_eq_true rfl) rfl (fun _ _ => rfl) (ix_of hf_0 rfl) (R_of (lo := -128) (hi := 127) r11 rfl) dX12_four_19 (fun t12 H lc M13 X14 => ?_)
    have I15 := Inv_mu hI M13 (show Rg (kd 132) _ v10 from (R_of (lo := -128) (hi := 127) r11 rfl))
    have F16 : Fr [(131, 2)] [132] τ t12 := Fr_cell Fr_rfl M13 (by decide)
    refine r_aload_n S dX12_four_20 rfl (lv_at hl 1 rfl) ?_
    refine r_dup S dX12_four_21 rfl ?_
    refine r_geti (K := 38) S X14 (Nat.le_of_ble_eq_true rfl) rfl lk12_7_10 (fun _ => ⟨_, rfl, rfl⟩) ((M13.2 131 2 (Or.inl (by decide))).trans z2) dX12_four_22 ?_
    refine r_iconst S dX12_four_25 (by decide) (fun v17 z18 => ?_)
    have r19 := R_eq z18
    refine r_iadd S dX12_four_26 (fun v20 z21 => ?_)
    obtain ⟨e22, r23⟩ := i_add (lo := 13) (hi := 933) z21 hf_0 r19 rfl
    refine r_put (K := 38) (ty := .int) S X14 (Nat.le_of_ble_eq_true rfl) rfl lk12_7_10 (fun _ => ⟨_, rfl, Nat.le_of_ble_eq_true rfl, rfl⟩) (fun _ _ _ h => by cases h; exact ⟨rfl, rfl⟩) rfl rfl dX12_four_27 (fun t24 H lc M25 X26 => ?_)
    have I27 := Inv_mu I15 M25 (show Rg (kd 131) 2 v20 from (R_of (lo := 0) (hi := 940) r23 rfl))
    have F28 : Fr [(131, 2)] [132] τ t24 := Fr_mu F16 M25 (by decide)
    refine r_iinc (k := 0) S dX12_four_30 hl rfl (by decide) (by decide) (fun v29 d30 ls z31 z32 hl => ?_)
    obtain ⟨e33, r34⟩ := i_add (lo := 16) (hi := 16) z31 r5 (R_eq z32) rfl
    have hl : lv_has ls 3 [(2, .int v29), (0, .ref (G.2.2.2.1 131)), (1, .int a0)] := hl
    refine r_goto (tgt := 3) S dX12_four_33 (by decide) ?_
    refine r_iload_n S dX12_four_3 rfl (lv_at hl 0 rfl) ?_
    refine r_if_lt (tgt := 36) S dX12_four_4 (by decide) (fun c35 => ?_) (fun c35 => ?_)
    ·
      exfalso; omega
    ·
      refine r_aload_n S dX12_four_7 rfl (lv_at hl 1 rfl) ?_
      refine r_get (K := 38) (v := .ref (G.2.2.2.1 132)) S X26 (Nat.le_of_ble_eq_true rfl) rfl lk12_14_10 (fun _ => ⟨_, rfl, rfl⟩) dX12_four_8 ?_
      refine r_aload_n S dX12_four_11 rfl (lv_at hl 1 rfl) ?_
      refine r_geti (K := 38) S X26 (Nat.le_of_ble_eq_true rfl) rfl lk12_7_10 (fun _ => ⟨_, rfl, rfl⟩) M25.1 dX12_four_12 ?_
      refine r_iload_n S dX12_four_15 rfl (lv_at hl 2 rfl) ?_
      refine r_iload_n S dX12_four_16 rfl (lv_at hl 0 rfl) ?_
      refine r_ishr S dX12_four_17 (fun v36 z37 => ?_)
      have r38 := R_any v36
      refine r_i2b S dX12_four_18 (fun v39 r40 => ?_)
      refine r_bast (n := 940) (K := 39) S X26 (Nat.le_of_ble_eq_true rfl) rfl (fun _ _ => rfl) (ix_of r23 rfl) (R_of (lo := -128) (hi := 127) r40 rfl) dX12_four_19 (fun t41 H lc M42 X43 => ?_)
      have I44 := Inv_mu I27 M42 (show Rg (kd 132) _ v39 from (R_of (lo := -128) (hi := 127) r40 rfl))
      have F45 : Fr [(131, 2)] [132] τ t41 := Fr_cell F28 M42 (by decide)
      refine r_aload_n S dX12_four_20 rfl (lv_at hl 1 rfl) ?_
      refine r_dup S dX12_four_21 rfl ?_
      refine r_geti (K := 38) S X43 (Nat.le_of_ble_eq_true rfl) rfl lk12_7_10 (fun _ => ⟨_, rfl, rfl⟩) ((M42.2 131 2 (Or.inl (by decide))).trans M25.1) dX12_four_22 ?_
      refine r_iconst S dX12_four_25 (by decide) (fun v46 z47 => ?_)
      have r48 := R_eq z47
      refine r_iadd S dX12_four_26 (fun v49 z50 => ?_)
      obtain ⟨e51, r52⟩ := i_add (lo := 14) (hi := 934) z50 r23 r48 rfl
      refine r_put (K := 38) (ty := .int) S X43 (Nat.le_of_ble_eq_true rfl) rfl lk12_7_10 (fun _ => ⟨_, rfl, Nat.le_of_ble_eq_true rfl, rfl⟩) (fun _ _ _ h => by cases h; exact ⟨rfl, rfl⟩) rfl rfl dX12_four_27 (fun t53 H lc M54 X55 => ?_)
      have I56 := Inv_mu I44 M54 (show Rg (kd 131) 2 v49 from (R_of (lo := 0) (hi := 940) r52 rfl))
      have F57 : Fr [(131, 2)] [132] τ t53 := Fr_mu F45 M54 (by decide)
      refine r_iinc (k := 0) S dX12_four_30 hl rfl (by decide) (by decide) (fun v58 d59 ls z60 z61 hl => ?_)
      obtain ⟨e62, r63⟩ := i_add (lo := 8) (hi := 8) z60 r34 (R_eq z61) rfl
      have hl : lv_has ls 3 [(2, .int v58), (0, .ref (G.2.2.2.1 131)), (1, .int a0)] := hl
      refine r_goto (tgt := 3) S dX12_four_33 (by decide) ?_
      refine r_iload_n S dX12_four_3 rfl (lv_at hl 0 rfl) ?_
      refine r_if_lt (tgt := 36) S dX12_four_4 (by decide) (fun c64 => ?_) (fun c64 => ?_)
      ·
        exfalso; omega
      ·
        refine r_aload_n S dX12_four_7 rfl (lv_at hl 1 rfl) ?_
        refine r_get (K := 38) (v := .ref (G.2.2.2.1 132)) S X55 (Nat.le_of_ble_eq_true rfl) rfl lk12_14_10 (fun _ => ⟨_, rfl, rfl⟩) dX12_four_8 ?_
        refine r_aload_n S dX12_four_11 rfl (lv_at hl 1 rfl) ?_
        refine r_geti (K := 38) S X55 (Nat.le_of_ble_eq_true rfl) rfl lk12_7_10 (fun _ => ⟨_, rfl, rfl⟩) M54.1 dX12_four_12 ?_
        refine r_iload_n S dX12_four_15 rfl (lv_at hl 2 rfl) ?_
        refine r_iload_n S dX12_four_16 rfl (lv_at hl 0 rfl) ?_
        refine r_ishr S dX12_four_17 (fun v65 z66 => ?_)
        have r67 := R_any v65
        refine r_i2b S dX12_four_18 (fun v68 r69 => ?_)
        refine r_bast (n := 940) (K := 39) S X55 (Nat.le_of_ble_eq_true rfl) rfl (fun _ _ => rfl) (ix_of r52 rfl) (R_of (lo := -128) (hi := 127) r69 rfl) dX12_four_19 (fun t70 H lc M71 X72 => ?_)
        have I73 := Inv_mu I56 M71 (show Rg (kd 132) _ v68 from (R_of (lo := -128) (hi := 127) r69 rfl))
        have F74 : Fr [(131, 2)] [132] τ t70 := Fr_cell F57 M71 (by decide)
        refine r_aload_n S dX12_four_20 rfl (lv_at hl 1 rfl) ?_
        refine r_dup S dX12_four_21 rfl ?_
        refine r_geti (K := 38) S X72 (Nat.le_of_ble_eq_true rfl) rfl lk12_7_10 (fun _ => ⟨_, rfl, rfl⟩) ((M71.2 131 2 (Or.inl (by decide))).trans M54.1) dX12_four_22 ?_
        refine r_iconst S dX12_four_25 (by decide) (fun v75 z76 => ?_)
        have r77 := R_eq z76
        refine r_iadd S dX12_four_26 (fun v78 z79 => ?_)
        obtain ⟨e80, r81⟩ := i_add (lo := 15) (hi := 935) z79 r52 r77 rfl
        refine r_put (K := 38) (ty := .int) S X72 (Nat.le_of_ble_eq_true rfl) rfl lk12_7_10 (fun _ => ⟨_, rfl, Nat.le_of_ble_eq_true rfl, rfl⟩) (fun _ _ _ h => by cases h; exact ⟨rfl, rfl⟩) rfl rfl dX12_four_27 (fun t82 H lc M83 X84 => ?_)
        have I85 := Inv_mu I73 M83 (show Rg (kd 131) 2 v78 from (R_of (lo := 0) (hi := 940) r81 rfl))
        have F86 : Fr [(131, 2)] [132] τ t82 := Fr_mu F74 M83 (by decide)
        refine r_iinc (k := 0) S dX12_four_30 hl rfl (by decide) (by decide) (fun v87 d88 ls z89 z90 hl => ?_)
        obtain ⟨e91, r92⟩ := i_add (lo := 0) (hi := 0) z89 r63 (R_eq z90) rfl
        have hl : lv_has ls 3 [(2, .int v87), (0, .ref (G.2.2.2.1 131)), (1, .int a0)] := hl
        refine r_goto (tgt := 3) S dX12_four_33 (by decide) ?_
        refine r_iload_n S dX12_four_3 rfl (lv_at hl 0 rfl) ?_
        refine r_if_lt (tgt := 36) S dX12_four_4 (by decide) (fun c93 => ?_) (fun c93 => ?_)
        ·
          exfalso; omega
        ·
          refine r_aload_n S dX12_four_7 rfl (lv_at hl 1 rfl) ?_
          refine r_get (K := 38) (v := .ref (G.2.2.2.1 132)) S X84 (Nat.le_of_ble_eq_true rfl) rfl lk12_14_10 (fun _ => ⟨_, rfl, rfl⟩) dX12_four_8 ?_
          refine r_aload_n S dX12_four_11 rfl (lv_at hl 1 rfl) ?_
          refine r_geti (K := 38) S X84 (Nat.le_of_ble_eq_true rfl) rfl lk12_7_10 (fun _ => ⟨_, rfl, rfl⟩) M83.1 dX12_four_12 ?_
          refine r_iload_n S dX12_four_15 rfl (lv_at hl 2 rfl) ?_
          refine r_iload_n S dX12_four_16 rfl (lv_at hl 0 rfl) ?_
          refine r_ishr S dX12_four_17 (fun v94 z95 => ?_)
          have r96 := R_any v94
          refine r_i2b S dX12_four_18 (fun v97 r98 => ?_)
          refine r_bast (n := 940) (K := 39) S X84 (Nat.le_of_ble_eq_true rfl) rfl (fun _ _ => rfl) (ix_of r81 rfl) (R_of (lo := -128) (hi := 127) r98 rfl) dX12_four_19 (fun t99 H lc M100 X101 => ?_)
          have I102 := Inv_mu I85 M100 (show Rg (kd 132) _ v97 from (R_of (lo := -128) (hi := 127) r98 rfl))
          have F103 : Fr [(131, 2)] [132] τ t99 := Fr_cell F86 M100 (by decide)
          refine r_aload_n S dX12_four_20 rfl (lv_at hl 1 rfl) ?_
          refine r_dup S dX12_four_21 rfl ?_
          refine r_geti (K := 38) S X101 (Nat.le_of_ble_eq_true rfl) rfl lk12_7_10 (fun _ => ⟨_, rfl, rfl⟩) ((M100.2 131 2 (Or.inl (by decide))).trans M83.1) dX12_four_22 ?_
          refine r_iconst S dX12_four_25 (by decide) (fun v104 z105 => ?_)
          have r106 := R_eq z105
          refine r_iadd S dX12_four_26 (fun v107 z108 => ?_)
          obtain ⟨e109, r110⟩ := i_add (lo := 16) (hi := 936) z108 r81 r106 rfl
          refine r_put (K := 38) (ty := .int) S X101 (Nat.le_of_ble_eq_true rfl) rfl lk12_7_10 (fun _ => ⟨_, rfl, Nat.le_of_ble_eq_true rfl, rfl⟩) (fun _ _ _ h => by cases h; exact ⟨rfl, rfl⟩) rfl rfl dX12_four_27 (fun t111 H lc M112 X113 => ?_)
          have I114 := Inv_mu I102 M112 (show Rg (kd 131) 2 v107 from (R_of (lo := 0) (hi := 940) r110 rfl))
          have F115 : Fr [(131, 2)] [132] τ t111 := Fr_mu F103 M112 (by decide)
          refine r_iinc (k := 0) S dX12_four_30 hl rfl (by decide) (by decide) (fun v116 d117 ls z118 z119 hl => ?_)
          obtain ⟨e120, r121⟩ := i_add (lo := -8) (hi := -8) z118 r92 (R_eq z119) rfl
          have hl : lv_has ls 3 [(2, .int v116), (0, .ref (G.2.2.2.1 131)), (1, .int a0)] := hl
          refine r_goto (tgt := 3) S dX12_four_33 (by decide) ?_
          refine r_iload_n S dX12_four_3 rfl (lv_at hl 0 rfl) ?_
          refine r_if_lt (tgt := 36) S dX12_four_4 (by decide) (fun c122 => ?_) (fun c122 => ?_)
          ·
            exact r_vret S hr hlk X113 ⟨I114, F115, (by rw [M112.1]; exact R_of r110 rfl), (by have h1_0 := congrArg Int32.toInt M112.1; have h2_0 := congrArg Int32.toInt z2; omega)⟩ dX12_four_36
          ·
            exfalso; omega
def po_X12_four_4 (τ : Tau)  (a0 : Int32)   (u : Tau) : Prop := Inv u ∧ Fr [(131, 2)] [132] τ u ∧ R (20) (940) (u 131 2) ∧ (u 131 2).toInt = (τ 131 2).toInt + 4
set_option maxHeartbeats 4000000 in
set_option maxRecDepth 100000 in
theorem c_X12_four_4 (l : Launch) (G : Gx) (τ : Tau) (hI : Inv τ) (a0 : Int32) (h_a0 : R (-2147483648) (2147483647) a0) (hf_0 : R (16) (936) (τ 131 2)) : Cv l G yX12_four cX12_four 3 0 0 [.ref (G.2.2.2.1 131), .int a0] τ (po_X12_four_4 τ  a0  ) := by
  unfold Cv
  refine C_of (own := RX12) (by decide) rfl (Nat.le_of_ble_eq_true rfl) ?_
  intro p e s m below meth c ls S hr hlk X hl
  have hl : lv_has ls 3 [(0, .ref (G.2.2.2.1 131)), (1, .int a0)] := hl
  obtain ⟨v1, z2⟩ : ∃ x, τ 131 2 = x := ⟨_, rfl⟩
  rw [z2] at hf_0
  refine r_bipush S dX12_four_0 (by decide) (fun v3 z4 => ?_)
  have r5 := R_eq z4
  refine r_istore_n (lv' := [(2, .int v3), (0, .ref (G.2.2.2.1 131)), (1, .int a0)]) S dX12_four_2 rfl hl (by decide) rfl (fun ls hl => ?_)
  refine r_iload_n S dX12_four_3 rfl (lv_at hl 0 rfl) ?_
  refine r_if_lt (tgt := 36) S dX12_four_4 (by decide) (fun c6 => ?_) (fun c6 => ?_)
  ·
    exfalso; omega
  ·
    refine r_aload_n S dX12_four_7 rfl (lv_at hl 1 rfl) ?_
    refine r_get (K := 38) (v := .ref (G.2.2.2.1 132)) S X (Nat.le_of_ble_eq_true rfl) rfl lk12_14_10 (fun _ => ⟨_, rfl, rfl⟩) dX12_four_8 ?_
    refine r_aload_n S dX12_four_11 rfl (lv_at hl 1 rfl) ?_
    refine r_geti (K := 38) S X (Nat.le_of_ble_eq_true rfl) rfl lk12_7_10 (fun _ => ⟨_, rfl, rfl⟩) z2 dX12_four_12 ?_
    refine r_iload_n S dX12_four_15 rfl (lv_at hl 2 rfl) ?_
    refine r_iload_n S dX12_four_16 rfl (lv_at hl 0 rfl) ?_
    refine r_ishr S dX12_four_17 (fun v7 z8 => ?_)
    have r9 := R_any v7
    refine r_i2b S dX12_four_18 (fun v10 r11 => ?_)
    refine r_bast (n := 940) (K := 39) S X (Nat.le_of_ble_eq_true rfl) rfl (fun _ _ => rfl) (ix_of hf_0 rfl) (R_of (lo := -128) (hi := 127) r11 rfl) dX12_four_19 (fun t12 H lc M13 X14 => ?_)
    have I15 := Inv_mu hI M13 (show Rg (kd 132) _ v10 from (R_of (lo := -128) (hi := 127) r11 rfl))
    have F16 : Fr [(131, 2)] [132] τ t12 := Fr_cell Fr_rfl M13 (by decide)
    refine r_aload_n S dX12_four_20 rfl (lv_at hl 1 rfl) ?_
    refine r_dup S dX12_four_21 rfl ?_
    refine r_geti (K := 38) S X14 (Nat.le_of_ble_eq_true rfl) rfl lk12_7_10 (fun _ => ⟨_, rfl, rfl⟩) ((M13.2 131 2 (Or.inl (by decide))).trans z2) dX12_four_22 ?_
    refine r_iconst S dX12_four_25 (by decide) (fun v17 z18 => ?_)
    have r19 := R_eq z18
    refine r_iadd S dX12_four_26 (fun v20 z21 => ?_)
    obtain ⟨e22, r23⟩ := i_add (lo := 17) (hi := 937) z21 hf_0 r19 rfl
    refine r_put (K := 38) (ty := .int) S X14 (Nat.le_of_ble_eq_true rfl) rfl lk12_7_10 (fun _ => ⟨_, rfl, Nat.le_of_ble_eq_true rfl, rfl⟩) (fun _ _ _ h => by cases h; exact ⟨rfl, rfl⟩) rfl rfl dX12_four_27 (fun t24 H lc M25 X26 => ?_)
    have I27 := Inv_mu I15 M25 (show Rg (kd 131) 2 v20 from (R_of (lo := 0) (hi := 940) r23 rfl))
    have F28 : Fr [(131, 2)] [132] τ t24 := Fr_mu F16 M25 (by decide)
    refine r_iinc (k := 0) S dX12_four_30 hl rfl (by decide) (by decide) (fun v29 d30 ls z31 z32 hl => ?_)
    obtain ⟨e33, r34⟩ := i_add (lo := 16) (hi := 16) z31 r5 (R_eq z32) rfl
    have hl : lv_has ls 3 [(2, .int v29), (0, .ref (G.2.2.2.1 131)), (1, .int a0)] := hl
    refine r_goto (tgt := 3) S dX12_four_33 (by decide) ?_
    refine r_iload_n S dX12_four_3 rfl (lv_at hl 0 rfl) ?_
    refine r_if_lt (tgt := 36) S dX12_four_4 (by decide) (fun c35 => ?_) (fun c35 => ?_)
    ·
      exfalso; omega
    ·
      refine r_aload_n S dX12_four_7 rfl (lv_at hl 1 rfl) ?_
      refine r_get (K := 38) (v := .ref (G.2.2.2.1 132)) S X26 (Nat.le_of_ble_eq_true rfl) rfl lk12_14_10 (fun _ => ⟨_, rfl, rfl⟩) dX12_four_8 ?_
      refine r_aload_n S dX12_four_11 rfl (lv_at hl 1 rfl) ?_
      refine r_geti (K := 38) S X26 (Nat.le_of_ble_eq_true rfl) rfl lk12_7_10 (fun _ => ⟨_, rfl, rfl⟩) M25.1 dX12_four_12 ?_
      refine r_iload_n S dX12_four_15 rfl (lv_at hl 2 rfl) ?_
      refine r_iload_n S dX12_four_16 rfl (lv_at hl 0 rfl) ?_
      refine r_ishr S dX12_four_17 (fun v36 z37 => ?_)
      have r38 := R_any v36
      refine r_i2b S dX12_four_18 (fun v39 r40 => ?_)
      refine r_bast (n := 940) (K := 39) S X26 (Nat.le_of_ble_eq_true rfl) rfl (fun _ _ => rfl) (ix_of r23 rfl) (R_of (lo := -128) (hi := 127) r40 rfl) dX12_four_19 (fun t41 H lc M42 X43 => ?_)
      have I44 := Inv_mu I27 M42 (show Rg (kd 132) _ v39 from (R_of (lo := -128) (hi := 127) r40 rfl))
      have F45 : Fr [(131, 2)] [132] τ t41 := Fr_cell F28 M42 (by decide)
      refine r_aload_n S dX12_four_20 rfl (lv_at hl 1 rfl) ?_
      refine r_dup S dX12_four_21 rfl ?_
      refine r_geti (K := 38) S X43 (Nat.le_of_ble_eq_true rfl) rfl lk12_7_10 (fun _ => ⟨_, rfl, rfl⟩) ((M42.2 131 2 (Or.inl (by decide))).trans M25.1) dX12_four_22 ?_
      refine r_iconst S dX12_four_25 (by decide) (fun v46 z47 => ?_)
      have r48 := R_eq z47
      refine r_iadd S dX12_four_26 (fun v49 z50 => ?_)
      obtain ⟨e51, r52⟩ := i_add (lo := 18) (hi := 938) z50 r23 r48 rfl
      refine r_put (K := 38) (ty := .int) S X43 (Nat.le_of_ble_eq_true rfl) rfl lk12_7_10 (fun _ => ⟨_, rfl, Nat.le_of_ble_eq_true rfl, rfl⟩) (fun _ _ _ h => by cases h; exact ⟨rfl, rfl⟩) rfl rfl dX12_four_27 (fun t53 H lc M54 X55 => ?_)
      have I56 := Inv_mu I44 M54 (show Rg (kd 131) 2 v49 from (R_of (lo := 0) (hi := 940) r52 rfl))
      have F57 : Fr [(131, 2)] [132] τ t53 := Fr_mu F45 M54 (by decide)
      refine r_iinc (k := 0) S dX12_four_30 hl rfl (by decide) (by decide) (fun v58 d59 ls z60 z61 hl => ?_)
      obtain ⟨e62, r63⟩ := i_add (lo := 8) (hi := 8) z60 r34 (R_eq z61) rfl
      have hl : lv_has ls 3 [(2, .int v58), (0, .ref (G.2.2.2.1 131)), (1, .int a0)] := hl
      refine r_goto (tgt := 3) S dX12_four_33 (by decide) ?_
      refine r_iload_n S dX12_four_3 rfl (lv_at hl 0 rfl) ?_
      refine r_if_lt (tgt := 36) S dX12_four_4 (by decide) (fun c64 => ?_) (fun c64 => ?_)
      ·
        exfalso; omega
      ·
        refine r_aload_n S dX12_four_7 rfl (lv_at hl 1 rfl) ?_
        refine r_get (K := 38) (v := .ref (G.2.2.2.1 132)) S X55 (Nat.le_of_ble_eq_true rfl) rfl lk12_14_10 (fun _ => ⟨_, rfl, rfl⟩) dX12_four_8 ?_
        refine r_aload_n S dX12_four_11 rfl (lv_at hl 1 rfl) ?_
        refine r_geti (K := 38) S X55 (Nat.le_of_ble_eq_true rfl) rfl lk12_7_10 (fun _ => ⟨_, rfl, rfl⟩) M54.1 dX12_four_12 ?_
        refine r_iload_n S dX12_four_15 rfl (lv_at hl 2 rfl) ?_
        refine r_iload_n S dX12_four_16 rfl (lv_at hl 0 rfl) ?_
        refine r_ishr S dX12_four_17 (fun v65 z66 => ?_)
        have r67 := R_any v65
        refine r_i2b S dX12_four_18 (fun v68 r69 => ?_)
        refine r_bast (n := 940) (K := 39) S X55 (Nat.le_of_ble_eq_true rfl) rfl (fun _ _ => rfl) (ix_of r52 rfl) (R_of (lo := -128) (hi := 127) r69 rfl) dX12_four_19 (fun t70 H lc M71 X72 => ?_)
        have I73 := Inv_mu I56 M71 (show Rg (kd 132) _ v68 from (R_of (lo := -128) (hi := 127) r69 rfl))
        have F74 : Fr [(131, 2)] [132] τ t70 := Fr_cell F57 M71 (by decide)
        refine r_aload_n S dX12_four_20 rfl (lv_at hl 1 rfl) ?_
        refine r_dup S dX12_four_21 rfl ?_
        refine r_geti (K := 38) S X72 (Nat.le_of_ble_eq_true rfl) rfl lk12_7_10 (fun _ => ⟨_, rfl, rfl⟩) ((M71.2 131 2 (Or.inl (by decide))).trans M54.1) dX12_four_22 ?_
        refine r_iconst S dX12_four_25 (by decide) (fun v75 z76 => ?_)
        have r77 := R_eq z76
        refine r_iadd S dX12_four_26 (fun v78 z79 => ?_)
        obtain ⟨e80, r81⟩ := i_add (lo := 19) (hi := 939) z79 r52 r77 rfl
        refine r_put (K := 38) (ty := .int) S X72 (Nat.le_of_ble_eq_true rfl) rfl lk12_7_10 (fun _ => ⟨_, rfl, Nat.le_of_ble_eq_true rfl, rfl⟩) (fun _ _ _ h => by cases h; exact ⟨rfl, rfl⟩) rfl rfl dX12_four_27 (fun t82 H lc M83 X84 => ?_)
        have I85 := Inv_mu I73 M83 (show Rg (kd 131) 2 v78 from (R_of (lo := 0) (hi := 940) r81 rfl))
        have F86 : Fr [(131, 2)] [132] τ t82 := Fr_mu F74 M83 (by decide)
        refine r_iinc (k := 0) S dX12_four_30 hl rfl (by decide) (by decide) (fun v87 d88 ls z89 z90 hl => ?_)
        obtain ⟨e91, r92⟩ := i_add (lo := 0) (hi := 0) z89 r63 (R_eq z90) rfl
        have hl : lv_has ls 3 [(2, .int v87), (0, .ref (G.2.2.2.1 131)), (1, .int a0)] := hl
        refine r_goto (tgt := 3) S dX12_four_33 (by decide) ?_
        refine r_iload_n S dX12_four_3 rfl (lv_at hl 0 rfl) ?_
        refine r_if_lt (tgt := 36) S dX12_four_4 (by decide) (fun c93 => ?_) (fun c93 => ?_)
        ·
          exfalso; omega
        ·
          refine r_aload_n S dX12_four_7 rfl (lv_at hl 1 rfl) ?_
          refine r_get (K := 38) (v := .ref (G.2.2.2.1 132)) S X84 (Nat.le_of_ble_eq_true rfl) rfl lk12_14_10 (fun _ => ⟨_, rfl, rfl⟩) dX12_four_8 ?_
          refine r_aload_n S dX12_four_11 rfl (lv_at hl 1 rfl) ?_
          refine r_geti (K := 38) S X84 (Nat.le_of_ble_eq_true rfl) rfl lk12_7_10 (fun _ => ⟨_, rfl, rfl⟩) M83.1 dX12_four_12 ?_
          refine r_iload_n S dX12_four_15 rfl (lv_at hl 2 rfl) ?_
          refine r_iload_n S dX12_four_16 rfl (lv_at hl 0 rfl) ?_
          refine r_ishr S dX12_four_17 (fun v94 z95 => ?_)
          have r96 := R_any v94
          refine r_i2b S dX12_four_18 (fun v97 r98 => ?_)
          refine r_bast (n := 940) (K := 39) S X84 (Nat.le_of_ble_eq_true rfl) rfl (fun _ _ => rfl) (ix_of r81 rfl) (R_of (lo := -128) (hi := 127) r98 rfl) dX12_four_19 (fun t99 H lc M100 X101 => ?_)
          have I102 := Inv_mu I85 M100 (show Rg (kd 132) _ v97 from (R_of (lo := -128) (hi := 127) r98 rfl))
          have F103 : Fr [(131, 2)] [132] τ t99 := Fr_cell F86 M100 (by decide)
          refine r_aload_n S dX12_four_20 rfl (lv_at hl 1 rfl) ?_
          refine r_dup S dX12_four_21 rfl ?_
          refine r_geti (K := 38) S X101 (Nat.le_of_ble_eq_true rfl) rfl lk12_7_10 (fun _ => ⟨_, rfl, rfl⟩) ((M100.2 131 2 (Or.inl (by decide))).trans M83.1) dX12_four_22 ?_
          refine r_iconst S dX12_four_25 (by decide) (fun v104 z105 => ?_)
          have r106 := R_eq z105
          refine r_iadd S dX12_four_26 (fun v107 z108 => ?_)
          obtain ⟨e109, r110⟩ := i_add (lo := 20) (hi := 940) z108 r81 r106 rfl
          refine r_put (K := 38) (ty := .int) S X101 (Nat.le_of_ble_eq_true rfl) rfl lk12_7_10 (fun _ => ⟨_, rfl, Nat.le_of_ble_eq_true rfl, rfl⟩) (fun _ _ _ h => by cases h; exact ⟨rfl, rfl⟩) rfl rfl dX12_four_27 (fun t111 H lc M112 X113 => ?_)
          have I114 := Inv_mu I102 M112 (show Rg (kd 131) 2 v107 from (R_of (lo := 0) (hi := 940) r110 rfl))
          have F115 : Fr [(131, 2)] [132] τ t111 := Fr_mu F103 M112 (by decide)
          refine r_iinc (k := 0) S dX12_four_30 hl rfl (by decide) (by decide) (fun v116 d117 ls z118 z119 hl => ?_)
          obtain ⟨e120, r121⟩ := i_add (lo := -8) (hi := -8) z118 r92 (R_eq z119) rfl
          have hl : lv_has ls 3 [(2, .int v116), (0, .ref (G.2.2.2.1 131)), (1, .int a0)] := hl
          refine r_goto (tgt := 3) S dX12_four_33 (by decide) ?_
          refine r_iload_n S dX12_four_3 rfl (lv_at hl 0 rfl) ?_
          refine r_if_lt (tgt := 36) S dX12_four_4 (by decide) (fun c122 => ?_) (fun c122 => ?_)
          ·
            exact r_vret S hr hlk X113 ⟨I114, F115, (by rw [M112.1]; exact R_of r110 rfl), (by have h1_0 := congrArg Int32.toInt M112.1; have h2_0 := congrArg Int32.toInt z2; omega)⟩ dX12_four_36
          ·
            exfalso; omega
def po_X12_feed (τ : Tau)  (a0 a1 a2 a3 a4 : Int32)   (r : Int32) (u : Tau) : Prop := Inv u ∧ Fr [(131, 0), (131, 2)] [132] τ u ∧ ((τ 131 2).toInt + 20 ≤ 940 → (u 131 2).toInt = (τ 131 2).toInt + 20 ∧ r.toInt = (τ 131 2).toInt + 20) ∧ (940 < (τ 131 2).toInt + 20 → (u 131 2).toInt = (τ 131 2).toInt ∧ r.toInt = -1)
set_option maxHeartbeats 4000000 in
set_option maxRecDepth 100000 in
theorem c_X12_feed (l : Launch) (G : Gx) (τ : Tau) (hI : Inv τ) (a0 : Int32) (a1 : Int32) (a2 : Int32) (a3 : Int32) (a4 : Int32) (h_a0 : R (-2147483648) (2147483647) a0) (h_a1 : R (-2147483648) (2147483647) a1) (h_a2 : R (-2147483648) (2147483647) a2) (h_a3 : R (-2147483648) (2147483647) a3) (h_a4 : R (-2147483648) (2147483647) a4) : Ci l G yX12_feed cX12_feed 6 (some .int) 1 22 [.ref (G.2.2.2.1 131), .int a0, .int a1, .int a2, .int a3, .int a4] τ (po_X12_feed τ  a0 a1 a2 a3 a4  ) := by
  unfold Ci
  refine C_of (own := RX12) (by decide) rfl (Nat.le_of_ble_eq_true rfl) ?_
  intro p e s m below meth c ls S hr hlk X hl
  have hl : lv_has ls 6 [(0, .ref (G.2.2.2.1 131)), (1, .int a0), (2, .int a1), (3, .int a2), (4, .int a3), (5, .int a4)] := hl
  refine r_aload_n S dX12_feed_0 rfl (lv_at hl 0 rfl) ?_
  refine r_iconst S dX12_feed_1 (by decide) (fun v1 z2 => ?_)
  have r3 := R_eq z2
  refine r_put (K := 38) (ty := .int) S X (Nat.le_of_ble_eq_true rfl) rfl lk12_1_10 (fun _ => ⟨_, rfl, Nat.le_of_ble_eq_true rfl, rfl⟩) (fun _ _ _ h => by cases h; exact ⟨rfl, rfl⟩) rfl rfl dX12_feed_2 (fun t4 H lc M5 X6 => ?_)
  have I7 := Inv_mu hI M5 (R_any v1)
  have F8 : Fr [(131, 0), (131, 2)] [132] τ t4 := Fr_mu Fr_rfl M5 (by decide)
  refine r_aload_n S dX12_feed_5 rfl (lv_at hl 0 rfl) ?_
  refine r_getn (K := 38) S X6 (Nat.le_of_ble_eq_true rfl) rfl lk12_7_10 (fun _ => ⟨_, rfl, rfl⟩) dX12_feed_6 (fun v9 z10 => ?_)
  have r11 : R (0) (940) v9 := rd I7 rfl z10
  refine r_bipush S dX12_feed_9 (by decide) (fun v12 z13 => ?_)
  have r14 := R_eq z13
  refine r_iadd S dX12_feed_11 (fun v15 z16 => ?_)
  obtain ⟨e17, r18⟩ := i_add (lo := 20) (hi := 960) z16 r11 r14 rfl
  refine r_sipush S dX12_feed_12 (by decide) (fun v19 z20 => ?_)
  have r21 := R_eq z20
  refine r_icmp_le (tgt := 20) S dX12_feed_15 (by decide) (fun c22 => ?_) (fun c22 => ?_)
  ·
    have r23 : R (20) (940) v15 := ⟨by omega, by omega⟩
    have r24 : R (0) (920) v9 := ⟨by omega, by omega⟩
    refine r_aload_n S dX12_feed_20 rfl (lv_at hl 0 rfl) ?_
    refine r_iload_n S dX12_feed_21 rfl (lv_at hl 1 rfl) ?_
    refine r_kv (q_V (As := [.int a0]) (rest := []) (K := 38) (ci := 10) S X6 (c_X12_four_0 l G t4 I7 a0 h_a0 (by rw [z10]; exact R_of r24 rfl)) ck12_10 (Nat.le_of_ble_eq_true rfl) rfl (fun _ => ⟨_, rfl⟩) ⟨_, _, rfl⟩ ⟨Nat.le_of_ble_eq_true rfl, Nat.le_of_ble_eq_true rfl⟩ rfl hl.1 rfl (Nat.le_of_ble_eq_true rfl) dX12_feed_22 ⟨Nat.le_refl 0, Nat.le_refl 0⟩) X6 (fun t27 H lc q25 X26 => ?_)
    unfold po_X12_four_0 at q25
    obtain ⟨q28, q29, q30, q31⟩ := q25
    have F32 : Fr [(131, 0), (131, 2)] [132] τ t27 := Fr_call F8 q29 (by decide)
    obtain ⟨v33, z34⟩ : ∃ x, t27 131 2 = x := ⟨_, rfl⟩
    rw [z34] at q30
    have e35 := congrArg Int32.toInt z10
    have e36 := congrArg Int32.toInt z34
    refine r_aload_n S dX12_feed_25 rfl (lv_at hl 0 rfl) ?_
    refine r_iload_n S dX12_feed_26 rfl (lv_at hl 2 rfl) ?_
    refine r_kv (q_V (As := [.int a1]) (rest := []) (K := 38) (ci := 10) S X26 (c_X12_four_1 l G t27 q28 a1 h_a1 (by rw [z34]; exact R_of q30 rfl)) ck12_10 (Nat.le_of_ble_eq_true rfl) rfl (fun _ => ⟨_, rfl⟩) ⟨_, _, rfl⟩ ⟨Nat.le_of_ble_eq_true rfl, Nat.le_of_ble_eq_true rfl⟩ rfl hl.1 rfl (Nat.le_of_ble_eq_true rfl) dX12_feed_27 ⟨Nat.le_refl 0, Nat.le_refl 0⟩) X26 (fun t39 H lc q37 X38 => ?_)
    unfold po_X12_four_1 at q37
    obtain ⟨q40, q41, q42, q43⟩ := q37
    have F44 : Fr [(131, 0), (131, 2)] [132] τ t39 := Fr_call F32 q41 (by decide)
    obtain ⟨v45, z46⟩ : ∃ x, t39 131 2 = x := ⟨_, rfl⟩
    rw [z46] at q42
    have e47 := congrArg Int32.toInt z34
    have e48 := congrArg Int32.toInt z46
    refine r_aload_n S dX12_feed_30 rfl (lv_at hl 0 rfl) ?_
    refine r_iload_n S dX12_feed_31 rfl (lv_at hl 3 rfl) ?_
    refine r_kv (q_V (As := [.int a2]) (rest := []) (K := 38) (ci := 10) S X38 (c_X12_four_2 l G t39 q40 a2 h_a2 (by rw [z46]; exact R_of q42 rfl)) ck12_10 (Nat.le_of_ble_eq_true rfl) rfl (fun _ => ⟨_, rfl⟩) ⟨_, _, rfl⟩ ⟨Nat.le_of_ble_eq_true rfl, Nat.le_of_ble_eq_true rfl⟩ rfl hl.1 rfl (Nat.le_of_ble_eq_true rfl) dX12_feed_32 ⟨Nat.le_refl 0, Nat.le_refl 0⟩) X38 (fun t51 H lc q49 X50 => ?_)
    unfold po_X12_four_2 at q49
    obtain ⟨q52, q53, q54, q55⟩ := q49
    have F56 : Fr [(131, 0), (131, 2)] [132] τ t51 := Fr_call F44 q53 (by decide)
    obtain ⟨v57, z58⟩ : ∃ x, t51 131 2 = x := ⟨_, rfl⟩
    rw [z58] at q54
    have e59 := congrArg Int32.toInt z46
    have e60 := congrArg Int32.toInt z58
    refine r_aload_n S dX12_feed_35 rfl (lv_at hl 0 rfl) ?_
    refine r_iload S dX12_feed_36 (lv_at hl 4 rfl) ?_
    refine r_kv (q_V (As := [.int a3]) (rest := []) (K := 38) (ci := 10) S X50 (c_X12_four_3 l G t51 q52 a3 h_a3 (by rw [z58]; exact R_of q54 rfl)) ck12_10 (Nat.le_of_ble_eq_true rfl) rfl (fun _ => ⟨_, rfl⟩) ⟨_, _, rfl⟩ ⟨Nat.le_of_ble_eq_true rfl, Nat.le_of_ble_eq_true rfl⟩ rfl hl.1 rfl (Nat.le_of_ble_eq_true rfl) dX12_feed_38 ⟨Nat.le_refl 0, Nat.le_refl 0⟩) X50 (fun t63 H lc q61 X62 => ?_)
    unfold po_X12_four_3 at q61
    obtain ⟨q64, q65, q66, q67⟩ := q61
    have F68 : Fr [(131, 0), (131, 2)] [132] τ t63 := Fr_call F56 q65 (by decide)
    obtain ⟨v69, z70⟩ : ∃ x, t63 131 2 = x := ⟨_, rfl⟩
    rw [z70] at q66
    have e71 := congrArg Int32.toInt z58
    have e72 := congrArg Int32.toInt z70
    refine r_aload_n S dX12_feed_41 rfl (lv_at hl 0 rfl) ?_
    refine r_iload S dX12_feed_42 (lv_at hl 5 rfl) ?_
    refine r_kv (q_V (As := [.int a4]) (rest := []) (K := 38) (ci := 10) S X62 (c_X12_four_4 l G t63 q64 a4 h_a4 (by rw [z70]; exact R_of q66 rfl)) ck12_10 (Nat.le_of_ble_eq_true rfl) rfl (fun _ => ⟨_, rfl⟩) ⟨_, _, rfl⟩ ⟨Nat.le_of_ble_eq_true rfl, Nat.le_of_ble_eq_true rfl⟩ rfl hl.1 rfl (Nat.le_of_ble_eq_true rfl) dX12_feed_44 ⟨Nat.le_refl 0, Nat.le_refl 0⟩) X62 (fun t75 H lc q73 X74 => ?_)
    unfold po_X12_four_4 at q73
    obtain ⟨q76, q77, q78, q79⟩ := q73
    have F80 : Fr [(131, 0), (131, 2)] [132] τ t75 := Fr_call F68 q77 (by decide)
    obtain ⟨v81, z82⟩ : ∃ x, t75 131 2 = x := ⟨_, rfl⟩
    rw [z82] at q78
    have e83 := congrArg Int32.toInt z70
    have e84 := congrArg Int32.toInt z82
    refine r_aload_n S dX12_feed_47 rfl (lv_at hl 0 rfl) ?_
    refine r_geti (K := 38) S X74 (Nat.le_of_ble_eq_true rfl) rfl lk12_7_10 (fun _ => ⟨_, rfl, rfl⟩) z82 dX12_feed_48 ?_
    exact r_ret S hr hlk X74 ⟨q76, F80, (by have h1_0 := congrArg Int32.toInt z82; have h2_0 := congrArg Int32.toInt (((M5.2 131 2 (Or.inr (by decide))).trans rfl).symm.trans z10); omega), (by have h1_0 := congrArg Int32.toInt z82; have h2_0 := congrArg Int32.toInt (((M5.2 131 2 (Or.inr (by decide))).trans rfl).symm.trans z10); omega)⟩ rfl dX12_feed_51
  ·
    have r85 : R (941) (960) v15 := ⟨by omega, by omega⟩
    have r86 : R (921) (940) v9 := ⟨by omega, by omega⟩
    refine r_iconst S dX12_feed_18 (by decide) (fun v87 z88 => ?_)
    have r89 := R_eq z88
    exact r_ret S hr hlk X6 ⟨I7, F8, (by have h1_0 := congrArg Int32.toInt z10; have h2_0 := congrArg Int32.toInt (((M5.2 131 2 (Or.inr (by decide))).trans rfl).symm.trans z10); omega), (by have h1_0 := congrArg Int32.toInt z10; have h2_0 := congrArg Int32.toInt (((M5.2 131 2 (Or.inr (by decide))).trans rfl).symm.trans z10); omega)⟩ rfl dX12_feed_19
def po_X12_end (τ : Tau)  (a0 : Int32)   (r : Int32) (u : Tau) : Prop := Inv u ∧ Fr [(131, 0), (131, 2)] [] τ u ∧ R (0) (1) r ∧ (0 ≤ a0.toInt ∧ a0.toInt ≤ (τ 131 2).toInt → (u 131 2).toInt = a0.toInt ∧ r.toInt = 1) ∧ (a0.toInt < 0 ∨ (τ 131 2).toInt < a0.toInt → (u 131 2).toInt = (τ 131 2).toInt ∧ r.toInt = 0)
set_option maxHeartbeats 4000000 in
set_option maxRecDepth 100000 in
theorem c_X12_end (l : Launch) (G : Gx) (τ : Tau) (hI : Inv τ) (a0 : Int32) (h_a0 : R (-2147483648) (2147483647) a0) : Ci l G yX12_end cX12_end 2 (some .boolean) 0 0 [.ref (G.2.2.2.1 131), .int a0] τ (po_X12_end τ  a0  ) := by
  unfold Ci
  refine C_of (own := RX12) (by decide) rfl (Nat.le_of_ble_eq_true rfl) ?_
  intro p e s m below meth c ls S hr hlk X hl
  have hl : lv_has ls 2 [(0, .ref (G.2.2.2.1 131)), (1, .int a0)] := hl
  refine r_aload_n S dX12_end_0 rfl (lv_at hl 0 rfl) ?_
  refine r_iconst S dX12_end_1 (by decide) (fun v1 z2 => ?_)
  have r3 := R_eq z2
  refine r_put (K := 38) (ty := .int) S X (Nat.le_of_ble_eq_true rfl) rfl lk12_1_10 (fun _ => ⟨_, rfl, Nat.le_of_ble_eq_true rfl, rfl⟩) (fun _ _ _ h => by cases h; exact ⟨rfl, rfl⟩) rfl rfl dX12_end_2 (fun t4 H lc M5 X6 => ?_)
  have I7 := Inv_mu hI M5 (R_any v1)
  have F8 : Fr [(131, 0), (131, 2)] [] τ t4 := Fr_mu Fr_rfl M5 (by decide)
  refine r_iload_n S dX12_end_5 rfl (lv_at hl 1 rfl) ?_
  refine r_if_lt (tgt := 17) S dX12_end_6 (by decide) (fun c9 => ?_) (fun c9 => ?_)
  ·
    have r10 : R (-2147483648) (-1) a0 := ⟨by omega, by omega⟩
    refine r_iconst S dX12_end_17 (by decide) (fun v11 z12 => ?_)
    have r13 := R_eq z12
    exact r_ret S hr hlk X6 ⟨I7, F8, (R_of r13 rfl), (by have h1_0 := congrArg Int32.toInt ((M5.2 131 2 (Or.inr (by decide))).trans rfl); omega), (by have h1_0 := congrArg Int32.toInt ((M5.2 131 2 (Or.inr (by decide))).trans rfl); omega)⟩ (nr_bool (R_of (lo := 0) (hi := 1) r13 rfl)) dX12_end_18
  ·
    have r14 : R (0) (2147483647) a0 := ⟨by omega, by omega⟩
    refine r_iload_n S dX12_end_9 rfl (lv_at hl 1 rfl) ?_
    refine r_aload_n S dX12_end_10 rfl (lv_at hl 0 rfl) ?_
    refine r_getn (K := 38) S X6 (Nat.le_of_ble_eq_true rfl) rfl lk12_7_10 (fun _ => ⟨_, rfl, rfl⟩) dX12_end_11 (fun v15 z16 => ?_)
    have r17 : R (0) (940) v15 := rd I7 rfl z16
    refine r_icmp_le (tgt := 19) S dX12_end_14 (by decide) (fun c18 => ?_) (fun c18 => ?_)
    ·
      have r19 : R (0) (940) a0 := ⟨by omega, by omega⟩
      refine r_aload_n S dX12_end_19 rfl (lv_at hl 0 rfl) ?_
      refine r_iload_n S dX12_end_20 rfl (lv_at hl 1 rfl) ?_
      refine r_put (K := 38) (ty := .int) S X6 (Nat.le_of_ble_eq_true rfl) rfl lk12_7_10 (fun _ => ⟨_, rfl, Nat.le_of_ble_eq_true rfl, rfl⟩) (fun _ _ _ h => by cases h; exact ⟨rfl, rfl⟩) rfl rfl dX12_end_21 (fun t20 H lc M21 X22 => ?_)
      have I23 := Inv_mu I7 M21 (show Rg (kd 131) 2 a0 from (R_of (lo := 0) (hi := 940) r19 rfl))
      have F24 : Fr [(131, 0), (131, 2)] [] τ t20 := Fr_mu F8 M21 (by decide)
      refine r_iconst S dX12_end_24 (by decide) (fun v25 z26 => ?_)
      have r27 := R_eq z26
      exact r_ret S hr hlk X22 ⟨I23, F24, (R_of r27 rfl), (by have h1_0 := congrArg Int32.toInt M21.1; have h2_0 := congrArg Int32.toInt (((M5.2 131 2 (Or.inr (by decide))).trans rfl).symm.trans z16); omega), (by have h1_0 := congrArg Int32.toInt M21.1; have h2_0 := congrArg Int32.toInt (((M5.2 131 2 (Or.inr (by decide))).trans rfl).symm.trans z16); omega)⟩ (nr_bool (R_of (lo := 0) (hi := 1) r27 rfl)) dX12_end_25
    ·
      have r28 : R (1) (2147483647) a0 := ⟨by omega, by omega⟩
      refine r_iconst S dX12_end_17 (by decide) (fun v29 z30 => ?_)
      have r31 := R_eq z30
      exact r_ret S hr hlk X6 ⟨I7, F8, (R_of r31 rfl), (by have h1_0 := congrArg Int32.toInt z16; have h2_0 := congrArg Int32.toInt (((M5.2 131 2 (Or.inr (by decide))).trans rfl).symm.trans z16); omega), (by have h1_0 := congrArg Int32.toInt z16; have h2_0 := congrArg Int32.toInt (((M5.2 131 2 (Or.inr (by decide))).trans rfl).symm.trans z16); omega)⟩ (nr_bool (R_of (lo := 0) (hi := 1) r31 rfl)) dX12_end_18
def po_X12_taken (τ : Tau)  (a0 : Int32)   (u : Tau) : Prop := Inv u ∧ Fr [(131, 2), (131, 3), (131, 4), (131, 5)] [] τ u ∧ R (0) (0) (u 131 2)
set_option maxHeartbeats 4000000 in
set_option maxRecDepth 100000 in
theorem c_X12_taken (l : Launch) (G : Gx) (τ : Tau) (hI : Inv τ) (a0 : Int32) (h_a0 : R (0) (940) a0) : Cv l G yX12_taken cX12_taken 2 0 0 [.ref (G.2.2.2.1 131), .int a0] τ (po_X12_taken τ  a0  ) := by
  unfold Cv
  refine C_of (own := RX12) (by decide) rfl (Nat.le_of_ble_eq_true rfl) ?_
  intro p e s m below meth c ls S hr hlk X hl
  have hl : lv_has ls 2 [(0, .ref (G.2.2.2.1 131)), (1, .int a0)] := hl
  refine r_aload_n S dX12_taken_0 rfl (lv_at hl 0 rfl) ?_
  refine r_aload_n S dX12_taken_1 rfl (lv_at hl 0 rfl) ?_
  refine r_getn (K := 38) S X (Nat.le_of_ble_eq_true rfl) rfl lk12_7_10 (fun _ => ⟨_, rfl, rfl⟩) dX12_taken_2 (fun v1 z2 => ?_)
  have r3 : R (0) (940) v1 := rd hI rfl z2
  refine r_put (K := 38) (ty := .int) S X (Nat.le_of_ble_eq_true rfl) rfl lk12_18_10 (fun _ => ⟨_, rfl, Nat.le_of_ble_eq_true rfl, rfl⟩) (fun _ _ _ h => by cases h; exact ⟨rfl, rfl⟩) rfl rfl dX12_taken_5 (fun t4 H lc M5 X6 => ?_)
  have I7 := Inv_mu hI M5 (show Rg (kd 131) 3 v1 from (R_of (lo := 0) (hi := 940) r3 rfl))
  have F8 : Fr [(131, 2), (131, 3), (131, 4), (131, 5)] [] τ t4 := Fr_mu Fr_rfl M5 (by decide)
  refine r_aload_n S dX12_taken_8 rfl (lv_at hl 0 rfl) ?_
  refine r_iconst S dX12_taken_9 (by decide) (fun v9 z10 => ?_)
  have r11 := R_eq z10
  refine r_put (K := 38) (ty := .int) S X6 (Nat.le_of_ble_eq_true rfl) rfl lk12_7_10 (fun _ => ⟨_, rfl, Nat.le_of_ble_eq_true rfl, rfl⟩) (fun _ _ _ h => by cases h; exact ⟨rfl, rfl⟩) rfl rfl dX12_taken_10 (fun t12 H lc M13 X14 => ?_)
  have I15 := Inv_mu I7 M13 (show Rg (kd 131) 2 v9 from (R_of (lo := 0) (hi := 940) r11 rfl))
  have F16 : Fr [(131, 2), (131, 3), (131, 4), (131, 5)] [] τ t12 := Fr_mu F8 M13 (by decide)
  refine r_aload_n S dX12_taken_13 rfl (lv_at hl 0 rfl) ?_
  refine r_iconst S dX12_taken_14 (by decide) (fun v17 z18 => ?_)
  have r19 := R_eq z18
  refine r_put (K := 38) (ty := .int) S X14 (Nat.le_of_ble_eq_true rfl) rfl lk12_21_10 (fun _ => ⟨_, rfl, Nat.le_of_ble_eq_true rfl, rfl⟩) (fun _ _ _ h => by cases h; exact ⟨rfl, rfl⟩) rfl rfl dX12_taken_15 (fun t20 H lc M21 X22 => ?_)
  have I23 := Inv_mu I15 M21 (show Rg (kd 131) 4 v17 from (R_of (lo := 0) (hi := 940) r19 rfl))
  have F24 : Fr [(131, 2), (131, 3), (131, 4), (131, 5)] [] τ t20 := Fr_mu F16 M21 (by decide)
  refine r_aload_n S dX12_taken_18 rfl (lv_at hl 0 rfl) ?_
  refine r_iload_n S dX12_taken_19 rfl (lv_at hl 1 rfl) ?_
  refine r_put (K := 38) (ty := .int) S X22 (Nat.le_of_ble_eq_true rfl) rfl lk12_24_10 (fun _ => ⟨_, rfl, Nat.le_of_ble_eq_true rfl, rfl⟩) (fun _ _ _ h => by cases h; exact ⟨rfl, rfl⟩) rfl rfl dX12_taken_20 (fun t25 H lc M26 X27 => ?_)
  have I28 := Inv_mu I23 M26 (show Rg (kd 131) 5 a0 from (R_of (lo := 0) (hi := 940) h_a0 rfl))
  have F29 : Fr [(131, 2), (131, 3), (131, 4), (131, 5)] [] τ t25 := Fr_mu F24 M26 (by decide)
  exact r_vret S hr hlk X27 ⟨I28, F29, (by rw [((M26.2 131 2 (Or.inr (by decide))).trans ((M21.2 131 2 (Or.inr (by decide))).trans M13.1))]; exact R_of r11 rfl)⟩ dX12_taken_23
def po_X12_isIn (τ : Tau)  (a0 a1 a2 : Int32)   (r : Int32) (u : Tau) : Prop := u = τ ∧ R (0) (1) r ∧ (r.toInt = 1 → a1.toInt ≤ a0.toInt ∧ a0.toInt ≤ a2.toInt)
set_option maxHeartbeats 4000000 in
set_option maxRecDepth 100000 in
theorem c_X12_isIn (l : Launch) (G : Gx) (τ : Tau) (hI : Inv τ) (a0 : Int32) (a1 : Int32) (a2 : Int32) (h_a0 : R (-2147483648) (2147483647) a0) (h_a1 : R (-2147483648) (2147483647) a1) (h_a2 : R (-2147483648) (2147483647) a2) : Ci l G yX12_isIn cX12_isIn 3 (some .boolean) 0 0 [.int a0, .int a1, .int a2] τ (po_X12_isIn τ  a0 a1 a2  ) := by
  unfold Ci
  refine C_of (own := RX12) (by decide) rfl (Nat.le_of_ble_eq_true rfl) ?_
  intro p e s m below meth c ls S hr hlk X hl
  have hl : lv_has ls 3 [(0, .int a0), (1, .int a1), (2, .int a2)] := hl
  refine r_iload_n S dX12_isIn_0 rfl (lv_at hl 0 rfl) ?_
  refine r_iload_n S dX12_isIn_1 rfl (lv_at hl 1 rfl) ?_
  refine r_icmp_lt (tgt := 14) S dX12_isIn_2 (by decide) (fun c1 => ?_) (fun c1 => ?_)
  ·
    have r2 : R (-2147483648) (2147483646) a0 := ⟨by omega, by omega⟩
    have r3 : R (-2147483647) (2147483647) a1 := ⟨by omega, by omega⟩
    refine r_iconst S dX12_isIn_14 (by decide) (fun v4 z5 => ?_)
    have r6 := R_eq z5
    exact r_ret S hr hlk X ⟨rfl, (R_of r6 rfl), (fun h => by omega)⟩ (nr_bool (R_of (lo := 0) (hi := 1) r6 rfl)) dX12_isIn_15
  ·
    refine r_iload_n S dX12_isIn_5 rfl (lv_at hl 0 rfl) ?_
    refine r_iload_n S dX12_isIn_6 rfl (lv_at hl 2 rfl) ?_
    refine r_icmp_gt (tgt := 14) S dX12_isIn_7 (by decide) (fun c7 => ?_) (fun c7 => ?_)
    ·
      have r8 : R (-2147483648) (2147483646) a2 := ⟨by omega, by omega⟩
      have r9 : R (-2147483647) (2147483647) a0 := ⟨by omega, by omega⟩
      refine r_iconst S dX12_isIn_14 (by decide) (fun v10 z11 => ?_)
      have r12 := R_eq z11
      exact r_ret S hr hlk X ⟨rfl, (R_of r12 rfl), (fun h => by omega)⟩ (nr_bool (R_of (lo := 0) (hi := 1) r12 rfl)) dX12_isIn_15
    ·
      refine r_iconst S dX12_isIn_10 (by decide) (fun v13 z14 => ?_)
      have r15 := R_eq z14
      refine r_goto (tgt := 15) S dX12_isIn_11 (by decide) ?_
      exact r_ret S hr hlk X ⟨rfl, (R_of r15 rfl), (fun h => by omega)⟩ (nr_bool (R_of (lo := 0) (hi := 1) r15 rfl)) dX12_isIn_15
def po_X12_bitOf (τ : Tau)  (a0 a1 : Int32)   (r : Int32) (u : Tau) : Prop := u = τ ∧ R (0) (1) r
set_option maxHeartbeats 4000000 in
set_option maxRecDepth 100000 in
theorem c_X12_bitOf (l : Launch) (G : Gx) (τ : Tau) (hI : Inv τ) (a0 : Int32) (a1 : Int32) (h_a0 : R (-2147483648) (2147483647) a0) (h_a1 : R (-2147483648) (2147483647) a1) : Ci l G yX12_bitOf cX12_bitOf 2 (some .boolean) 0 0 [.int a0, .int a1] τ (po_X12_bitOf τ  a0 a1  ) := by
  unfold Ci
  refine C_of (own := RX12) (by decide) rfl (Nat.le_of_ble_eq_true rfl) ?_
  intro p e s m below meth c ls S hr hlk X hl
  have hl : lv_has ls 2 [(0, .int a0), (1, .int a1)] := hl
  refine r_iload_n S dX12_bitOf_0 rfl (lv_at hl 0 rfl) ?_
  refine r_iload_n S dX12_bitOf_1 rfl (lv_at hl 1 rfl) ?_
  refine r_ishr S dX12_bitOf_2 (fun v1 z2 => ?_)
  have r3 := R_any v1
  refine r_iconst S dX12_bitOf_3 (by decide) (fun v4 z5 => ?_)
  have r6 := R_eq z5
  refine r_iand S dX12_bitOf_4 (fun v7 z8 => ?_)
  have r10 : R (0) (1) v7 := i_and2 z8 r3 r6 rfl
  refine r_iconst S dX12_bitOf_5 (by decide) (fun v11 z12 => ?_)
  have r13 := R_eq z12
  refine r_icmp_ne (tgt := 13) S dX12_bitOf_6 (by decide) (fun c14 => ?_) (fun c14 => ?_)
  ·
    have r15 : R (0) (0) v7 := ⟨by omega, by omega⟩
    refine r_iconst S dX12_bitOf_13 (by decide) (fun v16 z17 => ?_)
    have r18 := R_eq z17
    exact r_ret S hr hlk X ⟨rfl, (R_of r18 rfl)⟩ (nr_bool (R_of (lo := 0) (hi := 1) r18 rfl)) dX12_bitOf_14
  ·
    have r19 : R (1) (1) v7 := ⟨by omega, by omega⟩
    refine r_iconst S dX12_bitOf_9 (by decide) (fun v20 z21 => ?_)
    have r22 := R_eq z21
    refine r_goto (tgt := 14) S dX12_bitOf_10 (by decide) ?_
    exact r_ret S hr hlk X ⟨rfl, (R_of r22 rfl)⟩ (nr_bool (R_of (lo := 0) (hi := 1) r22 rfl)) dX12_bitOf_14
def po_X12_sizeOf_9 (τ : Tau)  (a0 : Int32)   (r : Int32) (u : Tau) : Prop := u = τ ∧ R (0) (9) r
set_option maxHeartbeats 4000000 in
set_option maxRecDepth 100000 in
theorem c_X12_sizeOf_9 (l : Launch) (G : Gx) (τ : Tau) (hI : Inv τ) (a0 : Int32) (h_a0 : R (-9) (9) a0) : Ci l G yX12_sizeOf cX12_sizeOf 1 (some .int) 0 0 [.int a0] τ (po_X12_sizeOf_9 τ  a0  ) := by
  unfold Ci
  refine C_of (own := RX12) (by decide) rfl (Nat.le_of_ble_eq_true rfl) ?_
  intro p e s m below meth c ls S hr hlk X hl
  have hl : lv_has ls 1 [(0, .int a0)] := hl
  refine r_iload_n S dX12_sizeOf_0 rfl (lv_at hl 0 rfl) ?_
  refine r_if_ge (tgt := 9) S dX12_sizeOf_1 (by decide) (fun c1 => ?_) (fun c1 => ?_)
  ·
    have r2 : R (0) (9) a0 := ⟨by omega, by omega⟩
    refine r_iload_n S dX12_sizeOf_9 rfl (lv_at hl 0 rfl) ?_
    exact r_ret S hr hlk X ⟨rfl, r2⟩ rfl dX12_sizeOf_10
  ·
    have r3 : R (-9) (-1) a0 := ⟨by omega, by omega⟩
    refine r_iload_n S dX12_sizeOf_4 rfl (lv_at hl 0 rfl) ?_
    refine r_ineg S dX12_sizeOf_5 (fun v4 z5 => ?_)
    obtain ⟨e6, r7⟩ := i_neg (lo := 1) (hi := 9) z5 r3 rfl
    refine r_goto (tgt := 10) S dX12_sizeOf_6 (by decide) ?_
    exact r_ret S hr hlk X ⟨rfl, (R_of r7 rfl)⟩ rfl dX12_sizeOf_10
def po_X12_sizeOf (τ : Tau)  (a0 : Int32)   (r : Int32) (u : Tau) : Prop := u = τ
set_option maxHeartbeats 4000000 in
set_option maxRecDepth 100000 in
theorem c_X12_sizeOf (l : Launch) (G : Gx) (τ : Tau) (hI : Inv τ) (a0 : Int32) (h_a0 : R (-2147483648) (2147483647) a0) : Ci l G yX12_sizeOf cX12_sizeOf 1 (some .int) 0 0 [.int a0] τ (po_X12_sizeOf τ  a0  ) := by
  unfold Ci
  refine C_of (own := RX12) (by decide) rfl (Nat.le_of_ble_eq_true rfl) ?_
  intro p e s m below meth c ls S hr hlk X hl
  have hl : lv_has ls 1 [(0, .int a0)] := hl
  refine r_iload_n S dX12_sizeOf_0 rfl (lv_at hl 0 rfl) ?_
  refine r_if_ge (tgt := 9) S dX12_sizeOf_1 (by decide) (fun c1 => ?_) (fun c1 => ?_)
  ·
    have r2 : R (0) (2147483647) a0 := ⟨by omega, by omega⟩
    refine r_iload_n S dX12_sizeOf_9 rfl (lv_at hl 0 rfl) ?_
    exact r_ret S hr hlk X rfl rfl dX12_sizeOf_10
  ·
    have r3 : R (-2147483648) (-1) a0 := ⟨by omega, by omega⟩
    refine r_iload_n S dX12_sizeOf_4 rfl (lv_at hl 0 rfl) ?_
    refine r_ineg S dX12_sizeOf_5 (fun v4 z5 => ?_)
    have r6 := R_any v4
    refine r_goto (tgt := 10) S dX12_sizeOf_6 (by decide) ?_
    exact r_ret S hr hlk X rfl rfl dX12_sizeOf_10
def po_X12_bits (τ : Tau)  (a0 : Int32)   (r : Int32) (u : Tau) : Prop := u = τ
set_option maxHeartbeats 4000000 in
set_option maxRecDepth 100000 in
theorem c_X12_bits (l : Launch) (G : Gx) (τ : Tau) (hI : Inv τ) (a0 : Int32) (h_a0 : R (-2147483648) (2147483647) a0) : Ci l G yX12_bits cX12_bits 3 (some .int) 0 0 [.int a0] τ (po_X12_bits τ  a0  ) := by
  unfold Ci
  refine C_of (own := RX12) (by decide) rfl (Nat.le_of_ble_eq_true rfl) ?_
  intro p e s m below meth c ls S hr hlk X hl
  have hl : lv_has ls 3 [(0, .int a0)] := hl
  refine r_iconst S dX12_bits_0 (by decide) (fun v1 z2 => ?_)
  have r3 := R_eq z2
  refine r_istore_n (lv' := [(1, .int v1), (0, .int a0)]) S dX12_bits_1 rfl hl (by decide) rfl (fun ls hl => ?_)
  refine r_iload_n S dX12_bits_2 rfl (lv_at hl 1 rfl) ?_
  refine r_istore_n (lv' := [(2, .int a0), (1, .int v1), (0, .int a0)]) S dX12_bits_3 rfl hl (by decide) rfl (fun ls hl => ?_)
  have L931 : ∀ (n : Nat) (H : Heap) (lc : List Loc) (ls : Array Slot) (i926 : Int32) (i928 : Int32), Xd G s H lc τ → R (-2147483648) (2147483647) i926 → R (-2147483648) (2147483647) i928 → lv_has ls 3 [(1, .int i926), (2, .int i928)] → i928.toBitVec.toNat < n → W p l e (Rm 0 0) s m ([.int a0] : List Value).toArray below meth c H lc 0 0 (MQ below (va_Qi (po_X12_bits τ  a0  ) (Bs G) G.2.2.2.2) ([.int a0] : List Value).toArray s 0 0 G.2.2.2.2) (F0 m 4 ls []) := by
    intro n
    induction n with
    | zero => intros; omega
    | succ n ih932 =>
      intro H lc ls i926 i928 X930 r927 r929 hl hm
      refine r_iload_n S dX12_bits_4 rfl (lv_at hl 1 rfl) ?_
      refine r_if_eq (tgt := 20) S dX12_bits_5 (by decide) (fun c933 => ?_) (fun c933 => ?_)
      ·
        have r934 : R (0) (0) i928 := ⟨by omega, by omega⟩
        refine r_iload_n S dX12_bits_20 rfl (lv_at hl 0 rfl) ?_
        exact r_ret S hr hlk X930 rfl rfl dX12_bits_21
      ·
        refine r_iinc (k := 0) S dX12_bits_8 hl rfl (by decide) (by decide) (fun v935 d936 ls z937 z938 hl => ?_)
        have r939 := R_any v935
        have hl : lv_has ls 3 [(1, .int v935), (2, .int i928)] := hl
        refine r_iload_n S dX12_bits_11 rfl (lv_at hl 1 rfl) ?_
        refine r_iload_n S dX12_bits_12 rfl (lv_at hl 1 rfl) ?_
        refine r_iconst S dX12_bits_13 (by decide) (fun v940 z941 => ?_)
        have r942 := R_eq z941
        refine r_isub S dX12_bits_14 (fun v943 z944 => ?_)
        have r945 := R_any v943
        refine r_iand S dX12_bits_15 (fun v946 z947 => ?_)
        have r948 := R_any v946
        refine r_istore_n (lv' := [(2, .int v946), (1, .int v935)]) S dX12_bits_16 rfl hl (by decide) rfl (fun ls hl => ?_)
        refine r_goto (tgt := 4) S dX12_bits_17 (by decide) ?_
        exact ih932 _ _ _ v935 v946 X930 r939 r948 (lv_sub hl [1, 0] rfl) (by refine Nat.lt_of_lt_of_le (and_pred (by assumption) (by assumption) (by assumption) (by assumption)) (by omega))
  exact L931 _ _ _ _ v1 a0 X (R_of r3 rfl) h_a0 (lv_sub hl [1, 0] rfl) (Nat.lt_succ_self _)
def po_X12_octet (τ : Tau)  (a0 : Int32)   (r : Int32) (u : Tau) : Prop := u = τ ∧ R (0) (255) r
set_option maxHeartbeats 4000000 in
set_option maxRecDepth 100000 in
theorem c_X12_octet (l : Launch) (G : Gx) (τ : Tau) (hI : Inv τ) (a0 : Int32) (h_a0 : R (0) (939) a0) : Ci l G yX12_octet cX12_octet 2 (some .int) 0 0 [.ref (G.2.2.2.1 131), .int a0] τ (po_X12_octet τ  a0  ) := by
  unfold Ci
  refine C_of (own := RX12) (by decide) rfl (Nat.le_of_ble_eq_true rfl) ?_
  intro p e s m below meth c ls S hr hlk X hl
  have hl : lv_has ls 2 [(0, .ref (G.2.2.2.1 131)), (1, .int a0)] := hl
  refine r_aload_n S dX12_octet_0 rfl (lv_at hl 0 rfl) ?_
  refine r_get (K := 38) (v := .ref (G.2.2.2.1 132)) S X (Nat.le_of_ble_eq_true rfl) rfl lk12_14_10 (fun _ => ⟨_, rfl, rfl⟩) dX12_octet_1 ?_
  refine r_iload_n S dX12_octet_4 rfl (lv_at hl 1 rfl) ?_
  refine r_bald (n := 940) (K := 39) S X (Nat.le_of_ble_eq_true rfl) rfl (fun _ => rfl) (ix_of h_a0 rfl) dX12_octet_5 (fun v1 z2 => ?_)
  have r3 : R (-128) (127) v1 := rd hI rfl z2
  refine r_sipush S dX12_octet_6 (by decide) (fun v4 z5 => ?_)
  have r6 := R_eq z5
  refine r_iand S dX12_octet_9 (fun v7 z8 => ?_)
  have r10 : R (0) (255) v7 := i_and2 z8 r3 r6 rfl
  exact r_ret S hr hlk X ⟨rfl, r10⟩ rfl dX12_octet_10
def po_X12_peek (τ : Tau)     (r : Int32) (u : Tau) : Prop := u = τ ∧ R (-1) (255) r ∧ (0 ≤ r.toInt → R (0) (939) (u 131 4))
set_option maxHeartbeats 4000000 in
set_option maxRecDepth 100000 in
theorem c_X12_peek (l : Launch) (G : Gx) (τ : Tau) (hI : Inv τ) : Ci l G yX12_peek cX12_peek 1 (some .int) 0 0 [.ref (G.2.2.2.1 131)] τ (po_X12_peek τ    ) := by
  unfold Ci
  refine C_of (own := RX12) (by decide) rfl (Nat.le_of_ble_eq_true rfl) ?_
  intro p e s m below meth c ls S hr hlk X hl
  have hl : lv_has ls 1 [(0, .ref (G.2.2.2.1 131))] := hl
  refine r_aload_n S dX12_peek_0 rfl (lv_at hl 0 rfl) ?_
  refine r_getn (K := 38) S X (Nat.le_of_ble_eq_true rfl) rfl lk12_21_10 (fun _ => ⟨_, rfl, rfl⟩) dX12_peek_1 (fun v1 z2 => ?_)
  have r3 : R (0) (940) v1 := rd hI rfl z2
  refine r_aload_n S dX12_peek_4 rfl (lv_at hl 0 rfl) ?_
  refine r_getn (K := 38) S X (Nat.le_of_ble_eq_true rfl) rfl lk12_18_10 (fun _ => ⟨_, rfl, rfl⟩) dX12_peek_5 (fun v4 z5 => ?_)
  have r6 : R (0) (940) v4 := rd hI rfl z5
  refine r_icmp_ge (tgt := 27) S dX12_peek_8 (by decide) (fun c7 => ?_) (fun c7 => ?_)
  ·
    refine r_iconst S dX12_peek_27 (by decide) (fun v8 z9 => ?_)
    have r10 := R_eq z9
    exact r_ret S hr hlk X ⟨rfl, (R_of r10 rfl), (fun h => by exfalso; omega)⟩ rfl dX12_peek_28
  ·
    have r11 : R (0) (939) v1 := ⟨by omega, by omega⟩
    have r12 : R (1) (940) v4 := ⟨by omega, by omega⟩
    refine r_aload_n S dX12_peek_11 rfl (lv_at hl 0 rfl) ?_
    refine r_get (K := 38) (v := .ref (G.2.2.2.1 132)) S X (Nat.le_of_ble_eq_true rfl) rfl lk12_14_10 (fun _ => ⟨_, rfl, rfl⟩) dX12_peek_12 ?_
    refine r_aload_n S dX12_peek_15 rfl (lv_at hl 0 rfl) ?_
    refine r_geti (K := 38) S X (Nat.le_of_ble_eq_true rfl) rfl lk12_21_10 (fun _ => ⟨_, rfl, rfl⟩) z2 dX12_peek_16 ?_
    refine r_bald (n := 940) (K := 39) S X (Nat.le_of_ble_eq_true rfl) rfl (fun _ => rfl) (ix_of r11 rfl) dX12_peek_19 (fun v13 z14 => ?_)
    have r15 : R (-128) (127) v13 := rd hI rfl z14
    refine r_sipush S dX12_peek_20 (by decide) (fun v16 z17 => ?_)
    have r18 := R_eq z17
    refine r_iand S dX12_peek_23 (fun v19 z20 => ?_)
    have r22 : R (0) (255) v19 := i_and2 z20 r15 r18 rfl
    refine r_goto (tgt := 28) S dX12_peek_24 (by decide) ?_
    exact r_ret S hr hlk X ⟨rfl, (R_of r22 rfl), (fun h => (by rw [z2]; exact R_of r11 rfl))⟩ rfl dX12_peek_28
def po_X12_isSmall (τ : Tau)  (a0 : Int32)   (r : Int32) (u : Tau) : Prop := u = τ ∧ R (0) (1) r ∧ (r.toInt = 1 → R (97) (122) a0)
set_option maxHeartbeats 4000000 in
set_option maxRecDepth 100000 in
theorem c_X12_isSmall (l : Launch) (G : Gx) (τ : Tau) (hI : Inv τ) (a0 : Int32) (h_a0 : R (-2147483648) (2147483647) a0) : Ci l G yX12_isSmall cX12_isSmall 1 (some .boolean) 0 0 [.int a0] τ (po_X12_isSmall τ  a0  ) := by
  unfold Ci
  refine C_of (own := RX12) (by decide) rfl (Nat.le_of_ble_eq_true rfl) ?_
  intro p e s m below meth c ls S hr hlk X hl
  have hl : lv_has ls 1 [(0, .int a0)] := hl
  refine r_iload_n S dX12_isSmall_0 rfl (lv_at hl 0 rfl) ?_
  refine r_bipush S dX12_isSmall_1 (by decide) (fun v1 z2 => ?_)
  have r3 := R_eq z2
  refine r_icmp_lt (tgt := 16) S dX12_isSmall_3 (by decide) (fun c4 => ?_) (fun c4 => ?_)
  ·
    have r5 : R (-2147483648) (96) a0 := ⟨by omega, by omega⟩
    refine r_iconst S dX12_isSmall_16 (by decide) (fun v6 z7 => ?_)
    have r8 := R_eq z7
    exact r_ret S hr hlk X ⟨rfl, (R_of r8 rfl), (fun h => by exfalso; omega)⟩ (nr_bool (R_of (lo := 0) (hi := 1) r8 rfl)) dX12_isSmall_17
  ·
    have r9 : R (97) (2147483647) a0 := ⟨by omega, by omega⟩
    refine r_iload_n S dX12_isSmall_6 rfl (lv_at hl 0 rfl) ?_
    refine r_bipush S dX12_isSmall_7 (by decide) (fun v10 z11 => ?_)
    have r12 := R_eq z11
    refine r_icmp_gt (tgt := 16) S dX12_isSmall_9 (by decide) (fun c13 => ?_) (fun c13 => ?_)
    ·
      have r14 : R (123) (2147483647) a0 := ⟨by omega, by omega⟩
      refine r_iconst S dX12_isSmall_16 (by decide) (fun v15 z16 => ?_)
      have r17 := R_eq z16
      exact r_ret S hr hlk X ⟨rfl, (R_of r17 rfl), (fun h => by exfalso; omega)⟩ (nr_bool (R_of (lo := 0) (hi := 1) r17 rfl)) dX12_isSmall_17
    ·
      have r18 : R (97) (122) a0 := ⟨by omega, by omega⟩
      refine r_iconst S dX12_isSmall_12 (by decide) (fun v19 z20 => ?_)
      have r21 := R_eq z20
      refine r_goto (tgt := 17) S dX12_isSmall_13 (by decide) ?_
      exact r_ret S hr hlk X ⟨rfl, (R_of r21 rfl), (fun h => ⟨by omega, by omega⟩)⟩ (nr_bool (R_of (lo := 0) (hi := 1) r21 rfl)) dX12_isSmall_17
def po_X12_isDigit (τ : Tau)  (a0 : Int32)   (r : Int32) (u : Tau) : Prop := u = τ ∧ R (0) (1) r ∧ (r.toInt = 1 → R (48) (57) a0)
set_option maxHeartbeats 4000000 in
set_option maxRecDepth 100000 in
theorem c_X12_isDigit (l : Launch) (G : Gx) (τ : Tau) (hI : Inv τ) (a0 : Int32) (h_a0 : R (-2147483648) (2147483647) a0) : Ci l G yX12_isDigit cX12_isDigit 1 (some .boolean) 0 0 [.int a0] τ (po_X12_isDigit τ  a0  ) := by
  unfold Ci
  refine C_of (own := RX12) (by decide) rfl (Nat.le_of_ble_eq_true rfl) ?_
  intro p e s m below meth c ls S hr hlk X hl
  have hl : lv_has ls 1 [(0, .int a0)] := hl
  refine r_iload_n S dX12_isDigit_0 rfl (lv_at hl 0 rfl) ?_
  refine r_bipush S dX12_isDigit_1 (by decide) (fun v1 z2 => ?_)
  have r3 := R_eq z2
  refine r_icmp_lt (tgt := 16) S dX12_isDigit_3 (by decide) (fun c4 => ?_) (fun c4 => ?_)
  ·
    have r5 : R (-2147483648) (47) a0 := ⟨by omega, by omega⟩
    refine r_iconst S dX12_isDigit_16 (by decide) (fun v6 z7 => ?_)
    have r8 := R_eq z7
    exact r_ret S hr hlk X ⟨rfl, (R_of r8 rfl), (fun h => by exfalso; omega)⟩ (nr_bool (R_of (lo := 0) (hi := 1) r8 rfl)) dX12_isDigit_17
  ·
    have r9 : R (48) (2147483647) a0 := ⟨by omega, by omega⟩
    refine r_iload_n S dX12_isDigit_6 rfl (lv_at hl 0 rfl) ?_
    refine r_bipush S dX12_isDigit_7 (by decide) (fun v10 z11 => ?_)
    have r12 := R_eq z11
    refine r_icmp_gt (tgt := 16) S dX12_isDigit_9 (by decide) (fun c13 => ?_) (fun c13 => ?_)
    ·
      have r14 : R (58) (2147483647) a0 := ⟨by omega, by omega⟩
      refine r_iconst S dX12_isDigit_16 (by decide) (fun v15 z16 => ?_)
      have r17 := R_eq z16
      exact r_ret S hr hlk X ⟨rfl, (R_of r17 rfl), (fun h => by exfalso; omega)⟩ (nr_bool (R_of (lo := 0) (hi := 1) r17 rfl)) dX12_isDigit_17
    ·
      have r18 : R (48) (57) a0 := ⟨by omega, by omega⟩
      refine r_iconst S dX12_isDigit_12 (by decide) (fun v19 z20 => ?_)
      have r21 := R_eq z20
      refine r_goto (tgt := 17) S dX12_isDigit_13 (by decide) ?_
      exact r_ret S hr hlk X ⟨rfl, (R_of r21 rfl), (fun h => ⟨by omega, by omega⟩)⟩ (nr_bool (R_of (lo := 0) (hi := 1) r21 rfl)) dX12_isDigit_17
