def po_X12_throwsIf (τ : Tau)  (a0 : Int32) (r : Int32) (u : Tau) : Prop := Inv u ∧ Fr [(131, 0)] [] τ u ∧ R (0) (1) r ∧ (r.toInt = 1 → R (1) (1) a0) ∧ (r.toInt = 0 → R (0) (0) a0)
set_option maxHeartbeats 4000000 in
set_option maxRecDepth 100000 in
theorem c_X12_throwsIf (l : Launch) (G : Gx) (τ : Tau) (hI : Inv τ) (a0 : Int32) (h_a0 : R (0) (1) a0) : Ci l G yX12_throwsIf cX12_throwsIf 2 (some .boolean) 0 0 [.ref (G.2.2.2.1 131), .int a0] τ (po_X12_throwsIf τ  a0) := by
  unfold Ci
  refine C_of (own := RX12) (by decide) rfl (Nat.le_of_ble_eq_true rfl) ?_
  intro p e s m below meth c ls S hr hlk X hl
  have hl : lv_has ls 2 [(0, .ref (G.2.2.2.1 131)), (1, .int a0)] := hl
  refine r_aload_n S dX12_throwsIf_0 rfl (lv_at hl 0 rfl) ?_
  refine r_iload_n S dX12_throwsIf_1 rfl (lv_at hl 1 rfl) ?_
  refine r_if_eq (tgt := 9) S dX12_throwsIf_2 (by decide) (fun c1 => ?_) (fun c1 => ?_)
  ·
    have r2 : R (0) (0) a0 := ⟨by omega, by omega⟩
    refine r_iconst S dX12_throwsIf_9 (by decide) (fun v3 z4 => ?_)
    have r5 := R_eq z4
    refine r_put (K := 38) (ty := .int) S X (Nat.le_of_ble_eq_true rfl) rfl lk12_1_10 (fun _ => ⟨_, rfl, Nat.le_of_ble_eq_true rfl, rfl⟩) (fun _ _ _ h => by cases h; exact ⟨rfl, rfl⟩) rfl rfl dX12_throwsIf_10 (fun t6 H lc M7 X8 => ?_)
    have I9 := Inv_mu hI M7 (R_any v3)
    have F10 : Fr [(131, 0)] [] τ t6 := Fr_mu Fr_rfl M7 (by decide)
    refine r_iload_n S dX12_throwsIf_13 rfl (lv_at hl 1 rfl) ?_
    exact r_ret S hr hlk X8 ⟨I9, F10, (R_of r2 rfl), (fun h => by exfalso; omega), (fun h => ⟨by omega, by omega⟩)⟩ (nr_bool (R_of (lo := 0) (hi := 1) r2 rfl)) dX12_throwsIf_14
  ·
    have r11 : R (1) (1) a0 := ⟨by omega, by omega⟩
    refine r_iconst S dX12_throwsIf_5 (by decide) (fun v12 z13 => ?_)
    have r14 := R_eq z13
    refine r_goto (tgt := 10) S dX12_throwsIf_6 (by decide) ?_
    refine r_put (K := 38) (ty := .int) S X (Nat.le_of_ble_eq_true rfl) rfl lk12_1_10 (fun _ => ⟨_, rfl, Nat.le_of_ble_eq_true rfl, rfl⟩) (fun _ _ _ h => by cases h; exact ⟨rfl, rfl⟩) rfl rfl dX12_throwsIf_10 (fun t15 H lc M16 X17 => ?_)
    have I18 := Inv_mu hI M16 (R_any v12)
    have F19 : Fr [(131, 0)] [] τ t15 := Fr_mu Fr_rfl M16 (by decide)
    refine r_iload_n S dX12_throwsIf_13 rfl (lv_at hl 1 rfl) ?_
    exact r_ret S hr hlk X17 ⟨I18, F19, (R_of r11 rfl), (fun h => ⟨by omega, by omega⟩), (fun h => by exfalso; omega)⟩ (nr_bool (R_of (lo := 0) (hi := 1) r11 rfl)) dX12_throwsIf_14
def po_X12_four_0 (τ : Tau)  (a0 : Int32) (u : Tau) : Prop := Inv u ∧ Fr [(131, 2)] [132] τ u ∧ R (4) (924) (u 131 2) ∧ (u 131 2).toInt = (τ 131 2).toInt + 4
set_option maxHeartbeats 4000000 in
set_option maxRecDepth 100000 in
theorem c_X12_four_0 (l : Launch) (G : Gx) (τ : Tau) (hI : Inv τ) (a0 : Int32) (h_a0 : R (-2147483648) (2147483647) a0) (hf_0 : R (0) (920) (τ 131 2)) : Cv l G yX12_four cX12_four 3 0 0 [.ref (G.2.2.2.1 131), .int a0] τ (po_X12_four_0 τ  a0) := by
  unfold Cv
  refine C_of (own := RX12) (by decide) rfl (Nat.le_of_ble_eq_true rfl) ?_
  intro p e s m below meth c ls S hr hlk X hl
  have hl : lv_has ls 3 [(0, .ref (G.2.2.2.1 131)), (1, .int a0)] := hl
  obtain ⟨v1, z2⟩ : ∃ x, τ 131 2 = x := ⟨_, rfl⟩
  rw [z2] at hf_0
  refine r_bipush S dX12_four_0 (by decide) (fun v3 z4 => ?_)
  have r5 := R_eq z4
  refine r_istore_n (lv' := [(2, .int v3), (0, .ref (G.2.2.2.1 131)), (1, .int a0)]) S dX12_four_2 rfl hl (by decide) rfl (fun ls hl => ?_)
  refine r_iload_n S dX12_four_3 rfl (lv_at hl 0 rfl) ?_
  refine r_if_lt (tgt := 36) S dX12_four_4 (by decide) (fun c6 => ?_) (fun c6 => ?_)
  ·
    exfalso; omega
  ·
    refine r_aload_n S dX12_four_7 rfl (lv_at hl 1 rfl) ?_
    refine r_get (K := 38) (v := .ref (G.2.2.2.1 132)) S X (Nat.le_of_ble_eq_true rfl) rfl lk12_14_10 (fun _ => ⟨_, rfl, rfl⟩) dX12_four_8 ?_
    refine r_aload_n S dX12_four_11 rfl (lv_at hl 1 rfl) ?_
    refine r_geti (K := 38) S X (Nat.le_of_ble_eq_true rfl) rfl lk12_7_10 (fun _ => ⟨_, rfl, rfl⟩) z2 dX12_four_12 ?_
    refine r_iload_n S dX12_four_15 rfl (lv_at hl 2 rfl) ?_
    refine r_iload_n S dX12_four_16 rfl (lv_at hl 0 rfl) ?_
    refine r_ishr S dX12_four_17 (fun v7 z8 => ?_)
    have r9 := R_any v7
    refine r_i2b S dX12_four_18 (fun v10 r11 => ?_)
    refine r_bast (n := 940) (K := 39) S X (Nat.le_of_ble_eq_true rfl) rfl (fun _ _ => rfl) (ix_of hf_0 rfl) (R_of (lo := -128) (hi := 127) r11 rfl) dX12_four_19 (fun t12 H lc M13 X14 => ?_)
    have I15 := Inv_mu hI M13 (show Rg (kd 132) _ v10 from (R_of (lo := -128) (hi := 127) r11 rfl))
    have F16 : Fr [(131, 2)] [132] τ t12 := Fr_cell Fr_rfl M13 (by decide)
    refine r_aload_n S dX12_four_20 rfl (lv_at hl 1 rfl) ?_
    refine r_dup S dX12_four_21 rfl ?_
    refine r_geti (K := 38) S X14 (Nat.le_of_ble_eq_true rfl) rfl lk12_7_10 (fun _ => ⟨_, rfl, rfl⟩) ((M13.2 131 2 (Or.inl (by decide))).trans z2) dX12_four_22 ?_
    refine r_iconst S dX12_four_25 (by decide) (fun v17 z18 => ?_)
    have r19 := R_eq z18
    refine r_iadd S dX12_four_26 (fun v20 z21 => ?_)
    obtain ⟨e22, r23⟩ := i_add (lo := 1) (hi := 921) z21 hf_0 r19 rfl
    refine r_put (K := 38) (ty := .int) S X14 (Nat.le_of_ble_eq_true rfl) rfl lk12_7_10 (fun _ => ⟨_, rfl, Nat.le_of_ble_eq_true rfl, rfl⟩) (fun _ _ _ h => by cases h; exact ⟨rfl, rfl⟩) rfl rfl dX12_four_27 (fun t24 H lc M25 X26 => ?_)
    have I27 := Inv_mu I15 M25 (show Rg (kd 131) 2 v20 from (R_of (lo := 0) (hi := 940) r23 rfl))
    have F28 : Fr [(131, 2)] [132] τ t24 := Fr_mu F16 M25 (by decide)
    refine r_iinc (k := 0) S dX12_four_30 hl rfl (by decide) (by decide) (fun v29 d30 ls z31 z32 hl => ?_)
    obtain ⟨e33, r34⟩ := i_add (lo := 16) (hi := 16) z31 r5 (R_eq z32) rfl
    have hl : lv_has ls 3 [(2, .int v29), (0, .ref (G.2.2.2.1 131)), (1, .int a0)] := hl
    refine r_goto (tgt := 3) S dX12_four_33 (by decide) ?_
    refine r_iload_n S dX12_four_3 rfl (lv_at hl 0 rfl) ?_
    refine r_if_lt (tgt := 36) S dX12_four_4 (by decide) (fun c35 => ?_) (fun c35 => ?_)
    ·
      exfalso; omega
    ·
      refine r_aload_n S dX12_four_7 rfl (lv_at hl 1 rfl) ?_
      refine r_get (K := 38) (v := .ref (G.2.2.2.1 132)) S X26 (Nat.le_of_ble_eq_true rfl) rfl lk12_14_10 (fun _ => ⟨_, rfl, rfl⟩) dX12_four_8 ?_
      refine r_aload_n S dX12_four_11 rfl (lv_at hl 1 rfl) ?_
      refine r_geti (K := 38) S X26 (Nat.le_of_ble_eq_true rfl) rfl lk12_7_10 (fun _ => ⟨_, rfl, rfl⟩) M25.1 dX12_four_12 ?_
      refine r_iload_n S dX12_four_15 rfl (lv_at hl 2 rfl) ?_
      refine r_iload_n S dX12_four_16 rfl (lv_at hl 0 rfl) ?_
      refine r_ishr S dX12_four_17 (fun v36 z37 => ?_)
      have r38 := R_any v36
      refine r_i2b S dX12_four_18 (fun v39 r40 => ?_)
      refine r_bast (n := 940) (K := 39) S X26 (Nat.le_of_ble_eq_true rfl) rfl (fun _ _ => rfl) (ix_of r23 rfl) (R_of (lo := -128) (hi := 127) r40 rfl) dX12_four_19 (fun t41 H lc M42 X43 => ?_)
      have I44 := Inv_mu I27 M42 (show Rg (kd 132) _ v39 from (R_of (lo := -128) (hi := 127) r40 rfl))
      have F45 : Fr [(131, 2)] [132] τ t41 := Fr_cell F28 M42 (by decide)
      refine r_aload_n S dX12_four_20 rfl (lv_at hl 1 rfl) ?_
      refine r_dup S dX12_four_21 rfl ?_
      refine r_geti (K := 38) S X43 (Nat.le_of_ble_eq_true rfl) rfl lk12_7_10 (fun _ => ⟨_, rfl, rfl⟩) ((M42.2 131 2 (Or.inl (by decide))).trans M25.1) dX12_four_22 ?_
      refine r_iconst S dX12_four_25 (by decide) (fun v46 z47 => ?_)
      have r48 := R_eq z47
      refine r_iadd S dX12_four_26 (fun v49 z50 => ?_)
      obtain ⟨e51, r52⟩ := i_add (lo := 2) (hi := 922) z50 r23 r48 rfl
      refine r_put (K := 38) (ty := .int) S X43 (Nat.le_of_ble_eq_true rfl) rfl lk12_7_10 (fun _ => ⟨_, rfl, Nat.le_of_ble_eq_true rfl, rfl⟩) (fun _ _ _ h => by cases h; exact ⟨rfl, rfl⟩) rfl rfl dX12_four_27 (fun t53 H lc M54 X55 => ?_)
      have I56 := Inv_mu I44 M54 (show Rg (kd 131) 2 v49 from (R_of (lo := 0) (hi := 940) r52 rfl))
      have F57 : Fr [(131, 2)] [132] τ t53 := Fr_mu F45 M54 (by decide)
      refine r_iinc (k := 0) S dX12_four_30 hl rfl (by decide) (by decide) (fun v58 d59 ls z60 z61 hl => ?_)
      obtain ⟨e62, r63⟩ := i_add (lo := 8) (hi := 8) z60 r34 (R_eq z61) rfl
      have hl : lv_has ls 3 [(2, .int v58), (0, .ref (G.2.2.2.1 131)), (1, .int a0)] := hl
      refine r_goto (tgt := 3) S dX12_four_33 (by decide) ?_
      refine r_iload_n S dX12_four_3 rfl (lv_at hl 0 rfl) ?_
      refine r_if_lt (tgt := 36) S dX12_four_4 (by decide) (fun c64 => ?_) (fun c64 => ?_)
      ·
        exfalso; omega
      ·
        refine r_aload_n S dX12_four_7 rfl (lv_at hl 1 rfl) ?_
        refine r_get (K := 38) (v := .ref (G.2.2.2.1 132)) S X55 (Nat.le_of_ble_eq_true rfl) rfl lk12_14_10 (fun _ => ⟨_, rfl, rfl⟩) dX12_four_8 ?_
        refine r_aload_n S dX12_four_11 rfl (lv_at hl 1 rfl) ?_
        refine r_geti (K := 38) S X55 (Nat.le_of_ble_eq_true rfl) rfl lk12_7_10 (fun _ => ⟨_, rfl, rfl⟩) M54.1 dX12_four_12 ?_
        refine r_iload_n S dX12_four_15 rfl (lv_at hl 2 rfl) ?_
        refine r_iload_n S dX12_four_16 rfl (lv_at hl 0 rfl) ?_
        refine r_ishr S dX12_four_17 (fun v65 z66 => ?_)
        have r67 := R_any v65
        refine r_i2b S dX12_four_18 (fun v68 r69 => ?_)
        refine r_bast (n := 940) (K := 39) S X55 (Nat.le_of_ble_eq_true rfl) rfl (fun _ _ => rfl) (ix_of r52 rfl) (R_of (lo := -128) (hi := 127) r69 rfl) dX12_four_19 (fun t70 H lc M71 X72 => ?_)
        have I73 := Inv_mu I56 M71 (show Rg (kd 132) _ v68 from (R_of (lo := -128) (hi := 127) r69 rfl))
        have F74 : Fr [(131, 2)] [132] τ t70 := Fr_cell F57 M71 (by decide)
        refine r_aload_n S dX12_four_20 rfl (lv_at hl 1 rfl) ?_
        refine r_dup S dX12_four_21 rfl ?_
        refine r_geti (K := 38) S X72 (Nat.le_of_ble_eq_true rfl) rfl lk12_7_10 (fun _ => ⟨_, rfl, rfl⟩) ((M71.2 131 2 (Or.inl (by decide))).trans M54.1) dX12_four_22 ?_
        refine r_iconst S dX12_four_25 (by decide) (fun v75 z76 => ?_)
        have r77 := R_eq z76
        refine r_iadd S dX12_four_26 (fun v78 z79 => ?_)
        obtain ⟨e80, r81⟩ := i_add (lo := 3) (hi := 923) z79 r52 r77 rfl
        refine r_put (K := 38) (ty := .int) S X72 (Nat.le_of_ble_eq_true rfl) rfl lk12_7_10 (fun _ => ⟨_, rfl, Nat.le_of_ble_eq_true rfl, rfl⟩) (fun _ _ _ h => by cases h; exact ⟨rfl, rfl⟩) rfl rfl dX12_four_27 (fun t82 H lc M83 X84 => ?_)
        have I85 := Inv_mu I73 M83 (show Rg (kd 131) 2 v78 from (R_of (lo := 0) (hi := 940) r81 rfl))
        have F86 : Fr [(131, 2)] [132] τ t82 := Fr_mu F74 M83 (by decide)
        refine r_iinc (k := 0) S dX12_four_30 hl rfl (by decide) (by decide) (fun v87 d88 ls z89 z90 hl => ?_)
        obtain ⟨e91, r92⟩ := i_add (lo := 0) (hi := 0) z89 r63 (R_eq z90) rfl
        have hl : lv_has ls 3 [(2, .int v87), (0, .ref (G.2.2.2.1 131)), (1, .int a0)] := hl
        refine r_goto (tgt := 3) S dX12_four_33 (by decide) ?_
        refine r_iload_n S dX12_four_3 rfl (lv_at hl 0 rfl) ?_
        refine r_if_lt (tgt := 36) S dX12_four_4 (by decide) (fun c93 => ?_) (fun c93 => ?_)
        ·
          exfalso; omega
        ·
          refine r_aload_n S dX12_four_7 rfl (lv_at hl 1 rfl) ?_
          refine r_get (K := 38) (v := .ref (G.2.2.2.1 132)) S X84 (Nat.le_of_ble_eq_true rfl) rfl lk12_14_10 (fun _ => ⟨_, rfl, rfl⟩) dX12_four_8 ?_
          refine r_aload_n S dX12_four_11 rfl (lv_at hl 1 rfl) ?_
          refine r_geti (K := 38) S X84 (Nat.le_of_ble_eq_true rfl) rfl lk12_7_10 (fun _ => ⟨_, rfl, rfl⟩) M83.1 dX12_four_12 ?_
          refine r_iload_n S dX12_four_15 rfl (lv_at hl 2 rfl) ?_
          refine r_iload_n S dX12_four_16 rfl (lv_at hl 0 rfl) ?_
          refine r_ishr S dX12_four_17 (fun v94 z95 => ?_)
          have r96 := R_any v94
          refine r_i2b S dX12_four_18 (fun v97 r98 => ?_)
          refine r_bast (n := 940) (K := 39) S X84 (Nat.le_of_ble_eq_true rfl) rfl (fun _ _ => rfl) (ix_of r81 rfl) (R_of (lo := -128) (hi := 127) r98 rfl) dX12_four_19 (fun t99 H lc M100 X101 => ?_)
          have I102 := Inv_mu I85 M100 (show Rg (kd 132) _ v97 from (R_of (lo := -128) (hi := 127) r98 rfl))
          have F103 : Fr [(131, 2)] [132] τ t99 := Fr_cell F86 M100 (by decide)
          refine r_aload_n S dX12_four_20 rfl (lv_at hl 1 rfl) ?_
          refine r_dup S dX12_four_21 rfl ?_
          refine r_geti (K := 38) S X101 (Nat.le_of_ble_eq_true rfl) rfl lk12_7_10 (fun _ => ⟨_, rfl, rfl⟩) ((M100.2 131 2 (Or.inl (by decide))).trans M83.1) dX12_four_22 ?_
          refine r_iconst S dX12_four_25 (by decide) (fun v104 z105 => ?_)
          have r106 := R_eq z105
          refine r_iadd S dX12_four_26 (fun v107 z108 => ?_)
          obtain ⟨e109, r110⟩ := i_add (lo := 4) (hi := 924) z108 r81 r106 rfl
          refine r_put (K := 38) (ty := .int) S X101 (Nat.le_of_ble_eq_true rfl) rfl lk12_7_10 (fun _ => ⟨_, rfl, Nat.le_of_ble_eq_true rfl, rfl⟩) (fun _ _ _ h => by cases h; exact ⟨rfl, rfl⟩) rfl rfl dX12_four_27 (fun t111 H lc M112 X113 => ?_)
          have I114 := Inv_mu I102 M112 (show Rg (kd 131) 2 v107 from (R_of (lo := 0) (hi := 940) r110 rfl))
          have F115 : Fr [(131, 2)] [132] τ t111 := Fr_mu F103 M112 (by decide)
          refine r_iinc (k := 0) S dX12_four_30 hl rfl (by decide) (by decide) (fun v116 d117 ls z118 z119 hl => ?_)
          obtain ⟨e120, r121⟩ := i_add (lo := -8) (hi := -8) z118 r92 (R_eq z119) rfl
          have hl : lv_has ls 3 [(2, .int v116), (0, .ref (G.2.2.2.1 131)), (1, .int a0)] := hl
          refine r_goto (tgt := 3) S dX12_four_33 (by decide) ?_
          refine r_iload_n S dX12_four_3 rfl (lv_at hl 0 rfl) ?_
          refine r_if_lt (tgt := 36) S dX12_four_4 (by decide) (fun c122 => ?_) (fun c122 => ?_)
          ·
            exact r_vret S hr hlk X113 ⟨I114, F115, (by rw [M112.1]; exact R_of r110 rfl), (by have h1_0 := congrArg Int32.toInt M112.1; have h2_0 := congrArg Int32.toInt z2; omega)⟩ dX12_four_36
          ·
            exfalso; omega
def po_X12_four_1 (τ : Tau)  (a0 : Int32) (u : Tau) : Prop := Inv u ∧ Fr [(131, 2)] [132] τ u ∧ R (8) (928) (u 131 2) ∧ (u 131 2).toInt = (τ 131 2).toInt + 4
set_option maxHeartbeats 4000000 in
set_option maxRecDepth 100000 in
theorem c_X12_four_1 (l : Launch) (G : Gx) (τ : Tau) (hI : Inv τ) (a0 : Int32) (h_a0 : R (-2147483648) (2147483647) a0) (hf_0 : R (4) (924) (τ 131 2)) : Cv l G yX12_four cX12_four 3 0 0 [.ref (G.2.2.2.1 131), .int a0] τ (po_X12_four_1 τ  a0) := by
  unfold Cv
  refine C_of (own := RX12) (by decide) rfl (Nat.le_of_ble_eq_true rfl) ?_
  intro p e s m below meth c ls S hr hlk X hl
  have hl : lv_has ls 3 [(0, .ref (G.2.2.2.1 131)), (1, .int a0)] := hl
  obtain ⟨v1, z2⟩ : ∃ x, τ 131 2 = x := ⟨_, rfl⟩
  rw [z2] at hf_0
  refine r_bipush S dX12_four_0 (by decide) (fun v3 z4 => ?_)
  have r5 := R_eq z4
  refine r_istore_n (lv' := [(2, .int v3), (0, .ref (G.2.2.2.1 131)), (1, .int a0)]) S dX12_four_2 rfl hl (by decide) rfl (fun ls hl => ?_)
  refine r_iload_n S dX12_four_3 rfl (lv_at hl 0 rfl) ?_
  refine r_if_lt (tgt := 36) S dX12_four_4 (by decide) (fun c6 => ?_) (fun c6 => ?_)
  ·
    exfalso; omega
  ·
    refine r_aload_n S dX12_four_7 rfl (lv_at hl 1 rfl) ?_
    refine r_get (K := 38) (v := .ref (G.2.2.2.1 132)) S X (Nat.le_of_ble_eq_true rfl) rfl lk12_14_10 (fun _ => ⟨_, rfl, rfl⟩) dX12_four_8 ?_
    refine r_aload_n S dX12_four_11 rfl (lv_at hl 1 rfl) ?_
    refine r_geti (K := 38) S X (Nat.le_of_ble_eq_true rfl) rfl lk12_7_10 (fun _ => ⟨_, rfl, rfl⟩) z2 dX12_four_12 ?_
    refine r_iload_n S dX12_four_15 rfl (lv_at hl 2 rfl) ?_
    refine r_iload_n S dX12_four_16 rfl (lv_at hl 0 rfl) ?_
    refine r_ishr S dX12_four_17 (fun v7 z8 => ?_)
    have r9 := R_any v7
    refine r_i2b S dX12_four_18 (fun v10 r11 => ?_)
    refine r_bast (n := 940) (K := 39) S X (Nat.le_of_ble_eq_true rfl) rfl (fun _ _ => rfl) (ix_of hf_0 rfl) (R_of (lo := -128) (hi := 127) r11 rfl) dX12_four_19 (fun t12 H lc M13 X14 => ?_)
    have I15 := Inv_mu hI M13 (show Rg (kd 132) _ v10 from (R_of (lo := -128) (hi := 127) r11 rfl))
    have F16 : Fr [(131, 2)] [132] τ t12 := Fr_cell Fr_rfl M13 (by decide)
    refine r_aload_n S dX12_four_20 rfl (lv_at hl 1 rfl) ?_
    refine r_dup S dX12_four_21 rfl ?_
    refine r_geti (K := 38) S X14 (Nat.le_of_ble_eq_true rfl) rfl lk12_7_10 (fun _ => ⟨_, rfl, rfl⟩) ((M13.2 131 2 (Or.inl (by decide))).trans z2) dX12_four_22 ?_
    refine r_iconst S dX12_four_25 (by decide) (fun v17 z18 => ?_)
    have r19 := R_eq z18
    refine r_iadd S dX12_four_26 (fun v20 z21 => ?_)
    obtain ⟨e22, r23⟩ := i_add (lo := 5) (hi := 925) z21 hf_0 r19 rfl
    refine r_put (K := 38) (ty := .int) S X14 (Nat.le_of_ble_eq_true rfl) rfl lk12_7_10 (fun _ => ⟨_, rfl, Nat.le_of_ble_eq_true rfl, rfl⟩) (fun _ _ _ h => by cases h; exact ⟨rfl, rfl⟩) rfl rfl dX12_four_27 (fun t24 H lc M25 X26 => ?_)
    have I27 := Inv_mu I15 M25 (show Rg (kd 131) 2 v20 from (R_of (lo := 0) (hi := 940) r23 rfl))
    have F28 : Fr [(131, 2)] [132] τ t24 := Fr_mu F16 M25 (by decide)
    refine r_iinc (k := 0) S dX12_four_30 hl rfl (by decide) (by decide) (fun v29 d30 ls z31 z32 hl => ?_)
    obtain ⟨e33, r34⟩ := i_add (lo := 16) (hi := 16) z31 r5 (R_eq z32) rfl
    have hl : lv_has ls 3 [(2, .int v29), (0, .ref (G.2.2.2.1 131)), (1, .int a0)] := hl
    refine r_goto (tgt := 3) S dX12_four_33 (by decide) ?_
    refine r_iload_n S dX12_four_3 rfl (lv_at hl 0 rfl) ?_
    refine r_if_lt (tgt := 36) S dX12_four_4 (by decide) (fun c35 => ?_) (fun c35 => ?_)
    ·
      exfalso; omega
    ·
      refine r_aload_n S dX12_four_7 rfl (lv_at hl 1 rfl) ?_
      refine r_get (K := 38) (v := .ref (G.2.2.2.1 132)) S X26 (Nat.le_of_ble_eq_true rfl) rfl lk12_14_10 (fun _ => ⟨_, rfl, rfl⟩) dX12_four_8 ?_
      refine r_aload_n S dX12_four_11 rfl (lv_at hl 1 rfl) ?_
      refine r_geti (K := 38) S X26 (Nat.le_of_ble_eq_true rfl) rfl lk12_7_10 (fun _ => ⟨_, rfl, rfl⟩) M25.1 dX12_four_12 ?_
      refine r_iload_n S dX12_four_15 rfl (lv_at hl 2 rfl) ?_
      refine r_iload_n S dX12_four_16 rfl (lv_at hl 0 rfl) ?_
      refine r_ishr S dX12_four_17 (fun v36 z37 => ?_)
      have r38 := R_any v36
      refine r_i2b S dX12_four_18 (fun v39 r40 => ?_)
      refine r_bast (n := 940) (K := 39) S X26 (Nat.le_of_ble_eq_true rfl) rfl (fun _ _ => rfl) (ix_of r23 rfl) (R_of (lo := -128) (hi := 127) r40 rfl) dX12_four_19 (fun t41 H lc M42 X43 => ?_)
      have I44 := Inv_mu I27 M42 (show Rg (kd 132) _ v39 from (R_of (lo := -128) (hi := 127) r40 rfl))
      have F45 : Fr [(131, 2)] [132] τ t41 := Fr_cell F28 M42 (by decide)
      refine r_aload_n S dX12_four_20 rfl (lv_at hl 1 rfl) ?_
      refine r_dup S dX12_four_21 rfl ?_
      refine r_geti (K := 38) S X43 (Nat.le_of_ble_eq_true rfl) rfl lk12_7_10 (fun _ => ⟨_, rfl, rfl⟩) ((M42.2 131 2 (Or.inl (by decide))).trans M25.1) dX12_four_22 ?_
      refine r_iconst S dX12_four_25 (by decide) (fun v46 z47 => ?_)
      have r48 := R_eq z47
      refine r_iadd S dX12_four_26 (fun v49 z50 => ?_)
      obtain ⟨e51, r52⟩ := i_add (lo := 6) (hi := 926) z50 r23 r48 rfl
      refine r_put (K := 38) (ty := .int) S X43 (Nat.le_of_ble_eq_true rfl) rfl lk12_7_10 (fun _ => ⟨_, rfl, Nat.le_of_ble_eq_true rfl, rfl⟩) (fun _ _ _ h => by cases h; exact ⟨rfl, rfl⟩) rfl rfl dX12_four_27 (fun t53 H lc M54 X55 => ?_)
      have I56 := Inv_mu I44 M54 (show Rg (kd 131) 2 v49 from (R_of (lo := 0) (hi := 940) r52 rfl))
      have F57 : Fr [(131, 2)] [132] τ t53 := Fr_mu F45 M54 (by decide)
      refine r_iinc (k := 0) S dX12_four_30 hl rfl (by decide) (by decide) (fun v58 d59 ls z60 z61 hl => ?_)
      obtain ⟨e62, r63⟩ := i_add (lo := 8) (hi := 8) z60 r34 (R_eq z61) rfl
      have hl : lv_has ls 3 [(2, .int v58), (0, .ref (G.2.2.2.1 131)), (1, .int a0)] := hl
      refine r_goto (tgt := 3) S dX12_four_33 (by decide) ?_
      refine r_iload_n S dX12_four_3 rfl (lv_at hl 0 rfl) ?_
      refine r_if_lt (tgt := 36) S dX12_four_4 (by decide) (fun c64 => ?_) (fun c64 => ?_)
      ·
        exfalso; omega
      ·
        refine r_aload_n S dX12_four_7 rfl (lv_at hl 1 rfl) ?_
        refine r_get (K := 38) (v := .ref (G.2.2.2.1 132)) S X55 (Nat.le_of_ble_eq_true rfl) rfl lk12_14_10 (fun _ => ⟨_, rfl, rfl⟩) dX12_four_8 ?_
        refine r_aload_n S dX12_four_11 rfl (lv_at hl 1 rfl) ?_
        refine r_geti (K := 38) S X55 (Nat.le_of_ble_eq_true rfl) rfl lk12_7_10 (fun _ => ⟨_, rfl, rfl⟩) M54.1 dX12_four_12 ?_
        refine r_iload_n S dX12_four_15 rfl (lv_at hl 2 rfl) ?_
        refine r_iload_n S dX12_four_16 rfl (lv_at hl 0 rfl) ?_
        refine r_ishr S dX12_four_17 (fun v65 z66 => ?_)
        have r67 := R_any v65
        refine r_i2b S dX12_four_18 (fun v68 r69 => ?_)
        refine r_bast (n := 940) (K := 39) S X55 (Nat.le_of_ble_eq_true rfl) rfl (fun _ _ => rfl) (ix_of r52 rfl) (R_of (lo := -128) (hi := 127) r69 rfl) dX12_four_19 (fun t70 H lc M71 X72 => ?_)
        have I73 := Inv_mu I56 M71 (show Rg (kd 132) _ v68 from (R_of (lo := -128) (hi := 127) r69 rfl))
        have F74 : Fr [(131, 2)] [132] τ t70 := Fr_cell F57 M71 (by decide)
        refine r_aload_n S dX12_four_20 rfl (lv_at hl 1 rfl) ?_
        refine r_dup S dX12_four_21 rfl ?_
        refine r_geti (K := 38) S X72 (Nat.le_of_ble_eq_true rfl) rfl lk12_7_10 (fun _ => ⟨_, rfl, rfl⟩) ((M71.2 131 2 (Or.inl (by decide))).trans M54.1) dX12_four_22 ?_
        refine r_iconst S dX12_four_25 (by decide) (fun v75 z76 => ?_)
        have r77 := R_eq z76
        refine r_iadd S dX12_four_26 (fun v78 z79 => ?_)
        obtain ⟨e80, r81⟩ := i_add (lo := 7) (hi := 927) z79 r52 r77 rfl
        refine r_put (K := 38) (ty := .int) S X72 (Nat.le_of_ble_eq_true rfl) rfl lk12_7_10 (fun _ => ⟨_, rfl, Nat.le_of_ble_eq_true rfl, rfl⟩) (fun _ _ _ h => by cases h; exact ⟨rfl, rfl⟩) rfl rfl dX12_four_27 (fun t82 H lc M83 X84 => ?_)
        have I85 := Inv_mu I73 M83 (show Rg (kd 131) 2 v78 from (R_of (lo := 0) (hi := 940) r81 rfl))
        have F86 : Fr [(131, 2)] [132] τ t82 := Fr_mu F74 M83 (by decide)
        refine r_iinc (k := 0) S dX12_four_30 hl rfl (by decide) (by decide) (fun v87 d88 ls z89 z90 hl => ?_)
        obtain ⟨e91, r92⟩ := i_add (lo := 0) (hi := 0) z89 r63 (R_eq z90) rfl
        have hl : lv_has ls 3 [(2, .int v87), (0, .ref (G.2.2.2.1 131)), (1, .int a0)] := hl
        refine r_goto (tgt := 3) S dX12_four_33 (by decide) ?_
        refine r_iload_n S dX12_four_3 rfl (lv_at hl 0 rfl) ?_
        refine r_if_lt (tgt := 36) S dX12_four_4 (by decide) (fun c93 => ?_) (fun c93 => ?_)
        ·
          exfalso; omega
        ·
          refine r_aload_n S dX12_four_7 rfl (lv_at hl 1 rfl) ?_
          refine r_get (K := 38) (v := .ref (G.2.2.2.1 132)) S X84 (Nat.le_of_ble_eq_true rfl) rfl lk12_14_10 (fun _ => ⟨_, rfl, rfl⟩) dX12_four_8 ?_
          refine r_aload_n S dX12_four_11 rfl (lv_at hl 1 rfl) ?_
          refine r_geti (K := 38) S X84 (Nat.le_of_ble_eq_true rfl) rfl lk12_7_10 (fun _ => ⟨_, rfl, rfl⟩) M83.1 dX12_four_12 ?_
          refine r_iload_n S dX12_four_15 rfl (lv_at hl 2 rfl) ?_
          refine r_iload_n S dX12_four_16 rfl (lv_at hl 0 rfl) ?_
          refine r_ishr S dX12_four_17 (fun v94 z95 => ?_)
          have r96 := R_any v94
          refine r_i2b S dX12_four_18 (fun v97 r98 => ?_)
          refine r_bast (n := 940) (K := 39) S X84 (Nat.le_of_ble_eq_true rfl) rfl (fun _ _ => rfl) (ix_of r81 rfl) (R_of (lo := -128) (hi := 127) r98 rfl) dX12_four_19 (fun t99 H lc M100 X101 => ?_)
          have I102 := Inv_mu I85 M100 (show Rg (kd 132) _ v97 from (R_of (lo := -128) (hi := 127) r98 rfl))
          have F103 : Fr [(131, 2)] [132] τ t99 := Fr_cell F86 M100 (by decide)
          refine r_aload_n S dX12_four_20 rfl (lv_at hl 1 rfl) ?_
          refine r_dup S dX12_four_21 rfl ?_
          refine r_geti (K := 38) S X101 (Nat.le_of_ble_eq_true rfl) rfl lk12_7_10 (fun _ => ⟨_, rfl, rfl⟩) ((M100.2 131 2 (Or.inl (by decide))).trans M83.1) dX12_four_22 ?_
          refine r_iconst S dX12_four_25 (by decide) (fun v104 z105 => ?_)
          have r106 := R_eq z105
          refine r_iadd S dX12_four_26 (fun v107 z108 => ?_)
          obtain ⟨e109, r110⟩ := i_add (lo := 8) (hi := 928) z108 r81 r106 rfl
          refine r_put (K := 38) (ty := .int) S X101 (Nat.le_of_ble_eq_true rfl) rfl lk12_7_10 (fun _ => ⟨_, rfl, Nat.le_of_ble_eq_true rfl, rfl⟩) (fun _ _ _ h => by cases h; exact ⟨rfl, rfl⟩) rfl rfl dX12_four_27 (fun t111 H lc M112 X113 => ?_)
          have I114 := Inv_mu I102 M112 (show Rg (kd 131) 2 v107 from (R_of (lo := 0) (hi := 940) r110 rfl))
          have F115 : Fr [(131, 2)] [132] τ t111 := Fr_mu F103 M112 (by decide)
          refine r_iinc (k := 0) S dX12_four_30 hl rfl (by decide) (by decide) (fun v116 d117 ls z118 z119 hl => ?_)
          obtain ⟨e120, r121⟩ := i_add (lo := -8) (hi := -8) z118 r92 (R_eq z119) rfl
          have hl : lv_has ls 3 [(2, .int v116), (0, .ref (G.2.2.2.1 131)), (1, .int a0)] := hl
          refine r_goto (tgt := 3) S dX12_four_33 (by decide) ?_
          refine r_iload_n S dX12_four_3 rfl (lv_at hl 0 rfl) ?_
          refine r_if_lt (tgt := 36) S dX12_four_4 (by decide) (fun c122 => ?_) (fun c122 => ?_)
          ·
            exact r_vret S hr hlk X113 ⟨I114, F115, (by rw [M112.1]; exact R_of r110 rfl), (by have h1_0 := congrArg Int32.toInt M112.1; have h2_0 := congrArg Int32.toInt z2; omega)⟩ dX12_four_36
          ·
            exfalso; omega
def po_X12_four_2 (τ : Tau)  (a0 : Int32) (u : Tau) : Prop := Inv u ∧ Fr [(131, 2)] [132] τ u ∧ R (12) (932) (u 131 2) ∧ (u 131 2).toInt = (τ 131 2).toInt + 4
set_option maxHeartbeats 4000000 in
set_option maxRecDepth 100000 in
theorem c_X12_four_2 (l : Launch) (G : Gx) (τ : Tau) (hI : Inv τ) (a0 : Int32) (h_a0 : R (-2147483648) (2147483647) a0) (hf_0 : R (8) (928) (τ 131 2)) : Cv l G yX12_four cX12_four 3 0 0 [.ref (G.2.2.2.1 131), .int a0] τ (po_X12_four_2 τ  a0) := by
  unfold Cv
  refine C_of (own := RX12) (by decide) rfl (Nat.le_of_ble_eq_true rfl) ?_
  intro p e s m below meth c ls S hr hlk X hl
  have hl : lv_has ls 3 [(0, .ref (G.2.2.2.1 131)), (1, .int a0)] := hl
  obtain ⟨v1, z2⟩ : ∃ x, τ 131 2 = x := ⟨_, rfl⟩
  rw [z2] at hf_0
  refine r_bipush S dX12_four_0 (by decide) (fun v3 z4 => ?_)
  have r5 := R_eq z4
  refine r_istore_n (lv' := [(2, .int v3), (0, .ref (G.2.2.2.1 131)), (1, .int a0)]) S dX12_four_2 rfl hl (by decide) rfl (fun ls hl => ?_)
  refine r_iload_n S dX12_four_3 rfl (lv_at hl 0 rfl) ?_
  refine r_if_lt (tgt := 36) S dX12_four_4 (by decide) (fun c6 => ?_) (fun c6 => ?_)
  ·
    exfalso; omega
  ·
    refine r_aload_n S dX12_four_7 rfl (lv_at hl 1 rfl) ?_
    refine r_get (K := 38) (v := .ref (G.2.2.2.1 132)) S X (Nat.le_of_ble_eq_true rfl) rfl lk12_14_10 (fun _ => ⟨_, rfl, rfl⟩) dX12_four_8 ?_
    refine r_aload_n S dX12_four_11 rfl (lv_at hl 1 rfl) ?_
    refine r_geti (K := 38) S X (Nat.le_of_ble_eq_true rfl) rfl lk12_7_10 (fun _ => ⟨_, rfl, rfl⟩) z2 dX12_four_12 ?_
    refine r_iload_n S dX12_four_15 rfl (lv_at hl 2 rfl) ?_
    refine r_iload_n S dX12_four_16 rfl (lv_at hl 0 rfl) ?_
    refine r_ishr S dX12_four_17 (fun v7 z8 => ?_)
    have r9 := R_any v7
    refine r_i2b S dX12_four_18 (fun v10 r11 => ?_)
    refine r_bast (n := 940) (K := 39) S X (Nat.le_of_ble_eq_true rfl) rfl (fun _ _ => rfl) (ix_of hf_0 rfl) (R_of (lo := -128) (hi := 127) r11 rfl) dX12_four_19 (fun t12 H lc M13 X14 => ?_)
    have I15 := Inv_mu hI M13 (show Rg (kd 132) _ v10 from (R_of (lo := -128) (hi := 127) r11 rfl))
    have F16 : Fr [(131, 2)] [132] τ t12 := Fr_cell Fr_rfl M13 (by decide)
    refine r_aload_n S dX12_four_20 rfl (lv_at hl 1 rfl) ?_
    refine r_dup S dX12_four_21 rfl ?_
    refine r_geti (K := 38) S X14 (Nat.le_of_ble_eq_true rfl) rfl lk12_7_10 (fun _ => ⟨_, rfl, rfl⟩) ((M13.2 131 2 (Or.inl (by decide))).trans z2) dX12_four_22 ?_
    refine r_iconst S dX12_four_25 (by decide) (fun v17 z18 => ?_)
    have r19 := R_eq z18
    refine r_iadd S dX12_four_26 (fun v20 z21 => ?_)
    obtain ⟨e22, r23⟩ := i_add (lo := 9) (hi := 929) z21 hf_0 r19 rfl
    refine r_put (K := 38) (ty := .int) S X14 (Nat.le_of_ble_eq_true rfl) rfl lk12_7_10 (fun _ => ⟨_, rfl, Nat.le_of_ble_eq_true rfl, rfl⟩) (fun _ _ _ h => by cases h; exact ⟨rfl, rfl⟩) rfl rfl dX12_four_27 (fun t24 H lc M25 X26 => ?_)
    have I27 := Inv_mu I15 M25 (show Rg (kd 131) 2 v20 from (R_of (lo := 0) (hi := 940) r23 rfl))
    have F28 : Fr [(131, 2)] [132] τ t24 := Fr_mu F16 M25 (by decide)
    refine r_iinc (k := 0) S dX12_four_30 hl rfl (by decide) (by decide) (fun v29 d30 ls z31 z32 hl => ?_)
    obtain ⟨e33, r34⟩ := i_add (lo := 16) (hi := 16) z31 r5 (R_eq z32) rfl
    have hl : lv_has ls 3 [(2, .int v29), (0, .ref (G.2.2.2.1 131)), (1, .int a0)] := hl
    refine r_goto (tgt := 3) S dX12_four_33 (by decide) ?_
    refine r_iload_n S dX12_four_3 rfl (lv_at hl 0 rfl) ?_
    refine r_if_lt (tgt := 36) S dX12_four_4 (by decide) (fun c35 => ?_) (fun c35 => ?_)
    ·
      exfalso; omega
    ·
      refine r_aload_n S dX12_four_7 rfl (lv_at hl 1 rfl) ?_
      refine r_get (K := 38) (v := .ref (G.2.2.2.1 132)) S X26 (Nat.le_of_ble_eq_true rfl) rfl lk12_14_10 (fun _ => ⟨_, rfl, rfl⟩) dX12_four_8 ?_
      refine r_aload_n S dX12_four_11 rfl (lv_at hl 1 rfl) ?_
      refine r_geti (K := 38) S X26 (Nat.le_of_ble_eq_true rfl) rfl lk12_7_10 (fun _ => ⟨_, rfl, rfl⟩) M25.1 dX12_four_12 ?_
      refine r_iload_n S dX12_four_15 rfl (lv_at hl 2 rfl) ?_
      refine r_iload_n S dX12_four_16 rfl (lv_at hl 0 rfl) ?_
      refine r_ishr S dX12_four_17 (fun v36 z37 => ?_)
      have r38 := R_any v36
      refine r_i2b S dX12_four_18 (fun v39 r40 => ?_)
      refine r_bast (n := 940) (K := 39) S X26 (Nat.le_of_ble_eq_true rfl) rfl (fun _ _ => rfl) (ix_of r23 rfl) (R_of (lo := -128) (hi := 127) r40 rfl) dX12_four_19 (fun t41 H lc M42 X43 => ?_)
      have I44 := Inv_mu I27 M42 (show Rg (kd 132) _ v39 from (R_of (lo := -128) (hi := 127) r40 rfl))
      have F45 : Fr [(131, 2)] [132] τ t41 := Fr_cell F28 M42 (by decide)
      refine r_aload_n S dX12_four_20 rfl (lv_at hl 1 rfl) ?_
      refine r_dup S dX12_four_21 rfl ?_
      refine r_geti (K := 38) S X43 (Nat.le_of_ble_eq_true rfl) rfl lk12_7_10 (fun _ => ⟨_, rfl, rfl⟩) ((M42.2 131 2 (Or.inl (by decide))).trans M25.1) dX12_four_22 ?_
      refine r_iconst S dX12_four_25 (by decide) (fun v46 z47 => ?_)
      have r48 := R_eq z47
      refine r_iadd S dX12_four_26 (fun v49 z50 => ?_)
      obtain ⟨e51, r52⟩ := i_add (lo := 10) (hi := 930) z50 r23 r48 rfl
      refine r_put (K := 38) (ty := .int) S X43 (Nat.le_of_ble_eq_true rfl) rfl lk12_7_10 (fun _ => ⟨_, rfl, Nat.le_of_ble_eq_true rfl, rfl⟩) (fun _ _ _ h => by cases h; exact ⟨rfl, rfl⟩) rfl rfl dX12_four_27 (fun t53 H lc M54 X55 => ?_)
      have I56 := Inv_mu I44 M54 (show Rg (kd 131) 2 v49 from (R_of (lo := 0) (hi := 940) r52 rfl))
      have F57 : Fr [(131, 2)] [132] τ t53 := Fr_mu F45 M54 (by decide)
      refine r_iinc (k := 0) S dX12_four_30 hl rfl (by decide) (by decide) (fun v58 d59 ls z60 z61 hl => ?_)
      obtain ⟨e62, r63⟩ := i_add (lo := 8) (hi := 8) z60 r34 (R_eq z61) rfl
      have hl : lv_has ls 3 [(2, .int v58), (0, .ref (G.2.2.2.1 131)), (1, .int a0)] := hl
      refine r_goto (tgt := 3) S dX12_four_33 (by decide) ?_
      refine r_iload_n S dX12_four_3 rfl (lv_at hl 0 rfl) ?_
      refine r_if_lt (tgt := 36) S dX12_four_4 (by decide) (fun c64 => ?_) (fun c64 => ?_)
      ·
        exfalso; omega
      ·
        refine r_aload_n S dX12_four_7 rfl (lv_at hl 1 rfl) ?_
        refine r_get (K := 38) (v := .ref (G.2.2.2.1 132)) S X55 (Nat.le_of_ble_eq_true rfl) rfl lk12_14_10 (fun _ => ⟨_, rfl, rfl⟩) dX12_four_8 ?_
        refine r_aload_n S dX12_four_11 rfl (lv_at hl 1 rfl) ?_
        refine r_geti (K := 38) S X55 (Nat.le_of_ble_eq_true rfl) rfl lk12_7_10 (fun _ => ⟨_, rfl, rfl⟩) M54.1 dX12_four_12 ?_
        refine r_iload_n S dX12_four_15 rfl (lv_at hl 2 rfl) ?_
        refine r_iload_n S dX12_four_16 rfl (lv_at hl 0 rfl) ?_
        refine r_ishr S dX12_four_17 (fun v65 z66 => ?_)
        have r67 := R_any v65
        refine r_i2b S dX12_four_18 (fun v68 r69 => ?_)
        refine r_bast (n := 940) (K := 39) S X55 (Nat.le_of_ble_eq_true rfl) rfl (fun _ _ => rfl) (ix_of r52 rfl) (R_of (lo := -128) (hi := 127) r69 rfl) dX12_four_19 (fun t70 H lc M71 X72 => ?_)
        have I73 := Inv_mu I56 M71 (show Rg (kd 132) _ v68 from (R_of (lo := -128) (hi := 127) r69 rfl))
        have F74 : Fr [(131, 2)] [132] τ t70 := Fr_cell F57 M71 (by decide)
        refine r_aload_n S dX12_four_20 rfl (lv_at hl 1 rfl) ?_
        refine r_dup S dX12_four_21 rfl ?_
        refine r_geti (K := 38) S X72 (Nat.le_of_ble_eq_true rfl) rfl lk12_7_10 (fun _ => ⟨_, rfl, rfl⟩) ((M71.2 131 2 (Or.inl (by decide))).trans M54.1) dX12_four_22 ?_
        refine r_iconst S dX12_four_25 (by decide) (fun v75 z76 => ?_)
        have r77 := R_eq z76
        refine r_iadd S dX12_four_26 (fun v78 z79 => ?_)
        obtain ⟨e80, r81⟩ := i_add (lo := 11) (hi := 931) z79 r52 r77 rfl
        refine r_put (K := 38) (ty := .int) S X72 (Nat.le_of_ble_eq_true rfl) rfl lk12_7_10 (fun _ => ⟨_, rfl, Nat.le_of_ble_eq_true rfl, rfl⟩) (fun _ _ _ h => by cases h; exact ⟨rfl, rfl⟩) rfl rfl dX12_four_27 (fun t82 H lc M83 X84 => ?_)
        have I85 := Inv_mu I73 M83 (show Rg (kd 131) 2 v78 from (R_of (lo := 0) (hi := 940) r81 rfl))
        have F86 : Fr [(131, 2)] [132] τ t82 := Fr_mu F74 M83 (by decide)
        refine r_iinc (k := 0) S dX12_four_30 hl rfl (by decide) (by decide) (fun v87 d88 ls z89 z90 hl => ?_)
        obtain ⟨e91, r92⟩ := i_add (lo := 0) (hi := 0) z89 r63 (R_eq z90) rfl
        have hl : lv_has ls 3 [(2, .int v87), (0, .ref (G.2.2.2.1 131)), (1, .int a0)] := hl
        refine r_goto (tgt := 3) S dX12_four_33 (by decide) ?_
        refine r_iload_n S dX12_four_3 rfl (lv_at hl 0 rfl) ?_
        refine r_if_lt (tgt := 36) S dX12_four_4 (by decide) (fun c93 => ?_) (fun c93 => ?_)
        ·
          exfalso; omega
        ·
          refine r_aload_n S dX12_four_7 rfl (lv_at hl 1 rfl) ?_
          refine r_get (K := 38) (v := .ref (G.2.2.2.1 132)) S X84 (Nat.le_of_ble_eq_true rfl) rfl lk12_14_10 (fun _ => ⟨_, rfl, rfl⟩) dX12_four_8 ?_
          refine r_aload_n S dX12_four_11 rfl (lv_at hl 1 rfl) ?_
          refine r_geti (K := 38) S X84 (Nat.le_of_ble_eq_true rfl) rfl lk12_7_10 (fun _ => ⟨_, rfl, rfl⟩) M83.1 dX12_four_12 ?_
          refine r_iload_n S dX12_four_15 rfl (lv_at hl 2 rfl) ?_
          refine r_iload_n S dX12_four_16 rfl (lv_at hl 0 rfl) ?_
          refine r_ishr S dX12_four_17 (fun v94 z95 => ?_)
          have r96 := R_any v94
          refine r_i2b S dX12_four_18 (fun v97 r98 => ?_)
          refine r_bast (n := 940) (K := 39) S X84 (Nat.le_of_ble_eq_true rfl) rfl (fun _ _ => rfl) (ix_of r81 rfl) (R_of (lo := -128) (hi := 127) r98 rfl) dX12_four_19 (fun t99 H lc M100 X101 => ?_)
          have I102 := Inv_mu I85 M100 (show Rg (kd 132) _ v97 from (R_of (lo := -128) (hi := 127) r98 rfl))
          have F103 : Fr [(131, 2)] [132] τ t99 := Fr_cell F86 M100 (by decide)
          refine r_aload_n S dX12_four_20 rfl (lv_at hl 1 rfl) ?_
          refine r_dup S dX12_four_21 rfl ?_
          refine r_geti (K := 38) S X101 (Nat.le_of_ble_eq_true rfl) rfl lk12_7_10 (fun _ => ⟨_, rfl, rfl⟩) ((M100.2 131 2 (Or.inl (by decide))).trans M83.1) dX12_four_22 ?_
          refine r_iconst S dX12_four_25 (by decide) (fun v104 z105 => ?_)
          have r106 := R_eq z105
          refine r_iadd S dX12_four_26 (fun v107 z108 => ?_)
          obtain ⟨e109, r110⟩ := i_add (lo := 12) (hi := 932) z108 r81 r106 rfl
          refine r_put (K := 38) (ty := .int) S X101 (Nat.le_of_ble_eq_true rfl) rfl lk12_7_10 (fun _ => ⟨_, rfl, Nat.le_of_ble_eq_true rfl, rfl⟩) (fun _ _ _ h => by cases h; exact ⟨rfl, rfl⟩) rfl rfl dX12_four_27 (fun t111 H lc M112 X113 => ?_)
          have I114 := Inv_mu I102 M112 (show Rg (kd 131) 2 v107 from (R_of (lo := 0) (hi := 940) r110 rfl))
          have F115 : Fr [(131, 2)] [132] τ t111 := Fr_mu F103 M112 (by decide)
          refine r_iinc (k := 0) S dX12_four_30 hl rfl (by decide) (by decide) (fun v116 d117 ls z118 z119 hl => ?_)
          obtain ⟨e120, r121⟩ := i_add (lo := -8) (hi := -8) z118 r92 (R_eq z119) rfl
          have hl : lv_has ls 3 [(2, .int v116), (0, .ref (G.2.2.2.1 131)), (1, .int a0)] := hl
          refine r_goto (tgt := 3) S dX12_four_33 (by decide) ?_
          refine r_iload_n S dX12_four_3 rfl (lv_at hl 0 rfl) ?_
          refine r_if_lt (tgt := 36) S dX12_four_4 (by decide) (fun c122 => ?_) (fun c122 => ?_)
          ·
            exact r_vret S hr hlk X113 ⟨I114, F115, (by rw [M112.1]; exact R_of r110 rfl), (by have h1_0 := congrArg Int32.toInt M112.1; have h2_0 := congrArg Int32.toInt z2; omega)⟩ dX12_four_36
          ·
            exfalso; omega
def po_X12_four_3 (τ : Tau)  (a0 : Int32) (u : Tau) : Prop := Inv u ∧ Fr [(131, 2)] [132] τ u ∧ R (16) (936) (u 131 2) ∧ (u 131 2).toInt = (τ 131 2).toInt + 4
set_option maxHeartbeats 4000000 in
set_option maxRecDepth 100000 in
theorem c_X12_four_3 (l : Launch) (G : Gx) (τ : Tau) (hI : Inv τ) (a0 : Int32) (h_a0 : R (-2147483648) (2147483647) a0) (hf_0 : R (12) (932) (τ 131 2)) : Cv l G yX12_four cX12_four 3 0 0 [.ref (G.2.2.2.1 131), .int a0] τ (po_X12_four_3 τ  a0) := by
  unfold Cv
  refine C_of (own := RX12) (by decide) rfl (Nat.le_of_ble_eq_true rfl) ?_
  intro p e s m below meth c ls S hr hlk X hl
  have hl : lv_has ls 3 [(0, .ref (G.2.2.2.1 131)), (1, .int a0)] := hl
  obtain ⟨v1, z2⟩ : ∃ x, τ 131 2 = x := ⟨_, rfl⟩
  rw [z2] at hf_0
  refine r_bipush S dX12_four_0 (by decide) (fun v3 z4 => ?_)
  have r5 := R_eq z4
  refine r_istore_n (lv' := [(2, .int v3), (0, .ref (G.2.2.2.1 131)), (1, .int a0)]) S dX12_four_2 rfl hl (by decide) rfl (fun ls hl => ?_)
  refine r_iload_n S dX12_four_3 rfl (lv_at hl 0 rfl) ?_
  refine r_if_lt (tgt := 36) S dX12_four_4 (by decide) (fun c6 => ?_) (fun c6 => ?_)
  ·
    exfalso; omega
  ·
    refine r_aload_n S dX12_four_7 rfl (lv_at hl 1 rfl) ?_
    refine r_get (K := 38) (v := .ref (G.2.2.2.1 132)) S X (Nat.le_of_ble_eq_true rfl) rfl lk12_14_10 (fun _ => ⟨_, rfl, rfl⟩) dX12_four_8 ?_
    refine r_aload_n S dX12_four_11 rfl (lv_at hl 1 rfl) ?_
    refine r_geti (K := 38) S X (Nat.le_of_ble_eq_true rfl) rfl lk12_7_10 (fun _ => ⟨_, rfl, rfl⟩) z2 dX12_four_12 ?_
    refine r_iload_n S dX12_four_15 rfl (lv_at hl 2 rfl) ?_
    refine r_iload_n S dX12_four_16 rfl (lv_at hl 0 rfl) ?_
    refine r_ishr S dX12_four_17 (fun v7 z8 => ?_)
    have r9 := R_any v7
    refine r_i2b S dX12_four_18 (fun v10 r11 => ?_)
    refine r_bast (n := 940) (K := 39) S X (Nat.le_of_ble_eq_true rfl) rfl (fun _ _ => rfl) (ix_of hf_0 rfl) (R_of (lo := -128) (hi := 127) r11 rfl) dX12_four_19 (fun t12 H lc M13 X14 => ?_)
    have I15 := Inv_mu hI M13 (show Rg (kd 132) _ v10 from (R_of (lo := -128) (hi := 127) r11 rfl))
    have F16 : Fr [(131, 2)] [132] τ t12 := Fr_cell Fr_rfl M13 (by decide)
    refine r_aload_n S dX12_four_20 rfl (lv_at hl 1 rfl) ?_
    refine r_dup S dX12_four_21 rfl ?_
    refine r_geti (K := 38) S X14 (Nat.le_of_ble_eq_true rfl) rfl lk12_7_10 (fun _ => ⟨_, rfl, rfl⟩) ((M13.2 131 2 (Or.inl (by decide))).trans z2) dX12_four_22 ?_
    refine r_iconst S dX12_four_25 (by decide) (fun v17 z18 => ?_)
    have r19 := R_eq z18
    refine r_iadd S dX12_four_26 (fun v20 z21 => ?_)
    obtain ⟨e22, r23⟩ := i_add (lo := 13) (hi := 933) z21 hf_0 r19 rfl
    refine r_put (K := 38) (ty := .int) S X14 (Nat.le_of_ble_eq_true rfl) rfl lk12_7_10 (fun _ => ⟨_, rfl, Nat.le_of_ble_eq_true rfl, rfl⟩) (fun _ _ _ h => by cases h; exact ⟨rfl, rfl⟩) rfl rfl dX12_four_27 (fun t24 H lc M25 X26 => ?_)
    have I27 := Inv_mu I15 M25 (show Rg (kd 131) 2 v20 from (R_of (lo := 0) (hi := 940) r23 rfl))
    have F28 : Fr [(131, 2)] [132] τ t24 := Fr_mu F16 M25 (by decide)
    refine r_iinc (k := 0) S dX12_four_30 hl rfl (by decide) (by decide) (fun v29 d30 ls z31 z32 hl => ?_)
    obtain ⟨e33, r34⟩ := i_add (lo := 16) (hi := 16) z31 r5 (R_eq z32) rfl
    have hl : lv_has ls 3 [(2, .int v29), (0, .ref (G.2.2.2.1 131)), (1, .int a0)] := hl
    refine r_goto (tgt := 3) S dX12_four_33 (by decide) ?_
    refine r_iload_n S dX12_four_3 rfl (lv_at hl 0 rfl) ?_
    refine r_if_lt (tgt := 36) S dX12_four_4 (by decide) (fun c35 => ?_) (fun c35 => ?_)
    ·
      exfalso; omega
    ·
      refine r_aload_n S dX12_four_7 rfl (lv_at hl 1 rfl) ?_
      refine r_get (K := 38) (v := .ref (G.2.2.2.1 132)) S X26 (Nat.le_of_ble_eq_true rfl) rfl lk12_14_10 (fun _ => ⟨_, rfl, rfl⟩) dX12_four_8 ?_
      refine r_aload_n S dX12_four_11 rfl (lv_at hl 1 rfl) ?_
      refine r_geti (K := 38) S X26 (Nat.le_of_ble_eq_true rfl) rfl lk12_7_10 (fun _ => ⟨_, rfl, rfl⟩) M25.1 dX12_four_12 ?_
      refine r_iload_n S dX12_four_15 rfl (lv_at hl 2 rfl) ?_
      refine r_iload_n S dX12_four_16 rfl (lv_at hl 0 rfl) ?_
      refine r_ishr S dX12_four_17 (fun v36 z37 => ?_)
      have r38 := R_any v36
      refine r_i2b S dX12_four_18 (fun v39 r40 => ?_)
      refine r_bast (n := 940) (K := 39) S X26 (Nat.le_of_ble_eq_true rfl) rfl (fun _ _ => rfl) (ix_of r23 rfl) (R_of (lo := -128) (hi := 127) r40 rfl) dX12_four_19 (fun t41 H lc M42 X43 => ?_)
      have I44 := Inv_mu I27 M42 (show Rg (kd 132) _ v39 from (R_of (lo := -128) (hi := 127) r40 rfl))
      have F45 : Fr [(131, 2)] [132] τ t41 := Fr_cell F28 M42 (by decide)
      refine r_aload_n S dX12_four_20 rfl (lv_at hl 1 rfl) ?_
      refine r_dup S dX12_four_21 rfl ?_
      refine r_geti (K := 38) S X43 (Nat.le_of_ble_eq_true rfl) rfl lk12_7_10 (fun _ => ⟨_, rfl, rfl⟩) ((M42.2 131 2 (Or.inl (by decide))).trans M25.1) dX12_four_22 ?_
      refine r_iconst S dX12_four_25 (by decide) (fun v46 z47 => ?_)
      have r48 := R_eq z47
      refine r_iadd S dX12_four_26 (fun v49 z50 => ?_)
      obtain ⟨e51, r52⟩ := i_add (lo := 14) (hi := 934) z50 r23 r48 rfl
      refine r_put (K := 38) (ty := .int) S X43 (Nat.le_of_ble_eq_true rfl) rfl lk12_7_10 (fun _ => ⟨_, rfl, Nat.le_of_ble_eq_true rfl, rfl⟩) (fun _ _ _ h => by cases h; exact ⟨rfl, rfl⟩) rfl rfl dX12_four_27 (fun t53 H lc M54 X55 => ?_)
      have I56 := Inv_mu I44 M54 (show Rg (kd 131) 2 v49 from (R_of (lo := 0) (hi := 940) r52 rfl))
      have F57 : Fr [(131, 2)] [132] τ t53 := Fr_mu F45 M54 (by decide)
      refine r_iinc (k := 0) S dX12_four_30 hl rfl (by decide) (by decide) (fun v58 d59 ls z60 z61 hl => ?_)
      obtain ⟨e62, r63⟩ := i_add (lo := 8) (hi := 8) z60 r34 (R_eq z61) rfl
      have hl : lv_has ls 3 [(2, .int v58), (0, .ref (G.2.2.2.1 131)), (1, .int a0)] := hl
      refine r_goto (tgt := 3) S dX12_four_33 (by decide) ?_
      refine r_iload_n S dX12_four_3 rfl (lv_at hl 0 rfl) ?_
      refine r_if_lt (tgt := 36) S dX12_four_4 (by decide) (fun c64 => ?_) (fun c64 => ?_)
      ·
        exfalso; omega
      ·
        refine r_aload_n S dX12_four_7 rfl (lv_at hl 1 rfl) ?_
        refine r_get (K := 38) (v := .ref (G.2.2.2.1 132)) S X55 (Nat.le_of_ble_eq_true rfl) rfl lk12_14_10 (fun _ => ⟨_, rfl, rfl⟩) dX12_four_8 ?_
        refine r_aload_n S dX12_four_11 rfl (lv_at hl 1 rfl) ?_
        refine r_geti (K := 38) S X55 (Nat.le_of_ble_eq_true rfl) rfl lk12_7_10 (fun _ => ⟨_, rfl, rfl⟩) M54.1 dX12_four_12 ?_
        refine r_iload_n S dX12_four_15 rfl (lv_at hl 2 rfl) ?_
        refine r_iload_n S dX12_four_16 rfl (lv_at hl 0 rfl) ?_
        refine r_ishr S dX12_four_17 (fun v65 z66 => ?_)
        have r67 := R_any v65
        refine r_i2b S dX12_four_18 (fun v68 r69 => ?_)
        refine r_bast (n := 940) (K := 39) S X55 (Nat.le_of_ble_eq_true rfl) rfl (fun _ _ => rfl) (ix_of r52 rfl) (R_of (lo := -128) (hi := 127) r69 rfl) dX12_four_19 (fun t70 H lc M71 X72 => ?_)
        have I73 := Inv_mu I56 M71 (show Rg (kd 132) _ v68 from (R_of (lo := -128) (hi := 127) r69 rfl))
        have F74 : Fr [(131, 2)] [132] τ t70 := Fr_cell F57 M71 (by decide)
        refine r_aload_n S dX12_four_20 rfl (lv_at hl 1 rfl) ?_
        refine r_dup S dX12_four_21 rfl ?_
        refine r_geti (K := 38) S X72 (Nat.le_of_ble_eq_true rfl) rfl lk12_7_10 (fun _ => ⟨_, rfl, rfl⟩) ((M71.2 131 2 (Or.inl (by decide))).trans M54.1) dX12_four_22 ?_
        refine r_iconst S dX12_four_25 (by decide) (fun v75 z76 => ?_)
        have r77 := R_eq z76
        refine r_iadd S dX12_four_26 (fun v78 z79 => ?_)
        obtain ⟨e80, r81⟩ := i_add (lo := 15) (hi := 935) z79 r52 r77 rfl
        refine r_put (K := 38) (ty := .int) S X72 (Nat.le_of_ble_eq_true rfl) rfl lk12_7_10 (fun _ => ⟨_, rfl, Nat.le_of_ble_eq_true rfl, rfl⟩) (fun _ _ _ h => by cases h; exact ⟨rfl, rfl⟩) rfl rfl dX12_four_27 (fun t82 H lc M83 X84 => ?_)
        have I85 := Inv_mu I73 M83 (show Rg (kd 131) 2 v78 from (R_of (lo := 0) (hi := 940) r81 rfl))
        have F86 : Fr [(131, 2)] [132] τ t82 := Fr_mu F74 M83 (by decide)
        refine r_iinc (k := 0) S dX12_four_30 hl rfl (by decide) (by decide) (fun v87 d88 ls z89 z90 hl => ?_)
        obtain ⟨e91, r92⟩ := i_add (lo := 0) (hi := 0) z89 r63 (R_eq z90) rfl
        have hl : lv_has ls 3 [(2, .int v87), (0, .ref (G.2.2.2.1 131)), (1, .int a0)] := hl
        refine r_goto (tgt := 3) S dX12_four_33 (by decide) ?_
        refine r_iload_n S dX12_four_3 rfl (lv_at hl 0 rfl) ?_
        refine r_if_lt (tgt := 36) S dX12_four_4 (by decide) (fun c93 => ?_) (fun c93 => ?_)
        ·
          exfalso; omega
        ·
          refine r_aload_n S dX12_four_7 rfl (lv_at hl 1 rfl) ?_
          refine r_get (K := 38) (v := .ref (G.2.2.2.1 132)) S X84 (Nat.le_of_ble_eq_true rfl) rfl lk12_14_10 (fun _ => ⟨_, rfl, rfl⟩) dX12_four_8 ?_
          refine r_aload_n S dX12_four_11 rfl (lv_at hl 1 rfl) ?_
          refine r_geti (K := 38) S X84 (Nat.le_of_ble_eq_true rfl) rfl lk12_7_10 (fun _ => ⟨_, rfl, rfl⟩) M83.1 dX12_four_12 ?_
          refine r_iload_n S dX12_four_15 rfl (lv_at hl 2 rfl) ?_
          refine r_iload_n S dX12_four_16 rfl (lv_at hl 0 rfl) ?_
          refine r_ishr S dX12_four_17 (fun v94 z95 => ?_)
          have r96 := R_any v94
          refine r_i2b S dX12_four_18 (fun v97 r98 => ?_)
          refine r_bast (n := 940) (K := 39) S X84 (Nat.le_of_ble_eq_true rfl) rfl (fun _ _ => rfl) (ix_of r81 rfl) (R_of (lo := -128) (hi := 127) r98 rfl) dX12_four_19 (fun t99 H lc M100 X101 => ?_)
          have I102 := Inv_mu I85 M100 (show Rg (kd 132) _ v97 from (R_of (lo := -128) (hi := 127) r98 rfl))
          have F103 : Fr [(131, 2)] [132] τ t99 := Fr_cell F86 M100 (by decide)
          refine r_aload_n S dX12_four_20 rfl (lv_at hl 1 rfl) ?_
          refine r_dup S dX12_four_21 rfl ?_
          refine r_geti (K := 38) S X101 (Nat.le_of_ble_eq_true rfl) rfl lk12_7_10 (fun _ => ⟨_, rfl, rfl⟩) ((M100.2 131 2 (Or.inl (by decide))).trans M83.1) dX12_four_22 ?_
          refine r_iconst S dX12_four_25 (by decide) (fun v104 z105 => ?_)
          have r106 := R_eq z105
          refine r_iadd S dX12_four_26 (fun v107 z108 => ?_)
          obtain ⟨e109, r110⟩ := i_add (lo := 16) (hi := 936) z108 r81 r106 rfl
          refine r_put (K := 38) (ty := .int) S X101 (Nat.le_of_ble_eq_true rfl) rfl lk12_7_10 (fun _ => ⟨_, rfl, Nat.le_of_ble_eq_true rfl, rfl⟩) (fun _ _ _ h => by cases h; exact ⟨rfl, rfl⟩) rfl rfl dX12_four_27 (fun t111 H lc M112 X113 => ?_)
          have I114 := Inv_mu I102 M112 (show Rg (kd 131) 2 v107 from (R_of (lo := 0) (hi := 940) r110 rfl))
          have F115 : Fr [(131, 2)] [132] τ t111 := Fr_mu F103 M112 (by decide)
          refine r_iinc (k := 0) S dX12_four_30 hl rfl (by decide) (by decide) (fun v116 d117 ls z118 z119 hl => ?_)
          obtain ⟨e120, r121⟩ := i_add (lo := -8) (hi := -8) z118 r92 (R_eq z119) rfl
          have hl : lv_has ls 3 [(2, .int v116), (0, .ref (G.2.2.2.1 131)), (1, .int a0)] := hl
          refine r_goto (tgt := 3) S dX12_four_33 (by decide) ?_
          refine r_iload_n S dX12_four_3 rfl (lv_at hl 0 rfl) ?_
          refine r_if_lt (tgt := 36) S dX12_four_4 (by decide) (fun c122 => ?_) (fun c122 => ?_)
          ·
            exact r_vret S hr hlk X113 ⟨I114, F115, (by rw [M112.1]; exact R_of r110 rfl), (by have h1_0 := congrArg Int32.toInt M112.1; have h2_0 := congrArg Int32.toInt z2; omega)⟩ dX12_four_36
          ·
            exfalso; omega
def po_X12_four_4 (τ : Tau)  (a0 : Int32) (u : Tau) : Prop := Inv u ∧ Fr [(131, 2)] [132] τ u ∧ R (20) (940) (u 131 2) ∧ (u 131 2).toInt = (τ 131 2).toInt + 4
set_option maxHeartbeats 4000000 in
set_option maxRecDepth 100000 in
theorem c_X12_four_4 (l : Launch) (G : Gx) (τ : Tau) (hI : Inv τ) (a0 : Int32) (h_a0 : R (-2147483648) (2147483647) a0) (hf_0 : R (16) (936) (τ 131 2)) : Cv l G yX12_four cX12_four 3 0 0 [.ref (G.2.2.2.1 131), .int a0] τ (po_X12_four_4 τ  a0) := by
  unfold Cv
  refine C_of (own := RX12) (by decide) rfl (Nat.le_of_ble_eq_true rfl) ?_
  intro p e s m below meth c ls S hr hlk X hl
  have hl : lv_has ls 3 [(0, .ref (G.2.2.2.1 131)), (1, .int a0)] := hl
  obtain ⟨v1, z2⟩ : ∃ x, τ 131 2 = x := ⟨_, rfl⟩
  rw [z2] at hf_0
  refine r_bipush S dX12_four_0 (by decide) (fun v3 z4 => ?_)
  have r5 := R_eq z4
  refine r_istore_n (lv' := [(2, .int v3), (0, .ref (G.2.2.2.1 131)), (1, .int a0)]) S dX12_four_2 rfl hl (by decide) rfl (fun ls hl => ?_)
  refine r_iload_n S dX12_four_3 rfl (lv_at hl 0 rfl) ?_
  refine r_if_lt (tgt := 36) S dX12_four_4 (by decide) (fun c6 => ?_) (fun c6 => ?_)
  ·
    exfalso; omega
  ·
    refine r_aload_n S dX12_four_7 rfl (lv_at hl 1 rfl) ?_
    refine r_get (K := 38) (v := .ref (G.2.2.2.1 132)) S X (Nat.le_of_ble_eq_true rfl) rfl lk12_14_10 (fun _ => ⟨_, rfl, rfl⟩) dX12_four_8 ?_
    refine r_aload_n S dX12_four_11 rfl (lv_at hl 1 rfl) ?_
    refine r_geti (K := 38) S X (Nat.le_of_ble_eq_true rfl) rfl lk12_7_10 (fun _ => ⟨_, rfl, rfl⟩) z2 dX12_four_12 ?_
    refine r_iload_n S dX12_four_15 rfl (lv_at hl 2 rfl) ?_
    refine r_iload_n S dX12_four_16 rfl (lv_at hl 0 rfl) ?_
    refine r_ishr S dX12_four_17 (fun v7 z8 => ?_)
    have r9 := R_any v7
    refine r_i2b S dX12_four_18 (fun v10 r11 => ?_)
    refine r_bast (n := 940) (K := 39) S X (Nat.le_of_ble_eq_true rfl) rfl (fun _ _ => rfl) (ix_of hf_0 rfl) (R_of (lo := -128) (hi := 127) r11 rfl) dX12_four_19 (fun t12 H lc M13 X14 => ?_)
    have I15 := Inv_mu hI M13 (show Rg (kd 132) _ v10 from (R_of (lo := -128) (hi := 127) r11 rfl))
    have F16 : Fr [(131, 2)] [132] τ t12 := Fr_cell Fr_rfl M13 (by decide)
    refine r_aload_n S dX12_four_20 rfl (lv_at hl 1 rfl) ?_
    refine r_dup S dX12_four_21 rfl ?_
    refine r_geti (K := 38) S X14 (Nat.le_of_ble_eq_true rfl) rfl lk12_7_10 (fun _ => ⟨_, rfl, rfl⟩) ((M13.2 131 2 (Or.inl (by decide))).trans z2) dX12_four_22 ?_
    refine r_iconst S dX12_four_25 (by decide) (fun v17 z18 => ?_)
    have r19 := R_eq z18
    refine r_iadd S dX12_four_26 (fun v20 z21 => ?_)
    obtain ⟨e22, r23⟩ := i_add (lo := 17) (hi := 937) z21 hf_0 r19 rfl
    refine r_put (K := 38) (ty := .int) S X14 (Nat.le_of_ble_eq_true rfl) rfl lk12_7_10 (fun _ => ⟨_, rfl, Nat.le_of_ble_eq_true rfl, rfl⟩) (fun _ _ _ h => by cases h; exact ⟨rfl, rfl⟩) rfl rfl dX12_four_27 (fun t24 H lc M25 X26 => ?_)
    have I27 := Inv_mu I15 M25 (show Rg (kd 131) 2 v20 from (R_of (lo := 0) (hi := 940) r23 rfl))
    have F28 : Fr [(131, 2)] [132] τ t24 := Fr_mu F16 M25 (by decide)
    refine r_iinc (k := 0) S dX12_four_30 hl rfl (by decide) (by decide) (fun v29 d30 ls z31 z32 hl => ?_)
    obtain ⟨e33, r34⟩ := i_add (lo := 16) (hi := 16) z31 r5 (R_eq z32) rfl
    have hl : lv_has ls 3 [(2, .int v29), (0, .ref (G.2.2.2.1 131)), (1, .int a0)] := hl
    refine r_goto (tgt := 3) S dX12_four_33 (by decide) ?_
    refine r_iload_n S dX12_four_3 rfl (lv_at hl 0 rfl) ?_
    refine r_if_lt (tgt := 36) S dX12_four_4 (by decide) (fun c35 => ?_) (fun c35 => ?_)
    ·
      exfalso; omega
    ·
      refine r_aload_n S dX12_four_7 rfl (lv_at hl 1 rfl) ?_
      refine r_get (K := 38) (v := .ref (G.2.2.2.1 132)) S X26 (Nat.le_of_ble_eq_true rfl) rfl lk12_14_10 (fun _ => ⟨_, rfl, rfl⟩) dX12_four_8 ?_
      refine r_aload_n S dX12_four_11 rfl (lv_at hl 1 rfl) ?_
      refine r_geti (K := 38) S X26 (Nat.le_of_ble_eq_true rfl) rfl lk12_7_10 (fun _ => ⟨_, rfl, rfl⟩) M25.1 dX12_four_12 ?_
      refine r_iload_n S dX12_four_15 rfl (lv_at hl 2 rfl) ?_
      refine r_iload_n S dX12_four_16 rfl (lv_at hl 0 rfl) ?_
      refine r_ishr S dX12_four_17 (fun v36 z37 => ?_)
      have r38 := R_any v36
      refine r_i2b S dX12_four_18 (fun v39 r40 => ?_)
      refine r_bast (n := 940) (K := 39) S X26 (Nat.le_of_ble_eq_true rfl) rfl (fun _ _ => rfl) (ix_of r23 rfl) (R_of (lo := -128) (hi := 127) r40 rfl) dX12_four_19 (fun t41 H lc M42 X43 => ?_)
      have I44 := Inv_mu I27 M42 (show Rg (kd 132) _ v39 from (R_of (lo := -128) (hi := 127) r40 rfl))
      have F45 : Fr [(131, 2)] [132] τ t41 := Fr_cell F28 M42 (by decide)
      refine r_aload_n S dX12_four_20 rfl (lv_at hl 1 rfl) ?_
      refine r_dup S dX12_four_21 rfl ?_
      refine r_geti (K := 38) S X43 (Nat.le_of_ble_eq_true rfl) rfl lk12_7_10 (fun _ => ⟨_, rfl, rfl⟩) ((M42.2 131 2 (Or.inl (by decide))).trans M25.1) dX12_four_22 ?_
      refine r_iconst S dX12_four_25 (by decide) (fun v46 z47 => ?_)
      have r48 := R_eq z47
      refine r_iadd S dX12_four_26 (fun v49 z50 => ?_)
      obtain ⟨e51, r52⟩ := i_add (lo := 18) (hi := 938) z50 r23 r48 rfl
      refine r_put (K := 38) (ty := .int) S X43 (Nat.le_of_ble_eq_true rfl) rfl lk12_7_10 (fun _ => ⟨_, rfl, Nat.le_of_ble_eq_true rfl, rfl⟩) (fun _ _ _ h => by cases h; exact ⟨rfl, rfl⟩) rfl rfl dX12_four_27 (fun t53 H lc M54 X55 => ?_)
      have I56 := Inv_mu I44 M54 (show Rg (kd 131) 2 v49 from (R_of (lo := 0) (hi := 940) r52 rfl))
      have F57 : Fr [(131, 2)] [132] τ t53 := Fr_mu F45 M54 (by decide)
      refine r_iinc (k := 0) S dX12_four_30 hl rfl (by decide) (by decide) (fun v58 d59 ls z60 z61 hl => ?_)
      obtain ⟨e62, r63⟩ := i_add (lo := 8) (hi := 8) z60 r34 (R_eq z61) rfl
      have hl : lv_has ls 3 [(2, .int v58), (0, .ref (G.2.2.2.1 131)), (1, .int a0)] := hl
      refine r_goto (tgt := 3) S dX12_four_33 (by decide) ?_
      refine r_iload_n S dX12_four_3 rfl (lv_at hl 0 rfl) ?_
      refine r_if_lt (tgt := 36) S dX12_four_4 (by decide) (fun c64 => ?_) (fun c64 => ?_)
      ·
        exfalso; omega
      ·
        refine r_aload_n S dX12_four_7 rfl (lv_at hl 1 rfl) ?_
        refine r_get (K := 38) (v := .ref (G.2.2.2.1 132)) S X55 (Nat.le_of_ble_eq_true rfl) rfl lk12_14_10 (fun _ => ⟨_, rfl, rfl⟩) dX12_four_8 ?_
        refine r_aload_n S dX12_four_11 rfl (lv_at hl 1 rfl) ?_
        refine r_geti (K := 38) S X55 (Nat.le_of_ble_eq_true rfl) rfl lk12_7_10 (fun _ => ⟨_, rfl, rfl⟩) M54.1 dX12_four_12 ?_
        refine r_iload_n S dX12_four_15 rfl (lv_at hl 2 rfl) ?_
        refine r_iload_n S dX12_four_16 rfl (lv_at hl 0 rfl) ?_
        refine r_ishr S dX12_four_17 (fun v65 z66 => ?_)
        have r67 := R_any v65
        refine r_i2b S dX12_four_18 (fun v68 r69 => ?_)
        refine r_bast (n := 940) (K := 39) S X55 (Nat.le_of_ble_eq_true rfl) rfl (fun _ _ => rfl) (ix_of r52 rfl) (R_of (lo := -128) (hi := 127) r69 rfl) dX12_four_19 (fun t70 H lc M71 X72 => ?_)
        have I73 := Inv_mu I56 M71 (show Rg (kd 132) _ v68 from (R_of (lo := -128) (hi := 127) r69 rfl))
        have F74 : Fr [(131, 2)] [132] τ t70 := Fr_cell F57 M71 (by decide)
        refine r_aload_n S dX12_four_20 rfl (lv_at hl 1 rfl) ?_
        refine r_dup S dX12_four_21 rfl ?_
        refine r_geti (K := 38) S X72 (Nat.le_of_ble_eq_true rfl) rfl lk12_7_10 (fun _ => ⟨_, rfl, rfl⟩) ((M71.2 131 2 (Or.inl (by decide))).trans M54.1) dX12_four_22 ?_
        refine r_iconst S dX12_four_25 (by decide) (fun v75 z76 => ?_)
        have r77 := R_eq z76
        refine r_iadd S dX12_four_26 (fun v78 z79 => ?_)
        obtain ⟨e80, r81⟩ := i_add (lo := 19) (hi := 939) z79 r52 r77 rfl
        refine r_put (K := 38) (ty := .int) S X72 (Nat.le_of_ble_eq_true rfl) rfl lk12_7_10 (fun _ => ⟨_, rfl, Nat.le_of_ble_eq_true rfl, rfl⟩) (fun _ _ _ h => by cases h; exact ⟨rfl, rfl⟩) rfl rfl dX12_four_27 (fun t82 H lc M83 X84 => ?_)
        have I85 := Inv_mu I73 M83 (show Rg (kd 131) 2 v78 from (R_of (lo := 0) (hi := 940) r81 rfl))
        have F86 : Fr [(131, 2)] [132] τ t82 := Fr_mu F74 M83 (by decide)
        refine r_iinc (k := 0) S dX12_four_30 hl rfl (by decide) (by decide) (fun v87 d88 ls z89 z90 hl => ?_)
        obtain ⟨e91, r92⟩ := i_add (lo := 0) (hi := 0) z89 r63 (R_eq z90) rfl
        have hl : lv_has ls 3 [(2, .int v87), (0, .ref (G.2.2.2.1 131)), (1, .int a0)] := hl
        refine r_goto (tgt := 3) S dX12_four_33 (by decide) ?_
        refine r_iload_n S dX12_four_3 rfl (lv_at hl 0 rfl) ?_
        refine r_if_lt (tgt := 36) S dX12_four_4 (by decide) (fun c93 => ?_) (fun c93 => ?_)
        ·
          exfalso; omega
        ·
          refine r_aload_n S dX12_four_7 rfl (lv_at hl 1 rfl) ?_
          refine r_get (K := 38) (v := .ref (G.2.2.2.1 132)) S X84 (Nat.le_of_ble_eq_true rfl) rfl lk12_14_10 (fun _ => ⟨_, rfl, rfl⟩) dX12_four_8 ?_
          refine r_aload_n S dX12_four_11 rfl (lv_at hl 1 rfl) ?_
          refine r_geti (K := 38) S X84 (Nat.le_of_ble_eq_true rfl) rfl lk12_7_10 (fun _ => ⟨_, rfl, rfl⟩) M83.1 dX12_four_12 ?_
          refine r_iload_n S dX12_four_15 rfl (lv_at hl 2 rfl) ?_
          refine r_iload_n S dX12_four_16 rfl (lv_at hl 0 rfl) ?_
          refine r_ishr S dX12_four_17 (fun v94 z95 => ?_)
          have r96 := R_any v94
          refine r_i2b S dX12_four_18 (fun v97 r98 => ?_)
          refine r_bast (n := 940) (K := 39) S X84 (Nat.le_of_ble_eq_true rfl) rfl (fun _ _ => rfl) (ix_of r81 rfl) (R_of (lo := -128) (hi := 127) r98 rfl) dX12_four_19 (fun t99 H lc M100 X101 => ?_)
          have I102 := Inv_mu I85 M100 (show Rg (kd 132) _ v97 from (R_of (lo := -128) (hi := 127) r98 rfl))
          have F103 : Fr [(131, 2)] [132] τ t99 := Fr_cell F86 M100 (by decide)
          refine r_aload_n S dX12_four_20 rfl (lv_at hl 1 rfl) ?_
          refine r_dup S dX12_four_21 rfl ?_
          refine r_geti (K := 38) S X101 (Nat.le_of_ble_eq_true rfl) rfl lk12_7_10 (fun _ => ⟨_, rfl, rfl⟩) ((M100.2 131 2 (Or.inl (by decide))).trans M83.1) dX12_four_22 ?_
          refine r_iconst S dX12_four_25 (by decide) (fun v104 z105 => ?_)
          have r106 := R_eq z105
          refine r_iadd S dX12_four_26 (fun v107 z108 => ?_)
          obtain ⟨e109, r110⟩ := i_add (lo := 20) (hi := 940) z108 r81 r106 rfl
          refine r_put (K := 38) (ty := .int) S X101 (Nat.le_of_ble_eq_true rfl) rfl lk12_7_10 (fun _ => ⟨_, rfl, Nat.le_of_ble_eq_true rfl, rfl⟩) (fun _ _ _ h => by cases h; exact ⟨rfl, rfl⟩) rfl rfl dX12_four_27 (fun t111 H lc M112 X113 => ?_)
          have I114 := Inv_mu I102 M112 (show Rg (kd 131) 2 v107 from (R_of (lo := 0) (hi := 940) r110 rfl))
          have F115 : Fr [(131, 2)] [132] τ t111 := Fr_mu F103 M112 (by decide)
          refine r_iinc (k := 0) S dX12_four_30 hl rfl (by decide) (by decide) (fun v116 d117 ls z118 z119 hl => ?_)
          obtain ⟨e120, r121⟩ := i_add (lo := -8) (hi := -8) z118 r92 (R_eq z119) rfl
          have hl : lv_has ls 3 [(2, .int v116), (0, .ref (G.2.2.2.1 131)), (1, .int a0)] := hl
          refine r_goto (tgt := 3) S dX12_four_33 (by decide) ?_
          refine r_iload_n S dX12_four_3 rfl (lv_at hl 0 rfl) ?_
          refine r_if_lt (tgt := 36) S dX12_four_4 (by decide) (fun c122 => ?_) (fun c122 => ?_)
          ·
            exact r_vret S hr hlk X113 ⟨I114, F115, (by rw [M112.1]; exact R_of r110 rfl), (by have h1_0 := congrArg Int32.toInt M112.1; have h2_0 := congrArg Int32.toInt z2; omega)⟩ dX12_four_36
          ·
            exfalso; omega
def po_X12_feed (τ : Tau)  (a0 a1 a2 a3 a4 : Int32) (r : Int32) (u : Tau) : Prop := Inv u ∧ Fr [(131, 0), (131, 2)] [132] τ u ∧ ((τ 131 2).toInt + 20 ≤ 940 → (u 131 2).toInt = (τ 131 2).toInt + 20 ∧ r.toInt = (τ 131 2).toInt + 20) ∧ (940 < (τ 131 2).toInt + 20 → (u 131 2).toInt = (τ 131 2).toInt ∧ r.toInt = -1)
set_option maxHeartbeats 4000000 in
set_option maxRecDepth 100000 in
theorem c_X12_feed (l : Launch) (G : Gx) (τ : Tau) (hI : Inv τ) (a0 : Int32) (a1 : Int32) (a2 : Int32) (a3 : Int32) (a4 : Int32) (h_a0 : R (-2147483648) (2147483647) a0) (h_a1 : R (-2147483648) (2147483647) a1) (h_a2 : R (-2147483648) (2147483647) a2) (h_a3 : R (-2147483648) (2147483647) a3) (h_a4 : R (-2147483648) (2147483647) a4) : Ci l G yX12_feed cX12_feed 6 (some .int) 1 22 [.ref (G.2.2.2.1 131), .int a0, .int a1, .int a2, .int a3, .int a4] τ (po_X12_feed τ  a0 a1 a2 a3 a4) := by
  unfold Ci
  refine C_of (own := RX12) (by decide) rfl (Nat.le_of_ble_eq_true rfl) ?_
  intro p e s m below meth c ls S hr hlk X hl
  have hl : lv_has ls 6 [(0, .ref (G.2.2.2.1 131)), (1, .int a0), (2, .int a1), (3, .int a2), (4, .int a3), (5, .int a4)] := hl
  refine r_aload_n S dX12_feed_0 rfl (lv_at hl 0 rfl) ?_
  refine r_iconst S dX12_feed_1 (by decide) (fun v1 z2 => ?_)
  have r3 := R_eq z2
  refine r_put (K := 38) (ty := .int) S X (Nat.le_of_ble_eq_true rfl) rfl lk12_1_10 (fun _ => ⟨_, rfl, Nat.le_of_ble_eq_true rfl, rfl⟩) (fun _ _ _ h => by cases h; exact ⟨rfl, rfl⟩) rfl rfl dX12_feed_2 (fun t4 H lc M5 X6 => ?_)
  have I7 := Inv_mu hI M5 (R_any v1)
  have F8 : Fr [(131, 0), (131, 2)] [132] τ t4 := Fr_mu Fr_rfl M5 (by decide)
  refine r_aload_n S dX12_feed_5 rfl (lv_at hl 0 rfl) ?_
  refine r_getn (K := 38) S X6 (Nat.le_of_ble_eq_true rfl) rfl lk12_7_10 (fun _ => ⟨_, rfl, rfl⟩) dX12_feed_6 (fun v9 z10 => ?_)
  have r11 : R (0) (940) v9 := rd I7 rfl z10
  refine r_bipush S dX12_feed_9 (by decide) (fun v12 z13 => ?_)
  have r14 := R_eq z13
  refine r_iadd S dX12_feed_11 (fun v15 z16 => ?_)
  obtain ⟨e17, r18⟩ := i_add (lo := 20) (hi := 960) z16 r11 r14 rfl
  refine r_sipush S dX12_feed_12 (by decide) (fun v19 z20 => ?_)
  have r21 := R_eq z20
  refine r_icmp_le (tgt := 20) S dX12_feed_15 (by decide) (fun c22 => ?_) (fun c22 => ?_)
  ·
    have r23 : R (20) (940) v15 := ⟨by omega, by omega⟩
    have r24 : R (0) (920) v9 := ⟨by omega, by omega⟩
    refine r_aload_n S dX12_feed_20 rfl (lv_at hl 0 rfl) ?_
    refine r_iload_n S dX12_feed_21 rfl (lv_at hl 1 rfl) ?_
    refine r_kv (q_V (As := [.int a0]) (rest := []) (K := 38) (ci := 10) S X6 (c_X12_four_0 l G t4 I7 a0 h_a0 (by rw [z10]; exact R_of r24 rfl)) ck12_10 (Nat.le_of_ble_eq_true rfl) rfl (fun _ => ⟨_, rfl⟩) ⟨_, _, rfl⟩ ⟨Nat.le_of_ble_eq_true rfl, Nat.le_of_ble_eq_true rfl⟩ rfl hl.1 rfl (Nat.le_of_ble_eq_true rfl) dX12_feed_22 ⟨Nat.le_refl 0, Nat.le_refl 0⟩) X6 (fun t27 H lc q25 X26 => ?_)
    unfold po_X12_four_0 at q25
    obtain ⟨q28, q29, q30, q31⟩ := q25
    have F32 : Fr [(131, 0), (131, 2)] [132] τ t27 := Fr_call F8 q29 (by decide)
    obtain ⟨v33, z34⟩ : ∃ x, t27 131 2 = x := ⟨_, rfl⟩
    rw [z34] at q30
    have e35 := congrArg Int32.toInt z10
    have e36 := congrArg Int32.toInt z34
    refine r_aload_n S dX12_feed_25 rfl (lv_at hl 0 rfl) ?_
    refine r_iload_n S dX12_feed_26 rfl (lv_at hl 2 rfl) ?_
    refine r_kv (q_V (As := [.int a1]) (rest := []) (K := 38) (ci := 10) S X26 (c_X12_four_1 l G t27 q28 a1 h_a1 (by rw [z34]; exact R_of q30 rfl)) ck12_10 (Nat.le_of_ble_eq_true rfl) rfl (fun _ => ⟨_, rfl⟩) ⟨_, _, rfl⟩ ⟨Nat.le_of_ble_eq_true rfl, Nat.le_of_ble_eq_true rfl⟩ rfl hl.1 rfl (Nat.le_of_ble_eq_true rfl) dX12_feed_27 ⟨Nat.le_refl 0, Nat.le_refl 0⟩) X26 (fun t39 H lc q37 X38 => ?_)
    unfold po_X12_four_1 at q37
    obtain ⟨q40, q41, q42, q43⟩ := q37
    have F44 : Fr [(131, 0), (131, 2)] [132] τ t39 := Fr_call F32 q41 (by decide)
    obtain ⟨v45, z46⟩ : ∃ x, t39 131 2 = x := ⟨_, rfl⟩
    rw [z46] at q42
    have e47 := congrArg Int32.toInt z34
    have e48 := congrArg Int32.toInt z46
    refine r_aload_n S dX12_feed_30 rfl (lv_at hl 0 rfl) ?_
    refine r_iload_n S dX12_feed_31 rfl (lv_at hl 3 rfl) ?_
    refine r_kv (q_V (As := [.int a2]) (rest := []) (K := 38) (ci := 10) S X38 (c_X12_four_2 l G t39 q40 a2 h_a2 (by rw [z46]; exact R_of q42 rfl)) ck12_10 (Nat.le_of_ble_eq_true rfl) rfl (fun _ => ⟨_, rfl⟩) ⟨_, _, rfl⟩ ⟨Nat.le_of_ble_eq_true rfl, Nat.le_of_ble_eq_true rfl⟩ rfl hl.1 rfl (Nat.le_of_ble_eq_true rfl) dX12_feed_32 ⟨Nat.le_refl 0, Nat.le_refl 0⟩) X38 (fun t51 H lc q49 X50 => ?_)
    unfold po_X12_four_2 at q49
    obtain ⟨q52, q53, q54, q55⟩ := q49
    have F56 : Fr [(131, 0), (131, 2)] [132] τ t51 := Fr_call F44 q53 (by decide)
    obtain ⟨v57, z58⟩ : ∃ x, t51 131 2 = x := ⟨_, rfl⟩
    rw [z58] at q54
    have e59 := congrArg Int32.toInt z46
    have e60 := congrArg Int32.toInt z58
    refine r_aload_n S dX12_feed_35 rfl (lv_at hl 0 rfl) ?_
    refine r_iload S dX12_feed_36 (lv_at hl 4 rfl) ?_
    refine r_kv (q_V (As := [.int a3]) (rest := []) (K := 38) (ci := 10) S X50 (c_X12_four_3 l G t51 q52 a3 h_a3 (by rw [z58]; exact R_of q54 rfl)) ck12_10 (Nat.le_of_ble_eq_true rfl) rfl (fun _ => ⟨_, rfl⟩) ⟨_, _, rfl⟩ ⟨Nat.le_of_ble_eq_true rfl, Nat.le_of_ble_eq_true rfl⟩ rfl hl.1 rfl (Nat.le_of_ble_eq_true rfl) dX12_feed_38 ⟨Nat.le_refl 0, Nat.le_refl 0⟩) X50 (fun t63 H lc q61 X62 => ?_)
    unfold po_X12_four_3 at q61
    obtain ⟨q64, q65, q66, q67⟩ := q61
    have F68 : Fr [(131, 0), (131, 2)] [132] τ t63 := Fr_call F56 q65 (by decide)
    obtain ⟨v69, z70⟩ : ∃ x, t63 131 2 = x := ⟨_, rfl⟩
    rw [z70] at q66
    have e71 := congrArg Int32.toInt z58
    have e72 := congrArg Int32.toInt z70
    refine r_aload_n S dX12_feed_41 rfl (lv_at hl 0 rfl) ?_
    refine r_iload S dX12_feed_42 (lv_at hl 5 rfl) ?_
    refine r_kv (q_V (As := [.int a4]) (rest := []) (K := 38) (ci := 10) S X62 (c_X12_four_4 l G t63 q64 a4 h_a4 (by rw [z70]; exact R_of q66 rfl)) ck12_10 (Nat.le_of_ble_eq_true rfl) rfl (fun _ => ⟨_, rfl⟩) ⟨_, _, rfl⟩ ⟨Nat.le_of_ble_eq_true rfl, Nat.le_of_ble_eq_true rfl⟩ rfl hl.1 rfl (Nat.le_of_ble_eq_true rfl) dX12_feed_44 ⟨Nat.le_refl 0, Nat.le_refl 0⟩) X62 (fun t75 H lc q73 X74 => ?_)
    unfold po_X12_four_4 at q73
    obtain ⟨q76, q77, q78, q79⟩ := q73
    have F80 : Fr [(131, 0), (131, 2)] [132] τ t75 := Fr_call F68 q77 (by decide)
    obtain ⟨v81, z82⟩ : ∃ x, t75 131 2 = x := ⟨_, rfl⟩
    rw [z82] at q78
    have e83 := congrArg Int32.toInt z70
    have e84 := congrArg Int32.toInt z82
    refine r_aload_n S dX12_feed_47 rfl (lv_at hl 0 rfl) ?_
    refine r_geti (K := 38) S X74 (Nat.le_of_ble_eq_true rfl) rfl lk12_7_10 (fun _ => ⟨_, rfl, rfl⟩) z82 dX12_feed_48 ?_
    exact r_ret S hr hlk X74 ⟨q76, F80, (by have h1_0 := congrArg Int32.toInt z82; have h2_0 := congrArg Int32.toInt (((M5.2 131 2 (Or.inr (by decide))).trans rfl).symm.trans z10); omega), (by have h1_0 := congrArg Int32.toInt z82; have h2_0 := congrArg Int32.toInt (((M5.2 131 2 (Or.inr (by decide))).trans rfl).symm.trans z10); omega)⟩ rfl dX12_feed_51
  ·
    have r85 : R (941) (960) v15 := ⟨by omega, by omega⟩
    have r86 : R (921) (940) v9 := ⟨by omega, by omega⟩
    refine r_iconst S dX12_feed_18 (by decide) (fun v87 z88 => ?_)
    have r89 := R_eq z88
    exact r_ret S hr hlk X6 ⟨I7, F8, (by have h1_0 := congrArg Int32.toInt z10; have h2_0 := congrArg Int32.toInt (((M5.2 131 2 (Or.inr (by decide))).trans rfl).symm.trans z10); omega), (by have h1_0 := congrArg Int32.toInt z10; have h2_0 := congrArg Int32.toInt (((M5.2 131 2 (Or.inr (by decide))).trans rfl).symm.trans z10); omega)⟩ rfl dX12_feed_19
def po_X12_end (τ : Tau)  (a0 : Int32) (r : Int32) (u : Tau) : Prop := Inv u ∧ Fr [(131, 0), (131, 2)] [] τ u ∧ R (0) (1) r ∧ (0 ≤ a0.toInt ∧ a0.toInt ≤ (τ 131 2).toInt → (u 131 2).toInt = a0.toInt ∧ r.toInt = 1) ∧ (a0.toInt < 0 ∨ (τ 131 2).toInt < a0.toInt → (u 131 2).toInt = (τ 131 2).toInt ∧ r.toInt = 0)
set_option maxHeartbeats 4000000 in
set_option maxRecDepth 100000 in
theorem c_X12_end (l : Launch) (G : Gx) (τ : Tau) (hI : Inv τ) (a0 : Int32) (h_a0 : R (-2147483648) (2147483647) a0) : Ci l G yX12_end cX12_end 2 (some .boolean) 0 0 [.ref (G.2.2.2.1 131), .int a0] τ (po_X12_end τ  a0) := by
  unfold Ci
  refine C_of (own := RX12) (by decide) rfl (Nat.le_of_ble_eq_true rfl) ?_
  intro p e s m below meth c ls S hr hlk X hl
  have hl : lv_has ls 2 [(0, .ref (G.2.2.2.1 131)), (1, .int a0)] := hl
  refine r_aload_n S dX12_end_0 rfl (lv_at hl 0 rfl) ?_
  refine r_iconst S dX12_end_1 (by decide) (fun v1 z2 => ?_)
  have r3 := R_eq z2
  refine r_put (K := 38) (ty := .int) S X (Nat.le_of_ble_eq_true rfl) rfl lk12_1_10 (fun _ => ⟨_, rfl, Nat.le_of_ble_eq_true rfl, rfl⟩) (fun _ _ _ h => by cases h; exact ⟨rfl, rfl⟩) rfl rfl dX12_end_2 (fun t4 H lc M5 X6 => ?_)
  have I7 := Inv_mu hI M5 (R_any v1)
  have F8 : Fr [(131, 0), (131, 2)] [] τ t4 := Fr_mu Fr_rfl M5 (by decide)
  refine r_iload_n S dX12_end_5 rfl (lv_at hl 1 rfl) ?_
  refine r_if_lt (tgt := 17) S dX12_end_6 (by decide) (fun c9 => ?_) (fun c9 => ?_)
  ·
    have r10 : R (-2147483648) (-1) a0 := ⟨by omega, by omega⟩
    refine r_iconst S dX12_end_17 (by decide) (fun v11 z12 => ?_)
    have r13 := R_eq z12
    exact r_ret S hr hlk X6 ⟨I7, F8, (R_of r13 rfl), (by have h1_0 := congrArg Int32.toInt ((M5.2 131 2 (Or.inr (by decide))).trans rfl); omega), (by have h1_0 := congrArg Int32.toInt ((M5.2 131 2 (Or.inr (by decide))).trans rfl); omega)⟩ (nr_bool (R_of (lo := 0) (hi := 1) r13 rfl)) dX12_end_18
  ·
    have r14 : R (0) (2147483647) a0 := ⟨by omega, by omega⟩
    refine r_iload_n S dX12_end_9 rfl (lv_at hl 1 rfl) ?_
    refine r_aload_n S dX12_end_10 rfl (lv_at hl 0 rfl) ?_
    refine r_getn (K := 38) S X6 (Nat.le_of_ble_eq_true rfl) rfl lk12_7_10 (fun _ => ⟨_, rfl, rfl⟩) dX12_end_11 (fun v15 z16 => ?_)
    have r17 : R (0) (940) v15 := rd I7 rfl z16
    refine r_icmp_le (tgt := 19) S dX12_end_14 (by decide) (fun c18 => ?_) (fun c18 => ?_)
    ·
      have r19 : R (0) (940) a0 := ⟨by omega, by omega⟩
      refine r_aload_n S dX12_end_19 rfl (lv_at hl 0 rfl) ?_
      refine r_iload_n S dX12_end_20 rfl (lv_at hl 1 rfl) ?_
      refine r_put (K := 38) (ty := .int) S X6 (Nat.le_of_ble_eq_true rfl) rfl lk12_7_10 (fun _ => ⟨_, rfl, Nat.le_of_ble_eq_true rfl, rfl⟩) (fun _ _ _ h => by cases h; exact ⟨rfl, rfl⟩) rfl rfl dX12_end_21 (fun t20 H lc M21 X22 => ?_)
      have I23 := Inv_mu I7 M21 (show Rg (kd 131) 2 a0 from (R_of (lo := 0) (hi := 940) r19 rfl))
      have F24 : Fr [(131, 0), (131, 2)] [] τ t20 := Fr_mu F8 M21 (by decide)
      refine r_iconst S dX12_end_24 (by decide) (fun v25 z26 => ?_)
      have r27 := R_eq z26
      exact r_ret S hr hlk X22 ⟨I23, F24, (R_of r27 rfl), (by have h1_0 := congrArg Int32.toInt M21.1; have h2_0 := congrArg Int32.toInt (((M5.2 131 2 (Or.inr (by decide))).trans rfl).symm.trans z16); omega), (by have h1_0 := congrArg Int32.toInt M21.1; have h2_0 := congrArg Int32.toInt (((M5.2 131 2 (Or.inr (by decide))).trans rfl).symm.trans z16); omega)⟩ (nr_bool (R_of (lo := 0) (hi := 1) r27 rfl)) dX12_end_25
    ·
      have r28 : R (1) (2147483647) a0 := ⟨by omega, by omega⟩
      refine r_iconst S dX12_end_17 (by decide) (fun v29 z30 => ?_)
      have r31 := R_eq z30
      exact r_ret S hr hlk X6 ⟨I7, F8, (R_of r31 rfl), (by have h1_0 := congrArg Int32.toInt z16; have h2_0 := congrArg Int32.toInt (((M5.2 131 2 (Or.inr (by decide))).trans rfl).symm.trans z16); omega), (by have h1_0 := congrArg Int32.toInt z16; have h2_0 := congrArg Int32.toInt (((M5.2 131 2 (Or.inr (by decide))).trans rfl).symm.trans z16); omega)⟩ (nr_bool (R_of (lo := 0) (hi := 1) r31 rfl)) dX12_end_18
def po_X12_taken (τ : Tau)  (a0 : Int32) (u : Tau) : Prop := Inv u ∧ Fr [(131, 2), (131, 3), (131, 4), (131, 5)] [] τ u ∧ R (0) (0) (u 131 2)
set_option maxHeartbeats 4000000 in
set_option maxRecDepth 100000 in
theorem c_X12_taken (l : Launch) (G : Gx) (τ : Tau) (hI : Inv τ) (a0 : Int32) (h_a0 : R (0) (940) a0) : Cv l G yX12_taken cX12_taken 2 0 0 [.ref (G.2.2.2.1 131), .int a0] τ (po_X12_taken τ  a0) := by
  unfold Cv
  refine C_of (own := RX12) (by decide) rfl (Nat.le_of_ble_eq_true rfl) ?_
  intro p e s m below meth c ls S hr hlk X hl
  have hl : lv_has ls 2 [(0, .ref (G.2.2.2.1 131)), (1, .int a0)] := hl
  refine r_aload_n S dX12_taken_0 rfl (lv_at hl 0 rfl) ?_
  refine r_aload_n S dX12_taken_1 rfl (lv_at hl 0 rfl) ?_
  refine r_getn (K := 38) S X (Nat.le_of_ble_eq_true rfl) rfl lk12_7_10 (fun _ => ⟨_, rfl, rfl⟩) dX12_taken_2 (fun v1 z2 => ?_)
  have r3 : R (0) (940) v1 := rd hI rfl z2
  refine r_put (K := 38) (ty := .int) S X (Nat.le_of_ble_eq_true rfl) rfl lk12_18_10 (fun _ => ⟨_, rfl, Nat.le_of_ble_eq_true rfl, rfl⟩) (fun _ _ _ h => by cases h; exact ⟨rfl, rfl⟩) rfl rfl dX12_taken_5 (fun t4 H lc M5 X6 => ?_)
  have I7 := Inv_mu hI M5 (show Rg (kd 131) 3 v1 from (R_of (lo := 0) (hi := 940) r3 rfl))
  have F8 : Fr [(131, 2), (131, 3), (131, 4), (131, 5)] [] τ t4 := Fr_mu Fr_rfl M5 (by decide)
  refine r_aload_n S dX12_taken_8 rfl (lv_at hl 0 rfl) ?_
  refine r_iconst S dX12_taken_9 (by decide) (fun v9 z10 => ?_)
  have r11 := R_eq z10
  refine r_put (K := 38) (ty := .int) S X6 (Nat.le_of_ble_eq_true rfl) rfl lk12_7_10 (fun _ => ⟨_, rfl, Nat.le_of_ble_eq_true rfl, rfl⟩) (fun _ _ _ h => by cases h; exact ⟨rfl, rfl⟩) rfl rfl dX12_taken_10 (fun t12 H lc M13 X14 => ?_)
  have I15 := Inv_mu I7 M13 (show Rg (kd 131) 2 v9 from (R_of (lo := 0) (hi := 940) r11 rfl))
  have F16 : Fr [(131, 2), (131, 3), (131, 4), (131, 5)] [] τ t12 := Fr_mu F8 M13 (by decide)
  refine r_aload_n S dX12_taken_13 rfl (lv_at hl 0 rfl) ?_
  refine r_iconst S dX12_taken_14 (by decide) (fun v17 z18 => ?_)
  have r19 := R_eq z18
  refine r_put (K := 38) (ty := .int) S X14 (Nat.le_of_ble_eq_true rfl) rfl lk12_21_10 (fun _ => ⟨_, rfl, Nat.le_of_ble_eq_true rfl, rfl⟩) (fun _ _ _ h => by cases h; exact ⟨rfl, rfl⟩) rfl rfl dX12_taken_15 (fun t20 H lc M21 X22 => ?_)
  have I23 := Inv_mu I15 M21 (show Rg (kd 131) 4 v17 from (R_of (lo := 0) (hi := 940) r19 rfl))
  have F24 : Fr [(131, 2), (131, 3), (131, 4), (131, 5)] [] τ t20 := Fr_mu F16 M21 (by decide)
  refine r_aload_n S dX12_taken_18 rfl (lv_at hl 0 rfl) ?_
  refine r_iload_n S dX12_taken_19 rfl (lv_at hl 1 rfl) ?_
  refine r_put (K := 38) (ty := .int) S X22 (Nat.le_of_ble_eq_true rfl) rfl lk12_24_10 (fun _ => ⟨_, rfl, Nat.le_of_ble_eq_true rfl, rfl⟩) (fun _ _ _ h => by cases h; exact ⟨rfl, rfl⟩) rfl rfl dX12_taken_20 (fun t25 H lc M26 X27 => ?_)
  have I28 := Inv_mu I23 M26 (show Rg (kd 131) 5 a0 from (R_of (lo := 0) (hi := 940) h_a0 rfl))
  have F29 : Fr [(131, 2), (131, 3), (131, 4), (131, 5)] [] τ t25 := Fr_mu F24 M26 (by decide)
  exact r_vret S hr hlk X27 ⟨I28, F29, (by rw [((M26.2 131 2 (Or.inr (by decide))).trans ((M21.2 131 2 (Or.inr (by decide))).trans M13.1))]; exact R_of r11 rfl)⟩ dX12_taken_23
def po_X12_isIn (τ : Tau)  (a0 a1 a2 : Int32) (r : Int32) (u : Tau) : Prop := u = τ ∧ R (0) (1) r ∧ (r.toInt = 1 → a1.toInt ≤ a0.toInt ∧ a0.toInt ≤ a2.toInt)
set_option maxHeartbeats 4000000 in
set_option maxRecDepth 100000 in
theorem c_X12_isIn (l : Launch) (G : Gx) (τ : Tau) (hI : Inv τ) (a0 : Int32) (a1 : Int32) (a2 : Int32) (h_a0 : R (-2147483648) (2147483647) a0) (h_a1 : R (-2147483648) (2147483647) a1) (h_a2 : R (-2147483648) (2147483647) a2) : Ci l G yX12_isIn cX12_isIn 3 (some .boolean) 0 0 [.int a0, .int a1, .int a2] τ (po_X12_isIn τ  a0 a1 a2) := by
  unfold Ci
  refine C_of (own := RX12) (by decide) rfl (Nat.le_of_ble_eq_true rfl) ?_
  intro p e s m below meth c ls S hr hlk X hl
  have hl : lv_has ls 3 [(0, .int a0), (1, .int a1), (2, .int a2)] := hl
  refine r_iload_n S dX12_isIn_0 rfl (lv_at hl 0 rfl) ?_
  refine r_iload_n S dX12_isIn_1 rfl (lv_at hl 1 rfl) ?_
  refine r_icmp_lt (tgt := 14) S dX12_isIn_2 (by decide) (fun c1 => ?_) (fun c1 => ?_)
  ·
    have r2 : R (-2147483648) (2147483646) a0 := ⟨by omega, by omega⟩
    have r3 : R (-2147483647) (2147483647) a1 := ⟨by omega, by omega⟩
    refine r_iconst S dX12_isIn_14 (by decide) (fun v4 z5 => ?_)
    have r6 := R_eq z5
    exact r_ret S hr hlk X ⟨rfl, (R_of r6 rfl), (fun h => by omega)⟩ (nr_bool (R_of (lo := 0) (hi := 1) r6 rfl)) dX12_isIn_15
  ·
    refine r_iload_n S dX12_isIn_5 rfl (lv_at hl 0 rfl) ?_
    refine r_iload_n S dX12_isIn_6 rfl (lv_at hl 2 rfl) ?_
    refine r_icmp_gt (tgt := 14) S dX12_isIn_7 (by decide) (fun c7 => ?_) (fun c7 => ?_)
    ·
      have r8 : R (-2147483648) (2147483646) a2 := ⟨by omega, by omega⟩
      have r9 : R (-2147483647) (2147483647) a0 := ⟨by omega, by omega⟩
      refine r_iconst S dX12_isIn_14 (by decide) (fun v10 z11 => ?_)
      have r12 := R_eq z11
      exact r_ret S hr hlk X ⟨rfl, (R_of r12 rfl), (fun h => by omega)⟩ (nr_bool (R_of (lo := 0) (hi := 1) r12 rfl)) dX12_isIn_15
    ·
      refine r_iconst S dX12_isIn_10 (by decide) (fun v13 z14 => ?_)
      have r15 := R_eq z14
      refine r_goto (tgt := 15) S dX12_isIn_11 (by decide) ?_
      exact r_ret S hr hlk X ⟨rfl, (R_of r15 rfl), (fun h => by omega)⟩ (nr_bool (R_of (lo := 0) (hi := 1) r15 rfl)) dX12_isIn_15
def po_X12_bitOf (τ : Tau)  (a0 a1 : Int32) (r : Int32) (u : Tau) : Prop := u = τ ∧ R (0) (1) r
set_option maxHeartbeats 4000000 in
set_option maxRecDepth 100000 in
theorem c_X12_bitOf (l : Launch) (G : Gx) (τ : Tau) (hI : Inv τ) (a0 : Int32) (a1 : Int32) (h_a0 : R (-2147483648) (2147483647) a0) (h_a1 : R (-2147483648) (2147483647) a1) : Ci l G yX12_bitOf cX12_bitOf 2 (some .boolean) 0 0 [.int a0, .int a1] τ (po_X12_bitOf τ  a0 a1) := by
  unfold Ci
  refine C_of (own := RX12) (by decide) rfl (Nat.le_of_ble_eq_true rfl) ?_
  intro p e s m below meth c ls S hr hlk X hl
  have hl : lv_has ls 2 [(0, .int a0), (1, .int a1)] := hl
  refine r_iload_n S dX12_bitOf_0 rfl (lv_at hl 0 rfl) ?_
  refine r_iload_n S dX12_bitOf_1 rfl (lv_at hl 1 rfl) ?_
  refine r_ishr S dX12_bitOf_2 (fun v1 z2 => ?_)
  have r3 := R_any v1
  refine r_iconst S dX12_bitOf_3 (by decide) (fun v4 z5 => ?_)
  have r6 := R_eq z5
  refine r_iand S dX12_bitOf_4 (fun v7 z8 => ?_)
  have r10 : R (0) (1) v7 := i_and2 z8 r3 r6 rfl
  refine r_iconst S dX12_bitOf_5 (by decide) (fun v11 z12 => ?_)
  have r13 := R_eq z12
  refine r_icmp_ne (tgt := 13) S dX12_bitOf_6 (by decide) (fun c14 => ?_) (fun c14 => ?_)
  ·
    have r15 : R (0) (0) v7 := ⟨by omega, by omega⟩
    refine r_iconst S dX12_bitOf_13 (by decide) (fun v16 z17 => ?_)
    have r18 := R_eq z17
    exact r_ret S hr hlk X ⟨rfl, (R_of r18 rfl)⟩ (nr_bool (R_of (lo := 0) (hi := 1) r18 rfl)) dX12_bitOf_14
  ·
    have r19 : R (1) (1) v7 := ⟨by omega, by omega⟩
    refine r_iconst S dX12_bitOf_9 (by decide) (fun v20 z21 => ?_)
    have r22 := R_eq z21
    refine r_goto (tgt := 14) S dX12_bitOf_10 (by decide) ?_
    exact r_ret S hr hlk X ⟨rfl, (R_of r22 rfl)⟩ (nr_bool (R_of (lo := 0) (hi := 1) r22 rfl)) dX12_bitOf_14
def po_X12_sizeOf_9 (τ : Tau)  (a0 : Int32) (r : Int32) (u : Tau) : Prop := u = τ ∧ R (0) (9) r
set_option maxHeartbeats 4000000 in
set_option maxRecDepth 100000 in
theorem c_X12_sizeOf_9 (l : Launch) (G : Gx) (τ : Tau) (hI : Inv τ) (a0 : Int32) (h_a0 : R (-9) (9) a0) : Ci l G yX12_sizeOf cX12_sizeOf 1 (some .int) 0 0 [.int a0] τ (po_X12_sizeOf_9 τ  a0) := by
  unfold Ci
  refine C_of (own := RX12) (by decide) rfl (Nat.le_of_ble_eq_true rfl) ?_
  intro p e s m below meth c ls S hr hlk X hl
  have hl : lv_has ls 1 [(0, .int a0)] := hl
  refine r_iload_n S dX12_sizeOf_0 rfl (lv_at hl 0 rfl) ?_
  refine r_if_ge (tgt := 9) S dX12_sizeOf_1 (by decide) (fun c1 => ?_) (fun c1 => ?_)
  ·
    have r2 : R (0) (9) a0 := ⟨by omega, by omega⟩
    refine r_iload_n S dX12_sizeOf_9 rfl (lv_at hl 0 rfl) ?_
    exact r_ret S hr hlk X ⟨rfl, r2⟩ rfl dX12_sizeOf_10
  ·
    have r3 : R (-9) (-1) a0 := ⟨by omega, by omega⟩
    refine r_iload_n S dX12_sizeOf_4 rfl (lv_at hl 0 rfl) ?_
    refine r_ineg S dX12_sizeOf_5 (fun v4 z5 => ?_)
    obtain ⟨e6, r7⟩ := i_neg (lo := 1) (hi := 9) z5 r3 rfl
    refine r_goto (tgt := 10) S dX12_sizeOf_6 (by decide) ?_
    exact r_ret S hr hlk X ⟨rfl, (R_of r7 rfl)⟩ rfl dX12_sizeOf_10
def po_X12_sizeOf (τ : Tau)  (a0 : Int32) (r : Int32) (u : Tau) : Prop := u = τ
set_option maxHeartbeats 4000000 in
set_option maxRecDepth 100000 in
theorem c_X12_sizeOf (l : Launch) (G : Gx) (τ : Tau) (hI : Inv τ) (a0 : Int32) (h_a0 : R (-2147483648) (2147483647) a0) : Ci l G yX12_sizeOf cX12_sizeOf 1 (some .int) 0 0 [.int a0] τ (po_X12_sizeOf τ  a0) := by
  unfold Ci
  refine C_of (own := RX12) (by decide) rfl (Nat.le_of_ble_eq_true rfl) ?_
  intro p e s m below meth c ls S hr hlk X hl
  have hl : lv_has ls 1 [(0, .int a0)] := hl
  refine r_iload_n S dX12_sizeOf_0 rfl (lv_at hl 0 rfl) ?_
  refine r_if_ge (tgt := 9) S dX12_sizeOf_1 (by decide) (fun c1 => ?_) (fun c1 => ?_)
  ·
    have r2 : R (0) (2147483647) a0 := ⟨by omega, by omega⟩
    refine r_iload_n S dX12_sizeOf_9 rfl (lv_at hl 0 rfl) ?_
    exact r_ret S hr hlk X rfl rfl dX12_sizeOf_10
  ·
    have r3 : R (-2147483648) (-1) a0 := ⟨by omega, by omega⟩
    refine r_iload_n S dX12_sizeOf_4 rfl (lv_at hl 0 rfl) ?_
    refine r_ineg S dX12_sizeOf_5 (fun v4 z5 => ?_)
    have r6 := R_any v4
    refine r_goto (tgt := 10) S dX12_sizeOf_6 (by decide) ?_
    exact r_ret S hr hlk X rfl rfl dX12_sizeOf_10
def po_X12_bits (τ : Tau)  (a0 : Int32) (r : Int32) (u : Tau) : Prop := u = τ
set_option maxHeartbeats 4000000 in
set_option maxRecDepth 100000 in
theorem c_X12_bits (l : Launch) (G : Gx) (τ : Tau) (hI : Inv τ) (a0 : Int32) (h_a0 : R (-2147483648) (2147483647) a0) : Ci l G yX12_bits cX12_bits 3 (some .int) 0 0 [.int a0] τ (po_X12_bits τ  a0) := by
  unfold Ci
  refine C_of (own := RX12) (by decide) rfl (Nat.le_of_ble_eq_true rfl) ?_
  intro p e s m below meth c ls S hr hlk X hl
  have hl : lv_has ls 3 [(0, .int a0)] := hl
  refine r_iconst S dX12_bits_0 (by decide) (fun v1 z2 => ?_)
  have r3 := R_eq z2
  refine r_istore_n (lv' := [(1, .int v1), (0, .int a0)]) S dX12_bits_1 rfl hl (by decide) rfl (fun ls hl => ?_)
  refine r_iload_n S dX12_bits_2 rfl (lv_at hl 1 rfl) ?_
  refine r_istore_n (lv' := [(2, .int a0), (1, .int v1), (0, .int a0)]) S dX12_bits_3 rfl hl (by decide) rfl (fun ls hl => ?_)
  have L931 : ∀ (n : Nat) (H : Heap) (lc : List Loc) (ls : Array Slot) (i926 : Int32) (i928 : Int32), Xd G s H lc τ → R (-2147483648) (2147483647) i926 → R (-2147483648) (2147483647) i928 → lv_has ls 3 [(1, .int i926), (2, .int i928)] → i928.toBitVec.toNat < n → W p l e (Rm 0 0) s m ([.int a0] : List Value).toArray below meth c H lc 0 0 (MQ below (va_Qi (po_X12_bits τ  a0) (Bs G) G.2.2.2.2) ([.int a0] : List Value).toArray s 0 0 G.2.2.2.2) (F0 m 4 ls []) := by
    intro n
    induction n with
    | zero => intros; omega
    | succ n ih932 =>
      intro H lc ls i926 i928 X930 r927 r929 hl hm
      refine r_iload_n S dX12_bits_4 rfl (lv_at hl 1 rfl) ?_
      refine r_if_eq (tgt := 20) S dX12_bits_5 (by decide) (fun c933 => ?_) (fun c933 => ?_)
      ·
        have r934 : R (0) (0) i928 := ⟨by omega, by omega⟩
        refine r_iload_n S dX12_bits_20 rfl (lv_at hl 0 rfl) ?_
        exact r_ret S hr hlk X930 rfl rfl dX12_bits_21
      ·
        refine r_iinc (k := 0) S dX12_bits_8 hl rfl (by decide) (by decide) (fun v935 d936 ls z937 z938 hl => ?_)
        have r939 := R_any v935
        have hl : lv_has ls 3 [(1, .int v935), (2, .int i928)] := hl
        refine r_iload_n S dX12_bits_11 rfl (lv_at hl 1 rfl) ?_
        refine r_iload_n S dX12_bits_12 rfl (lv_at hl 1 rfl) ?_
        refine r_iconst S dX12_bits_13 (by decide) (fun v940 z941 => ?_)
        have r942 := R_eq z941
        refine r_isub S dX12_bits_14 (fun v943 z944 => ?_)
        have r945 := R_any v943
        refine r_iand S dX12_bits_15 (fun v946 z947 => ?_)
        have r948 := R_any v946
        refine r_istore_n (lv' := [(2, .int v946), (1, .int v935)]) S dX12_bits_16 rfl hl (by decide) rfl (fun ls hl => ?_)
        refine r_goto (tgt := 4) S dX12_bits_17 (by decide) ?_
        exact ih932 _ _ _ v935 v946 X930 r939 r948 (lv_sub hl [1, 0] rfl) (by refine Nat.lt_of_lt_of_le (and_pred (by assumption) (by assumption) (by assumption) (by assumption)) (by omega))
  exact L931 _ _ _ _ v1 a0 X (R_of r3 rfl) h_a0 (lv_sub hl [1, 0] rfl) (Nat.lt_succ_self _)
def po_X12_octet (τ : Tau)  (a0 : Int32) (r : Int32) (u : Tau) : Prop := u = τ ∧ R (0) (255) r
set_option maxHeartbeats 4000000 in
set_option maxRecDepth 100000 in
theorem c_X12_octet (l : Launch) (G : Gx) (τ : Tau) (hI : Inv τ) (a0 : Int32) (h_a0 : R (0) (939) a0) : Ci l G yX12_octet cX12_octet 2 (some .int) 0 0 [.ref (G.2.2.2.1 131), .int a0] τ (po_X12_octet τ  a0) := by
  unfold Ci
  refine C_of (own := RX12) (by decide) rfl (Nat.le_of_ble_eq_true rfl) ?_
  intro p e s m below meth c ls S hr hlk X hl
  have hl : lv_has ls 2 [(0, .ref (G.2.2.2.1 131)), (1, .int a0)] := hl
  refine r_aload_n S dX12_octet_0 rfl (lv_at hl 0 rfl) ?_
  refine r_get (K := 38) (v := .ref (G.2.2.2.1 132)) S X (Nat.le_of_ble_eq_true rfl) rfl lk12_14_10 (fun _ => ⟨_, rfl, rfl⟩) dX12_octet_1 ?_
  refine r_iload_n S dX12_octet_4 rfl (lv_at hl 1 rfl) ?_
  refine r_bald (n := 940) (K := 39) S X (Nat.le_of_ble_eq_true rfl) rfl (fun _ => rfl) (ix_of h_a0 rfl) dX12_octet_5 (fun v1 z2 => ?_)
  have r3 : R (-128) (127) v1 := rd hI rfl z2
  refine r_sipush S dX12_octet_6 (by decide) (fun v4 z5 => ?_)
  have r6 := R_eq z5
  refine r_iand S dX12_octet_9 (fun v7 z8 => ?_)
  have r10 : R (0) (255) v7 := i_and2 z8 r3 r6 rfl
  exact r_ret S hr hlk X ⟨rfl, r10⟩ rfl dX12_octet_10
def po_X12_peek (τ : Tau)   (r : Int32) (u : Tau) : Prop := u = τ ∧ R (-1) (255) r ∧ (0 ≤ r.toInt → R (0) (939) (u 131 4))
set_option maxHeartbeats 4000000 in
set_option maxRecDepth 100000 in
theorem c_X12_peek (l : Launch) (G : Gx) (τ : Tau) (hI : Inv τ) : Ci l G yX12_peek cX12_peek 1 (some .int) 0 0 [.ref (G.2.2.2.1 131)] τ (po_X12_peek τ  ) := by
  unfold Ci
  refine C_of (own := RX12) (by decide) rfl (Nat.le_of_ble_eq_true rfl) ?_
  intro p e s m below meth c ls S hr hlk X hl
  have hl : lv_has ls 1 [(0, .ref (G.2.2.2.1 131))] := hl
  refine r_aload_n S dX12_peek_0 rfl (lv_at hl 0 rfl) ?_
  refine r_getn (K := 38) S X (Nat.le_of_ble_eq_true rfl) rfl lk12_21_10 (fun _ => ⟨_, rfl, rfl⟩) dX12_peek_1 (fun v1 z2 => ?_)
  have r3 : R (0) (940) v1 := rd hI rfl z2
  refine r_aload_n S dX12_peek_4 rfl (lv_at hl 0 rfl) ?_
  refine r_getn (K := 38) S X (Nat.le_of_ble_eq_true rfl) rfl lk12_18_10 (fun _ => ⟨_, rfl, rfl⟩) dX12_peek_5 (fun v4 z5 => ?_)
  have r6 : R (0) (940) v4 := rd hI rfl z5
  refine r_icmp_ge (tgt := 27) S dX12_peek_8 (by decide) (fun c7 => ?_) (fun c7 => ?_)
  ·
    refine r_iconst S dX12_peek_27 (by decide) (fun v8 z9 => ?_)
    have r10 := R_eq z9
    exact r_ret S hr hlk X ⟨rfl, (R_of r10 rfl), (fun h => by exfalso; omega)⟩ rfl dX12_peek_28
  ·
    have r11 : R (0) (939) v1 := ⟨by omega, by omega⟩
    have r12 : R (1) (940) v4 := ⟨by omega, by omega⟩
    refine r_aload_n S dX12_peek_11 rfl (lv_at hl 0 rfl) ?_
    refine r_get (K := 38) (v := .ref (G.2.2.2.1 132)) S X (Nat.le_of_ble_eq_true rfl) rfl lk12_14_10 (fun _ => ⟨_, rfl, rfl⟩) dX12_peek_12 ?_
    refine r_aload_n S dX12_peek_15 rfl (lv_at hl 0 rfl) ?_
    refine r_geti (K := 38) S X (Nat.le_of_ble_eq_true rfl) rfl lk12_21_10 (fun _ => ⟨_, rfl, rfl⟩) z2 dX12_peek_16 ?_
    refine r_bald (n := 940) (K := 39) S X (Nat.le_of_ble_eq_true rfl) rfl (fun _ => rfl) (ix_of r11 rfl) dX12_peek_19 (fun v13 z14 => ?_)
    have r15 : R (-128) (127) v13 := rd hI rfl z14
    refine r_sipush S dX12_peek_20 (by decide) (fun v16 z17 => ?_)
    have r18 := R_eq z17
    refine r_iand S dX12_peek_23 (fun v19 z20 => ?_)
    have r22 : R (0) (255) v19 := i_and2 z20 r15 r18 rfl
    refine r_goto (tgt := 28) S dX12_peek_24 (by decide) ?_
    exact r_ret S hr hlk X ⟨rfl, (R_of r22 rfl), (fun h => (by rw [z2]; exact R_of r11 rfl))⟩ rfl dX12_peek_28
def po_X12_isSmall (τ : Tau)  (a0 : Int32) (r : Int32) (u : Tau) : Prop := u = τ ∧ R (0) (1) r ∧ (r.toInt = 1 → R (97) (122) a0)
set_option maxHeartbeats 4000000 in
set_option maxRecDepth 100000 in
theorem c_X12_isSmall (l : Launch) (G : Gx) (τ : Tau) (hI : Inv τ) (a0 : Int32) (h_a0 : R (-2147483648) (2147483647) a0) : Ci l G yX12_isSmall cX12_isSmall 1 (some .boolean) 0 0 [.int a0] τ (po_X12_isSmall τ  a0) := by
  unfold Ci
  refine C_of (own := RX12) (by decide) rfl (Nat.le_of_ble_eq_true rfl) ?_
  intro p e s m below meth c ls S hr hlk X hl
  have hl : lv_has ls 1 [(0, .int a0)] := hl
  refine r_iload_n S dX12_isSmall_0 rfl (lv_at hl 0 rfl) ?_
  refine r_bipush S dX12_isSmall_1 (by decide) (fun v1 z2 => ?_)
  have r3 := R_eq z2
  refine r_icmp_lt (tgt := 16) S dX12_isSmall_3 (by decide) (fun c4 => ?_) (fun c4 => ?_)
  ·
    have r5 : R (-2147483648) (96) a0 := ⟨by omega, by omega⟩
    refine r_iconst S dX12_isSmall_16 (by decide) (fun v6 z7 => ?_)
    have r8 := R_eq z7
    exact r_ret S hr hlk X ⟨rfl, (R_of r8 rfl), (fun h => by exfalso; omega)⟩ (nr_bool (R_of (lo := 0) (hi := 1) r8 rfl)) dX12_isSmall_17
  ·
    have r9 : R (97) (2147483647) a0 := ⟨by omega, by omega⟩
    refine r_iload_n S dX12_isSmall_6 rfl (lv_at hl 0 rfl) ?_
    refine r_bipush S dX12_isSmall_7 (by decide) (fun v10 z11 => ?_)
    have r12 := R_eq z11
    refine r_icmp_gt (tgt := 16) S dX12_isSmall_9 (by decide) (fun c13 => ?_) (fun c13 => ?_)
    ·
      have r14 : R (123) (2147483647) a0 := ⟨by omega, by omega⟩
      refine r_iconst S dX12_isSmall_16 (by decide) (fun v15 z16 => ?_)
      have r17 := R_eq z16
      exact r_ret S hr hlk X ⟨rfl, (R_of r17 rfl), (fun h => by exfalso; omega)⟩ (nr_bool (R_of (lo := 0) (hi := 1) r17 rfl)) dX12_isSmall_17
    ·
      have r18 : R (97) (122) a0 := ⟨by omega, by omega⟩
      refine r_iconst S dX12_isSmall_12 (by decide) (fun v19 z20 => ?_)
      have r21 := R_eq z20
      refine r_goto (tgt := 17) S dX12_isSmall_13 (by decide) ?_
      exact r_ret S hr hlk X ⟨rfl, (R_of r21 rfl), (fun h => ⟨by omega, by omega⟩)⟩ (nr_bool (R_of (lo := 0) (hi := 1) r21 rfl)) dX12_isSmall_17
def po_X12_isDigit (τ : Tau)  (a0 : Int32) (r : Int32) (u : Tau) : Prop := u = τ ∧ R (0) (1) r ∧ (r.toInt = 1 → R (48) (57) a0)
set_option maxHeartbeats 4000000 in
set_option maxRecDepth 100000 in
theorem c_X12_isDigit (l : Launch) (G : Gx) (τ : Tau) (hI : Inv τ) (a0 : Int32) (h_a0 : R (-2147483648) (2147483647) a0) : Ci l G yX12_isDigit cX12_isDigit 1 (some .boolean) 0 0 [.int a0] τ (po_X12_isDigit τ  a0) := by
  unfold Ci
  refine C_of (own := RX12) (by decide) rfl (Nat.le_of_ble_eq_true rfl) ?_
  intro p e s m below meth c ls S hr hlk X hl
  have hl : lv_has ls 1 [(0, .int a0)] := hl
  refine r_iload_n S dX12_isDigit_0 rfl (lv_at hl 0 rfl) ?_
  refine r_bipush S dX12_isDigit_1 (by decide) (fun v1 z2 => ?_)
  have r3 := R_eq z2
  refine r_icmp_lt (tgt := 16) S dX12_isDigit_3 (by decide) (fun c4 => ?_) (fun c4 => ?_)
  ·
    have r5 : R (-2147483648) (47) a0 := ⟨by omega, by omega⟩
    refine r_iconst S dX12_isDigit_16 (by decide) (fun v6 z7 => ?_)
    have r8 := R_eq z7
    exact r_ret S hr hlk X ⟨rfl, (R_of r8 rfl), (fun h => by exfalso; omega)⟩ (nr_bool (R_of (lo := 0) (hi := 1) r8 rfl)) dX12_isDigit_17
  ·
    have r9 : R (48) (2147483647) a0 := ⟨by omega, by omega⟩
    refine r_iload_n S dX12_isDigit_6 rfl (lv_at hl 0 rfl) ?_
    refine r_bipush S dX12_isDigit_7 (by decide) (fun v10 z11 => ?_)
    have r12 := R_eq z11
    refine r_icmp_gt (tgt := 16) S dX12_isDigit_9 (by decide) (fun c13 => ?_) (fun c13 => ?_)
    ·
      have r14 : R (58) (2147483647) a0 := ⟨by omega, by omega⟩
      refine r_iconst S dX12_isDigit_16 (by decide) (fun v15 z16 => ?_)
      have r17 := R_eq z16
      exact r_ret S hr hlk X ⟨rfl, (R_of r17 rfl), (fun h => by exfalso; omega)⟩ (nr_bool (R_of (lo := 0) (hi := 1) r17 rfl)) dX12_isDigit_17
    ·
      have r18 : R (48) (57) a0 := ⟨by omega, by omega⟩
      refine r_iconst S dX12_isDigit_12 (by decide) (fun v19 z20 => ?_)
      have r21 := R_eq z20
      refine r_goto (tgt := 17) S dX12_isDigit_13 (by decide) ?_
      exact r_ret S hr hlk X ⟨rfl, (R_of r21 rfl), (fun h => ⟨by omega, by omega⟩)⟩ (nr_bool (R_of (lo := 0) (hi := 1) r21 rfl)) dX12_isDigit_17
def po_X12_skip (τ : Tau)   (u : Tau) : Prop := Inv u ∧ Fr [(131, 4), (131, 11), (131, 12), (131, 13), (131, 14)] [] τ u
set_option maxHeartbeats 4000000 in
set_option maxRecDepth 100000 in
theorem c_X12_skip (l : Launch) (G : Gx) (τ : Tau) (hI : Inv τ) : Cv l G yX12_skip cX12_skip 4 1 20 [.ref (G.2.2.2.1 131)] τ (po_X12_skip τ  ) := by
  unfold Cv
  refine C_of (own := RX12) (by decide) rfl (Nat.le_of_ble_eq_true rfl) ?_
  intro p e s m below meth c ls S hr hlk X hl
  have hl : lv_has ls 4 [(0, .ref (G.2.2.2.1 131))] := hl
  obtain ⟨v1, z2⟩ : ∃ x, τ 131 4 = x := ⟨_, rfl⟩
  have r3 : R (0) (940) v1 := rd hI rfl z2
  obtain ⟨v4, z5⟩ : ∃ x, τ 131 3 = x := ⟨_, rfl⟩
  have r6 : R (0) (940) v4 := rd hI rfl z5
  have L225 : ∀ (n : Nat) (t217 : Tau) (H : Heap) (lc : List Loc) (ls : Array Slot) (f221 : Int32), Xd G s H lc t217 → Inv t217 → Fr [(131, 4), (131, 11), (131, 12), (131, 13), (131, 14)] [] τ t217 → t217 131 4 = f221 → R (0) (940) f221 → t217 131 3 = v4 → lv_has ls 4 [(0, .ref (G.2.2.2.1 131))] → (940 - f221.toInt).toNat < n → W p l e (Rm 1 20) s m ([.ref (G.2.2.2.1 131)] : List Value).toArray below meth c H lc 0 0 (MQ below (va_Qv (po_X12_skip τ  ) (Bs G) G.2.2.2.2) ([.ref (G.2.2.2.1 131)] : List Value).toArray s 0 0 G.2.2.2.2) (F0 m 0 ls []) := by
    intro n
    induction n with
    | zero => intros; omega
    | succ n ih226 =>
      intro t217 H lc ls f221 X220 I218 F219 z223 r222 z224 hl hm
      refine r_aload_n S dX12_skip_0 rfl (lv_at hl 0 rfl) ?_
      refine r_ki (q_V (As := []) (rest := []) (K := 38) (ci := 10) S X220 (c_X12_peek l G t217 I218 ) ck12_147 (Nat.le_of_ble_eq_true rfl) rfl (fun _ => ⟨_, rfl⟩) ⟨_, _, rfl⟩ ⟨Nat.le_of_ble_eq_true rfl, Nat.le_of_ble_eq_true rfl⟩ rfl hl.1 rfl (Nat.le_of_ble_eq_true rfl) dX12_skip_1 ⟨Nat.le_refl 0, Nat.le_refl 0⟩) X220 (fun v230 t229 H lc q227 X228 => ?_)
      unfold po_X12_peek at q227
      obtain ⟨q231, q232, q233⟩ := q227
      rw [q231] at X228
      rw [q231] at q233
      refine r_bipush S dX12_skip_4 (by decide) (fun v234 z235 => ?_)
      have r236 := R_eq z235
      have J14948 : ∀ (H : Heap) (lc : List Loc) (ls : Array Slot), Xd G s H lc t217 → R (0) (939) f221 → lv_has ls 4 [(0, .ref (G.2.2.2.1 131))] → W p l e (Rm 1 20) s m ([.ref (G.2.2.2.1 131)] : List Value).toArray below meth c H lc 0 0 (MQ below (va_Qv (po_X12_skip τ  ) (Bs G) G.2.2.2.2) ([.ref (G.2.2.2.1 131)] : List Value).toArray s 0 0 G.2.2.2.2) (F0 m 18 ls []) := by
        intro H lc ls X14946 r14947 hl
        refine r_aload_n S dX12_skip_18 rfl (lv_at hl 0 rfl) ?_
        refine r_dup S dX12_skip_19 rfl ?_
        refine r_geti (K := 38) S X14946 (Nat.le_of_ble_eq_true rfl) rfl lk12_21_10 (fun _ => ⟨_, rfl, rfl⟩) z223 dX12_skip_20 ?_
        refine r_iconst S dX12_skip_23 (by decide) (fun v14949 z14950 => ?_)
        have r14951 := R_eq z14950
        refine r_iadd S dX12_skip_24 (fun v14952 z14953 => ?_)
        obtain ⟨e14954, r14955⟩ := i_add (lo := 1) (hi := 940) z14953 r14947 r14951 rfl
        refine r_put (K := 38) (ty := .int) S X14946 (Nat.le_of_ble_eq_true rfl) rfl lk12_21_10 (fun _ => ⟨_, rfl, Nat.le_of_ble_eq_true rfl, rfl⟩) (fun _ _ _ h => by cases h; exact ⟨rfl, rfl⟩) rfl rfl dX12_skip_25 (fun t14956 H lc M14957 X14958 => ?_)
        have I14959 := Inv_mu I218 M14957 (show Rg (kd 131) 4 v14952 from (R_of (lo := 0) (hi := 940) r14955 rfl))
        have F14960 : Fr [(131, 4), (131, 11), (131, 12), (131, 13), (131, 14)] [] τ t14956 := Fr_mu F219 M14957 (by decide)
        refine r_goto (tgt := 0) S dX12_skip_28 (by decide) ?_
        exact ih226 t14956 _ _ _ v14952 X14958 I14959 F14960 M14957.1 ⟨by omega, by omega⟩ ((M14957.2 131 3 (Or.inr (by decide))).trans z224) (lv_sub hl [0] rfl) (by omega)
      refine r_icmp_eq (tgt := 18) S dX12_skip_6 (by decide) (fun c14961 => ?_) (fun c14961 => ?_)
      ·
        have r14962 : R (32) (32) v230 := ⟨by omega, by omega⟩
        have p14963 := q233 (by omega)
        have r14964 : R (0) (939) f221 := z223 ▸ p14963
        have r14965 : R (0) (939) f221 := ⟨by omega, by omega⟩
        exact J14948 _ _ _ X228 r14965 (lv_sub hl [0] rfl)
      ·
        refine r_aload_n S dX12_skip_9 rfl (lv_at hl 0 rfl) ?_
        refine r_ki (q_V (As := []) (rest := []) (K := 38) (ci := 10) S X228 (c_X12_peek l G t217 I218 ) ck12_147 (Nat.le_of_ble_eq_true rfl) rfl (fun _ => ⟨_, rfl⟩) ⟨_, _, rfl⟩ ⟨Nat.le_of_ble_eq_true rfl, Nat.le_of_ble_eq_true rfl⟩ rfl hl.1 rfl (Nat.le_of_ble_eq_true rfl) dX12_skip_10 ⟨Nat.le_refl 0, Nat.le_refl 0⟩) X228 (fun v14969 t14968 H lc q14966 X14967 => ?_)
        unfold po_X12_peek at q14966
        obtain ⟨q14970, q14971, q14972⟩ := q14966
        rw [q14970] at X14967
        rw [q14970] at q14972
        refine r_bipush S dX12_skip_13 (by decide) (fun v14973 z14974 => ?_)
        have r14975 := R_eq z14974
        refine r_icmp_ne (tgt := 31) S dX12_skip_15 (by decide) (fun c14976 => ?_) (fun c14976 => ?_)
        ·
          refine r_aload_n S dX12_skip_31 rfl (lv_at hl 0 rfl) ?_
          refine r_aload_n S dX12_skip_32 rfl (lv_at hl 0 rfl) ?_
          refine r_geti (K := 38) S X14967 (Nat.le_of_ble_eq_true rfl) rfl lk12_21_10 (fun _ => ⟨_, rfl, rfl⟩) z223 dX12_skip_33 ?_
          refine r_put (K := 38) (ty := .int) S X14967 (Nat.le_of_ble_eq_true rfl) rfl lk12_151_10 (fun _ => ⟨_, rfl, Nat.le_of_ble_eq_true rfl, rfl⟩) (fun _ _ _ h => by cases h; exact ⟨rfl, rfl⟩) rfl rfl dX12_skip_36 (fun t14977 H lc M14978 X14979 => ?_)
          have I14980 := Inv_mu I218 M14978 (show Rg (kd 131) 12 f221 from (R_of (lo := 0) (hi := 940) r222 rfl))
          have F14981 : Fr [(131, 4), (131, 11), (131, 12), (131, 13), (131, 14)] [] τ t14977 := Fr_mu F219 M14978 (by decide)
          refine r_aload_n S dX12_skip_39 rfl (lv_at hl 0 rfl) ?_
          refine r_iconst S dX12_skip_40 (by decide) (fun v14982 z14983 => ?_)
          have r14984 := R_eq z14983
          refine r_put (K := 38) (ty := .int) S X14979 (Nat.le_of_ble_eq_true rfl) rfl lk12_154_10 (fun _ => ⟨_, rfl, Nat.le_of_ble_eq_true rfl, rfl⟩) (fun _ _ _ h => by cases h; exact ⟨rfl, rfl⟩) rfl rfl dX12_skip_41 (fun t14985 H lc M14986 X14987 => ?_)
          have I14988 := Inv_mu I14980 M14986 (R_any v14982)
          have F14989 : Fr [(131, 4), (131, 11), (131, 12), (131, 13), (131, 14)] [] τ t14985 := Fr_mu F14981 M14986 (by decide)
          refine r_aload_n S dX12_skip_44 rfl (lv_at hl 0 rfl) ?_
          refine r_geti (K := 38) S X14987 (Nat.le_of_ble_eq_true rfl) rfl lk12_18_10 (fun _ => ⟨_, rfl, rfl⟩) ((M14986.2 131 3 (Or.inr (by decide))).trans ((M14978.2 131 3 (Or.inr (by decide))).trans z224)) dX12_skip_45 ?_
          refine r_aload_n S dX12_skip_48 rfl (lv_at hl 0 rfl) ?_
          refine r_getn (K := 38) S X14987 (Nat.le_of_ble_eq_true rfl) rfl lk12_24_10 (fun _ => ⟨_, rfl, rfl⟩) dX12_skip_49 (fun v14990 z14991 => ?_)
          have r14992 : R (0) (940) v14990 := rd I14988 rfl z14991
          have J15013 : ∀ (H : Heap) (lc : List Loc) (ls : Array Slot), Xd G s H lc t14985 → lv_has ls 4 [(0, .ref (G.2.2.2.1 131))] → W p l e (Rm 1 20) s m ([.ref (G.2.2.2.1 131)] : List Value).toArray below meth c H lc 0 0 (MQ below (va_Qv (po_X12_skip τ  ) (Bs G) G.2.2.2.2) ([.ref (G.2.2.2.1 131)] : List Value).toArray s 0 0 G.2.2.2.2) (F0 m 80 ls []) := by
            intro H lc ls X15012 hl
            refine r_aload_n S dX12_skip_80 rfl (lv_at hl 0 rfl) ?_
            refine r_ki (q_V (As := []) (rest := []) (K := 38) (ci := 10) S X15012 (c_X12_peek l G t14985 I14988 ) ck12_147 (Nat.le_of_ble_eq_true rfl) rfl (fun _ => ⟨_, rfl⟩) ⟨_, _, rfl⟩ ⟨Nat.le_of_ble_eq_true rfl, Nat.le_of_ble_eq_true rfl⟩ rfl hl.1 rfl (Nat.le_of_ble_eq_true rfl) dX12_skip_81 ⟨Nat.le_refl 0, Nat.le_refl 0⟩) X15012 (fun v15017 t15016 H lc q15014 X15015 => ?_)
            unfold po_X12_peek at q15014
            obtain ⟨q15018, q15019, q15020⟩ := q15014
            rw [q15018] at X15015
            rw [q15018] at q15020
            refine r_istore_n (lv' := [(1, .int v15017), (0, .ref (G.2.2.2.1 131))]) S dX12_skip_84 rfl hl (by decide) rfl (fun ls hl => ?_)
            refine r_iload_n S dX12_skip_85 rfl (lv_at hl 0 rfl) ?_
            refine r_if_ge (tgt := 95) S dX12_skip_86 (by decide) (fun c15021 => ?_) (fun c15021 => ?_)
            ·
              have r15022 : R (0) (255) v15017 := ⟨by omega, by omega⟩
              have p15023 := q15020 (by omega)
              have r15024 : R (0) (939) f221 := ((M14986.2 131 4 (Or.inr (by decide))).trans ((M14978.2 131 4 (Or.inr (by decide))).trans z223)) ▸ p15023
              have r15025 : R (0) (939) f221 := ⟨by omega, by omega⟩
              refine r_iload_n S dX12_skip_95 rfl (lv_at hl 0 rfl) ?_
              refine r_ki (q_S (As := [.int v15017]) (rest := []) S X15015 (c_X12_isSmall l G t14985 I14988 v15017 (R_of (lo := -2147483648) (hi := 2147483647) r15022 rfl)) ck12_160 ⟨Nat.le_of_ble_eq_true rfl, Nat.le_of_ble_eq_true rfl⟩ rfl hl.1 rfl (Nat.le_of_ble_eq_true rfl) dX12_skip_96 ⟨Nat.le_refl 0, Nat.le_refl 0⟩) X15015 (fun v15029 t15028 H lc q15026 X15027 => ?_)
              unfold po_X12_isSmall at q15026
              obtain ⟨q15030, q15031, q15032⟩ := q15026
              rw [q15030] at X15027
              have J15337 : ∀ (H : Heap) (lc : List Loc) (ls : Array Slot), Xd G s H lc t14985 → R (48) (122) v15017 → R (0) (939) f221 → R (0) (939) f221 → lv_has ls 4 [(0, .ref (G.2.2.2.1 131)), (1, .int v15017)] → W p l e (Rm 1 20) s m ([.ref (G.2.2.2.1 131)] : List Value).toArray below meth c H lc 0 0 (MQ below (va_Qv (po_X12_skip τ  ) (Bs G) G.2.2.2.2) ([.ref (G.2.2.2.1 131)] : List Value).toArray s 0 0 G.2.2.2.2) (F0 m 164 ls []) := by
                intro H lc ls X15333 r15334 r15335 r15336 hl
                refine r_iload_n S dX12_skip_164 rfl (lv_at hl 1 rfl) ?_
                refine r_ki (q_S (As := [.int v15017]) (rest := []) S X15333 (c_X12_isSmall l G t14985 I14988 v15017 (R_of (lo := -2147483648) (hi := 2147483647) r15334 rfl)) ck12_160 ⟨Nat.le_of_ble_eq_true rfl, Nat.le_of_ble_eq_true rfl⟩ rfl hl.1 rfl (Nat.le_of_ble_eq_true rfl) dX12_skip_165 ⟨Nat.le_refl 0, Nat.le_refl 0⟩) X15333 (fun v15341 t15340 H lc q15338 X15339 => ?_)
                unfold po_X12_isSmall at q15338
                obtain ⟨q15342, q15343, q15344⟩ := q15338
                rw [q15342] at X15339
                refine r_istore_n (lv' := [(2, .int v15341), (0, .ref (G.2.2.2.1 131)), (1, .int v15017)]) S dX12_skip_168 rfl hl (by decide) rfl (fun ls hl => ?_)
                refine r_iconst S dX12_skip_169 (by decide) (fun v15345 z15346 => ?_)
                have r15347 := R_eq z15346
                refine r_istore_n (lv' := [(3, .int v15345), (2, .int v15341), (0, .ref (G.2.2.2.1 131)), (1, .int v15017)]) S dX12_skip_170 rfl hl (by decide) rfl (fun ls hl => ?_)
                refine r_aload_n S dX12_skip_171 rfl (lv_at hl 2 rfl) ?_
                refine lv_lconst S.1.1 S.1.2.1 dX12_skip_172 rfl ?_
                refine lv_topl (fun j15348 _ => ?_)
                refine r_putJ (K := 38) S X15339 (Nat.le_of_ble_eq_true rfl) rfl lk12_170_10 (fun _ => ⟨_, rfl, Nat.le_of_ble_eq_true rfl, rfl⟩) (fun _ _ _ h => by cases h; exact ⟨rfl, rfl⟩) dX12_skip_173 (fun H lc X15349 => ?_)
                refine r_aload_n S dX12_skip_176 rfl (lv_at hl 2 rfl) ?_
                refine r_iconst S dX12_skip_177 (by decide) (fun v15350 z15351 => ?_)
                have r15352 := R_eq z15351
                refine r_put (K := 38) (ty := .int) S X15349 (Nat.le_of_ble_eq_true rfl) rfl lk12_167_10 (fun _ => ⟨_, rfl, Nat.le_of_ble_eq_true rfl, rfl⟩) (fun _ _ _ h => by cases h; exact ⟨rfl, rfl⟩) rfl rfl dX12_skip_178 (fun t15353 H lc M15354 X15355 => ?_)
                have I15356 := Inv_mu I14988 M15354 (R_any v15350)
                have F15357 : Fr [(131, 4), (131, 11), (131, 12), (131, 13), (131, 14)] [] τ t15353 := Fr_mu F14989 M15354 (by decide)
                have L28903 : ∀ (n : Nat) (t28887 : Tau) (H : Heap) (lc : List Loc) (ls : Array Slot) (i28885 : Int32) (f28891 : Int32) (f28896 : Int32) (f28900 : Int32), Xd G s H lc t28887 → Inv t28887 → Fr [(131, 4), (131, 11), (131, 12), (131, 13), (131, 14)] [] τ t28887 → R (0) (1) i28885 → t28887 131 4 = f28891 → R (0) (940) f28891 → t28887 131 3 = v4 → t28887 131 12 = f221 → t28887 131 13 = f28896 → R (-2147483648) (2147483647) f28896 → t28887 131 5 = v14990 → t28887 131 14 = f28900 → R (-2147483648) (2147483647) f28900 → lv_has ls 4 [(0, .ref (G.2.2.2.1 131)), (2, .int v15341), (3, .int i28885)] → (940 - f28891.toInt).toNat < n → W p l e (Rm 1 20) s m ([.ref (G.2.2.2.1 131)] : List Value).toArray below meth c H lc 0 0 (MQ below (va_Qv (po_X12_skip τ  ) (Bs G) G.2.2.2.2) ([.ref (G.2.2.2.1 131)] : List Value).toArray s 0 0 G.2.2.2.2) (F0 m 181 ls []) := by
                  intro n
                  induction n with
                  | zero => intros; omega
                  | succ n ih28904 =>
                    intro t28887 H lc ls i28885 f28891 f28896 f28900 X28890 I28888 F28889 r28886 z28893 r28892 z28894 z28895 z28898 r28897 z28899 z28902 r28901 hl hm
                    refine r_aload_n S dX12_skip_181 rfl (lv_at hl 0 rfl) ?_
                    refine r_ki (q_V (As := []) (rest := []) (K := 38) (ci := 10) S X28890 (c_X12_peek l G t28887 I28888 ) ck12_147 (Nat.le_of_ble_eq_true rfl) rfl (fun _ => ⟨_, rfl⟩) ⟨_, _, rfl⟩ ⟨Nat.le_of_ble_eq_true rfl, Nat.le_of_ble_eq_true rfl⟩ rfl hl.1 rfl (Nat.le_of_ble_eq_true rfl) dX12_skip_182 ⟨Nat.le_refl 0, Nat.le_refl 0⟩) X28890 (fun v28908 t28907 H lc q28905 X28906 => ?_)
                    unfold po_X12_peek at q28905
                    obtain ⟨q28909, q28910, q28911⟩ := q28905
                    rw [q28909] at X28906
                    rw [q28909] at q28911
                    refine r_ki (q_S (As := [.int v28908]) (rest := []) S X28906 (c_X12_isSmall l G t28887 I28888 v28908 (R_of (lo := -2147483648) (hi := 2147483647) q28910 rfl)) ck12_160 ⟨Nat.le_of_ble_eq_true rfl, Nat.le_of_ble_eq_true rfl⟩ rfl hl.1 rfl (Nat.le_of_ble_eq_true rfl) dX12_skip_185 ⟨Nat.le_refl 0, Nat.le_refl 0⟩) X28906 (fun v28915 t28914 H lc q28912 X28913 => ?_)
                    unfold po_X12_isSmall at q28912
                    obtain ⟨q28916, q28917, q28918⟩ := q28912
                    rw [q28916] at X28913
                    have J29019 : ∀ (H : Heap) (lc : List Loc) (ls : Array Slot), Xd G s H lc t28887 → R (0) (939) f28891 → lv_has ls 4 [(0, .ref (G.2.2.2.1 131)), (2, .int v15341), (3, .int i28885)] → W p l e (Rm 1 20) s m ([.ref (G.2.2.2.1 131)] : List Value).toArray below meth c H lc 0 0 (MQ below (va_Qv (po_X12_skip τ  ) (Bs G) G.2.2.2.2) ([.ref (G.2.2.2.1 131)] : List Value).toArray s 0 0 G.2.2.2.2) (F0 m 201 ls []) := by
                      intro H lc ls X29017 r29018 hl
                      refine r_iload_n S dX12_skip_201 rfl (lv_at hl 2 rfl) ?_
                      have J29050 : ∀ (H : Heap) (lc : List Loc) (ls : Array Slot) (i29048 : Int32), Xd G s H lc t28887 → R (0) (1) i29048 → lv_has ls 4 [(0, .ref (G.2.2.2.1 131)), (2, .int v15341)] → W p l e (Rm 1 20) s m ([.ref (G.2.2.2.1 131)] : List Value).toArray below meth c H lc 0 0 (MQ below (va_Qv (po_X12_skip τ  ) (Bs G) G.2.2.2.2) ([.ref (G.2.2.2.1 131)] : List Value).toArray s 0 0 G.2.2.2.2) (F0 m 221 ls [.int i29048]) := by
                        intro H lc ls i29048 X29047 r29049 hl
                        refine r_istore_n (lv' := [(3, .int i29048), (0, .ref (G.2.2.2.1 131)), (2, .int v15341)]) S dX12_skip_221 rfl hl (by decide) rfl (fun ls hl => ?_)
                        refine r_aload_n S dX12_skip_222 rfl (lv_at hl 1 rfl) ?_
                        refine r_geti (K := 38) S X29047 (Nat.le_of_ble_eq_true rfl) rfl lk12_154_10 (fun _ => ⟨_, rfl, rfl⟩) z28898 dX12_skip_223 ?_
                        refine r_bipush S dX12_skip_226 (by decide) (fun v29051 z29052 => ?_)
                        have r29053 := R_eq z29052
                        have J29074 : ∀ (H : Heap) (lc : List Loc) (ls : Array Slot), Xd G s H lc t28887 → R (-2147483648) (2147483647) f28896 → lv_has ls 4 [(0, .ref (G.2.2.2.1 131)), (2, .int v15341), (3, .int i29048)] → W p l e (Rm 1 20) s m ([.ref (G.2.2.2.1 131)] : List Value).toArray below meth c H lc 0 0 (MQ below (va_Qv (po_X12_skip τ  ) (Bs G) G.2.2.2.2) ([.ref (G.2.2.2.1 131)] : List Value).toArray s 0 0 G.2.2.2.2) (F0 m 248 ls []) := by
                          intro H lc ls X29072 r29073 hl
                          refine r_aload_n S dX12_skip_248 rfl (lv_at hl 0 rfl) ?_
                          refine r_geti (K := 38) S X29072 (Nat.le_of_ble_eq_true rfl) rfl lk12_154_10 (fun _ => ⟨_, rfl, rfl⟩) z28898 dX12_skip_249 ?_
                          refine r_iconst S dX12_skip_252 (by decide) (fun v29075 z29076 => ?_)
                          have r29077 := R_eq z29076
                          have J29121 : ∀ (t29108 : Tau) (H : Heap) (lc : List Loc) (ls : Array Slot) (i29118 : Int32), Xd G s H lc t29108 → Inv t29108 → Fr [(131, 4), (131, 11), (131, 12), (131, 13), (131, 14)] [] τ t29108 → t29108 131 4 = f28891 → t29108 131 3 = v4 → t29108 131 12 = f221 → R (-2147483648) (2147483647) f28896 → t29108 131 13 = f28896 → t29108 131 5 = v14990 → R (-2147483648) (2147483647) i29118 → t29108 131 14 = i29118 → lv_has ls 4 [(0, .ref (G.2.2.2.1 131)), (2, .int v15341), (3, .int i29048)] → W p l e (Rm 1 20) s m ([.ref (G.2.2.2.1 131)] : List Value).toArray below meth c H lc 0 0 (MQ below (va_Qv (po_X12_skip τ  ) (Bs G) G.2.2.2.2) ([.ref (G.2.2.2.1 131)] : List Value).toArray s 0 0 G.2.2.2.2) (F0 m 275 ls []) := by
                            intro t29108 H lc ls i29118 X29111 I29109 F29110 z29112 z29113 z29114 r29115 z29116 z29117 r29119 z29120 hl
                            refine r_aload_n S dX12_skip_275 rfl (lv_at hl 0 rfl) ?_
                            refine r_dup S dX12_skip_276 rfl ?_
                            refine r_geti (K := 38) S X29111 (Nat.le_of_ble_eq_true rfl) rfl lk12_154_10 (fun _ => ⟨_, rfl, rfl⟩) z29116 dX12_skip_277 ?_
                            refine r_iconst S dX12_skip_280 (by decide) (fun v29122 z29123 => ?_)
                            have r29124 := R_eq z29123
                            refine r_iadd S dX12_skip_281 (fun v29125 z29126 => ?_)
                            have r29127 := R_any v29125
                            refine r_put (K := 38) (ty := .int) S X29111 (Nat.le_of_ble_eq_true rfl) rfl lk12_154_10 (fun _ => ⟨_, rfl, Nat.le_of_ble_eq_true rfl, rfl⟩) (fun _ _ _ h => by cases h; exact ⟨rfl, rfl⟩) rfl rfl dX12_skip_282 (fun t29128 H lc M29129 X29130 => ?_)
                            have I29131 := Inv_mu I29109 M29129 (R_any v29125)
                            have F29132 : Fr [(131, 4), (131, 11), (131, 12), (131, 13), (131, 14)] [] τ t29128 := Fr_mu F29110 M29129 (by decide)
                            refine r_aload_n S dX12_skip_285 rfl (lv_at hl 0 rfl) ?_
                            refine r_dup S dX12_skip_286 rfl ?_
                            refine r_geti (K := 38) S X29130 (Nat.le_of_ble_eq_true rfl) rfl lk12_21_10 (fun _ => ⟨_, rfl, rfl⟩) ((M29129.2 131 4 (Or.inr (by decide))).trans z29112) dX12_skip_287 ?_
                            refine r_iconst S dX12_skip_290 (by decide) (fun v29133 z29134 => ?_)
                            have r29135 := R_eq z29134
                            refine r_iadd S dX12_skip_291 (fun v29136 z29137 => ?_)
                            obtain ⟨e29138, r29139⟩ := i_add (lo := 1) (hi := 940) z29137 r29018 r29135 rfl
                            refine r_put (K := 38) (ty := .int) S X29130 (Nat.le_of_ble_eq_true rfl) rfl lk12_21_10 (fun _ => ⟨_, rfl, Nat.le_of_ble_eq_true rfl, rfl⟩) (fun _ _ _ h => by cases h; exact ⟨rfl, rfl⟩) rfl rfl dX12_skip_292 (fun t29140 H lc M29141 X29142 => ?_)
                            have I29143 := Inv_mu I29131 M29141 (show Rg (kd 131) 4 v29136 from (R_of (lo := 0) (hi := 940) r29139 rfl))
                            have F29144 : Fr [(131, 4), (131, 11), (131, 12), (131, 13), (131, 14)] [] τ t29140 := Fr_mu F29132 M29141 (by decide)
                            refine r_goto (tgt := 181) S dX12_skip_295 (by decide) ?_
                            exact ih28904 t29140 _ _ _ i29048 v29136 v29125 i29118 X29142 I29143 F29144 r29049 M29141.1 ⟨by omega, by omega⟩ ((M29141.2 131 3 (Or.inr (by decide))).trans ((M29129.2 131 3 (Or.inr (by decide))).trans z29113)) ((M29141.2 131 12 (Or.inr (by decide))).trans ((M29129.2 131 12 (Or.inr (by decide))).trans z29114)) ((M29141.2 131 13 (Or.inr (by decide))).trans M29129.1) ⟨by omega, by omega⟩ ((M29141.2 131 5 (Or.inr (by decide))).trans ((M29129.2 131 5 (Or.inr (by decide))).trans z29117)) ((M29141.2 131 14 (Or.inr (by decide))).trans ((M29129.2 131 14 (Or.inr (by decide))).trans z29120)) ⟨by omega, by omega⟩ (lv_sub hl [0, 1, 2] rfl) (by omega)
                          refine r_icmp_ge (tgt := 275) S dX12_skip_253 (by decide) (fun c29145 => ?_) (fun c29145 => ?_)
                          ·
                            have r29146 : R (2) (2147483647) f28896 := ⟨by omega, by omega⟩
                            exact J29121 t28887 _ _ _ f28900 X29072 I28888 F28889 z28893 z28894 z28895 (R_of r29146 rfl) z28898 z28899 r28901 z28902 (lv_sub hl [0, 1, 2] rfl)
                          ·
                            have r29147 : R (-2147483648) (1) f28896 := ⟨by omega, by omega⟩
                            refine r_aload_n S dX12_skip_256 rfl (lv_at hl 0 rfl) ?_
                            refine r_bipush S dX12_skip_257 (by decide) (fun v29148 z29149 => ?_)
                            have r29150 := R_eq z29149
                            refine r_aload_n S dX12_skip_259 rfl (lv_at hl 0 rfl) ?_
                            refine r_geti (K := 38) S X29072 (Nat.le_of_ble_eq_true rfl) rfl lk12_167_10 (fun _ => ⟨_, rfl, rfl⟩) z28902 dX12_skip_260 ?_
                            refine r_imul S dX12_skip_263 (fun v29151 z29152 => ?_)
                            have r29153 := R_any v29151
                            refine r_aload_n S dX12_skip_264 rfl (lv_at hl 0 rfl) ?_
                            refine r_ki (q_V (As := []) (rest := [.int v29151, .ref (G.2.2.2.1 131)]) (K := 38) (ci := 10) S X29072 (c_X12_peek l G t28887 I28888 ) ck12_147 (Nat.le_of_ble_eq_true rfl) rfl (fun _ => ⟨_, rfl⟩) ⟨_, _, rfl⟩ ⟨Nat.le_of_ble_eq_true rfl, Nat.le_of_ble_eq_true rfl⟩ rfl hl.1 rfl (Nat.le_of_ble_eq_true rfl) dX12_skip_265 ⟨Nat.le_refl 0, Nat.le_refl 0⟩) X29072 (fun v29157 t29156 H lc q29154 X29155 => ?_)
                            unfold po_X12_peek at q29154
                            obtain ⟨q29158, q29159, q29160⟩ := q29154
                            rw [q29158] at X29155
                            rw [q29158] at q29160
                            refine r_iadd S dX12_skip_268 (fun v29161 z29162 => ?_)
                            have r29163 := R_any v29161
                            refine r_bipush S dX12_skip_269 (by decide) (fun v29164 z29165 => ?_)
                            have r29166 := R_eq z29165
                            refine r_isub S dX12_skip_271 (fun v29167 z29168 => ?_)
                            have r29169 := R_any v29167
                            refine r_put (K := 38) (ty := .int) S X29155 (Nat.le_of_ble_eq_true rfl) rfl lk12_167_10 (fun _ => ⟨_, rfl, Nat.le_of_ble_eq_true rfl, rfl⟩) (fun _ _ _ h => by cases h; exact ⟨rfl, rfl⟩) rfl rfl dX12_skip_272 (fun t29170 H lc M29171 X29172 => ?_)
                            have I29173 := Inv_mu I28888 M29171 (R_any v29167)
                            have F29174 : Fr [(131, 4), (131, 11), (131, 12), (131, 13), (131, 14)] [] τ t29170 := Fr_mu F28889 M29171 (by decide)
                            exact J29121 t29170 _ _ _ v29167 X29172 I29173 F29174 ((M29171.2 131 4 (Or.inr (by decide))).trans z28893) ((M29171.2 131 3 (Or.inr (by decide))).trans z28894) ((M29171.2 131 12 (Or.inr (by decide))).trans z28895) (R_of r29147 rfl) ((M29171.2 131 13 (Or.inr (by decide))).trans z28898) ((M29171.2 131 5 (Or.inr (by decide))).trans z28899) r29169 M29171.1 (lv_sub hl [0, 1, 2] rfl)
                        refine r_icmp_ge (tgt := 248) S dX12_skip_228 (by decide) (fun c29175 => ?_) (fun c29175 => ?_)
                        ·
                          have r29176 : R (7) (2147483647) f28896 := ⟨by omega, by omega⟩
                          exact J29074 _ _ _ X29047 (R_of r29176 rfl) (lv_sub hl [1, 2, 0] rfl)
                        ·
                          have r29177 : R (-2147483648) (6) f28896 := ⟨by omega, by omega⟩
                          refine r_aload_n S dX12_skip_231 rfl (lv_at hl 1 rfl) ?_
                          refine r_aload_n S dX12_skip_232 rfl (lv_at hl 1 rfl) ?_
                          refine r_getJ (K := 38) S X29047 (Nat.le_of_ble_eq_true rfl) rfl lk12_170_10 (fun _ => ⟨_, rfl, rfl⟩) dX12_skip_233 (fun j29178 => ?_)
                          refine r_bipush S dX12_skip_236 (by decide) (fun v29179 z29180 => ?_)
                          have r29181 := R_eq z29180
                          refine lv_lshl S.1.1 S.1.2.1 dX12_skip_238 rfl ?_
                          refine lv_topl (fun j29182 _ => ?_)
                          refine r_aload_n S dX12_skip_239 rfl (lv_at hl 1 rfl) ?_
                          refine r_ki (q_V (As := []) (rest := [.long j29182, .ref (G.2.2.2.1 131)]) (K := 38) (ci := 10) S X29047 (c_X12_peek l G t28887 I28888 ) ck12_147 (Nat.le_of_ble_eq_true rfl) rfl (fun _ => ⟨_, rfl⟩) ⟨_, _, rfl⟩ ⟨Nat.le_of_ble_eq_true rfl, Nat.le_of_ble_eq_true rfl⟩ rfl hl.1 rfl (Nat.le_of_ble_eq_true rfl) dX12_skip_240 ⟨Nat.le_refl 0, Nat.le_refl 0⟩) X29047 (fun v29186 t29185 H lc q29183 X29184 => ?_)
                          unfold po_X12_peek at q29183
                          obtain ⟨q29187, q29188, q29189⟩ := q29183
                          rw [q29187] at X29184
                          rw [q29187] at q29189
                          refine lv_i2l S.1.1 S.1.2.1 dX12_skip_243 rfl ?_
                          refine lv_topl (fun j29190 _ => ?_)
                          refine lv_lor S.1.1 S.1.2.1 dX12_skip_244 ?_
                          refine lv_topl (fun j29191 _ => ?_)
                          refine r_putJ (K := 38) S X29184 (Nat.le_of_ble_eq_true rfl) rfl lk12_170_10 (fun _ => ⟨_, rfl, Nat.le_of_ble_eq_true rfl, rfl⟩) (fun _ _ _ h => by cases h; exact ⟨rfl, rfl⟩) dX12_skip_245 (fun H lc X29192 => ?_)
                          exact J29074 _ _ _ X29192 (R_of r29177 rfl) (lv_sub hl [1, 2, 0] rfl)
                      have J29215 : ∀ (H : Heap) (lc : List Loc) (ls : Array Slot), Xd G s H lc t28887 → lv_has ls 4 [(0, .ref (G.2.2.2.1 131)), (2, .int v15341)] → W p l e (Rm 1 20) s m ([.ref (G.2.2.2.1 131)] : List Value).toArray below meth c H lc 0 0 (MQ below (va_Qv (po_X12_skip τ  ) (Bs G) G.2.2.2.2) ([.ref (G.2.2.2.1 131)] : List Value).toArray s 0 0 G.2.2.2.2) (F0 m 220 ls []) := by
                        intro H lc ls X29214 hl
                        refine r_iconst S dX12_skip_220 (by decide) (fun v29216 z29217 => ?_)
                        have r29218 := R_eq z29217
                        exact J29050 _ _ _ v29216 X29214 (R_of r29218 rfl) (lv_sub hl [0, 1] rfl)
                      refine r_if_eq (tgt := 220) S dX12_skip_202 (by decide) (fun c29219 => ?_) (fun c29219 => ?_)
                      ·
                        have r29220 : R (0) (0) i28885 := ⟨by omega, by omega⟩
                        exact J29215 _ _ _ X29017 (lv_sub hl [0, 1] rfl)
                      ·
                        have r29221 : R (1) (1) i28885 := ⟨by omega, by omega⟩
                        refine r_aload_n S dX12_skip_205 rfl (lv_at hl 0 rfl) ?_
                        refine r_ki (q_V (As := []) (rest := []) (K := 38) (ci := 10) S X29017 (c_X12_peek l G t28887 I28888 ) ck12_147 (Nat.le_of_ble_eq_true rfl) rfl (fun _ => ⟨_, rfl⟩) ⟨_, _, rfl⟩ ⟨Nat.le_of_ble_eq_true rfl, Nat.le_of_ble_eq_true rfl⟩ rfl hl.1 rfl (Nat.le_of_ble_eq_true rfl) dX12_skip_206 ⟨Nat.le_refl 0, Nat.le_refl 0⟩) X29017 (fun v29225 t29224 H lc q29222 X29223 => ?_)
                        unfold po_X12_peek at q29222
                        obtain ⟨q29226, q29227, q29228⟩ := q29222
                        rw [q29226] at X29223
                        rw [q29226] at q29228
                        refine r_ki (q_S (As := [.int v29225]) (rest := []) S X29223 (c_X12_isSmall l G t28887 I28888 v29225 (R_of (lo := -2147483648) (hi := 2147483647) q29227 rfl)) ck12_160 ⟨Nat.le_of_ble_eq_true rfl, Nat.le_of_ble_eq_true rfl⟩ rfl hl.1 rfl (Nat.le_of_ble_eq_true rfl) dX12_skip_209 ⟨Nat.le_refl 0, Nat.le_refl 0⟩) X29223 (fun v29232 t29231 H lc q29229 X29230 => ?_)
                        unfold po_X12_isSmall at q29229
                        obtain ⟨q29233, q29234, q29235⟩ := q29229
                        rw [q29233] at X29230
                        refine r_iload_n S dX12_skip_212 rfl (lv_at hl 1 rfl) ?_
                        refine r_icmp_ne (tgt := 220) S dX12_skip_213 (by decide) (fun c29236 => ?_) (fun c29236 => ?_)
                        ·
                          exact J29215 _ _ _ X29230 (lv_sub hl [0, 1] rfl)
                        ·
                          refine r_iconst S dX12_skip_216 (by decide) (fun v29237 z29238 => ?_)
                          have r29239 := R_eq z29238
                          refine r_goto (tgt := 221) S dX12_skip_217 (by decide) ?_
                          exact J29050 _ _ _ v29237 X29230 (R_of r29239 rfl) (lv_sub hl [0, 1] rfl)
                    refine r_if_ne (tgt := 201) S dX12_skip_188 (by decide) (fun c29240 => ?_) (fun c29240 => ?_)
                    ·
                      have r29241 : R (1) (1) v28915 := ⟨by omega, by omega⟩
                      have p29242 := q28918 (by omega)
                      have r29243 : R (97) (122) v28908 := ⟨by omega, by omega⟩
                      have p29244 := q28911 (by omega)
                      have r29245 : R (0) (939) f28891 := z28893 ▸ p29244
                      have r29246 : R (0) (939) f28891 := ⟨by omega, by omega⟩
                      exact J29019 _ _ _ X28913 r29246 (lv_sub hl [0, 1, 2] rfl)
                    ·
                      have r29247 : R (0) (0) v28915 := ⟨by omega, by omega⟩
                      refine r_aload_n S dX12_skip_191 rfl (lv_at hl 0 rfl) ?_
                      refine r_ki (q_V (As := []) (rest := []) (K := 38) (ci := 10) S X28913 (c_X12_peek l G t28887 I28888 ) ck12_147 (Nat.le_of_ble_eq_true rfl) rfl (fun _ => ⟨_, rfl⟩) ⟨_, _, rfl⟩ ⟨Nat.le_of_ble_eq_true rfl, Nat.le_of_ble_eq_true rfl⟩ rfl hl.1 rfl (Nat.le_of_ble_eq_true rfl) dX12_skip_192 ⟨Nat.le_refl 0, Nat.le_refl 0⟩) X28913 (fun v29251 t29250 H lc q29248 X29249 => ?_)
                      unfold po_X12_peek at q29248
                      obtain ⟨q29252, q29253, q29254⟩ := q29248
                      rw [q29252] at X29249
                      rw [q29252] at q29254
                      refine r_ki (q_S (As := [.int v29251]) (rest := []) S X29249 (c_X12_isDigit l G t28887 I28888 v29251 (R_of (lo := -2147483648) (hi := 2147483647) q29253 rfl)) ck12_164 ⟨Nat.le_of_ble_eq_true rfl, Nat.le_of_ble_eq_true rfl⟩ rfl hl.1 rfl (Nat.le_of_ble_eq_true rfl) dX12_skip_195 ⟨Nat.le_refl 0, Nat.le_refl 0⟩) X29249 (fun v29258 t29257 H lc q29255 X29256 => ?_)
                      unfold po_X12_isDigit at q29255
                      obtain ⟨q29259, q29260, q29261⟩ := q29255
                      rw [q29259] at X29256
                      refine r_if_eq (tgt := 298) S dX12_skip_198 (by decide) (fun c29262 => ?_) (fun c29262 => ?_)
                      ·
                        have r29263 : R (0) (0) v29258 := ⟨by omega, by omega⟩
                        refine r_aload_n S dX12_skip_298 rfl (lv_at hl 0 rfl) ?_
                        refine r_iload_n S dX12_skip_299 rfl (lv_at hl 2 rfl) ?_
                        refine r_if_eq (tgt := 320) S dX12_skip_300 (by decide) (fun c29264 => ?_) (fun c29264 => ?_)
                        ·
                          have r29265 : R (0) (0) i28885 := ⟨by omega, by omega⟩
                          refine r_iconst S dX12_skip_320 (by decide) (fun v29266 z29267 => ?_)
                          have r29268 := R_eq z29267
                          refine r_goto (tgt := 333) S dX12_skip_321 (by decide) ?_
                          refine r_put (K := 38) (ty := .int) S X29256 (Nat.le_of_ble_eq_true rfl) rfl lk12_157_10 (fun _ => ⟨_, rfl, Nat.le_of_ble_eq_true rfl, rfl⟩) (fun _ _ _ h => by cases h; exact ⟨rfl, rfl⟩) rfl rfl dX12_skip_333 (fun t29269 H lc M29270 X29271 => ?_)
                          have I29272 := Inv_mu I28888 M29270 (show Rg (kd 131) 11 v29266 from (R_of (lo := 0) (hi := 4) r29268 rfl))
                          have F29273 : Fr [(131, 4), (131, 11), (131, 12), (131, 13), (131, 14)] [] τ t29269 := Fr_mu F28889 M29270 (by decide)
                          exact r_vret S hr hlk X29271 ⟨I29272, F29273⟩ dX12_skip_336
                        ·
                          have r29274 : R (1) (1) i28885 := ⟨by omega, by omega⟩
                          refine r_aload_n S dX12_skip_303 rfl (lv_at hl 0 rfl) ?_
                          refine r_geti (K := 38) S X29256 (Nat.le_of_ble_eq_true rfl) rfl lk12_154_10 (fun _ => ⟨_, rfl, rfl⟩) z28898 dX12_skip_304 ?_
                          refine r_iload_n S dX12_skip_307 rfl (lv_at hl 1 rfl) ?_
                          have J29290 : ∀ (H : Heap) (lc : List Loc) (ls : Array Slot) (i29288 : Int32), Xd G s H lc t28887 → R (0) (1) v15341 → R (2) (7) i29288 → lv_has ls 4 [(2, .int v15341)] → W p l e (Rm 1 20) s m ([.ref (G.2.2.2.1 131)] : List Value).toArray below meth c H lc 0 0 (MQ below (va_Qv (po_X12_skip τ  ) (Bs G) G.2.2.2.2) ([.ref (G.2.2.2.1 131)] : List Value).toArray s 0 0 G.2.2.2.2) (F0 m 317 ls [.int i29288, .int f28896, .ref (G.2.2.2.1 131)]) := by
                            intro H lc ls i29288 X29286 r29287 r29289 hl
                            refine r_icmp_le (tgt := 324) S dX12_skip_317 (by decide) (fun c29291 => ?_) (fun c29291 => ?_)
                            ·
                              have r29292 : R (-2147483648) (7) f28896 := ⟨by omega, by omega⟩
                              refine r_iload_n S dX12_skip_324 rfl (lv_at hl 0 rfl) ?_
                              refine r_if_eq (tgt := 332) S dX12_skip_325 (by decide) (fun c29293 => ?_) (fun c29293 => ?_)
                              ·
                                have r29294 : R (0) (0) v15341 := ⟨by omega, by omega⟩
                                refine r_iconst S dX12_skip_332 (by decide) (fun v29295 z29296 => ?_)
                                have r29297 := R_eq z29296
                                refine r_put (K := 38) (ty := .int) S X29286 (Nat.le_of_ble_eq_true rfl) rfl lk12_157_10 (fun _ => ⟨_, rfl, Nat.le_of_ble_eq_true rfl, rfl⟩) (fun _ _ _ h => by cases h; exact ⟨rfl, rfl⟩) rfl rfl dX12_skip_333 (fun t29298 H lc M29299 X29300 => ?_)
                                have I29301 := Inv_mu I28888 M29299 (show Rg (kd 131) 11 v29295 from (R_of (lo := 0) (hi := 4) r29297 rfl))
                                have F29302 : Fr [(131, 4), (131, 11), (131, 12), (131, 13), (131, 14)] [] τ t29298 := Fr_mu F28889 M29299 (by decide)
                                exact r_vret S hr hlk X29300 ⟨I29301, F29302⟩ dX12_skip_336
                              ·
                                have r29303 : R (1) (1) v15341 := ⟨by omega, by omega⟩
                                refine r_iconst S dX12_skip_328 (by decide) (fun v29304 z29305 => ?_)
                                have r29306 := R_eq z29305
                                refine r_goto (tgt := 333) S dX12_skip_329 (by decide) ?_
                                refine r_put (K := 38) (ty := .int) S X29286 (Nat.le_of_ble_eq_true rfl) rfl lk12_157_10 (fun _ => ⟨_, rfl, Nat.le_of_ble_eq_true rfl, rfl⟩) (fun _ _ _ h => by cases h; exact ⟨rfl, rfl⟩) rfl rfl dX12_skip_333 (fun t29307 H lc M29308 X29309 => ?_)
                                have I29310 := Inv_mu I28888 M29308 (show Rg (kd 131) 11 v29304 from (R_of (lo := 0) (hi := 4) r29306 rfl))
                                have F29311 : Fr [(131, 4), (131, 11), (131, 12), (131, 13), (131, 14)] [] τ t29307 := Fr_mu F28889 M29308 (by decide)
                                exact r_vret S hr hlk X29309 ⟨I29310, F29311⟩ dX12_skip_336
                            ·
                              have r29312 : R (3) (2147483647) f28896 := ⟨by omega, by omega⟩
                              refine r_iconst S dX12_skip_320 (by decide) (fun v29313 z29314 => ?_)
                              have r29315 := R_eq z29314
                              refine r_goto (tgt := 333) S dX12_skip_321 (by decide) ?_
                              refine r_put (K := 38) (ty := .int) S X29286 (Nat.le_of_ble_eq_true rfl) rfl lk12_157_10 (fun _ => ⟨_, rfl, Nat.le_of_ble_eq_true rfl, rfl⟩) (fun _ _ _ h => by cases h; exact ⟨rfl, rfl⟩) rfl rfl dX12_skip_333 (fun t29316 H lc M29317 X29318 => ?_)
                              have I29319 := Inv_mu I28888 M29317 (show Rg (kd 131) 11 v29313 from (R_of (lo := 0) (hi := 4) r29315 rfl))
                              have F29320 : Fr [(131, 4), (131, 11), (131, 12), (131, 13), (131, 14)] [] τ t29316 := Fr_mu F28889 M29317 (by decide)
                              exact r_vret S hr hlk X29318 ⟨I29319, F29320⟩ dX12_skip_336
                          refine r_if_eq (tgt := 316) S dX12_skip_308 (by decide) (fun c29321 => ?_) (fun c29321 => ?_)
                          ·
                            have r29322 : R (0) (0) v15341 := ⟨by omega, by omega⟩
                            refine r_iconst S dX12_skip_316 (by decide) (fun v29323 z29324 => ?_)
                            have r29325 := R_eq z29324
                            exact J29290 _ _ _ v29323 X29256 (R_of r29322 rfl) (R_of r29325 rfl) (lv_sub hl [1] rfl)
                          ·
                            have r29326 : R (1) (1) v15341 := ⟨by omega, by omega⟩
                            have p29327 := q15344 (by omega)
                            have r29328 : R (97) (122) v15017 := ⟨by omega, by omega⟩
                            refine r_bipush S dX12_skip_311 (by decide) (fun v29329 z29330 => ?_)
                            have r29331 := R_eq z29330
                            refine r_goto (tgt := 317) S dX12_skip_313 (by decide) ?_
                            exact J29290 _ _ _ v29329 X29256 (R_of r29326 rfl) (R_of r29331 rfl) (lv_sub hl [1] rfl)
                      ·
                        have r29332 : R (1) (1) v29258 := ⟨by omega, by omega⟩
                        have p29333 := q29261 (by omega)
                        have r29334 : R (48) (57) v29251 := ⟨by omega, by omega⟩
                        have p29335 := q29254 (by omega)
                        have r29336 : R (0) (939) f28891 := z28893 ▸ p29335
                        have r29337 : R (0) (939) f28891 := ⟨by omega, by omega⟩
                        exact J29019 _ _ _ X29256 r29337 (lv_sub hl [0, 1, 2] rfl)
                exact L28903 _ t15353 _ _ _ v15345 f221 v14982 v15350 X15355 I15356 F15357 (R_of r15347 rfl) ((M15354.2 131 4 (Or.inr (by decide))).trans ((M14986.2 131 4 (Or.inr (by decide))).trans ((M14978.2 131 4 (Or.inr (by decide))).trans z223))) ⟨by omega, by omega⟩ ((M15354.2 131 3 (Or.inr (by decide))).trans ((M14986.2 131 3 (Or.inr (by decide))).trans ((M14978.2 131 3 (Or.inr (by decide))).trans z224))) ((M15354.2 131 12 (Or.inr (by decide))).trans ((M14986.2 131 12 (Or.inr (by decide))).trans M14978.1)) ((M15354.2 131 13 (Or.inr (by decide))).trans M14986.1) ⟨by omega, by omega⟩ ((M15354.2 131 5 (Or.inr (by decide))).trans z14991) M15354.1 ⟨by omega, by omega⟩ (lv_sub hl [2, 1, 0] rfl) (Nat.lt_succ_self _)
              refine r_if_ne (tgt := 164) S dX12_skip_99 (by decide) (fun c29338 => ?_) (fun c29338 => ?_)
              ·
                have r29339 : R (1) (1) v15029 := ⟨by omega, by omega⟩
                have p29340 := q15032 (by omega)
                have r29341 : R (97) (122) v15017 := ⟨by omega, by omega⟩
                have p29342 := q15020 (by omega)
                have r29343 : R (0) (939) f221 := ((M14986.2 131 4 (Or.inr (by decide))).trans ((M14978.2 131 4 (Or.inr (by decide))).trans z223)) ▸ p29342
                have r29344 : R (0) (939) f221 := ⟨by omega, by omega⟩
                exact J15337 _ _ _ X15027 (R_of r29341 rfl) r29344 r29344 (lv_sub hl [1, 0] rfl)
              ·
                have r29345 : R (0) (0) v15029 := ⟨by omega, by omega⟩
                refine r_iload_n S dX12_skip_102 rfl (lv_at hl 0 rfl) ?_
                refine r_ki (q_S (As := [.int v15017]) (rest := []) S X15027 (c_X12_isDigit l G t14985 I14988 v15017 (R_of (lo := -2147483648) (hi := 2147483647) r15022 rfl)) ck12_164 ⟨Nat.le_of_ble_eq_true rfl, Nat.le_of_ble_eq_true rfl⟩ rfl hl.1 rfl (Nat.le_of_ble_eq_true rfl) dX12_skip_103 ⟨Nat.le_refl 0, Nat.le_refl 0⟩) X15027 (fun v29349 t29348 H lc q29346 X29347 => ?_)
                unfold po_X12_isDigit at q29346
                obtain ⟨q29350, q29351, q29352⟩ := q29346
                rw [q29350] at X29347
                refine r_if_ne (tgt := 164) S dX12_skip_106 (by decide) (fun c29353 => ?_) (fun c29353 => ?_)
                ·
                  have r29354 : R (1) (1) v29349 := ⟨by omega, by omega⟩
                  have p29355 := q29352 (by omega)
                  have r29356 : R (48) (57) v15017 := ⟨by omega, by omega⟩
                  have p29357 := q15020 (by omega)
                  have r29358 : R (0) (939) f221 := ((M14986.2 131 4 (Or.inr (by decide))).trans ((M14978.2 131 4 (Or.inr (by decide))).trans z223)) ▸ p29357
                  have r29359 : R (0) (939) f221 := ⟨by omega, by omega⟩
                  exact J15337 _ _ _ X29347 (R_of r29356 rfl) r29359 r29359 (lv_sub hl [1, 0] rfl)
                ·
                  have r29360 : R (0) (0) v29349 := ⟨by omega, by omega⟩
                  refine r_aload_n S dX12_skip_109 rfl (lv_at hl 1 rfl) ?_
                  refine r_iload_n S dX12_skip_110 rfl (lv_at hl 0 rfl) ?_
                  refine r_bipush S dX12_skip_111 (by decide) (fun v29361 z29362 => ?_)
                  have r29363 := R_eq z29362
                  have J29459 : ∀ (H : Heap) (lc : List Loc) (ls : Array Slot) (i29455 : Int32), Xd G s H lc t14985 → R (0) (255) v15017 → R (3) (4) i29455 → R (0) (939) f221 → R (0) (939) f221 → lv_has ls 4 [(0, .ref (G.2.2.2.1 131)), (1, .int v15017)] → W p l e (Rm 1 20) s m ([.ref (G.2.2.2.1 131)] : List Value).toArray below meth c H lc 0 0 (MQ below (va_Qv (po_X12_skip τ  ) (Bs G) G.2.2.2.2) ([.ref (G.2.2.2.1 131)] : List Value).toArray s 0 0 G.2.2.2.2) (F0 m 145 ls [.int i29455, .ref (G.2.2.2.1 131)]) := by
                    intro H lc ls i29455 X29453 r29454 r29456 r29457 r29458 hl
                    refine r_put (K := 38) (ty := .int) S X29453 (Nat.le_of_ble_eq_true rfl) rfl lk12_157_10 (fun _ => ⟨_, rfl, Nat.le_of_ble_eq_true rfl, rfl⟩) (fun _ _ _ h => by cases h; exact ⟨rfl, rfl⟩) rfl rfl dX12_skip_145 (fun t29460 H lc M29461 X29462 => ?_)
                    have I29463 := Inv_mu I14988 M29461 (show Rg (kd 131) 11 i29455 from (R_of (lo := 0) (hi := 4) r29456 rfl))
                    have F29464 : Fr [(131, 4), (131, 11), (131, 12), (131, 13), (131, 14)] [] τ t29460 := Fr_mu F14989 M29461 (by decide)
                    refine r_aload_n S dX12_skip_148 rfl (lv_at hl 0 rfl) ?_
                    refine r_iload_n S dX12_skip_149 rfl (lv_at hl 1 rfl) ?_
                    refine r_put (K := 38) (ty := .int) S X29462 (Nat.le_of_ble_eq_true rfl) rfl lk12_167_10 (fun _ => ⟨_, rfl, Nat.le_of_ble_eq_true rfl, rfl⟩) (fun _ _ _ h => by cases h; exact ⟨rfl, rfl⟩) rfl rfl dX12_skip_150 (fun t29465 H lc M29466 X29467 => ?_)
                    have I29468 := Inv_mu I29463 M29466 (R_any v15017)
                    have F29469 : Fr [(131, 4), (131, 11), (131, 12), (131, 13), (131, 14)] [] τ t29465 := Fr_mu F29464 M29466 (by decide)
                    refine r_aload_n S dX12_skip_153 rfl (lv_at hl 0 rfl) ?_
                    refine r_dup S dX12_skip_154 rfl ?_
                    refine r_geti (K := 38) S X29467 (Nat.le_of_ble_eq_true rfl) rfl lk12_21_10 (fun _ => ⟨_, rfl, rfl⟩) ((M29466.2 131 4 (Or.inr (by decide))).trans ((M29461.2 131 4 (Or.inr (by decide))).trans ((M14986.2 131 4 (Or.inr (by decide))).trans ((M14978.2 131 4 (Or.inr (by decide))).trans z223)))) dX12_skip_155 ?_
                    refine r_iconst S dX12_skip_158 (by decide) (fun v29470 z29471 => ?_)
                    have r29472 := R_eq z29471
                    refine r_iadd S dX12_skip_159 (fun v29473 z29474 => ?_)
                    obtain ⟨e29475, r29476⟩ := i_add (lo := 1) (hi := 940) z29474 r29457 r29472 rfl
                    refine r_put (K := 38) (ty := .int) S X29467 (Nat.le_of_ble_eq_true rfl) rfl lk12_21_10 (fun _ => ⟨_, rfl, Nat.le_of_ble_eq_true rfl, rfl⟩) (fun _ _ _ h => by cases h; exact ⟨rfl, rfl⟩) rfl rfl dX12_skip_160 (fun t29477 H lc M29478 X29479 => ?_)
                    have I29480 := Inv_mu I29468 M29478 (show Rg (kd 131) 4 v29473 from (R_of (lo := 0) (hi := 940) r29476 rfl))
                    have F29481 : Fr [(131, 4), (131, 11), (131, 12), (131, 13), (131, 14)] [] τ t29477 := Fr_mu F29469 M29478 (by decide)
                    exact r_vret S hr hlk X29479 ⟨I29480, F29481⟩ dX12_skip_163
                  have J29560 : ∀ (H : Heap) (lc : List Loc) (ls : Array Slot), Xd G s H lc t14985 → R (40) (62) v15017 → R (0) (939) f221 → R (0) (939) f221 → lv_has ls 4 [(0, .ref (G.2.2.2.1 131)), (1, .int v15017)] → W p l e (Rm 1 20) s m ([.ref (G.2.2.2.1 131)] : List Value).toArray below meth c H lc 0 0 (MQ below (va_Qv (po_X12_skip τ  ) (Bs G) G.2.2.2.2) ([.ref (G.2.2.2.1 131)] : List Value).toArray s 0 0 G.2.2.2.2) (F0 m 140 ls [.ref (G.2.2.2.1 131)]) := by
                    intro H lc ls X29556 r29557 r29558 r29559 hl
                    refine r_iconst S dX12_skip_140 (by decide) (fun v29561 z29562 => ?_)
                    have r29563 := R_eq z29562
                    refine r_goto (tgt := 145) S dX12_skip_141 (by decide) ?_
                    exact J29459 _ _ _ v29561 X29556 (R_of r29557 rfl) (R_of r29563 rfl) r29558 r29559 (lv_sub hl [0, 1] rfl)
                  refine r_icmp_eq (tgt := 140) S dX12_skip_113 (by decide) (fun c29564 => ?_) (fun c29564 => ?_)
                  ·
                    have r29565 : R (59) (59) v15017 := ⟨by omega, by omega⟩
                    have p29566 := q15020 (by omega)
                    have r29567 : R (0) (939) f221 := ((M14986.2 131 4 (Or.inr (by decide))).trans ((M14978.2 131 4 (Or.inr (by decide))).trans z223)) ▸ p29566
                    have r29568 : R (0) (939) f221 := ⟨by omega, by omega⟩
                    exact J29560 _ _ _ X29347 (R_of r29565 rfl) r29568 r29568 (lv_sub hl [1, 0] rfl)
                  ·
                    refine r_iload_n S dX12_skip_116 rfl (lv_at hl 0 rfl) ?_
                    refine r_bipush S dX12_skip_117 (by decide) (fun v29569 z29570 => ?_)
                    have r29571 := R_eq z29570
                    refine r_icmp_eq (tgt := 140) S dX12_skip_119 (by decide) (fun c29572 => ?_) (fun c29572 => ?_)
                    ·
                      have r29573 : R (40) (40) v15017 := ⟨by omega, by omega⟩
                      have p29574 := q15020 (by omega)
                      have r29575 : R (0) (939) f221 := ((M14986.2 131 4 (Or.inr (by decide))).trans ((M14978.2 131 4 (Or.inr (by decide))).trans z223)) ▸ p29574
                      have r29576 : R (0) (939) f221 := ⟨by omega, by omega⟩
                      exact J29560 _ _ _ X29347 (R_of r29573 rfl) r29576 r29576 (lv_sub hl [1, 0] rfl)
                    ·
                      refine r_iload_n S dX12_skip_122 rfl (lv_at hl 0 rfl) ?_
                      refine r_bipush S dX12_skip_123 (by decide) (fun v29577 z29578 => ?_)
                      have r29579 := R_eq z29578
                      refine r_icmp_eq (tgt := 140) S dX12_skip_125 (by decide) (fun c29580 => ?_) (fun c29580 => ?_)
                      ·
                        have r29581 : R (41) (41) v15017 := ⟨by omega, by omega⟩
                        have p29582 := q15020 (by omega)
                        have r29583 : R (0) (939) f221 := ((M14986.2 131 4 (Or.inr (by decide))).trans ((M14978.2 131 4 (Or.inr (by decide))).trans z223)) ▸ p29582
                        have r29584 : R (0) (939) f221 := ⟨by omega, by omega⟩
                        exact J29560 _ _ _ X29347 (R_of r29581 rfl) r29584 r29584 (lv_sub hl [1, 0] rfl)
                      ·
                        refine r_iload_n S dX12_skip_128 rfl (lv_at hl 0 rfl) ?_
                        refine r_bipush S dX12_skip_129 (by decide) (fun v29585 z29586 => ?_)
                        have r29587 := R_eq z29586
                        have J29613 : ∀ (H : Heap) (lc : List Loc) (ls : Array Slot), Xd G s H lc t14985 → R (0) (255) v15017 → R (0) (939) f221 → R (0) (939) f221 → lv_has ls 4 [(0, .ref (G.2.2.2.1 131)), (1, .int v15017)] → W p l e (Rm 1 20) s m ([.ref (G.2.2.2.1 131)] : List Value).toArray below meth c H lc 0 0 (MQ below (va_Qv (po_X12_skip τ  ) (Bs G) G.2.2.2.2) ([.ref (G.2.2.2.1 131)] : List Value).toArray s 0 0 G.2.2.2.2) (F0 m 144 ls [.ref (G.2.2.2.1 131)]) := by
                          intro H lc ls X29609 r29610 r29611 r29612 hl
                          refine r_iconst S dX12_skip_144 (by decide) (fun v29614 z29615 => ?_)
                          have r29616 := R_eq z29615
                          exact J29459 _ _ _ v29614 X29609 r29610 (R_of r29616 rfl) r29611 r29612 (lv_sub hl [0, 1] rfl)
                        refine r_icmp_lt (tgt := 144) S dX12_skip_131 (by decide) (fun c29617 => ?_) (fun c29617 => ?_)
                        ·
                          have r29618 : R (0) (59) v15017 := ⟨by omega, by omega⟩
                          have p29619 := q15020 (by omega)
                          have r29620 : R (0) (939) f221 := ((M14986.2 131 4 (Or.inr (by decide))).trans ((M14978.2 131 4 (Or.inr (by decide))).trans z223)) ▸ p29619
                          have r29621 : R (0) (939) f221 := ⟨by omega, by omega⟩
                          exact J29613 _ _ _ X29347 (R_of r29618 rfl) r29621 r29621 (lv_sub hl [1, 0] rfl)
                        ·
                          have r29622 : R (60) (255) v15017 := ⟨by omega, by omega⟩
                          have p29623 := q15020 (by omega)
                          have r29624 : R (0) (939) f221 := ((M14986.2 131 4 (Or.inr (by decide))).trans ((M14978.2 131 4 (Or.inr (by decide))).trans z223)) ▸ p29623
                          have r29625 : R (0) (939) f221 := ⟨by omega, by omega⟩
                          refine r_iload_n S dX12_skip_134 rfl (lv_at hl 0 rfl) ?_
                          refine r_bipush S dX12_skip_135 (by decide) (fun v29626 z29627 => ?_)
                          have r29628 := R_eq z29627
                          refine r_icmp_gt (tgt := 144) S dX12_skip_137 (by decide) (fun c29629 => ?_) (fun c29629 => ?_)
                          ·
                            have r29630 : R (63) (255) v15017 := ⟨by omega, by omega⟩
                            have p29631 := q15020 (by omega)
                            have r29632 : R (0) (939) f221 := ((M14986.2 131 4 (Or.inr (by decide))).trans ((M14978.2 131 4 (Or.inr (by decide))).trans z223)) ▸ p29631
                            have r29633 : R (0) (939) f221 := ⟨by omega, by omega⟩
                            exact J29613 _ _ _ X29347 (R_of r29630 rfl) r29633 r29633 (lv_sub hl [1, 0] rfl)
                          ·
                            have r29634 : R (60) (62) v15017 := ⟨by omega, by omega⟩
                            have p29635 := q15020 (by omega)
                            have r29636 : R (0) (939) f221 := ((M14986.2 131 4 (Or.inr (by decide))).trans ((M14978.2 131 4 (Or.inr (by decide))).trans z223)) ▸ p29635
                            have r29637 : R (0) (939) f221 := ⟨by omega, by omega⟩
                            exact J29560 _ _ _ X29347 (R_of r29634 rfl) r29637 r29637 (lv_sub hl [1, 0] rfl)
            ·
              have r29638 : R (-1) (-1) v15017 := ⟨by omega, by omega⟩
              refine r_aload_n S dX12_skip_89 rfl (lv_at hl 1 rfl) ?_
              refine r_iconst S dX12_skip_90 (by decide) (fun v29639 z29640 => ?_)
              have r29641 := R_eq z29640
              refine r_put (K := 38) (ty := .int) S X15015 (Nat.le_of_ble_eq_true rfl) rfl lk12_157_10 (fun _ => ⟨_, rfl, Nat.le_of_ble_eq_true rfl, rfl⟩) (fun _ _ _ h => by cases h; exact ⟨rfl, rfl⟩) rfl rfl dX12_skip_91 (fun t29642 H lc M29643 X29644 => ?_)
              have I29645 := Inv_mu I14988 M29643 (show Rg (kd 131) 11 v29639 from (R_of (lo := 0) (hi := 4) r29641 rfl))
              have F29646 : Fr [(131, 4), (131, 11), (131, 12), (131, 13), (131, 14)] [] τ t29642 := Fr_mu F14989 M29643 (by decide)
              exact r_vret S hr hlk X29644 ⟨I29645, F29646⟩ dX12_skip_94
          refine r_icmp_le (tgt := 80) S dX12_skip_52 (by decide) (fun c29647 => ?_) (fun c29647 => ?_)
          ·
            exact J15013 _ _ _ X14987 (lv_sub hl [0] rfl)
          ·
            have r29648 : R (0) (939) v14990 := ⟨by omega, by omega⟩
            have r29649 : R (1) (940) v4 := ⟨by omega, by omega⟩
            refine r_aload_n S dX12_skip_55 rfl (lv_at hl 0 rfl) ?_
            refine r_geti (K := 38) S X14987 (Nat.le_of_ble_eq_true rfl) rfl lk12_21_10 (fun _ => ⟨_, rfl, rfl⟩) ((M14986.2 131 4 (Or.inr (by decide))).trans ((M14978.2 131 4 (Or.inr (by decide))).trans z223)) dX12_skip_56 ?_
            refine r_aload_n S dX12_skip_59 rfl (lv_at hl 0 rfl) ?_
            refine r_geti (K := 38) S X14987 (Nat.le_of_ble_eq_true rfl) rfl lk12_24_10 (fun _ => ⟨_, rfl, rfl⟩) z14991 dX12_skip_60 ?_
            refine r_icmp_lt (tgt := 80) S dX12_skip_63 (by decide) (fun c29650 => ?_) (fun c29650 => ?_)
            ·
              have r29651 : R (0) (938) f221 := ⟨by omega, by omega⟩
              have r29652 : R (1) (939) v14990 := ⟨by omega, by omega⟩
              exact J15013 _ _ _ X14987 (lv_sub hl [0] rfl)
            ·
              refine r_aload_n S dX12_skip_66 rfl (lv_at hl 0 rfl) ?_
              refine r_aload_n S dX12_skip_67 rfl (lv_at hl 0 rfl) ?_
              refine r_geti (K := 38) S X14987 (Nat.le_of_ble_eq_true rfl) rfl lk12_24_10 (fun _ => ⟨_, rfl, rfl⟩) z14991 dX12_skip_68 ?_
              refine r_put (K := 38) (ty := .int) S X14987 (Nat.le_of_ble_eq_true rfl) rfl lk12_151_10 (fun _ => ⟨_, rfl, Nat.le_of_ble_eq_true rfl, rfl⟩) (fun _ _ _ h => by cases h; exact ⟨rfl, rfl⟩) rfl rfl dX12_skip_71 (fun t29653 H lc M29654 X29655 => ?_)
              have I29656 := Inv_mu I14988 M29654 (show Rg (kd 131) 12 v14990 from (R_of (lo := 0) (hi := 940) r29648 rfl))
              have F29657 : Fr [(131, 4), (131, 11), (131, 12), (131, 13), (131, 14)] [] τ t29653 := Fr_mu F14989 M29654 (by decide)
              refine r_aload_n S dX12_skip_74 rfl (lv_at hl 0 rfl) ?_
              refine r_iconst S dX12_skip_75 (by decide) (fun v29658 z29659 => ?_)
              have r29660 := R_eq z29659
              refine r_put (K := 38) (ty := .int) S X29655 (Nat.le_of_ble_eq_true rfl) rfl lk12_157_10 (fun _ => ⟨_, rfl, Nat.le_of_ble_eq_true rfl, rfl⟩) (fun _ _ _ h => by cases h; exact ⟨rfl, rfl⟩) rfl rfl dX12_skip_76 (fun t29661 H lc M29662 X29663 => ?_)
              have I29664 := Inv_mu I29656 M29662 (show Rg (kd 131) 11 v29658 from (R_of (lo := 0) (hi := 4) r29660 rfl))
              have F29665 : Fr [(131, 4), (131, 11), (131, 12), (131, 13), (131, 14)] [] τ t29661 := Fr_mu F29657 M29662 (by decide)
              exact r_vret S hr hlk X29663 ⟨I29664, F29665⟩ dX12_skip_79
        ·
          have r29666 : R (10) (10) v14969 := ⟨by omega, by omega⟩
          have p29667 := q14972 (by omega)
          have r29668 : R (0) (939) f221 := z223 ▸ p29667
          have r29669 : R (0) (939) f221 := ⟨by omega, by omega⟩
          exact J14948 _ _ _ X14967 r29669 (lv_sub hl [0] rfl)
  exact L225 _ τ _ _ _ v1 X hI Fr_rfl z2 ⟨by omega, by omega⟩ z5 (lv_sub hl [0] rfl) (Nat.lt_succ_self _)
