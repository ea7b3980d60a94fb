def po_pcopyn_23_4 (τ : Tau)     (u : Tau) : Prop := Inv u ∧ Fr [(23, 0), (23, 1), (23, 2), (23, 3), (23, 4)] [24, 25, 26, 27, 228, 229] τ u ∧ u 23 2 = τ 4 2 ∧ u 23 0 = τ 4 0 ∧ u 23 1 = τ 4 1 ∧ u 23 3 = τ 4 3 ∧ u 23 4 = τ 4 4 ∧ NMq u 28 29 τ 9 10
set_option maxHeartbeats 4000000 in
set_option maxRecDepth 100000 in
theorem c_pcopyn_23_4 (l : Launch) (G : Gx) (τ : Tau) (hI : Inv τ) : Cv l G yX2_copyFrom cX2_copyFrom 2 1 60 [.ref (G.2.2.2.1 23), .ref (G.2.2.2.1 4)] τ (po_pcopyn_23_4 τ    ) := by
  unfold Cv
  refine C_of (own := RX2) (by decide) rfl (Nat.le_of_ble_eq_true rfl) ?_
  intro p e s m below meth c ls S hr hlk X hl
  have hl : lv_has ls 2 [(0, .ref (G.2.2.2.1 23)), (1, .ref (G.2.2.2.1 4))] := hl
  refine r_aload_n S dX2_copyFrom_0 rfl (lv_at hl 0 rfl) ?_
  refine r_aload_n S dX2_copyFrom_1 rfl (lv_at hl 1 rfl) ?_
  refine r_getn (K := 4) S X (Nat.le_of_ble_eq_true rfl) rfl lk2_34_2 (fun _ => ⟨_, rfl, rfl⟩) dX2_copyFrom_2 (fun v1 z2 => ?_)
  have r3 : R (0) (8) v1 := rd hI rfl z2
  refine r_put (K := 4) (ty := .int) S X (Nat.le_of_ble_eq_true rfl) rfl lk2_34_2 (fun _ => ⟨_, rfl, Nat.le_of_ble_eq_true rfl, rfl⟩) (fun _ _ _ h => by cases h; exact ⟨rfl, rfl⟩) rfl rfl dX2_copyFrom_5 (fun t4 H lc M5 X6 => ?_)
  have I7 := Inv_mu hI M5 (show Rg (kd 23) 0 v1 from (R_of (lo := 0) (hi := 8) r3 rfl))
  have F8 : Fr [(23, 0), (23, 1), (23, 2), (23, 3), (23, 4)] [24, 25, 26, 27, 228, 229] τ t4 := Fr_mu Fr_rfl M5 (by decide)
  refine r_aload_n S dX2_copyFrom_8 rfl (lv_at hl 0 rfl) ?_
  refine r_aload_n S dX2_copyFrom_9 rfl (lv_at hl 1 rfl) ?_
  refine r_getn (K := 4) S X6 (Nat.le_of_ble_eq_true rfl) rfl lk2_38_2 (fun _ => ⟨_, rfl, rfl⟩) dX2_copyFrom_10 (fun v9 z10 => ?_)
  have r11 : R (0) (9) v9 := rd I7 rfl z10
  refine r_put (K := 4) (ty := .int) S X6 (Nat.le_of_ble_eq_true rfl) rfl lk2_38_2 (fun _ => ⟨_, rfl, Nat.le_of_ble_eq_true rfl, rfl⟩) (fun _ _ _ h => by cases h; exact ⟨rfl, rfl⟩) rfl rfl dX2_copyFrom_13 (fun t12 H lc M13 X14 => ?_)
  have I15 := Inv_mu I7 M13 (show Rg (kd 23) 1 v9 from (R_of (lo := 0) (hi := 9) r11 rfl))
  have F16 : Fr [(23, 0), (23, 1), (23, 2), (23, 3), (23, 4)] [24, 25, 26, 27, 228, 229] τ t12 := Fr_mu F8 M13 (by decide)
  refine r_aload_n S dX2_copyFrom_16 rfl (lv_at hl 0 rfl) ?_
  refine r_aload_n S dX2_copyFrom_17 rfl (lv_at hl 1 rfl) ?_
  refine r_getn (K := 4) S X14 (Nat.le_of_ble_eq_true rfl) rfl lk2_41_2 (fun _ => ⟨_, rfl, rfl⟩) dX2_copyFrom_18 (fun v17 z18 => ?_)
  have r19 : R (0) (9) v17 := rd I15 rfl z18
  refine r_put (K := 4) (ty := .int) S X14 (Nat.le_of_ble_eq_true rfl) rfl lk2_41_2 (fun _ => ⟨_, rfl, Nat.le_of_ble_eq_true rfl, rfl⟩) (fun _ _ _ h => by cases h; exact ⟨rfl, rfl⟩) rfl rfl dX2_copyFrom_21 (fun t20 H lc M21 X22 => ?_)
  have I23 := Inv_mu I15 M21 (show Rg (kd 23) 2 v17 from (R_of (lo := 0) (hi := 9) r19 rfl))
  have F24 : Fr [(23, 0), (23, 1), (23, 2), (23, 3), (23, 4)] [24, 25, 26, 27, 228, 229] τ t20 := Fr_mu F16 M21 (by decide)
  refine r_aload_n S dX2_copyFrom_24 rfl (lv_at hl 0 rfl) ?_
  refine r_aload_n S dX2_copyFrom_25 rfl (lv_at hl 1 rfl) ?_
  refine r_getn (K := 4) S X22 (Nat.le_of_ble_eq_true rfl) rfl lk2_44_2 (fun _ => ⟨_, rfl, rfl⟩) dX2_copyFrom_26 (fun v25 z26 => ?_)
  have r27 : R (0) (10) v25 := rd I23 rfl z26
  refine r_put (K := 4) (ty := .int) S X22 (Nat.le_of_ble_eq_true rfl) rfl lk2_44_2 (fun _ => ⟨_, rfl, Nat.le_of_ble_eq_true rfl, rfl⟩) (fun _ _ _ h => by cases h; exact ⟨rfl, rfl⟩) rfl rfl dX2_copyFrom_29 (fun t28 H lc M29 X30 => ?_)
  have I31 := Inv_mu I23 M29 (show Rg (kd 23) 3 v25 from (R_of (lo := 0) (hi := 10) r27 rfl))
  have F32 : Fr [(23, 0), (23, 1), (23, 2), (23, 3), (23, 4)] [24, 25, 26, 27, 228, 229] τ t28 := Fr_mu F24 M29 (by decide)
  refine r_aload_n S dX2_copyFrom_32 rfl (lv_at hl 0 rfl) ?_
  refine r_aload_n S dX2_copyFrom_33 rfl (lv_at hl 1 rfl) ?_
  refine r_getn (K := 4) S X30 (Nat.le_of_ble_eq_true rfl) rfl lk2_47_2 (fun _ => ⟨_, rfl, rfl⟩) dX2_copyFrom_34 (fun v33 z34 => ?_)
  have r36 := R_any v33
  refine r_put (K := 4) (ty := .int) S X30 (Nat.le_of_ble_eq_true rfl) rfl lk2_47_2 (fun _ => ⟨_, rfl, Nat.le_of_ble_eq_true rfl, rfl⟩) (fun _ _ _ h => by cases h; exact ⟨rfl, rfl⟩) rfl rfl dX2_copyFrom_37 (fun t37 H lc M38 X39 => ?_)
  have I40 := Inv_mu I31 M38 (R_any v33)
  have F41 : Fr [(23, 0), (23, 1), (23, 2), (23, 3), (23, 4)] [24, 25, 26, 27, 228, 229] τ t37 := Fr_mu F32 M38 (by decide)
  refine r_aload_n S dX2_copyFrom_40 rfl (lv_at hl 1 rfl) ?_
  refine r_get (K := 4) (v := .ref (G.2.2.2.1 5)) S X39 (Nat.le_of_ble_eq_true rfl) rfl lk2_9_2 (fun _ => ⟨_, rfl, rfl⟩) dX2_copyFrom_41 ?_
  refine r_iconst S dX2_copyFrom_44 (by decide) (fun v42 z43 => ?_)
  have r44 := R_eq z43
  refine r_aload_n S dX2_copyFrom_45 rfl (lv_at hl 0 rfl) ?_
  refine r_get (K := 4) (v := .ref (G.2.2.2.1 24)) S X39 (Nat.le_of_ble_eq_true rfl) rfl lk2_9_2 (fun _ => ⟨_, rfl, rfl⟩) dX2_copyFrom_46 ?_
  refine r_iconst S dX2_copyFrom_49 (by decide) (fun v45 z46 => ?_)
  have r47 := R_eq z46
  refine r_aload_n S dX2_copyFrom_50 rfl (lv_at hl 0 rfl) ?_
  refine r_get (K := 4) (v := .ref (G.2.2.2.1 24)) S X39 (Nat.le_of_ble_eq_true rfl) rfl lk2_9_2 (fun _ => ⟨_, rfl, rfl⟩) dX2_copyFrom_51 ?_
  refine r_alen (x := (0, .inl fun _ => 0)) (n := 10) (K := 5) (t0 := 0) S X39 (Nat.le_of_ble_eq_true rfl) rfl (fun _ => ⟨_, rfl⟩) rfl (by decide) dX2_copyFrom_54 (fun v48 z49 => ?_)
  have r50 := R_eq z49
  refine r_copy (K2 := 5) (n := 10) (K := 5) S X39 (Nat.le_of_ble_eq_true rfl) rfl (Nat.le_of_ble_eq_true rfl) rfl (fun _ _ _ => rfl) (fun _ _ _ => rfl) hl.1 kw9 kw10 kw11 kw12 (by omega) (by omega) (by omega) ⟨Nat.le_of_ble_eq_true rfl, by decide⟩ dX2_copyFrom_55 (fun t52 H lc C53 X51 => ?_)
  have I54 := Inv_cp (K := 5) (K2 := 5) I40 C53 rfl rfl (fun _ _ h => h)
  have F55 : Fr [(23, 0), (23, 1), (23, 2), (23, 3), (23, 4)] [24, 25, 26, 27, 228, 229] τ t52 := Fr_cp F41 C53 (by decide)
  refine r_aload_n S dX2_copyFrom_58 rfl (lv_at hl 1 rfl) ?_
  refine r_get (K := 4) (v := .ref (G.2.2.2.1 6)) S X51 (Nat.le_of_ble_eq_true rfl) rfl lk2_15_2 (fun _ => ⟨_, rfl, rfl⟩) dX2_copyFrom_59 ?_
  refine r_iconst S dX2_copyFrom_62 (by decide) (fun v56 z57 => ?_)
  have r58 := R_eq z57
  refine r_aload_n S dX2_copyFrom_63 rfl (lv_at hl 0 rfl) ?_
  refine r_get (K := 4) (v := .ref (G.2.2.2.1 25)) S X51 (Nat.le_of_ble_eq_true rfl) rfl lk2_15_2 (fun _ => ⟨_, rfl, rfl⟩) dX2_copyFrom_64 ?_
  refine r_iconst S dX2_copyFrom_67 (by decide) (fun v59 z60 => ?_)
  have r61 := R_eq z60
  refine r_aload_n S dX2_copyFrom_68 rfl (lv_at hl 0 rfl) ?_
  refine r_get (K := 4) (v := .ref (G.2.2.2.1 25)) S X51 (Nat.le_of_ble_eq_true rfl) rfl lk2_15_2 (fun _ => ⟨_, rfl, rfl⟩) dX2_copyFrom_69 ?_
  refine r_alen (x := (0, .inl fun _ => 0)) (n := 10) (K := 6) (t0 := 0) S X51 (Nat.le_of_ble_eq_true rfl) rfl (fun _ => ⟨_, rfl⟩) rfl (by decide) dX2_copyFrom_72 (fun v62 z63 => ?_)
  have r64 := R_eq z63
  refine r_copy (K2 := 6) (n := 10) (K := 6) S X51 (Nat.le_of_ble_eq_true rfl) rfl (Nat.le_of_ble_eq_true rfl) rfl (fun _ _ _ => rfl) (fun _ _ _ => rfl) hl.1 kw9 kw10 kw11 kw12 (by omega) (by omega) (by omega) ⟨Nat.le_of_ble_eq_true rfl, by decide⟩ dX2_copyFrom_73 (fun t66 H lc C67 X65 => ?_)
  have I68 := Inv_cp (K := 6) (K2 := 6) I54 C67 rfl rfl (fun _ _ h => h)
  have F69 : Fr [(23, 0), (23, 1), (23, 2), (23, 3), (23, 4)] [24, 25, 26, 27, 228, 229] τ t66 := Fr_cp F55 C67 (by decide)
  refine r_aload_n S dX2_copyFrom_76 rfl (lv_at hl 1 rfl) ?_
  refine r_get (K := 4) (v := .ref (G.2.2.2.1 7)) S X65 (Nat.le_of_ble_eq_true rfl) rfl lk2_18_2 (fun _ => ⟨_, rfl, rfl⟩) dX2_copyFrom_77 ?_
  refine r_iconst S dX2_copyFrom_80 (by decide) (fun v70 z71 => ?_)
  have r72 := R_eq z71
  refine r_aload_n S dX2_copyFrom_81 rfl (lv_at hl 0 rfl) ?_
  refine r_get (K := 4) (v := .ref (G.2.2.2.1 26)) S X65 (Nat.le_of_ble_eq_true rfl) rfl lk2_18_2 (fun _ => ⟨_, rfl, rfl⟩) dX2_copyFrom_82 ?_
  refine r_iconst S dX2_copyFrom_85 (by decide) (fun v73 z74 => ?_)
  have r75 := R_eq z74
  refine r_aload_n S dX2_copyFrom_86 rfl (lv_at hl 0 rfl) ?_
  refine r_get (K := 4) (v := .ref (G.2.2.2.1 26)) S X65 (Nat.le_of_ble_eq_true rfl) rfl lk2_18_2 (fun _ => ⟨_, rfl, rfl⟩) dX2_copyFrom_87 ?_
  refine r_alen (x := (0, .inl fun _ => 0)) (n := 10) (K := 7) (t0 := 0) S X65 (Nat.le_of_ble_eq_true rfl) rfl (fun _ => ⟨_, rfl⟩) rfl (by decide) dX2_copyFrom_90 (fun v76 z77 => ?_)
  have r78 := R_eq z77
  refine r_copy (K2 := 7) (n := 10) (K := 7) S X65 (Nat.le_of_ble_eq_true rfl) rfl (Nat.le_of_ble_eq_true rfl) rfl (fun _ _ _ => rfl) (fun _ _ _ => rfl) hl.1 kw9 kw10 kw11 kw12 (by omega) (by omega) (by omega) ⟨Nat.le_of_ble_eq_true rfl, by decide⟩ dX2_copyFrom_91 (fun t80 H lc C81 X79 => ?_)
  have I82 := Inv_cp (K := 7) (K2 := 7) I68 C81 rfl rfl (fun _ _ h => h)
  have F83 : Fr [(23, 0), (23, 1), (23, 2), (23, 3), (23, 4)] [24, 25, 26, 27, 228, 229] τ t80 := Fr_cp F69 C81 (by decide)
  refine r_aload_n S dX2_copyFrom_94 rfl (lv_at hl 1 rfl) ?_
  refine r_get (K := 4) (v := .ref (G.2.2.2.1 8)) S X79 (Nat.le_of_ble_eq_true rfl) rfl lk2_21_2 (fun _ => ⟨_, rfl, rfl⟩) dX2_copyFrom_95 ?_
  refine r_iconst S dX2_copyFrom_98 (by decide) (fun v84 z85 => ?_)
  have r86 := R_eq z85
  refine r_aload_n S dX2_copyFrom_99 rfl (lv_at hl 0 rfl) ?_
  refine r_get (K := 4) (v := .ref (G.2.2.2.1 27)) S X79 (Nat.le_of_ble_eq_true rfl) rfl lk2_21_2 (fun _ => ⟨_, rfl, rfl⟩) dX2_copyFrom_100 ?_
  refine r_iconst S dX2_copyFrom_103 (by decide) (fun v87 z88 => ?_)
  have r89 := R_eq z88
  refine r_aload_n S dX2_copyFrom_104 rfl (lv_at hl 0 rfl) ?_
  refine r_get (K := 4) (v := .ref (G.2.2.2.1 27)) S X79 (Nat.le_of_ble_eq_true rfl) rfl lk2_21_2 (fun _ => ⟨_, rfl, rfl⟩) dX2_copyFrom_105 ?_
  refine r_alen (x := (0, .inl fun _ => 0)) (n := 90) (K := 8) (t0 := 0) S X79 (Nat.le_of_ble_eq_true rfl) rfl (fun _ => ⟨_, rfl⟩) rfl (by decide) dX2_copyFrom_108 (fun v90 z91 => ?_)
  have r92 := R_eq z91
  refine r_copy (K2 := 8) (n := 90) (K := 8) S X79 (Nat.le_of_ble_eq_true rfl) rfl (Nat.le_of_ble_eq_true rfl) rfl (fun _ _ _ => rfl) (fun _ _ _ => rfl) hl.1 kw9 kw10 kw11 kw12 (by omega) (by omega) (by omega) ⟨Nat.le_of_ble_eq_true rfl, by decide⟩ dX2_copyFrom_109 (fun t94 H lc C95 X93 => ?_)
  have I96 := Inv_cp (K := 8) (K2 := 8) I82 C95 rfl rfl (fun _ _ h => h)
  have F97 : Fr [(23, 0), (23, 1), (23, 2), (23, 3), (23, 4)] [24, 25, 26, 27, 228, 229] τ t94 := Fr_cp F83 C95 (by decide)
  refine r_aload_n S dX2_copyFrom_112 rfl (lv_at hl 1 rfl) ?_
  refine r_get (K := 4) (v := .ref (G.2.2.2.1 9)) S X93 (Nat.le_of_ble_eq_true rfl) rfl lk2_24_2 (fun _ => ⟨_, rfl, rfl⟩) dX2_copyFrom_113 ?_
  refine r_iconst S dX2_copyFrom_116 (by decide) (fun v98 z99 => ?_)
  have r100 := R_eq z99
  refine r_aload_n S dX2_copyFrom_117 rfl (lv_at hl 0 rfl) ?_
  refine r_get (K := 4) (v := .ref (G.2.2.2.1 28)) S X93 (Nat.le_of_ble_eq_true rfl) rfl lk2_24_2 (fun _ => ⟨_, rfl, rfl⟩) dX2_copyFrom_118 ?_
  refine r_iconst S dX2_copyFrom_121 (by decide) (fun v101 z102 => ?_)
  have r103 := R_eq z102
  refine r_aload_n S dX2_copyFrom_122 rfl (lv_at hl 0 rfl) ?_
  refine r_get (K := 4) (v := .ref (G.2.2.2.1 28)) S X93 (Nat.le_of_ble_eq_true rfl) rfl lk2_24_2 (fun _ => ⟨_, rfl, rfl⟩) dX2_copyFrom_123 ?_
  refine r_alen (x := (0, .inl fun _ => 0)) (n := 9) (K := 9) (t0 := 1) S X93 (Nat.le_of_ble_eq_true rfl) rfl (fun _ => ⟨_, rfl⟩) rfl (by decide) dX2_copyFrom_126 (fun v104 z105 => ?_)
  have r106 := R_eq z105
  refine r_copyJ (n := 9) (K := 9) S X93 (Nat.le_of_ble_eq_true rfl) rfl (Nat.le_of_ble_eq_true rfl) rfl (fun _ _ _ => rfl) hl.1 kw9 kw10 kw11 kw12 (by omega) (by omega) (by omega) ⟨Nat.le_of_ble_eq_true rfl, by decide⟩ dX2_copyFrom_127 (fun t108 H lc M109 X107 => ?_)
  have I110 := Inv_ml I96 M109
  have F111 : Fr [(23, 0), (23, 1), (23, 2), (23, 3), (23, 4)] [24, 25, 26, 27, 228, 229] τ t108 := Fr_ml F97 M109 (by decide)
  refine r_aload_n S dX2_copyFrom_130 rfl (lv_at hl 1 rfl) ?_
  refine r_get (K := 4) (v := .ref (G.2.2.2.1 10)) S X107 (Nat.le_of_ble_eq_true rfl) rfl lk2_28_2 (fun _ => ⟨_, rfl, rfl⟩) dX2_copyFrom_131 ?_
  refine r_iconst S dX2_copyFrom_134 (by decide) (fun v112 z113 => ?_)
  have r114 := R_eq z113
  refine r_aload_n S dX2_copyFrom_135 rfl (lv_at hl 0 rfl) ?_
  refine r_get (K := 4) (v := .ref (G.2.2.2.1 29)) S X107 (Nat.le_of_ble_eq_true rfl) rfl lk2_28_2 (fun _ => ⟨_, rfl, rfl⟩) dX2_copyFrom_136 ?_
  refine r_iconst S dX2_copyFrom_139 (by decide) (fun v115 z116 => ?_)
  have r117 := R_eq z116
  refine r_aload_n S dX2_copyFrom_140 rfl (lv_at hl 0 rfl) ?_
  refine r_get (K := 4) (v := .ref (G.2.2.2.1 29)) S X107 (Nat.le_of_ble_eq_true rfl) rfl lk2_28_2 (fun _ => ⟨_, rfl, rfl⟩) dX2_copyFrom_141 ?_
  refine r_alen (x := (0, .inl fun _ => 0)) (n := 10) (K := 10) (t0 := 1) S X107 (Nat.le_of_ble_eq_true rfl) rfl (fun _ => ⟨_, rfl⟩) rfl (by decide) dX2_copyFrom_144 (fun v118 z119 => ?_)
  have r120 := R_eq z119
  refine r_copyJ (n := 10) (K := 10) S X107 (Nat.le_of_ble_eq_true rfl) rfl (Nat.le_of_ble_eq_true rfl) rfl (fun _ _ _ => rfl) hl.1 kw9 kw10 kw11 kw12 (by omega) (by omega) (by omega) ⟨Nat.le_of_ble_eq_true rfl, by decide⟩ dX2_copyFrom_145 (fun t122 H lc M123 X121 => ?_)
  have I124 := Inv_ml I110 M123
  have F125 : Fr [(23, 0), (23, 1), (23, 2), (23, 3), (23, 4)] [24, 25, 26, 27, 228, 229] τ t122 := Fr_ml F111 M123 (by decide)
  exact r_vret S hr hlk X121 ⟨I124, F125, (((M123.1 23 (by decide) 2).trans ((M109.1 23 (by decide) 2).trans ((C95.1 23 (by decide) 2).trans ((C81.1 23 (by decide) 2).trans ((C67.1 23 (by decide) 2).trans ((C53.1 23 (by decide) 2).trans ((M38.2 23 2 (Or.inr (by decide))).trans ((M29.2 23 2 (Or.inr (by decide))).trans M21.1)))))))).trans (((M13.2 4 2 (Or.inl (by decide))).trans ((M5.2 4 2 (Or.inl (by decide))).trans rfl)).symm.trans z18).symm), (((M123.1 23 (by decide) 0).trans ((M109.1 23 (by decide) 0).trans ((C95.1 23 (by decide) 0).trans ((C81.1 23 (by decide) 0).trans ((C67.1 23 (by decide) 0).trans ((C53.1 23 (by decide) 0).trans ((M38.2 23 0 (Or.inr (by decide))).trans ((M29.2 23 0 (Or.inr (by decide))).trans ((M21.2 23 0 (Or.inr (by decide))).trans ((M13.2 23 0 (Or.inr (by decide))).trans M5.1)))))))))).trans (rfl.symm.trans z2).symm), (((M123.1 23 (by decide) 1).trans ((M109.1 23 (by decide) 1).trans ((C95.1 23 (by decide) 1).trans ((C81.1 23 (by decide) 1).trans ((C67.1 23 (by decide) 1).trans ((C53.1 23 (by decide) 1).trans ((M38.2 23 1 (Or.inr (by decide))).trans ((M29.2 23 1 (Or.inr (by decide))).trans ((M21.2 23 1 (Or.inr (by decide))).trans M13.1))))))))).trans (((M5.2 4 1 (Or.inl (by decide))).trans rfl).symm.trans z10).symm), (((M123.1 23 (by decide) 3).trans ((M109.1 23 (by decide) 3).trans ((C95.1 23 (by decide) 3).trans ((C81.1 23 (by decide) 3).trans ((C67.1 23 (by decide) 3).trans ((C53.1 23 (by decide) 3).trans ((M38.2 23 3 (Or.inr (by decide))).trans M29.1))))))).trans (((M21.2 4 3 (Or.inl (by decide))).trans ((M13.2 4 3 (Or.inl (by decide))).trans ((M5.2 4 3 (Or.inl (by decide))).trans rfl))).symm.trans z26).symm), (((M123.1 23 (by decide) 4).trans ((M109.1 23 (by decide) 4).trans ((C95.1 23 (by decide) 4).trans ((C81.1 23 (by decide) 4).trans ((C67.1 23 (by decide) 4).trans ((C53.1 23 (by decide) 4).trans M38.1)))))).trans (((M29.2 4 4 (Or.inl (by decide))).trans ((M21.2 4 4 (Or.inl (by decide))).trans ((M13.2 4 4 (Or.inl (by decide))).trans ((M5.2 4 4 (Or.inl (by decide))).trans rfl)))).symm.trans z34).symm), ⟨(fun j hj => ((qof_of (k := 28) (fun j => ((M123.1 228 (by decide) j).trans rfl)) j).trans (cpy_at M109 hj)).trans (qof_of (k := 9) (fun j => ((C95.1 209 (by decide) j).trans ((C81.1 209 (by decide) j).trans ((C67.1 209 (by decide) j).trans ((C53.1 209 (by decide) j).trans ((M38.2 209 j (Or.inl (by decide))).trans ((M29.2 209 j (Or.inl (by decide))).trans ((M21.2 209 j (Or.inl (by decide))).trans ((M13.2 209 j (Or.inl (by decide))).trans ((M5.2 209 j (Or.inl (by decide))).trans rfl)))))))))) j)), (fun j hj => ((qof_of (k := 29) (fun j => rfl) j).trans (cpy_at M123 hj)).trans (qof_of (k := 10) (fun j => ((M109.1 210 (by decide) j).trans ((C95.1 210 (by decide) j).trans ((C81.1 210 (by decide) j).trans ((C67.1 210 (by decide) j).trans ((C53.1 210 (by decide) j).trans ((M38.2 210 j (Or.inl (by decide))).trans ((M29.2 210 j (Or.inl (by decide))).trans ((M21.2 210 j (Or.inl (by decide))).trans ((M13.2 210 j (Or.inl (by decide))).trans ((M5.2 210 j (Or.inl (by decide))).trans rfl))))))))))) j))⟩⟩ dX2_copyFrom_148
def po_pcopyn_94_23 (τ : Tau)     (u : Tau) : Prop := Inv u ∧ Fr [(94, 0), (94, 1), (94, 2), (94, 3), (94, 4)] [95, 96, 97, 98, 299, 300] τ u ∧ u 94 2 = τ 23 2 ∧ u 94 0 = τ 23 0 ∧ u 94 1 = τ 23 1 ∧ u 94 3 = τ 23 3 ∧ u 94 4 = τ 23 4 ∧ NMq u 99 100 τ 28 29
set_option maxHeartbeats 4000000 in
set_option maxRecDepth 100000 in
theorem c_pcopyn_94_23 (l : Launch) (G : Gx) (τ : Tau) (hI : Inv τ) : Cv l G yX2_copyFrom cX2_copyFrom 2 1 60 [.ref (G.2.2.2.1 94), .ref (G.2.2.2.1 23)] τ (po_pcopyn_94_23 τ    ) := by
  unfold Cv
  refine C_of (own := RX2) (by decide) rfl (Nat.le_of_ble_eq_true rfl) ?_
  intro p e s m below meth c ls S hr hlk X hl
  have hl : lv_has ls 2 [(0, .ref (G.2.2.2.1 94)), (1, .ref (G.2.2.2.1 23))] := hl
  refine r_aload_n S dX2_copyFrom_0 rfl (lv_at hl 0 rfl) ?_
  refine r_aload_n S dX2_copyFrom_1 rfl (lv_at hl 1 rfl) ?_
  refine r_getn (K := 4) S X (Nat.le_of_ble_eq_true rfl) rfl lk2_34_2 (fun _ => ⟨_, rfl, rfl⟩) dX2_copyFrom_2 (fun v1 z2 => ?_)
  have r3 : R (0) (8) v1 := rd hI rfl z2
  refine r_put (K := 4) (ty := .int) S X (Nat.le_of_ble_eq_true rfl) rfl lk2_34_2 (fun _ => ⟨_, rfl, Nat.le_of_ble_eq_true rfl, rfl⟩) (fun _ _ _ h => by cases h; exact ⟨rfl, rfl⟩) rfl rfl dX2_copyFrom_5 (fun t4 H lc M5 X6 => ?_)
  have I7 := Inv_mu hI M5 (show Rg (kd 94) 0 v1 from (R_of (lo := 0) (hi := 8) r3 rfl))
  have F8 : Fr [(94, 0), (94, 1), (94, 2), (94, 3), (94, 4)] [95, 96, 97, 98, 299, 300] τ t4 := Fr_mu Fr_rfl M5 (by decide)
  refine r_aload_n S dX2_copyFrom_8 rfl (lv_at hl 0 rfl) ?_
  refine r_aload_n S dX2_copyFrom_9 rfl (lv_at hl 1 rfl) ?_
  refine r_getn (K := 4) S X6 (Nat.le_of_ble_eq_true rfl) rfl lk2_38_2 (fun _ => ⟨_, rfl, rfl⟩) dX2_copyFrom_10 (fun v9 z10 => ?_)
  have r11 : R (0) (9) v9 := rd I7 rfl z10
  refine r_put (K := 4) (ty := .int) S X6 (Nat.le_of_ble_eq_true rfl) rfl lk2_38_2 (fun _ => ⟨_, rfl, Nat.le_of_ble_eq_true rfl, rfl⟩) (fun _ _ _ h => by cases h; exact ⟨rfl, rfl⟩) rfl rfl dX2_copyFrom_13 (fun t12 H lc M13 X14 => ?_)
  have I15 := Inv_mu I7 M13 (show Rg (kd 94) 1 v9 from (R_of (lo := 0) (hi := 9) r11 rfl))
  have F16 : Fr [(94, 0), (94, 1), (94, 2), (94, 3), (94, 4)] [95, 96, 97, 98, 299, 300] τ t12 := Fr_mu F8 M13 (by decide)
  refine r_aload_n S dX2_copyFrom_16 rfl (lv_at hl 0 rfl) ?_
  refine r_aload_n S dX2_copyFrom_17 rfl (lv_at hl 1 rfl) ?_
  refine r_getn (K := 4) S X14 (Nat.le_of_ble_eq_true rfl) rfl lk2_41_2 (fun _ => ⟨_, rfl, rfl⟩) dX2_copyFrom_18 (fun v17 z18 => ?_)
  have r19 : R (0) (9) v17 := rd I15 rfl z18
  refine r_put (K := 4) (ty := .int) S X14 (Nat.le_of_ble_eq_true rfl) rfl lk2_41_2 (fun _ => ⟨_, rfl, Nat.le_of_ble_eq_true rfl, rfl⟩) (fun _ _ _ h => by cases h; exact ⟨rfl, rfl⟩) rfl rfl dX2_copyFrom_21 (fun t20 H lc M21 X22 => ?_)
  have I23 := Inv_mu I15 M21 (show Rg (kd 94) 2 v17 from (R_of (lo := 0) (hi := 9) r19 rfl))
  have F24 : Fr [(94, 0), (94, 1), (94, 2), (94, 3), (94, 4)] [95, 96, 97, 98, 299, 300] τ t20 := Fr_mu F16 M21 (by decide)
  refine r_aload_n S dX2_copyFrom_24 rfl (lv_at hl 0 rfl) ?_
  refine r_aload_n S dX2_copyFrom_25 rfl (lv_at hl 1 rfl) ?_
  refine r_getn (K := 4) S X22 (Nat.le_of_ble_eq_true rfl) rfl lk2_44_2 (fun _ => ⟨_, rfl, rfl⟩) dX2_copyFrom_26 (fun v25 z26 => ?_)
  have r27 : R (0) (10) v25 := rd I23 rfl z26
  refine r_put (K := 4) (ty := .int) S X22 (Nat.le_of_ble_eq_true rfl) rfl lk2_44_2 (fun _ => ⟨_, rfl, Nat.le_of_ble_eq_true rfl, rfl⟩) (fun _ _ _ h => by cases h; exact ⟨rfl, rfl⟩) rfl rfl dX2_copyFrom_29 (fun t28 H lc M29 X30 => ?_)
  have I31 := Inv_mu I23 M29 (show Rg (kd 94) 3 v25 from (R_of (lo := 0) (hi := 10) r27 rfl))
  have F32 : Fr [(94, 0), (94, 1), (94, 2), (94, 3), (94, 4)] [95, 96, 97, 98, 299, 300] τ t28 := Fr_mu F24 M29 (by decide)
  refine r_aload_n S dX2_copyFrom_32 rfl (lv_at hl 0 rfl) ?_
  refine r_aload_n S dX2_copyFrom_33 rfl (lv_at hl 1 rfl) ?_
  refine r_getn (K := 4) S X30 (Nat.le_of_ble_eq_true rfl) rfl lk2_47_2 (fun _ => ⟨_, rfl, rfl⟩) dX2_copyFrom_34 (fun v33 z34 => ?_)
  have r36 := R_any v33
  refine r_put (K := 4) (ty := .int) S X30 (Nat.le_of_ble_eq_true rfl) rfl lk2_47_2 (fun _ => ⟨_, rfl, Nat.le_of_ble_eq_true rfl, rfl⟩) (fun _ _ _ h => by cases h; exact ⟨rfl, rfl⟩) rfl rfl dX2_copyFrom_37 (fun t37 H lc M38 X39 => ?_)
  have I40 := Inv_mu I31 M38 (R_any v33)
  have F41 : Fr [(94, 0), (94, 1), (94, 2), (94, 3), (94, 4)] [95, 96, 97, 98, 299, 300] τ t37 := Fr_mu F32 M38 (by decide)
  refine r_aload_n S dX2_copyFrom_40 rfl (lv_at hl 1 rfl) ?_
  refine r_get (K := 4) (v := .ref (G.2.2.2.1 24)) S X39 (Nat.le_of_ble_eq_true rfl) rfl lk2_9_2 (fun _ => ⟨_, rfl, rfl⟩) dX2_copyFrom_41 ?_
  refine r_iconst S dX2_copyFrom_44 (by decide) (fun v42 z43 => ?_)
  have r44 := R_eq z43
  refine r_aload_n S dX2_copyFrom_45 rfl (lv_at hl 0 rfl) ?_
  refine r_get (K := 4) (v := .ref (G.2.2.2.1 95)) S X39 (Nat.le_of_ble_eq_true rfl) rfl lk2_9_2 (fun _ => ⟨_, rfl, rfl⟩) dX2_copyFrom_46 ?_
  refine r_iconst S dX2_copyFrom_49 (by decide) (fun v45 z46 => ?_)
  have r47 := R_eq z46
  refine r_aload_n S dX2_copyFrom_50 rfl (lv_at hl 0 rfl) ?_
  refine r_get (K := 4) (v := .ref (G.2.2.2.1 95)) S X39 (Nat.le_of_ble_eq_true rfl) rfl lk2_9_2 (fun _ => ⟨_, rfl, rfl⟩) dX2_copyFrom_51 ?_
  refine r_alen (x := (0, .inl fun _ => 0)) (n := 10) (K := 5) (t0 := 0) S X39 (Nat.le_of_ble_eq_true rfl) rfl (fun _ => ⟨_, rfl⟩) rfl (by decide) dX2_copyFrom_54 (fun v48 z49 => ?_)
  have r50 := R_eq z49
  refine r_copy (K2 := 5) (n := 10) (K := 5) S X39 (Nat.le_of_ble_eq_true rfl) rfl (Nat.le_of_ble_eq_true rfl) rfl (fun _ _ _ => rfl) (fun _ _ _ => rfl) hl.1 kw9 kw10 kw11 kw12 (by omega) (by omega) (by omega) ⟨Nat.le_of_ble_eq_true rfl, by decide⟩ dX2_copyFrom_55 (fun t52 H lc C53 X51 => ?_)
  have I54 := Inv_cp (K := 5) (K2 := 5) I40 C53 rfl rfl (fun _ _ h => h)
  have F55 : Fr [(94, 0), (94, 1), (94, 2), (94, 3), (94, 4)] [95, 96, 97, 98, 299, 300] τ t52 := Fr_cp F41 C53 (by decide)
  refine r_aload_n S dX2_copyFrom_58 rfl (lv_at hl 1 rfl) ?_
  refine r_get (K := 4) (v := .ref (G.2.2.2.1 25)) S X51 (Nat.le_of_ble_eq_true rfl) rfl lk2_15_2 (fun _ => ⟨_, rfl, rfl⟩) dX2_copyFrom_59 ?_
  refine r_iconst S dX2_copyFrom_62 (by decide) (fun v56 z57 => ?_)
  have r58 := R_eq z57
  refine r_aload_n S dX2_copyFrom_63 rfl (lv_at hl 0 rfl) ?_
  refine r_get (K := 4) (v := .ref (G.2.2.2.1 96)) S X51 (Nat.le_of_ble_eq_true rfl) rfl lk2_15_2 (fun _ => ⟨_, rfl, rfl⟩) dX2_copyFrom_64 ?_
  refine r_iconst S dX2_copyFrom_67 (by decide) (fun v59 z60 => ?_)
  have r61 := R_eq z60
  refine r_aload_n S dX2_copyFrom_68 rfl (lv_at hl 0 rfl) ?_
  refine r_get (K := 4) (v := .ref (G.2.2.2.1 96)) S X51 (Nat.le_of_ble_eq_true rfl) rfl lk2_15_2 (fun _ => ⟨_, rfl, rfl⟩) dX2_copyFrom_69 ?_
  refine r_alen (x := (0, .inl fun _ => 0)) (n := 10) (K := 6) (t0 := 0) S X51 (Nat.le_of_ble_eq_true rfl) rfl (fun _ => ⟨_, rfl⟩) rfl (by decide) dX2_copyFrom_72 (fun v62 z63 => ?_)
  have r64 := R_eq z63
  refine r_copy (K2 := 6) (n := 10) (K := 6) S X51 (Nat.le_of_ble_eq_true rfl) rfl (Nat.le_of_ble_eq_true rfl) rfl (fun _ _ _ => rfl) (fun _ _ _ => rfl) hl.1 kw9 kw10 kw11 kw12 (by omega) (by omega) (by omega) ⟨Nat.le_of_ble_eq_true rfl, by decide⟩ dX2_copyFrom_73 (fun t66 H lc C67 X65 => ?_)
  have I68 := Inv_cp (K := 6) (K2 := 6) I54 C67 rfl rfl (fun _ _ h => h)
  have F69 : Fr [(94, 0), (94, 1), (94, 2), (94, 3), (94, 4)] [95, 96, 97, 98, 299, 300] τ t66 := Fr_cp F55 C67 (by decide)
  refine r_aload_n S dX2_copyFrom_76 rfl (lv_at hl 1 rfl) ?_
  refine r_get (K := 4) (v := .ref (G.2.2.2.1 26)) S X65 (Nat.le_of_ble_eq_true rfl) rfl lk2_18_2 (fun _ => ⟨_, rfl, rfl⟩) dX2_copyFrom_77 ?_
  refine r_iconst S dX2_copyFrom_80 (by decide) (fun v70 z71 => ?_)
  have r72 := R_eq z71
  refine r_aload_n S dX2_copyFrom_81 rfl (lv_at hl 0 rfl) ?_
  refine r_get (K := 4) (v := .ref (G.2.2.2.1 97)) S X65 (Nat.le_of_ble_eq_true rfl) rfl lk2_18_2 (fun _ => ⟨_, rfl, rfl⟩) dX2_copyFrom_82 ?_
  refine r_iconst S dX2_copyFrom_85 (by decide) (fun v73 z74 => ?_)
  have r75 := R_eq z74
  refine r_aload_n S dX2_copyFrom_86 rfl (lv_at hl 0 rfl) ?_
  refine r_get (K := 4) (v := .ref (G.2.2.2.1 97)) S X65 (Nat.le_of_ble_eq_true rfl) rfl lk2_18_2 (fun _ => ⟨_, rfl, rfl⟩) dX2_copyFrom_87 ?_
  refine r_alen (x := (0, .inl fun _ => 0)) (n := 10) (K := 7) (t0 := 0) S X65 (Nat.le_of_ble_eq_true rfl) rfl (fun _ => ⟨_, rfl⟩) rfl (by decide) dX2_copyFrom_90 (fun v76 z77 => ?_)
  have r78 := R_eq z77
  refine r_copy (K2 := 7) (n := 10) (K := 7) S X65 (Nat.le_of_ble_eq_true rfl) rfl (Nat.le_of_ble_eq_true rfl) rfl (fun _ _ _ => rfl) (fun _ _ _ => rfl) hl.1 kw9 kw10 kw11 kw12 (by omega) (by omega) (by omega) ⟨Nat.le_of_ble_eq_true rfl, by decide⟩ dX2_copyFrom_91 (fun t80 H lc C81 X79 => ?_)
  have I82 := Inv_cp (K := 7) (K2 := 7) I68 C81 rfl rfl (fun _ _ h => h)
  have F83 : Fr [(94, 0), (94, 1), (94, 2), (94, 3), (94, 4)] [95, 96, 97, 98, 299, 300] τ t80 := Fr_cp F69 C81 (by decide)
  refine r_aload_n S dX2_copyFrom_94 rfl (lv_at hl 1 rfl) ?_
  refine r_get (K := 4) (v := .ref (G.2.2.2.1 27)) S X79 (Nat.le_of_ble_eq_true rfl) rfl lk2_21_2 (fun _ => ⟨_, rfl, rfl⟩) dX2_copyFrom_95 ?_
  refine r_iconst S dX2_copyFrom_98 (by decide) (fun v84 z85 => ?_)
  have r86 := R_eq z85
  refine r_aload_n S dX2_copyFrom_99 rfl (lv_at hl 0 rfl) ?_
  refine r_get (K := 4) (v := .ref (G.2.2.2.1 98)) S X79 (Nat.le_of_ble_eq_true rfl) rfl lk2_21_2 (fun _ => ⟨_, rfl, rfl⟩) dX2_copyFrom_100 ?_
  refine r_iconst S dX2_copyFrom_103 (by decide) (fun v87 z88 => ?_)
  have r89 := R_eq z88
  refine r_aload_n S dX2_copyFrom_104 rfl (lv_at hl 0 rfl) ?_
  refine r_get (K := 4) (v := .ref (G.2.2.2.1 98)) S X79 (Nat.le_of_ble_eq_true rfl) rfl lk2_21_2 (fun _ => ⟨_, rfl, rfl⟩) dX2_copyFrom_105 ?_
  refine r_alen (x := (0, .inl fun _ => 0)) (n := 90) (K := 8) (t0 := 0) S X79 (Nat.le_of_ble_eq_true rfl) rfl (fun _ => ⟨_, rfl⟩) rfl (by decide) dX2_copyFrom_108 (fun v90 z91 => ?_)
  have r92 := R_eq z91
  refine r_copy (K2 := 8) (n := 90) (K := 8) S X79 (Nat.le_of_ble_eq_true rfl) rfl (Nat.le_of_ble_eq_true rfl) rfl (fun _ _ _ => rfl) (fun _ _ _ => rfl) hl.1 kw9 kw10 kw11 kw12 (by omega) (by omega) (by omega) ⟨Nat.le_of_ble_eq_true rfl, by decide⟩ dX2_copyFrom_109 (fun t94 H lc C95 X93 => ?_)
  have I96 := Inv_cp (K := 8) (K2 := 8) I82 C95 rfl rfl (fun _ _ h => h)
  have F97 : Fr [(94, 0), (94, 1), (94, 2), (94, 3), (94, 4)] [95, 96, 97, 98, 299, 300] τ t94 := Fr_cp F83 C95 (by decide)
  refine r_aload_n S dX2_copyFrom_112 rfl (lv_at hl 1 rfl) ?_
  refine r_get (K := 4) (v := .ref (G.2.2.2.1 28)) S X93 (Nat.le_of_ble_eq_true rfl) rfl lk2_24_2 (fun _ => ⟨_, rfl, rfl⟩) dX2_copyFrom_113 ?_
  refine r_iconst S dX2_copyFrom_116 (by decide) (fun v98 z99 => ?_)
  have r100 := R_eq z99
  refine r_aload_n S dX2_copyFrom_117 rfl (lv_at hl 0 rfl) ?_
  refine r_get (K := 4) (v := .ref (G.2.2.2.1 99)) S X93 (Nat.le_of_ble_eq_true rfl) rfl lk2_24_2 (fun _ => ⟨_, rfl, rfl⟩) dX2_copyFrom_118 ?_
  refine r_iconst S dX2_copyFrom_121 (by decide) (fun v101 z102 => ?_)
  have r103 := R_eq z102
  refine r_aload_n S dX2_copyFrom_122 rfl (lv_at hl 0 rfl) ?_
  refine r_get (K := 4) (v := .ref (G.2.2.2.1 99)) S X93 (Nat.le_of_ble_eq_true rfl) rfl lk2_24_2 (fun _ => ⟨_, rfl, rfl⟩) dX2_copyFrom_123 ?_
  refine r_alen (x := (0, .inl fun _ => 0)) (n := 9) (K := 9) (t0 := 1) S X93 (Nat.le_of_ble_eq_true rfl) rfl (fun _ => ⟨_, rfl⟩) rfl (by decide) dX2_copyFrom_126 (fun v104 z105 => ?_)
  have r106 := R_eq z105
  refine r_copyJ (n := 9) (K := 9) S X93 (Nat.le_of_ble_eq_true rfl) rfl (Nat.le_of_ble_eq_true rfl) rfl (fun _ _ _ => rfl) hl.1 kw9 kw10 kw11 kw12 (by omega) (by omega) (by omega) ⟨Nat.le_of_ble_eq_true rfl, by decide⟩ dX2_copyFrom_127 (fun t108 H lc M109 X107 => ?_)
  have I110 := Inv_ml I96 M109
  have F111 : Fr [(94, 0), (94, 1), (94, 2), (94, 3), (94, 4)] [95, 96, 97, 98, 299, 300] τ t108 := Fr_ml F97 M109 (by decide)
  refine r_aload_n S dX2_copyFrom_130 rfl (lv_at hl 1 rfl) ?_
  refine r_get (K := 4) (v := .ref (G.2.2.2.1 29)) S X107 (Nat.le_of_ble_eq_true rfl) rfl lk2_28_2 (fun _ => ⟨_, rfl, rfl⟩) dX2_copyFrom_131 ?_
  refine r_iconst S dX2_copyFrom_134 (by decide) (fun v112 z113 => ?_)
  have r114 := R_eq z113
  refine r_aload_n S dX2_copyFrom_135 rfl (lv_at hl 0 rfl) ?_
  refine r_get (K := 4) (v := .ref (G.2.2.2.1 100)) S X107 (Nat.le_of_ble_eq_true rfl) rfl lk2_28_2 (fun _ => ⟨_, rfl, rfl⟩) dX2_copyFrom_136 ?_
  refine r_iconst S dX2_copyFrom_139 (by decide) (fun v115 z116 => ?_)
  have r117 := R_eq z116
  refine r_aload_n S dX2_copyFrom_140 rfl (lv_at hl 0 rfl) ?_
  refine r_get (K := 4) (v := .ref (G.2.2.2.1 100)) S X107 (Nat.le_of_ble_eq_true rfl) rfl lk2_28_2 (fun _ => ⟨_, rfl, rfl⟩) dX2_copyFrom_141 ?_
  refine r_alen (x := (0, .inl fun _ => 0)) (n := 10) (K := 10) (t0 := 1) S X107 (Nat.le_of_ble_eq_true rfl) rfl (fun _ => ⟨_, rfl⟩) rfl (by decide) dX2_copyFrom_144 (fun v118 z119 => ?_)
  have r120 := R_eq z119
  refine r_copyJ (n := 10) (K := 10) S X107 (Nat.le_of_ble_eq_true rfl) rfl (Nat.le_of_ble_eq_true rfl) rfl (fun _ _ _ => rfl) hl.1 kw9 kw10 kw11 kw12 (by omega) (by omega) (by omega) ⟨Nat.le_of_ble_eq_true rfl, by decide⟩ dX2_copyFrom_145 (fun t122 H lc M123 X121 => ?_)
  have I124 := Inv_ml I110 M123
  have F125 : Fr [(94, 0), (94, 1), (94, 2), (94, 3), (94, 4)] [95, 96, 97, 98, 299, 300] τ t122 := Fr_ml F111 M123 (by decide)
  exact r_vret S hr hlk X121 ⟨I124, F125, (((M123.1 94 (by decide) 2).trans ((M109.1 94 (by decide) 2).trans ((C95.1 94 (by decide) 2).trans ((C81.1 94 (by decide) 2).trans ((C67.1 94 (by decide) 2).trans ((C53.1 94 (by decide) 2).trans ((M38.2 94 2 (Or.inr (by decide))).trans ((M29.2 94 2 (Or.inr (by decide))).trans M21.1)))))))).trans (((M13.2 23 2 (Or.inl (by decide))).trans ((M5.2 23 2 (Or.inl (by decide))).trans rfl)).symm.trans z18).symm), (((M123.1 94 (by decide) 0).trans ((M109.1 94 (by decide) 0).trans ((C95.1 94 (by decide) 0).trans ((C81.1 94 (by decide) 0).trans ((C67.1 94 (by decide) 0).trans ((C53.1 94 (by decide) 0).trans ((M38.2 94 0 (Or.inr (by decide))).trans ((M29.2 94 0 (Or.inr (by decide))).trans ((M21.2 94 0 (Or.inr (by decide))).trans ((M13.2 94 0 (Or.inr (by decide))).trans M5.1)))))))))).trans (rfl.symm.trans z2).symm), (((M123.1 94 (by decide) 1).trans ((M109.1 94 (by decide) 1).trans ((C95.1 94 (by decide) 1).trans ((C81.1 94 (by decide) 1).trans ((C67.1 94 (by decide) 1).trans ((C53.1 94 (by decide) 1).trans ((M38.2 94 1 (Or.inr (by decide))).trans ((M29.2 94 1 (Or.inr (by decide))).trans ((M21.2 94 1 (Or.inr (by decide))).trans M13.1))))))))).trans (((M5.2 23 1 (Or.inl (by decide))).trans rfl).symm.trans z10).symm), (((M123.1 94 (by decide) 3).trans ((M109.1 94 (by decide) 3).trans ((C95.1 94 (by decide) 3).trans ((C81.1 94 (by decide) 3).trans ((C67.1 94 (by decide) 3).trans ((C53.1 94 (by decide) 3).trans ((M38.2 94 3 (Or.inr (by decide))).trans M29.1))))))).trans (((M21.2 23 3 (Or.inl (by decide))).trans ((M13.2 23 3 (Or.inl (by decide))).trans ((M5.2 23 3 (Or.inl (by decide))).trans rfl))).symm.trans z26).symm), (((M123.1 94 (by decide) 4).trans ((M109.1 94 (by decide) 4).trans ((C95.1 94 (by decide) 4).trans ((C81.1 94 (by decide) 4).trans ((C67.1 94 (by decide) 4).trans ((C53.1 94 (by decide) 4).trans M38.1)))))).trans (((M29.2 23 4 (Or.inl (by decide))).trans ((M21.2 23 4 (Or.inl (by decide))).trans ((M13.2 23 4 (Or.inl (by decide))).trans ((M5.2 23 4 (Or.inl (by decide))).trans rfl)))).symm.trans z34).symm), ⟨(fun j hj => ((qof_of (k := 99) (fun j => ((M123.1 299 (by decide) j).trans rfl)) j).trans (cpy_at M109 hj)).trans (qof_of (k := 28) (fun j => ((C95.1 228 (by decide) j).trans ((C81.1 228 (by decide) j).trans ((C67.1 228 (by decide) j).trans ((C53.1 228 (by decide) j).trans ((M38.2 228 j (Or.inl (by decide))).trans ((M29.2 228 j (Or.inl (by decide))).trans ((M21.2 228 j (Or.inl (by decide))).trans ((M13.2 228 j (Or.inl (by decide))).trans ((M5.2 228 j (Or.inl (by decide))).trans rfl)))))))))) j)), (fun j hj => ((qof_of (k := 100) (fun j => rfl) j).trans (cpy_at M123 hj)).trans (qof_of (k := 29) (fun j => ((M109.1 229 (by decide) j).trans ((C95.1 229 (by decide) j).trans ((C81.1 229 (by decide) j).trans ((C67.1 229 (by decide) j).trans ((C53.1 229 (by decide) j).trans ((M38.2 229 j (Or.inl (by decide))).trans ((M29.2 229 j (Or.inl (by decide))).trans ((M21.2 229 j (Or.inl (by decide))).trans ((M13.2 229 j (Or.inl (by decide))).trans ((M5.2 229 j (Or.inl (by decide))).trans rfl))))))))))) j))⟩⟩ dX2_copyFrom_148
def po_pcopyn_112_23 (τ : Tau)     (u : Tau) : Prop := Inv u ∧ Fr [(112, 0), (112, 1), (112, 2), (112, 3), (112, 4)] [113, 114, 115, 116, 317, 318] τ u ∧ u 112 2 = τ 23 2 ∧ u 112 0 = τ 23 0 ∧ u 112 1 = τ 23 1 ∧ u 112 3 = τ 23 3 ∧ u 112 4 = τ 23 4 ∧ NMq u 117 118 τ 28 29
set_option maxHeartbeats 4000000 in
set_option maxRecDepth 100000 in
theorem c_pcopyn_112_23 (l : Launch) (G : Gx) (τ : Tau) (hI : Inv τ) : Cv l G yX2_copyFrom cX2_copyFrom 2 1 60 [.ref (G.2.2.2.1 112), .ref (G.2.2.2.1 23)] τ (po_pcopyn_112_23 τ    ) := by
  unfold Cv
  refine C_of (own := RX2) (by decide) rfl (Nat.le_of_ble_eq_true rfl) ?_
  intro p e s m below meth c ls S hr hlk X hl
  have hl : lv_has ls 2 [(0, .ref (G.2.2.2.1 112)), (1, .ref (G.2.2.2.1 23))] := hl
  refine r_aload_n S dX2_copyFrom_0 rfl (lv_at hl 0 rfl) ?_
  refine r_aload_n S dX2_copyFrom_1 rfl (lv_at hl 1 rfl) ?_
  refine r_getn (K := 4) S X (Nat.le_of_ble_eq_true rfl) rfl lk2_34_2 (fun _ => ⟨_, rfl, rfl⟩) dX2_copyFrom_2 (fun v1 z2 => ?_)
  have r3 : R (0) (8) v1 := rd hI rfl z2
  refine r_put (K := 4) (ty := .int) S X (Nat.le_of_ble_eq_true rfl) rfl lk2_34_2 (fun _ => ⟨_, rfl, Nat.le_of_ble_eq_true rfl, rfl⟩) (fun _ _ _ h => by cases h; exact ⟨rfl, rfl⟩) rfl rfl dX2_copyFrom_5 (fun t4 H lc M5 X6 => ?_)
  have I7 := Inv_mu hI M5 (show Rg (kd 112) 0 v1 from (R_of (lo := 0) (hi := 8) r3 rfl))
  have F8 : Fr [(112, 0), (112, 1), (112, 2), (112, 3), (112, 4)] [113, 114, 115, 116, 317, 318] τ t4 := Fr_mu Fr_rfl M5 (by decide)
  refine r_aload_n S dX2_copyFrom_8 rfl (lv_at hl 0 rfl) ?_
  refine r_aload_n S dX2_copyFrom_9 rfl (lv_at hl 1 rfl) ?_
  refine r_getn (K := 4) S X6 (Nat.le_of_ble_eq_true rfl) rfl lk2_38_2 (fun _ => ⟨_, rfl, rfl⟩) dX2_copyFrom_10 (fun v9 z10 => ?_)
  have r11 : R (0) (9) v9 := rd I7 rfl z10
  refine r_put (K := 4) (ty := .int) S X6 (Nat.le_of_ble_eq_true rfl) rfl lk2_38_2 (fun _ => ⟨_, rfl, Nat.le_of_ble_eq_true rfl, rfl⟩) (fun _ _ _ h => by cases h; exact ⟨rfl, rfl⟩) rfl rfl dX2_copyFrom_13 (fun t12 H lc M13 X14 => ?_)
  have I15 := Inv_mu I7 M13 (show Rg (kd 112) 1 v9 from (R_of (lo := 0) (hi := 9) r11 rfl))
  have F16 : Fr [(112, 0), (112, 1), (112, 2), (112, 3), (112, 4)] [113, 114, 115, 116, 317, 318] τ t12 := Fr_mu F8 M13 (by decide)
  refine r_aload_n S dX2_copyFrom_16 rfl (lv_at hl 0 rfl) ?_
  refine r_aload_n S dX2_copyFrom_17 rfl (lv_at hl 1 rfl) ?_
  refine r_getn (K := 4) S X14 (Nat.le_of_ble_eq_true rfl) rfl lk2_41_2 (fun _ => ⟨_, rfl, rfl⟩) dX2_copyFrom_18 (fun v17 z18 => ?_)
  have r19 : R (0) (9) v17 := rd I15 rfl z18
  refine r_put (K := 4) (ty := .int) S X14 (Nat.le_of_ble_eq_true rfl) rfl lk2_41_2 (fun _ => ⟨_, rfl, Nat.le_of_ble_eq_true rfl, rfl⟩) (fun _ _ _ h => by cases h; exact ⟨rfl, rfl⟩) rfl rfl dX2_copyFrom_21 (fun t20 H lc M21 X22 => ?_)
  have I23 := Inv_mu I15 M21 (show Rg (kd 112) 2 v17 from (R_of (lo := 0) (hi := 9) r19 rfl))
  have F24 : Fr [(112, 0), (112, 1), (112, 2), (112, 3), (112, 4)] [113, 114, 115, 116, 317, 318] τ t20 := Fr_mu F16 M21 (by decide)
  refine r_aload_n S dX2_copyFrom_24 rfl (lv_at hl 0 rfl) ?_
  refine r_aload_n S dX2_copyFrom_25 rfl (lv_at hl 1 rfl) ?_
  refine r_getn (K := 4) S X22 (Nat.le_of_ble_eq_true rfl) rfl lk2_44_2 (fun _ => ⟨_, rfl, rfl⟩) dX2_copyFrom_26 (fun v25 z26 => ?_)
  have r27 : R (0) (10) v25 := rd I23 rfl z26
  refine r_put (K := 4) (ty := .int) S X22 (Nat.le_of_ble_eq_true rfl) rfl lk2_44_2 (fun _ => ⟨_, rfl, Nat.le_of_ble_eq_true rfl, rfl⟩) (fun _ _ _ h => by cases h; exact ⟨rfl, rfl⟩) rfl rfl dX2_copyFrom_29 (fun t28 H lc M29 X30 => ?_)
  have I31 := Inv_mu I23 M29 (show Rg (kd 112) 3 v25 from (R_of (lo := 0) (hi := 10) r27 rfl))
  have F32 : Fr [(112, 0), (112, 1), (112, 2), (112, 3), (112, 4)] [113, 114, 115, 116, 317, 318] τ t28 := Fr_mu F24 M29 (by decide)
  refine r_aload_n S dX2_copyFrom_32 rfl (lv_at hl 0 rfl) ?_
  refine r_aload_n S dX2_copyFrom_33 rfl (lv_at hl 1 rfl) ?_
  refine r_getn (K := 4) S X30 (Nat.le_of_ble_eq_true rfl) rfl lk2_47_2 (fun _ => ⟨_, rfl, rfl⟩) dX2_copyFrom_34 (fun v33 z34 => ?_)
  have r36 := R_any v33
  refine r_put (K := 4) (ty := .int) S X30 (Nat.le_of_ble_eq_true rfl) rfl lk2_47_2 (fun _ => ⟨_, rfl, Nat.le_of_ble_eq_true rfl, rfl⟩) (fun _ _ _ h => by cases h; exact ⟨rfl, rfl⟩) rfl rfl dX2_copyFrom_37 (fun t37 H lc M38 X39 => ?_)
  have I40 := Inv_mu I31 M38 (R_any v33)
  have F41 : Fr [(112, 0), (112, 1), (112, 2), (112, 3), (112, 4)] [113, 114, 115, 116, 317, 318] τ t37 := Fr_mu F32 M38 (by decide)
  refine r_aload_n S dX2_copyFrom_40 rfl (lv_at hl 1 rfl) ?_
  refine r_get (K := 4) (v := .ref (G.2.2.2.1 24)) S X39 (Nat.le_of_ble_eq_true rfl) rfl lk2_9_2 (fun _ => ⟨_, rfl, rfl⟩) dX2_copyFrom_41 ?_
  refine r_iconst S dX2_copyFrom_44 (by decide) (fun v42 z43 => ?_)
  have r44 := R_eq z43
  refine r_aload_n S dX2_copyFrom_45 rfl (lv_at hl 0 rfl) ?_
  refine r_get (K := 4) (v := .ref (G.2.2.2.1 113)) S X39 (Nat.le_of_ble_eq_true rfl) rfl lk2_9_2 (fun _ => ⟨_, rfl, rfl⟩) dX2_copyFrom_46 ?_
  refine r_iconst S dX2_copyFrom_49 (by decide) (fun v45 z46 => ?_)
  have r47 := R_eq z46
  refine r_aload_n S dX2_copyFrom_50 rfl (lv_at hl 0 rfl) ?_
  refine r_get (K := 4) (v := .ref (G.2.2.2.1 113)) S X39 (Nat.le_of_ble_eq_true rfl) rfl lk2_9_2 (fun _ => ⟨_, rfl, rfl⟩) dX2_copyFrom_51 ?_
  refine r_alen (x := (0, .inl fun _ => 0)) (n := 10) (K := 5) (t0 := 0) S X39 (Nat.le_of_ble_eq_true rfl) rfl (fun _ => ⟨_, rfl⟩) rfl (by decide) dX2_copyFrom_54 (fun v48 z49 => ?_)
  have r50 := R_eq z49
  refine r_copy (K2 := 5) (n := 10) (K := 5) S X39 (Nat.le_of_ble_eq_true rfl) rfl (Nat.le_of_ble_eq_true rfl) rfl (fun _ _ _ => rfl) (fun _ _ _ => rfl) hl.1 kw9 kw10 kw11 kw12 (by omega) (by omega) (by omega) ⟨Nat.le_of_ble_eq_true rfl, by decide⟩ dX2_copyFrom_55 (fun t52 H lc C53 X51 => ?_)
  have I54 := Inv_cp (K := 5) (K2 := 5) I40 C53 rfl rfl (fun _ _ h => h)
  have F55 : Fr [(112, 0), (112, 1), (112, 2), (112, 3), (112, 4)] [113, 114, 115, 116, 317, 318] τ t52 := Fr_cp F41 C53 (by decide)
  refine r_aload_n S dX2_copyFrom_58 rfl (lv_at hl 1 rfl) ?_
  refine r_get (K := 4) (v := .ref (G.2.2.2.1 25)) S X51 (Nat.le_of_ble_eq_true rfl) rfl lk2_15_2 (fun _ => ⟨_, rfl, rfl⟩) dX2_copyFrom_59 ?_
  refine r_iconst S dX2_copyFrom_62 (by decide) (fun v56 z57 => ?_)
  have r58 := R_eq z57
  refine r_aload_n S dX2_copyFrom_63 rfl (lv_at hl 0 rfl) ?_
  refine r_get (K := 4) (v := .ref (G.2.2.2.1 114)) S X51 (Nat.le_of_ble_eq_true rfl) rfl lk2_15_2 (fun _ => ⟨_, rfl, rfl⟩) dX2_copyFrom_64 ?_
  refine r_iconst S dX2_copyFrom_67 (by decide) (fun v59 z60 => ?_)
  have r61 := R_eq z60
  refine r_aload_n S dX2_copyFrom_68 rfl (lv_at hl 0 rfl) ?_
  refine r_get (K := 4) (v := .ref (G.2.2.2.1 114)) S X51 (Nat.le_of_ble_eq_true rfl) rfl lk2_15_2 (fun _ => ⟨_, rfl, rfl⟩) dX2_copyFrom_69 ?_
  refine r_alen (x := (0, .inl fun _ => 0)) (n := 10) (K := 6) (t0 := 0) S X51 (Nat.le_of_ble_eq_true rfl) rfl (fun _ => ⟨_, rfl⟩) rfl (by decide) dX2_copyFrom_72 (fun v62 z63 => ?_)
  have r64 := R_eq z63
  refine r_copy (K2 := 6) (n := 10) (K := 6) S X51 (Nat.le_of_ble_eq_true rfl) rfl (Nat.le_of_ble_eq_true rfl) rfl (fun _ _ _ => rfl) (fun _ _ _ => rfl) hl.1 kw9 kw10 kw11 kw12 (by omega) (by omega) (by omega) ⟨Nat.le_of_ble_eq_true rfl, by decide⟩ dX2_copyFrom_73 (fun t66 H lc C67 X65 => ?_)
  have I68 := Inv_cp (K := 6) (K2 := 6) I54 C67 rfl rfl (fun _ _ h => h)
  have F69 : Fr [(112, 0), (112, 1), (112, 2), (112, 3), (112, 4)] [113, 114, 115, 116, 317, 318] τ t66 := Fr_cp F55 C67 (by decide)
  refine r_aload_n S dX2_copyFrom_76 rfl (lv_at hl 1 rfl) ?_
  refine r_get (K := 4) (v := .ref (G.2.2.2.1 26)) S X65 (Nat.le_of_ble_eq_true rfl) rfl lk2_18_2 (fun _ => ⟨_, rfl, rfl⟩) dX2_copyFrom_77 ?_
  refine r_iconst S dX2_copyFrom_80 (by decide) (fun v70 z71 => ?_)
  have r72 := R_eq z71
  refine r_aload_n S dX2_copyFrom_81 rfl (lv_at hl 0 rfl) ?_
  refine r_get (K := 4) (v := .ref (G.2.2.2.1 115)) S X65 (Nat.le_of_ble_eq_true rfl) rfl lk2_18_2 (fun _ => ⟨_, rfl, rfl⟩) dX2_copyFrom_82 ?_
  refine r_iconst S dX2_copyFrom_85 (by decide) (fun v73 z74 => ?_)
  have r75 := R_eq z74
  refine r_aload_n S dX2_copyFrom_86 rfl (lv_at hl 0 rfl) ?_
  refine r_get (K := 4) (v := .ref (G.2.2.2.1 115)) S X65 (Nat.le_of_ble_eq_true rfl) rfl lk2_18_2 (fun _ => ⟨_, rfl, rfl⟩) dX2_copyFrom_87 ?_
  refine r_alen (x := (0, .inl fun _ => 0)) (n := 10) (K := 7) (t0 := 0) S X65 (Nat.le_of_ble_eq_true rfl) rfl (fun _ => ⟨_, rfl⟩) rfl (by decide) dX2_copyFrom_90 (fun v76 z77 => ?_)
  have r78 := R_eq z77
  refine r_copy (K2 := 7) (n := 10) (K := 7) S X65 (Nat.le_of_ble_eq_true rfl) rfl (Nat.le_of_ble_eq_true rfl) rfl (fun _ _ _ => rfl) (fun _ _ _ => rfl) hl.1 kw9 kw10 kw11 kw12 (by omega) (by omega) (by omega) ⟨Nat.le_of_ble_eq_true rfl, by decide⟩ dX2_copyFrom_91 (fun t80 H lc C81 X79 => ?_)
  have I82 := Inv_cp (K := 7) (K2 := 7) I68 C81 rfl rfl (fun _ _ h => h)
  have F83 : Fr [(112, 0), (112, 1), (112, 2), (112, 3), (112, 4)] [113, 114, 115, 116, 317, 318] τ t80 := Fr_cp F69 C81 (by decide)
  refine r_aload_n S dX2_copyFrom_94 rfl (lv_at hl 1 rfl) ?_
  refine r_get (K := 4) (v := .ref (G.2.2.2.1 27)) S X79 (Nat.le_of_ble_eq_true rfl) rfl lk2_21_2 (fun _ => ⟨_, rfl, rfl⟩) dX2_copyFrom_95 ?_
  refine r_iconst S dX2_copyFrom_98 (by decide) (fun v84 z85 => ?_)
  have r86 := R_eq z85
  refine r_aload_n S dX2_copyFrom_99 rfl (lv_at hl 0 rfl) ?_
  refine r_get (K := 4) (v := .ref (G.2.2.2.1 116)) S X79 (Nat.le_of_ble_eq_true rfl) rfl lk2_21_2 (fun _ => ⟨_, rfl, rfl⟩) dX2_copyFrom_100 ?_
  refine r_iconst S dX2_copyFrom_103 (by decide) (fun v87 z88 => ?_)
  have r89 := R_eq z88
  refine r_aload_n S dX2_copyFrom_104 rfl (lv_at hl 0 rfl) ?_
  refine r_get (K := 4) (v := .ref (G.2.2.2.1 116)) S X79 (Nat.le_of_ble_eq_true rfl) rfl lk2_21_2 (fun _ => ⟨_, rfl, rfl⟩) dX2_copyFrom_105 ?_
  refine r_alen (x := (0, .inl fun _ => 0)) (n := 90) (K := 8) (t0 := 0) S X79 (Nat.le_of_ble_eq_true rfl) rfl (fun _ => ⟨_, rfl⟩) rfl (by decide) dX2_copyFrom_108 (fun v90 z91 => ?_)
  have r92 := R_eq z91
  refine r_copy (K2 := 8) (n := 90) (K := 8) S X79 (Nat.le_of_ble_eq_true rfl) rfl (Nat.le_of_ble_eq_true rfl) rfl (fun _ _ _ => rfl) (fun _ _ _ => rfl) hl.1 kw9 kw10 kw11 kw12 (by omega) (by omega) (by omega) ⟨Nat.le_of_ble_eq_true rfl, by decide⟩ dX2_copyFrom_109 (fun t94 H lc C95 X93 => ?_)
  have I96 := Inv_cp (K := 8) (K2 := 8) I82 C95 rfl rfl (fun _ _ h => h)
  have F97 : Fr [(112, 0), (112, 1), (112, 2), (112, 3), (112, 4)] [113, 114, 115, 116, 317, 318] τ t94 := Fr_cp F83 C95 (by decide)
  refine r_aload_n S dX2_copyFrom_112 rfl (lv_at hl 1 rfl) ?_
  refine r_get (K := 4) (v := .ref (G.2.2.2.1 28)) S X93 (Nat.le_of_ble_eq_true rfl) rfl lk2_24_2 (fun _ => ⟨_, rfl, rfl⟩) dX2_copyFrom_113 ?_
  refine r_iconst S dX2_copyFrom_116 (by decide) (fun v98 z99 => ?_)
  have r100 := R_eq z99
  refine r_aload_n S dX2_copyFrom_117 rfl (lv_at hl 0 rfl) ?_
  refine r_get (K := 4) (v := .ref (G.2.2.2.1 117)) S X93 (Nat.le_of_ble_eq_true rfl) rfl lk2_24_2 (fun _ => ⟨_, rfl, rfl⟩) dX2_copyFrom_118 ?_
  refine r_iconst S dX2_copyFrom_121 (by decide) (fun v101 z102 => ?_)
  have r103 := R_eq z102
  refine r_aload_n S dX2_copyFrom_122 rfl (lv_at hl 0 rfl) ?_
  refine r_get (K := 4) (v := .ref (G.2.2.2.1 117)) S X93 (Nat.le_of_ble_eq_true rfl) rfl lk2_24_2 (fun _ => ⟨_, rfl, rfl⟩) dX2_copyFrom_123 ?_
  refine r_alen (x := (0, .inl fun _ => 0)) (n := 9) (K := 9) (t0 := 1) S X93 (Nat.le_of_ble_eq_true rfl) rfl (fun _ => ⟨_, rfl⟩) rfl (by decide) dX2_copyFrom_126 (fun v104 z105 => ?_)
  have r106 := R_eq z105
  refine r_copyJ (n := 9) (K := 9) S X93 (Nat.le_of_ble_eq_true rfl) rfl (Nat.le_of_ble_eq_true rfl) rfl (fun _ _ _ => rfl) hl.1 kw9 kw10 kw11 kw12 (by omega) (by omega) (by omega) ⟨Nat.le_of_ble_eq_true rfl, by decide⟩ dX2_copyFrom_127 (fun t108 H lc M109 X107 => ?_)
  have I110 := Inv_ml I96 M109
  have F111 : Fr [(112, 0), (112, 1), (112, 2), (112, 3), (112, 4)] [113, 114, 115, 116, 317, 318] τ t108 := Fr_ml F97 M109 (by decide)
  refine r_aload_n S dX2_copyFrom_130 rfl (lv_at hl 1 rfl) ?_
  refine r_get (K := 4) (v := .ref (G.2.2.2.1 29)) S X107 (Nat.le_of_ble_eq_true rfl) rfl lk2_28_2 (fun _ => ⟨_, rfl, rfl⟩) dX2_copyFrom_131 ?_
  refine r_iconst S dX2_copyFrom_134 (by decide) (fun v112 z113 => ?_)
  have r114 := R_eq z113
  refine r_aload_n S dX2_copyFrom_135 rfl (lv_at hl 0 rfl) ?_
  refine r_get (K := 4) (v := .ref (G.2.2.2.1 118)) S X107 (Nat.le_of_ble_eq_true rfl) rfl lk2_28_2 (fun _ => ⟨_, rfl, rfl⟩) dX2_copyFrom_136 ?_
  refine r_iconst S dX2_copyFrom_139 (by decide) (fun v115 z116 => ?_)
  have r117 := R_eq z116
  refine r_aload_n S dX2_copyFrom_140 rfl (lv_at hl 0 rfl) ?_
  refine r_get (K := 4) (v := .ref (G.2.2.2.1 118)) S X107 (Nat.le_of_ble_eq_true rfl) rfl lk2_28_2 (fun _ => ⟨_, rfl, rfl⟩) dX2_copyFrom_141 ?_
  refine r_alen (x := (0, .inl fun _ => 0)) (n := 10) (K := 10) (t0 := 1) S X107 (Nat.le_of_ble_eq_true rfl) rfl (fun _ => ⟨_, rfl⟩) rfl (by decide) dX2_copyFrom_144 (fun v118 z119 => ?_)
  have r120 := R_eq z119
  refine r_copyJ (n := 10) (K := 10) S X107 (Nat.le_of_ble_eq_true rfl) rfl (Nat.le_of_ble_eq_true rfl) rfl (fun _ _ _ => rfl) hl.1 kw9 kw10 kw11 kw12 (by omega) (by omega) (by omega) ⟨Nat.le_of_ble_eq_true rfl, by decide⟩ dX2_copyFrom_145 (fun t122 H lc M123 X121 => ?_)
  have I124 := Inv_ml I110 M123
  have F125 : Fr [(112, 0), (112, 1), (112, 2), (112, 3), (112, 4)] [113, 114, 115, 116, 317, 318] τ t122 := Fr_ml F111 M123 (by decide)
  exact r_vret S hr hlk X121 ⟨I124, F125, (((M123.1 112 (by decide) 2).trans ((M109.1 112 (by decide) 2).trans ((C95.1 112 (by decide) 2).trans ((C81.1 112 (by decide) 2).trans ((C67.1 112 (by decide) 2).trans ((C53.1 112 (by decide) 2).trans ((M38.2 112 2 (Or.inr (by decide))).trans ((M29.2 112 2 (Or.inr (by decide))).trans M21.1)))))))).trans (((M13.2 23 2 (Or.inl (by decide))).trans ((M5.2 23 2 (Or.inl (by decide))).trans rfl)).symm.trans z18).symm), (((M123.1 112 (by decide) 0).trans ((M109.1 112 (by decide) 0).trans ((C95.1 112 (by decide) 0).trans ((C81.1 112 (by decide) 0).trans ((C67.1 112 (by decide) 0).trans ((C53.1 112 (by decide) 0).trans ((M38.2 112 0 (Or.inr (by decide))).trans ((M29.2 112 0 (Or.inr (by decide))).trans ((M21.2 112 0 (Or.inr (by decide))).trans ((M13.2 112 0 (Or.inr (by decide))).trans M5.1)))))))))).trans (rfl.symm.trans z2).symm), (((M123.1 112 (by decide) 1).trans ((M109.1 112 (by decide) 1).trans ((C95.1 112 (by decide) 1).trans ((C81.1 112 (by decide) 1).trans ((C67.1 112 (by decide) 1).trans ((C53.1 112 (by decide) 1).trans ((M38.2 112 1 (Or.inr (by decide))).trans ((M29.2 112 1 (Or.inr (by decide))).trans ((M21.2 112 1 (Or.inr (by decide))).trans M13.1))))))))).trans (((M5.2 23 1 (Or.inl (by decide))).trans rfl).symm.trans z10).symm), (((M123.1 112 (by decide) 3).trans ((M109.1 112 (by decide) 3).trans ((C95.1 112 (by decide) 3).trans ((C81.1 112 (by decide) 3).trans ((C67.1 112 (by decide) 3).trans ((C53.1 112 (by decide) 3).trans ((M38.2 112 3 (Or.inr (by decide))).trans M29.1))))))).trans (((M21.2 23 3 (Or.inl (by decide))).trans ((M13.2 23 3 (Or.inl (by decide))).trans ((M5.2 23 3 (Or.inl (by decide))).trans rfl))).symm.trans z26).symm), (((M123.1 112 (by decide) 4).trans ((M109.1 112 (by decide) 4).trans ((C95.1 112 (by decide) 4).trans ((C81.1 112 (by decide) 4).trans ((C67.1 112 (by decide) 4).trans ((C53.1 112 (by decide) 4).trans M38.1)))))).trans (((M29.2 23 4 (Or.inl (by decide))).trans ((M21.2 23 4 (Or.inl (by decide))).trans ((M13.2 23 4 (Or.inl (by decide))).trans ((M5.2 23 4 (Or.inl (by decide))).trans rfl)))).symm.trans z34).symm), ⟨(fun j hj => ((qof_of (k := 117) (fun j => ((M123.1 317 (by decide) j).trans rfl)) j).trans (cpy_at M109 hj)).trans (qof_of (k := 28) (fun j => ((C95.1 228 (by decide) j).trans ((C81.1 228 (by decide) j).trans ((C67.1 228 (by decide) j).trans ((C53.1 228 (by decide) j).trans ((M38.2 228 j (Or.inl (by decide))).trans ((M29.2 228 j (Or.inl (by decide))).trans ((M21.2 228 j (Or.inl (by decide))).trans ((M13.2 228 j (Or.inl (by decide))).trans ((M5.2 228 j (Or.inl (by decide))).trans rfl)))))))))) j)), (fun j hj => ((qof_of (k := 118) (fun j => rfl) j).trans (cpy_at M123 hj)).trans (qof_of (k := 29) (fun j => ((M109.1 229 (by decide) j).trans ((C95.1 229 (by decide) j).trans ((C81.1 229 (by decide) j).trans ((C67.1 229 (by decide) j).trans ((C53.1 229 (by decide) j).trans ((M38.2 229 j (Or.inl (by decide))).trans ((M29.2 229 j (Or.inl (by decide))).trans ((M21.2 229 j (Or.inl (by decide))).trans ((M13.2 229 j (Or.inl (by decide))).trans ((M5.2 229 j (Or.inl (by decide))).trans rfl))))))))))) j))⟩⟩ dX2_copyFrom_148
def po_pcopyn_23_94 (τ : Tau)     (u : Tau) : Prop := Inv u ∧ Fr [(23, 0), (23, 1), (23, 2), (23, 3), (23, 4)] [24, 25, 26, 27, 228, 229] τ u ∧ u 23 2 = τ 94 2 ∧ u 23 0 = τ 94 0 ∧ u 23 1 = τ 94 1 ∧ u 23 3 = τ 94 3 ∧ u 23 4 = τ 94 4 ∧ NMq u 28 29 τ 99 100
set_option maxHeartbeats 4000000 in
set_option maxRecDepth 100000 in
theorem c_pcopyn_23_94 (l : Launch) (G : Gx) (τ : Tau) (hI : Inv τ) : Cv l G yX2_copyFrom cX2_copyFrom 2 1 60 [.ref (G.2.2.2.1 23), .ref (G.2.2.2.1 94)] τ (po_pcopyn_23_94 τ    ) := by
  unfold Cv
  refine C_of (own := RX2) (by decide) rfl (Nat.le_of_ble_eq_true rfl) ?_
  intro p e s m below meth c ls S hr hlk X hl
  have hl : lv_has ls 2 [(0, .ref (G.2.2.2.1 23)), (1, .ref (G.2.2.2.1 94))] := hl
  refine r_aload_n S dX2_copyFrom_0 rfl (lv_at hl 0 rfl) ?_
  refine r_aload_n S dX2_copyFrom_1 rfl (lv_at hl 1 rfl) ?_
  refine r_getn (K := 4) S X (Nat.le_of_ble_eq_true rfl) rfl lk2_34_2 (fun _ => ⟨_, rfl, rfl⟩) dX2_copyFrom_2 (fun v1 z2 => ?_)
  have r3 : R (0) (8) v1 := rd hI rfl z2
  refine r_put (K := 4) (ty := .int) S X (Nat.le_of_ble_eq_true rfl) rfl lk2_34_2 (fun _ => ⟨_, rfl, Nat.le_of_ble_eq_true rfl, rfl⟩) (fun _ _ _ h => by cases h; exact ⟨rfl, rfl⟩) rfl rfl dX2_copyFrom_5 (fun t4 H lc M5 X6 => ?_)
  have I7 := Inv_mu hI M5 (show Rg (kd 23) 0 v1 from (R_of (lo := 0) (hi := 8) r3 rfl))
  have F8 : Fr [(23, 0), (23, 1), (23, 2), (23, 3), (23, 4)] [24, 25, 26, 27, 228, 229] τ t4 := Fr_mu Fr_rfl M5 (by decide)
  refine r_aload_n S dX2_copyFrom_8 rfl (lv_at hl 0 rfl) ?_
  refine r_aload_n S dX2_copyFrom_9 rfl (lv_at hl 1 rfl) ?_
  refine r_getn (K := 4) S X6 (Nat.le_of_ble_eq_true rfl) rfl lk2_38_2 (fun _ => ⟨_, rfl, rfl⟩) dX2_copyFrom_10 (fun v9 z10 => ?_)
  have r11 : R (0) (9) v9 := rd I7 rfl z10
  refine r_put (K := 4) (ty := .int) S X6 (Nat.le_of_ble_eq_true rfl) rfl lk2_38_2 (fun _ => ⟨_, rfl, Nat.le_of_ble_eq_true rfl, rfl⟩) (fun _ _ _ h => by cases h; exact ⟨rfl, rfl⟩) rfl rfl dX2_copyFrom_13 (fun t12 H lc M13 X14 => ?_)
  have I15 := Inv_mu I7 M13 (show Rg (kd 23) 1 v9 from (R_of (lo := 0) (hi := 9) r11 rfl))
  have F16 : Fr [(23, 0), (23, 1), (23, 2), (23, 3), (23, 4)] [24, 25, 26, 27, 228, 229] τ t12 := Fr_mu F8 M13 (by decide)
  refine r_aload_n S dX2_copyFrom_16 rfl (lv_at hl 0 rfl) ?_
  refine r_aload_n S dX2_copyFrom_17 rfl (lv_at hl 1 rfl) ?_
  refine r_getn (K := 4) S X14 (Nat.le_of_ble_eq_true rfl) rfl lk2_41_2 (fun _ => ⟨_, rfl, rfl⟩) dX2_copyFrom_18 (fun v17 z18 => ?_)
  have r19 : R (0) (9) v17 := rd I15 rfl z18
  refine r_put (K := 4) (ty := .int) S X14 (Nat.le_of_ble_eq_true rfl) rfl lk2_41_2 (fun _ => ⟨_, rfl, Nat.le_of_ble_eq_true rfl, rfl⟩) (fun _ _ _ h => by cases h; exact ⟨rfl, rfl⟩) rfl rfl dX2_copyFrom_21 (fun t20 H lc M21 X22 => ?_)
  have I23 := Inv_mu I15 M21 (show Rg (kd 23) 2 v17 from (R_of (lo := 0) (hi := 9) r19 rfl))
  have F24 : Fr [(23, 0), (23, 1), (23, 2), (23, 3), (23, 4)] [24, 25, 26, 27, 228, 229] τ t20 := Fr_mu F16 M21 (by decide)
  refine r_aload_n S dX2_copyFrom_24 rfl (lv_at hl 0 rfl) ?_
  refine r_aload_n S dX2_copyFrom_25 rfl (lv_at hl 1 rfl) ?_
  refine r_getn (K := 4) S X22 (Nat.le_of_ble_eq_true rfl) rfl lk2_44_2 (fun _ => ⟨_, rfl, rfl⟩) dX2_copyFrom_26 (fun v25 z26 => ?_)
  have r27 : R (0) (10) v25 := rd I23 rfl z26
  refine r_put (K := 4) (ty := .int) S X22 (Nat.le_of_ble_eq_true rfl) rfl lk2_44_2 (fun _ => ⟨_, rfl, Nat.le_of_ble_eq_true rfl, rfl⟩) (fun _ _ _ h => by cases h; exact ⟨rfl, rfl⟩) rfl rfl dX2_copyFrom_29 (fun t28 H lc M29 X30 => ?_)
  have I31 := Inv_mu I23 M29 (show Rg (kd 23) 3 v25 from (R_of (lo := 0) (hi := 10) r27 rfl))
  have F32 : Fr [(23, 0), (23, 1), (23, 2), (23, 3), (23, 4)] [24, 25, 26, 27, 228, 229] τ t28 := Fr_mu F24 M29 (by decide)
  refine r_aload_n S dX2_copyFrom_32 rfl (lv_at hl 0 rfl) ?_
  refine r_aload_n S dX2_copyFrom_33 rfl (lv_at hl 1 rfl) ?_
  refine r_getn (K := 4) S X30 (Nat.le_of_ble_eq_true rfl) rfl lk2_47_2 (fun _ => ⟨_, rfl, rfl⟩) dX2_copyFrom_34 (fun v33 z34 => ?_)
  have r36 := R_any v33
  refine r_put (K := 4) (ty := .int) S X30 (Nat.le_of_ble_eq_true rfl) rfl lk2_47_2 (fun _ => ⟨_, rfl, Nat.le_of_ble_eq_true rfl, rfl⟩) (fun _ _ _ h => by cases h; exact ⟨rfl, rfl⟩) rfl rfl dX2_copyFrom_37 (fun t37 H lc M38 X39 => ?_)
  have I40 := Inv_mu I31 M38 (R_any v33)
  have F41 : Fr [(23, 0), (23, 1), (23, 2), (23, 3), (23, 4)] [24, 25, 26, 27, 228, 229] τ t37 := Fr_mu F32 M38 (by decide)
  refine r_aload_n S dX2_copyFrom_40 rfl (lv_at hl 1 rfl) ?_
  refine r_get (K := 4) (v := .ref (G.2.2.2.1 95)) S X39 (Nat.le_of_ble_eq_true rfl) rfl lk2_9_2 (fun _ => ⟨_, rfl, rfl⟩) dX2_copyFrom_41 ?_
  refine r_iconst S dX2_copyFrom_44 (by decide) (fun v42 z43 => ?_)
  have r44 := R_eq z43
  refine r_aload_n S dX2_copyFrom_45 rfl (lv_at hl 0 rfl) ?_
  refine r_get (K := 4) (v := .ref (G.2.2.2.1 24)) S X39 (Nat.le_of_ble_eq_true rfl) rfl lk2_9_2 (fun _ => ⟨_, rfl, rfl⟩) dX2_copyFrom_46 ?_
  refine r_iconst S dX2_copyFrom_49 (by decide) (fun v45 z46 => ?_)
  have r47 := R_eq z46
  refine r_aload_n S dX2_copyFrom_50 rfl (lv_at hl 0 rfl) ?_
  refine r_get (K := 4) (v := .ref (G.2.2.2.1 24)) S X39 (Nat.le_of_ble_eq_true rfl) rfl lk2_9_2 (fun _ => ⟨_, rfl, rfl⟩) dX2_copyFrom_51 ?_
  refine r_alen (x := (0, .inl fun _ => 0)) (n := 10) (K := 5) (t0 := 0) S X39 (Nat.le_of_ble_eq_true rfl) rfl (fun _ => ⟨_, rfl⟩) rfl (by decide) dX2_copyFrom_54 (fun v48 z49 => ?_)
  have r50 := R_eq z49
  refine r_copy (K2 := 5) (n := 10) (K := 5) S X39 (Nat.le_of_ble_eq_true rfl) rfl (Nat.le_of_ble_eq_true rfl) rfl (fun _ _ _ => rfl) (fun _ _ _ => rfl) hl.1 kw9 kw10 kw11 kw12 (by omega) (by omega) (by omega) ⟨Nat.le_of_ble_eq_true rfl, by decide⟩ dX2_copyFrom_55 (fun t52 H lc C53 X51 => ?_)
  have I54 := Inv_cp (K := 5) (K2 := 5) I40 C53 rfl rfl (fun _ _ h => h)
  have F55 : Fr [(23, 0), (23, 1), (23, 2), (23, 3), (23, 4)] [24, 25, 26, 27, 228, 229] τ t52 := Fr_cp F41 C53 (by decide)
  refine r_aload_n S dX2_copyFrom_58 rfl (lv_at hl 1 rfl) ?_
  refine r_get (K := 4) (v := .ref (G.2.2.2.1 96)) S X51 (Nat.le_of_ble_eq_true rfl) rfl lk2_15_2 (fun _ => ⟨_, rfl, rfl⟩) dX2_copyFrom_59 ?_
  refine r_iconst S dX2_copyFrom_62 (by decide) (fun v56 z57 => ?_)
  have r58 := R_eq z57
  refine r_aload_n S dX2_copyFrom_63 rfl (lv_at hl 0 rfl) ?_
  refine r_get (K := 4) (v := .ref (G.2.2.2.1 25)) S X51 (Nat.le_of_ble_eq_true rfl) rfl lk2_15_2 (fun _ => ⟨_, rfl, rfl⟩) dX2_copyFrom_64 ?_
  refine r_iconst S dX2_copyFrom_67 (by decide) (fun v59 z60 => ?_)
  have r61 := R_eq z60
  refine r_aload_n S dX2_copyFrom_68 rfl (lv_at hl 0 rfl) ?_
  refine r_get (K := 4) (v := .ref (G.2.2.2.1 25)) S X51 (Nat.le_of_ble_eq_true rfl) rfl lk2_15_2 (fun _ => ⟨_, rfl, rfl⟩) dX2_copyFrom_69 ?_
  refine r_alen (x := (0, .inl fun _ => 0)) (n := 10) (K := 6) (t0 := 0) S X51 (Nat.le_of_ble_eq_true rfl) rfl (fun _ => ⟨_, rfl⟩) rfl (by decide) dX2_copyFrom_72 (fun v62 z63 => ?_)
  have r64 := R_eq z63
  refine r_copy (K2 := 6) (n := 10) (K := 6) S X51 (Nat.le_of_ble_eq_true rfl) rfl (Nat.le_of_ble_eq_true rfl) rfl (fun _ _ _ => rfl) (fun _ _ _ => rfl) hl.1 kw9 kw10 kw11 kw12 (by omega) (by omega) (by omega) ⟨Nat.le_of_ble_eq_true rfl, by decide⟩ dX2_copyFrom_73 (fun t66 H lc C67 X65 => ?_)
  have I68 := Inv_cp (K := 6) (K2 := 6) I54 C67 rfl rfl (fun _ _ h => h)
  have F69 : Fr [(23, 0), (23, 1), (23, 2), (23, 3), (23, 4)] [24, 25, 26, 27, 228, 229] τ t66 := Fr_cp F55 C67 (by decide)
  refine r_aload_n S dX2_copyFrom_76 rfl (lv_at hl 1 rfl) ?_
  refine r_get (K := 4) (v := .ref (G.2.2.2.1 97)) S X65 (Nat.le_of_ble_eq_true rfl) rfl lk2_18_2 (fun _ => ⟨_, rfl, rfl⟩) dX2_copyFrom_77 ?_
  refine r_iconst S dX2_copyFrom_80 (by decide) (fun v70 z71 => ?_)
  have r72 := R_eq z71
  refine r_aload_n S dX2_copyFrom_81 rfl (lv_at hl 0 rfl) ?_
  refine r_get (K := 4) (v := .ref (G.2.2.2.1 26)) S X65 (Nat.le_of_ble_eq_true rfl) rfl lk2_18_2 (fun _ => ⟨_, rfl, rfl⟩) dX2_copyFrom_82 ?_
  refine r_iconst S dX2_copyFrom_85 (by decide) (fun v73 z74 => ?_)
  have r75 := R_eq z74
  refine r_aload_n S dX2_copyFrom_86 rfl (lv_at hl 0 rfl) ?_
  refine r_get (K := 4) (v := .ref (G.2.2.2.1 26)) S X65 (Nat.le_of_ble_eq_true rfl) rfl lk2_18_2 (fun _ => ⟨_, rfl, rfl⟩) dX2_copyFrom_87 ?_
  refine r_alen (x := (0, .inl fun _ => 0)) (n := 10) (K := 7) (t0 := 0) S X65 (Nat.le_of_ble_eq_true rfl) rfl (fun _ => ⟨_, rfl⟩) rfl (by decide) dX2_copyFrom_90 (fun v76 z77 => ?_)
  have r78 := R_eq z77
  refine r_copy (K2 := 7) (n := 10) (K := 7) S X65 (Nat.le_of_ble_eq_true rfl) rfl (Nat.le_of_ble_eq_true rfl) rfl (fun _ _ _ => rfl) (fun _ _ _ => rfl) hl.1 kw9 kw10 kw11 kw12 (by omega) (by omega) (by omega) ⟨Nat.le_of_ble_eq_true rfl, by decide⟩ dX2_copyFrom_91 (fun t80 H lc C81 X79 => ?_)
  have I82 := Inv_cp (K := 7) (K2 := 7) I68 C81 rfl rfl (fun _ _ h => h)
  have F83 : Fr [(23, 0), (23, 1), (23, 2), (23, 3), (23, 4)] [24, 25, 26, 27, 228, 229] τ t80 := Fr_cp F69 C81 (by decide)
  refine r_aload_n S dX2_copyFrom_94 rfl (lv_at hl 1 rfl) ?_
  refine r_get (K := 4) (v := .ref (G.2.2.2.1 98)) S X79 (Nat.le_of_ble_eq_true rfl) rfl lk2_21_2 (fun _ => ⟨_, rfl, rfl⟩) dX2_copyFrom_95 ?_
  refine r_iconst S dX2_copyFrom_98 (by decide) (fun v84 z85 => ?_)
  have r86 := R_eq z85
  refine r_aload_n S dX2_copyFrom_99 rfl (lv_at hl 0 rfl) ?_
  refine r_get (K := 4) (v := .ref (G.2.2.2.1 27)) S X79 (Nat.le_of_ble_eq_true rfl) rfl lk2_21_2 (fun _ => ⟨_, rfl, rfl⟩) dX2_copyFrom_100 ?_
  refine r_iconst S dX2_copyFrom_103 (by decide) (fun v87 z88 => ?_)
  have r89 := R_eq z88
  refine r_aload_n S dX2_copyFrom_104 rfl (lv_at hl 0 rfl) ?_
  refine r_get (K := 4) (v := .ref (G.2.2.2.1 27)) S X79 (Nat.le_of_ble_eq_true rfl) rfl lk2_21_2 (fun _ => ⟨_, rfl, rfl⟩) dX2_copyFrom_105 ?_
  refine r_alen (x := (0, .inl fun _ => 0)) (n := 90) (K := 8) (t0 := 0) S X79 (Nat.le_of_ble_eq_true rfl) rfl (fun _ => ⟨_, rfl⟩) rfl (by decide) dX2_copyFrom_108 (fun v90 z91 => ?_)
  have r92 := R_eq z91
  refine r_copy (K2 := 8) (n := 90) (K := 8) S X79 (Nat.le_of_ble_eq_true rfl) rfl (Nat.le_of_ble_eq_true rfl) rfl (fun _ _ _ => rfl) (fun _ _ _ => rfl) hl.1 kw9 kw10 kw11 kw12 (by omega) (by omega) (by omega) ⟨Nat.le_of_ble_eq_true rfl, by decide⟩ dX2_copyFrom_109 (fun t94 H lc C95 X93 => ?_)
  have I96 := Inv_cp (K := 8) (K2 := 8) I82 C95 rfl rfl (fun _ _ h => h)
  have F97 : Fr [(23, 0), (23, 1), (23, 2), (23, 3), (23, 4)] [24, 25, 26, 27, 228, 229] τ t94 := Fr_cp F83 C95 (by decide)
  refine r_aload_n S dX2_copyFrom_112 rfl (lv_at hl 1 rfl) ?_
  refine r_get (K := 4) (v := .ref (G.2.2.2.1 99)) S X93 (Nat.le_of_ble_eq_true rfl) rfl lk2_24_2 (fun _ => ⟨_, rfl, rfl⟩) dX2_copyFrom_113 ?_
  refine r_iconst S dX2_copyFrom_116 (by decide) (fun v98 z99 => ?_)
  have r100 := R_eq z99
  refine r_aload_n S dX2_copyFrom_117 rfl (lv_at hl 0 rfl) ?_
  refine r_get (K := 4) (v := .ref (G.2.2.2.1 28)) S X93 (Nat.le_of_ble_eq_true rfl) rfl lk2_24_2 (fun _ => ⟨_, rfl, rfl⟩) dX2_copyFrom_118 ?_
  refine r_iconst S dX2_copyFrom_121 (by decide) (fun v101 z102 => ?_)
  have r103 := R_eq z102
  refine r_aload_n S dX2_copyFrom_122 rfl (lv_at hl 0 rfl) ?_
  refine r_get (K := 4) (v := .ref (G.2.2.2.1 28)) S X93 (Nat.le_of_ble_eq_true rfl) rfl lk2_24_2 (fun _ => ⟨_, rfl, rfl⟩) dX2_copyFrom_123 ?_
  refine r_alen (x := (0, .inl fun _ => 0)) (n := 9) (K := 9) (t0 := 1) S X93 (Nat.le_of_ble_eq_true rfl) rfl (fun _ => ⟨_, rfl⟩) rfl (by decide) dX2_copyFrom_126 (fun v104 z105 => ?_)
  have r106 := R_eq z105
  refine r_copyJ (n := 9) (K := 9) S X93 (Nat.le_of_ble_eq_true rfl) rfl (Nat.le_of_ble_eq_true rfl) rfl (fun _ _ _ => rfl) hl.1 kw9 kw10 kw11 kw12 (by omega) (by omega) (by omega) ⟨Nat.le_of_ble_eq_true rfl, by decide⟩ dX2_copyFrom_127 (fun t108 H lc M109 X107 => ?_)
  have I110 := Inv_ml I96 M109
  have F111 : Fr [(23, 0), (23, 1), (23, 2), (23, 3), (23, 4)] [24, 25, 26, 27, 228, 229] τ t108 := Fr_ml F97 M109 (by decide)
  refine r_aload_n S dX2_copyFrom_130 rfl (lv_at hl 1 rfl) ?_
  refine r_get (K := 4) (v := .ref (G.2.2.2.1 100)) S X107 (Nat.le_of_ble_eq_true rfl) rfl lk2_28_2 (fun _ => ⟨_, rfl, rfl⟩) dX2_copyFrom_131 ?_
  refine r_iconst S dX2_copyFrom_134 (by decide) (fun v112 z113 => ?_)
  have r114 := R_eq z113
  refine r_aload_n S dX2_copyFrom_135 rfl (lv_at hl 0 rfl) ?_
  refine r_get (K := 4) (v := .ref (G.2.2.2.1 29)) S X107 (Nat.le_of_ble_eq_true rfl) rfl lk2_28_2 (fun _ => ⟨_, rfl, rfl⟩) dX2_copyFrom_136 ?_
  refine r_iconst S dX2_copyFrom_139 (by decide) (fun v115 z116 => ?_)
  have r117 := R_eq z116
  refine r_aload_n S dX2_copyFrom_140 rfl (lv_at hl 0 rfl) ?_
  refine r_get (K := 4) (v := .ref (G.2.2.2.1 29)) S X107 (Nat.le_of_ble_eq_true rfl) rfl lk2_28_2 (fun _ => ⟨_, rfl, rfl⟩) dX2_copyFrom_141 ?_
  refine r_alen (x := (0, .inl fun _ => 0)) (n := 10) (K := 10) (t0 := 1) S X107 (Nat.le_of_ble_eq_true rfl) rfl (fun _ => ⟨_, rfl⟩) rfl (by decide) dX2_copyFrom_144 (fun v118 z119 => ?_)
  have r120 := R_eq z119
  refine r_copyJ (n := 10) (K := 10) S X107 (Nat.le_of_ble_eq_true rfl) rfl (Nat.le_of_ble_eq_true rfl) rfl (fun _ _ _ => rfl) hl.1 kw9 kw10 kw11 kw12 (by omega) (by omega) (by omega) ⟨Nat.le_of_ble_eq_true rfl, by decide⟩ dX2_copyFrom_145 (fun t122 H lc M123 X121 => ?_)
  have I124 := Inv_ml I110 M123
  have F125 : Fr [(23, 0), (23, 1), (23, 2), (23, 3), (23, 4)] [24, 25, 26, 27, 228, 229] τ t122 := Fr_ml F111 M123 (by decide)
  exact r_vret S hr hlk X121 ⟨I124, F125, (((M123.1 23 (by decide) 2).trans ((M109.1 23 (by decide) 2).trans ((C95.1 23 (by decide) 2).trans ((C81.1 23 (by decide) 2).trans ((C67.1 23 (by decide) 2).trans ((C53.1 23 (by decide) 2).trans ((M38.2 23 2 (Or.inr (by decide))).trans ((M29.2 23 2 (Or.inr (by decide))).trans M21.1)))))))).trans (((M13.2 94 2 (Or.inl (by decide))).trans ((M5.2 94 2 (Or.inl (by decide))).trans rfl)).symm.trans z18).symm), (((M123.1 23 (by decide) 0).trans ((M109.1 23 (by decide) 0).trans ((C95.1 23 (by decide) 0).trans ((C81.1 23 (by decide) 0).trans ((C67.1 23 (by decide) 0).trans ((C53.1 23 (by decide) 0).trans ((M38.2 23 0 (Or.inr (by decide))).trans ((M29.2 23 0 (Or.inr (by decide))).trans ((M21.2 23 0 (Or.inr (by decide))).trans ((M13.2 23 0 (Or.inr (by decide))).trans M5.1)))))))))).trans (rfl.symm.trans z2).symm), (((M123.1 23 (by decide) 1).trans ((M109.1 23 (by decide) 1).trans ((C95.1 23 (by decide) 1).trans ((C81.1 23 (by decide) 1).trans ((C67.1 23 (by decide) 1).trans ((C53.1 23 (by decide) 1).trans ((M38.2 23 1 (Or.inr (by decide))).trans ((M29.2 23 1 (Or.inr (by decide))).trans ((M21.2 23 1 (Or.inr (by decide))).trans M13.1))))))))).trans (((M5.2 94 1 (Or.inl (by decide))).trans rfl).symm.trans z10).symm), (((M123.1 23 (by decide) 3).trans ((M109.1 23 (by decide) 3).trans ((C95.1 23 (by decide) 3).trans ((C81.1 23 (by decide) 3).trans ((C67.1 23 (by decide) 3).trans ((C53.1 23 (by decide) 3).trans ((M38.2 23 3 (Or.inr (by decide))).trans M29.1))))))).trans (((M21.2 94 3 (Or.inl (by decide))).trans ((M13.2 94 3 (Or.inl (by decide))).trans ((M5.2 94 3 (Or.inl (by decide))).trans rfl))).symm.trans z26).symm), (((M123.1 23 (by decide) 4).trans ((M109.1 23 (by decide) 4).trans ((C95.1 23 (by decide) 4).trans ((C81.1 23 (by decide) 4).trans ((C67.1 23 (by decide) 4).trans ((C53.1 23 (by decide) 4).trans M38.1)))))).trans (((M29.2 94 4 (Or.inl (by decide))).trans ((M21.2 94 4 (Or.inl (by decide))).trans ((M13.2 94 4 (Or.inl (by decide))).trans ((M5.2 94 4 (Or.inl (by decide))).trans rfl)))).symm.trans z34).symm), ⟨(fun j hj => ((qof_of (k := 28) (fun j => ((M123.1 228 (by decide) j).trans rfl)) j).trans (cpy_at M109 hj)).trans (qof_of (k := 99) (fun j => ((C95.1 299 (by decide) j).trans ((C81.1 299 (by decide) j).trans ((C67.1 299 (by decide) j).trans ((C53.1 299 (by decide) j).trans ((M38.2 299 j (Or.inl (by decide))).trans ((M29.2 299 j (Or.inl (by decide))).trans ((M21.2 299 j (Or.inl (by decide))).trans ((M13.2 299 j (Or.inl (by decide))).trans ((M5.2 299 j (Or.inl (by decide))).trans rfl)))))))))) j)), (fun j hj => ((qof_of (k := 29) (fun j => rfl) j).trans (cpy_at M123 hj)).trans (qof_of (k := 100) (fun j => ((M109.1 300 (by decide) j).trans ((C95.1 300 (by decide) j).trans ((C81.1 300 (by decide) j).trans ((C67.1 300 (by decide) j).trans ((C53.1 300 (by decide) j).trans ((M38.2 300 j (Or.inl (by decide))).trans ((M29.2 300 j (Or.inl (by decide))).trans ((M21.2 300 j (Or.inl (by decide))).trans ((M13.2 300 j (Or.inl (by decide))).trans ((M5.2 300 j (Or.inl (by decide))).trans rfl))))))))))) j))⟩⟩ dX2_copyFrom_148
def po_pcopyn_23_112 (τ : Tau)     (u : Tau) : Prop := Inv u ∧ Fr [(23, 0), (23, 1), (23, 2), (23, 3), (23, 4)] [24, 25, 26, 27, 228, 229] τ u ∧ u 23 2 = τ 112 2 ∧ u 23 0 = τ 112 0 ∧ u 23 1 = τ 112 1 ∧ u 23 3 = τ 112 3 ∧ u 23 4 = τ 112 4 ∧ NMq u 28 29 τ 117 118
set_option maxHeartbeats 4000000 in
set_option maxRecDepth 100000 in
theorem c_pcopyn_23_112 (l : Launch) (G : Gx) (τ : Tau) (hI : Inv τ) : Cv l G yX2_copyFrom cX2_copyFrom 2 1 60 [.ref (G.2.2.2.1 23), .ref (G.2.2.2.1 112)] τ (po_pcopyn_23_112 τ    ) := by
  unfold Cv
  refine C_of (own := RX2) (by decide) rfl (Nat.le_of_ble_eq_true rfl) ?_
  intro p e s m below meth c ls S hr hlk X hl
  have hl : lv_has ls 2 [(0, .ref (G.2.2.2.1 23)), (1, .ref (G.2.2.2.1 112))] := hl
  refine r_aload_n S dX2_copyFrom_0 rfl (lv_at hl 0 rfl) ?_
  refine r_aload_n S dX2_copyFrom_1 rfl (lv_at hl 1 rfl) ?_
  refine r_getn (K := 4) S X (Nat.le_of_ble_eq_true rfl) rfl lk2_34_2 (fun _ => ⟨_, rfl, rfl⟩) dX2_copyFrom_2 (fun v1 z2 => ?_)
  have r3 : R (0) (8) v1 := rd hI rfl z2
  refine r_put (K := 4) (ty := .int) S X (Nat.le_of_ble_eq_true rfl) rfl lk2_34_2 (fun _ => ⟨_, rfl, Nat.le_of_ble_eq_true rfl, rfl⟩) (fun _ _ _ h => by cases h; exact ⟨rfl, rfl⟩) rfl rfl dX2_copyFrom_5 (fun t4 H lc M5 X6 => ?_)
  have I7 := Inv_mu hI M5 (show Rg (kd 23) 0 v1 from (R_of (lo := 0) (hi := 8) r3 rfl))
  have F8 : Fr [(23, 0), (23, 1), (23, 2), (23, 3), (23, 4)] [24, 25, 26, 27, 228, 229] τ t4 := Fr_mu Fr_rfl M5 (by decide)
  refine r_aload_n S dX2_copyFrom_8 rfl (lv_at hl 0 rfl) ?_
  refine r_aload_n S dX2_copyFrom_9 rfl (lv_at hl 1 rfl) ?_
  refine r_getn (K := 4) S X6 (Nat.le_of_ble_eq_true rfl) rfl lk2_38_2 (fun _ => ⟨_, rfl, rfl⟩) dX2_copyFrom_10 (fun v9 z10 => ?_)
  have r11 : R (0) (9) v9 := rd I7 rfl z10
  refine r_put (K := 4) (ty := .int) S X6 (Nat.le_of_ble_eq_true rfl) rfl lk2_38_2 (fun _ => ⟨_, rfl, Nat.le_of_ble_eq_true rfl, rfl⟩) (fun _ _ _ h => by cases h; exact ⟨rfl, rfl⟩) rfl rfl dX2_copyFrom_13 (fun t12 H lc M13 X14 => ?_)
  have I15 := Inv_mu I7 M13 (show Rg (kd 23) 1 v9 from (R_of (lo := 0) (hi := 9) r11 rfl))
  have F16 : Fr [(23, 0), (23, 1), (23, 2), (23, 3), (23, 4)] [24, 25, 26, 27, 228, 229] τ t12 := Fr_mu F8 M13 (by decide)
  refine r_aload_n S dX2_copyFrom_16 rfl (lv_at hl 0 rfl) ?_
  refine r_aload_n S dX2_copyFrom_17 rfl (lv_at hl 1 rfl) ?_
  refine r_getn (K := 4) S X14 (Nat.le_of_ble_eq_true rfl) rfl lk2_41_2 (fun _ => ⟨_, rfl, rfl⟩) dX2_copyFrom_18 (fun v17 z18 => ?_)
  have r19 : R (0) (9) v17 := rd I15 rfl z18
  refine r_put (K := 4) (ty := .int) S X14 (Nat.le_of_ble_eq_true rfl) rfl lk2_41_2 (fun _ => ⟨_, rfl, Nat.le_of_ble_eq_true rfl, rfl⟩) (fun _ _ _ h => by cases h; exact ⟨rfl, rfl⟩) rfl rfl dX2_copyFrom_21 (fun t20 H lc M21 X22 => ?_)
  have I23 := Inv_mu I15 M21 (show Rg (kd 23) 2 v17 from (R_of (lo := 0) (hi := 9) r19 rfl))
  have F24 : Fr [(23, 0), (23, 1), (23, 2), (23, 3), (23, 4)] [24, 25, 26, 27, 228, 229] τ t20 := Fr_mu F16 M21 (by decide)
  refine r_aload_n S dX2_copyFrom_24 rfl (lv_at hl 0 rfl) ?_
  refine r_aload_n S dX2_copyFrom_25 rfl (lv_at hl 1 rfl) ?_
  refine r_getn (K := 4) S X22 (Nat.le_of_ble_eq_true rfl) rfl lk2_44_2 (fun _ => ⟨_, rfl, rfl⟩) dX2_copyFrom_26 (fun v25 z26 => ?_)
  have r27 : R (0) (10) v25 := rd I23 rfl z26
  refine r_put (K := 4) (ty := .int) S X22 (Nat.le_of_ble_eq_true rfl) rfl lk2_44_2 (fun _ => ⟨_, rfl, Nat.le_of_ble_eq_true rfl, rfl⟩) (fun _ _ _ h => by cases h; exact ⟨rfl, rfl⟩) rfl rfl dX2_copyFrom_29 (fun t28 H lc M29 X30 => ?_)
  have I31 := Inv_mu I23 M29 (show Rg (kd 23) 3 v25 from (R_of (lo := 0) (hi := 10) r27 rfl))
  have F32 : Fr [(23, 0), (23, 1), (23, 2), (23, 3), (23, 4)] [24, 25, 26, 27, 228, 229] τ t28 := Fr_mu F24 M29 (by decide)
  refine r_aload_n S dX2_copyFrom_32 rfl (lv_at hl 0 rfl) ?_
  refine r_aload_n S dX2_copyFrom_33 rfl (lv_at hl 1 rfl) ?_
  refine r_getn (K := 4) S X30 (Nat.le_of_ble_eq_true rfl) rfl lk2_47_2 (fun _ => ⟨_, rfl, rfl⟩) dX2_copyFrom_34 (fun v33 z34 => ?_)
  have r36 := R_any v33
  refine r_put (K := 4) (ty := .int) S X30 (Nat.le_of_ble_eq_true rfl) rfl lk2_47_2 (fun _ => ⟨_, rfl, Nat.le_of_ble_eq_true rfl, rfl⟩) (fun _ _ _ h => by cases h; exact ⟨rfl, rfl⟩) rfl rfl dX2_copyFrom_37 (fun t37 H lc M38 X39 => ?_)
  have I40 := Inv_mu I31 M38 (R_any v33)
  have F41 : Fr [(23, 0), (23, 1), (23, 2), (23, 3), (23, 4)] [24, 25, 26, 27, 228, 229] τ t37 := Fr_mu F32 M38 (by decide)
  refine r_aload_n S dX2_copyFrom_40 rfl (lv_at hl 1 rfl) ?_
  refine r_get (K := 4) (v := .ref (G.2.2.2.1 113)) S X39 (Nat.le_of_ble_eq_true rfl) rfl lk2_9_2 (fun _ => ⟨_, rfl, rfl⟩) dX2_copyFrom_41 ?_
  refine r_iconst S dX2_copyFrom_44 (by decide) (fun v42 z43 => ?_)
  have r44 := R_eq z43
  refine r_aload_n S dX2_copyFrom_45 rfl (lv_at hl 0 rfl) ?_
  refine r_get (K := 4) (v := .ref (G.2.2.2.1 24)) S X39 (Nat.le_of_ble_eq_true rfl) rfl lk2_9_2 (fun _ => ⟨_, rfl, rfl⟩) dX2_copyFrom_46 ?_
  refine r_iconst S dX2_copyFrom_49 (by decide) (fun v45 z46 => ?_)
  have r47 := R_eq z46
  refine r_aload_n S dX2_copyFrom_50 rfl (lv_at hl 0 rfl) ?_
  refine r_get (K := 4) (v := .ref (G.2.2.2.1 24)) S X39 (Nat.le_of_ble_eq_true rfl) rfl lk2_9_2 (fun _ => ⟨_, rfl, rfl⟩) dX2_copyFrom_51 ?_
  refine r_alen (x := (0, .inl fun _ => 0)) (n := 10) (K := 5) (t0 := 0) S X39 (Nat.le_of_ble_eq_true rfl) rfl (fun _ => ⟨_, rfl⟩) rfl (by decide) dX2_copyFrom_54 (fun v48 z49 => ?_)
  have r50 := R_eq z49
  refine r_copy (K2 := 5) (n := 10) (K := 5) S X39 (Nat.le_of_ble_eq_true rfl) rfl (Nat.le_of_ble_eq_true rfl) rfl (fun _ _ _ => rfl) (fun _ _ _ => rfl) hl.1 kw9 kw10 kw11 kw12 (by omega) (by omega) (by omega) ⟨Nat.le_of_ble_eq_true rfl, by decide⟩ dX2_copyFrom_55 (fun t52 H lc C53 X51 => ?_)
  have I54 := Inv_cp (K := 5) (K2 := 5) I40 C53 rfl rfl (fun _ _ h => h)
  have F55 : Fr [(23, 0), (23, 1), (23, 2), (23, 3), (23, 4)] [24, 25, 26, 27, 228, 229] τ t52 := Fr_cp F41 C53 (by decide)
  refine r_aload_n S dX2_copyFrom_58 rfl (lv_at hl 1 rfl) ?_
  refine r_get (K := 4) (v := .ref (G.2.2.2.1 114)) S X51 (Nat.le_of_ble_eq_true rfl) rfl lk2_15_2 (fun _ => ⟨_, rfl, rfl⟩) dX2_copyFrom_59 ?_
  refine r_iconst S dX2_copyFrom_62 (by decide) (fun v56 z57 => ?_)
  have r58 := R_eq z57
  refine r_aload_n S dX2_copyFrom_63 rfl (lv_at hl 0 rfl) ?_
  refine r_get (K := 4) (v := .ref (G.2.2.2.1 25)) S X51 (Nat.le_of_ble_eq_true rfl) rfl lk2_15_2 (fun _ => ⟨_, rfl, rfl⟩) dX2_copyFrom_64 ?_
  refine r_iconst S dX2_copyFrom_67 (by decide) (fun v59 z60 => ?_)
  have r61 := R_eq z60
  refine r_aload_n S dX2_copyFrom_68 rfl (lv_at hl 0 rfl) ?_
  refine r_get (K := 4) (v := .ref (G.2.2.2.1 25)) S X51 (Nat.le_of_ble_eq_true rfl) rfl lk2_15_2 (fun _ => ⟨_, rfl, rfl⟩) dX2_copyFrom_69 ?_
  refine r_alen (x := (0, .inl fun _ => 0)) (n := 10) (K := 6) (t0 := 0) S X51 (Nat.le_of_ble_eq_true rfl) rfl (fun _ => ⟨_, rfl⟩) rfl (by decide) dX2_copyFrom_72 (fun v62 z63 => ?_)
  have r64 := R_eq z63
  refine r_copy (K2 := 6) (n := 10) (K := 6) S X51 (Nat.le_of_ble_eq_true rfl) rfl (Nat.le_of_ble_eq_true rfl) rfl (fun _ _ _ => rfl) (fun _ _ _ => rfl) hl.1 kw9 kw10 kw11 kw12 (by omega) (by omega) (by omega) ⟨Nat.le_of_ble_eq_true rfl, by decide⟩ dX2_copyFrom_73 (fun t66 H lc C67 X65 => ?_)
  have I68 := Inv_cp (K := 6) (K2 := 6) I54 C67 rfl rfl (fun _ _ h => h)
  have F69 : Fr [(23, 0), (23, 1), (23, 2), (23, 3), (23, 4)] [24, 25, 26, 27, 228, 229] τ t66 := Fr_cp F55 C67 (by decide)
  refine r_aload_n S dX2_copyFrom_76 rfl (lv_at hl 1 rfl) ?_
  refine r_get (K := 4) (v := .ref (G.2.2.2.1 115)) S X65 (Nat.le_of_ble_eq_true rfl) rfl lk2_18_2 (fun _ => ⟨_, rfl, rfl⟩) dX2_copyFrom_77 ?_
  refine r_iconst S dX2_copyFrom_80 (by decide) (fun v70 z71 => ?_)
  have r72 := R_eq z71
  refine r_aload_n S dX2_copyFrom_81 rfl (lv_at hl 0 rfl) ?_
  refine r_get (K := 4) (v := .ref (G.2.2.2.1 26)) S X65 (Nat.le_of_ble_eq_true rfl) rfl lk2_18_2 (fun _ => ⟨_, rfl, rfl⟩) dX2_copyFrom_82 ?_
  refine r_iconst S dX2_copyFrom_85 (by decide) (fun v73 z74 => ?_)
  have r75 := R_eq z74
  refine r_aload_n S dX2_copyFrom_86 rfl (lv_at hl 0 rfl) ?_
  refine r_get (K := 4) (v := .ref (G.2.2.2.1 26)) S X65 (Nat.le_of_ble_eq_true rfl) rfl lk2_18_2 (fun _ => ⟨_, rfl, rfl⟩) dX2_copyFrom_87 ?_
  refine r_alen (x := (0, .inl fun _ => 0)) (n := 10) (K := 7) (t0 := 0) S X65 (Nat.le_of_ble_eq_true rfl) rfl (fun _ => ⟨_, rfl⟩) rfl (by decide) dX2_copyFrom_90 (fun v76 z77 => ?_)
  have r78 := R_eq z77
  refine r_copy (K2 := 7) (n := 10) (K := 7) S X65 (Nat.le_of_ble_eq_true rfl) rfl (Nat.le_of_ble_eq_true rfl) rfl (fun _ _ _ => rfl) (fun _ _ _ => rfl) hl.1 kw9 kw10 kw11 kw12 (by omega) (by omega) (by omega) ⟨Nat.le_of_ble_eq_true rfl, by decide⟩ dX2_copyFrom_91 (fun t80 H lc C81 X79 => ?_)
  have I82 := Inv_cp (K := 7) (K2 := 7) I68 C81 rfl rfl (fun _ _ h => h)
  have F83 : Fr [(23, 0), (23, 1), (23, 2), (23, 3), (23, 4)] [24, 25, 26, 27, 228, 229] τ t80 := Fr_cp F69 C81 (by decide)
  refine r_aload_n S dX2_copyFrom_94 rfl (lv_at hl 1 rfl) ?_
  refine r_get (K := 4) (v := .ref (G.2.2.2.1 116)) S X79 (Nat.le_of_ble_eq_true rfl) rfl lk2_21_2 (fun _ => ⟨_, rfl, rfl⟩) dX2_copyFrom_95 ?_
  refine r_iconst S dX2_copyFrom_98 (by decide) (fun v84 z85 => ?_)
  have r86 := R_eq z85
  refine r_aload_n S dX2_copyFrom_99 rfl (lv_at hl 0 rfl) ?_
  refine r_get (K := 4) (v := .ref (G.2.2.2.1 27)) S X79 (Nat.le_of_ble_eq_true rfl) rfl lk2_21_2 (fun _ => ⟨_, rfl, rfl⟩) dX2_copyFrom_100 ?_
  refine r_iconst S dX2_copyFrom_103 (by decide) (fun v87 z88 => ?_)
  have r89 := R_eq z88
  refine r_aload_n S dX2_copyFrom_104 rfl (lv_at hl 0 rfl) ?_
  refine r_get (K := 4) (v := .ref (G.2.2.2.1 27)) S X79 (Nat.le_of_ble_eq_true rfl) rfl lk2_21_2 (fun _ => ⟨_, rfl, rfl⟩) dX2_copyFrom_105 ?_
  refine r_alen (x := (0, .inl fun _ => 0)) (n := 90) (K := 8) (t0 := 0) S X79 (Nat.le_of_ble_eq_true rfl) rfl (fun _ => ⟨_, rfl⟩) rfl (by decide) dX2_copyFrom_108 (fun v90 z91 => ?_)
  have r92 := R_eq z91
  refine r_copy (K2 := 8) (n := 90) (K := 8) S X79 (Nat.le_of_ble_eq_true rfl) rfl (Nat.le_of_ble_eq_true rfl) rfl (fun _ _ _ => rfl) (fun _ _ _ => rfl) hl.1 kw9 kw10 kw11 kw12 (by omega) (by omega) (by omega) ⟨Nat.le_of_ble_eq_true rfl, by decide⟩ dX2_copyFrom_109 (fun t94 H lc C95 X93 => ?_)
  have I96 := Inv_cp (K := 8) (K2 := 8) I82 C95 rfl rfl (fun _ _ h => h)
  have F97 : Fr [(23, 0), (23, 1), (23, 2), (23, 3), (23, 4)] [24, 25, 26, 27, 228, 229] τ t94 := Fr_cp F83 C95 (by decide)
  refine r_aload_n S dX2_copyFrom_112 rfl (lv_at hl 1 rfl) ?_
  refine r_get (K := 4) (v := .ref (G.2.2.2.1 117)) S X93 (Nat.le_of_ble_eq_true rfl) rfl lk2_24_2 (fun _ => ⟨_, rfl, rfl⟩) dX2_copyFrom_113 ?_
  refine r_iconst S dX2_copyFrom_116 (by decide) (fun v98 z99 => ?_)
  have r100 := R_eq z99
  refine r_aload_n S dX2_copyFrom_117 rfl (lv_at hl 0 rfl) ?_
  refine r_get (K := 4) (v := .ref (G.2.2.2.1 28)) S X93 (Nat.le_of_ble_eq_true rfl) rfl lk2_24_2 (fun _ => ⟨_, rfl, rfl⟩) dX2_copyFrom_118 ?_
  refine r_iconst S dX2_copyFrom_121 (by decide) (fun v101 z102 => ?_)
  have r103 := R_eq z102
  refine r_aload_n S dX2_copyFrom_122 rfl (lv_at hl 0 rfl) ?_
  refine r_get (K := 4) (v := .ref (G.2.2.2.1 28)) S X93 (Nat.le_of_ble_eq_true rfl) rfl lk2_24_2 (fun _ => ⟨_, rfl, rfl⟩) dX2_copyFrom_123 ?_
  refine r_alen (x := (0, .inl fun _ => 0)) (n := 9) (K := 9) (t0 := 1) S X93 (Nat.le_of_ble_eq_true rfl) rfl (fun _ => ⟨_, rfl⟩) rfl (by decide) dX2_copyFrom_126 (fun v104 z105 => ?_)
  have r106 := R_eq z105
  refine r_copyJ (n := 9) (K := 9) S X93 (Nat.le_of_ble_eq_true rfl) rfl (Nat.le_of_ble_eq_true rfl) rfl (fun _ _ _ => rfl) hl.1 kw9 kw10 kw11 kw12 (by omega) (by omega) (by omega) ⟨Nat.le_of_ble_eq_true rfl, by decide⟩ dX2_copyFrom_127 (fun t108 H lc M109 X107 => ?_)
  have I110 := Inv_ml I96 M109
  have F111 : Fr [(23, 0), (23, 1), (23, 2), (23, 3), (23, 4)] [24, 25, 26, 27, 228, 229] τ t108 := Fr_ml F97 M109 (by decide)
  refine r_aload_n S dX2_copyFrom_130 rfl (lv_at hl 1 rfl) ?_
  refine r_get (K := 4) (v := .ref (G.2.2.2.1 118)) S X107 (Nat.le_of_ble_eq_true rfl) rfl lk2_28_2 (fun _ => ⟨_, rfl, rfl⟩) dX2_copyFrom_131 ?_
  refine r_iconst S dX2_copyFrom_134 (by decide) (fun v112 z113 => ?_)
  have r114 := R_eq z113
  refine r_aload_n S dX2_copyFrom_135 rfl (lv_at hl 0 rfl) ?_
  refine r_get (K := 4) (v := .ref (G.2.2.2.1 29)) S X107 (Nat.le_of_ble_eq_true rfl) rfl lk2_28_2 (fun _ => ⟨_, rfl, rfl⟩) dX2_copyFrom_136 ?_
  refine r_iconst S dX2_copyFrom_139 (by decide) (fun v115 z116 => ?_)
  have r117 := R_eq z116
  refine r_aload_n S dX2_copyFrom_140 rfl (lv_at hl 0 rfl) ?_
  refine r_get (K := 4) (v := .ref (G.2.2.2.1 29)) S X107 (Nat.le_of_ble_eq_true rfl) rfl lk2_28_2 (fun _ => ⟨_, rfl, rfl⟩) dX2_copyFrom_141 ?_
  refine r_alen (x := (0, .inl fun _ => 0)) (n := 10) (K := 10) (t0 := 1) S X107 (Nat.le_of_ble_eq_true rfl) rfl (fun _ => ⟨_, rfl⟩) rfl (by decide) dX2_copyFrom_144 (fun v118 z119 => ?_)
  have r120 := R_eq z119
  refine r_copyJ (n := 10) (K := 10) S X107 (Nat.le_of_ble_eq_true rfl) rfl (Nat.le_of_ble_eq_true rfl) rfl (fun _ _ _ => rfl) hl.1 kw9 kw10 kw11 kw12 (by omega) (by omega) (by omega) ⟨Nat.le_of_ble_eq_true rfl, by decide⟩ dX2_copyFrom_145 (fun t122 H lc M123 X121 => ?_)
  have I124 := Inv_ml I110 M123
  have F125 : Fr [(23, 0), (23, 1), (23, 2), (23, 3), (23, 4)] [24, 25, 26, 27, 228, 229] τ t122 := Fr_ml F111 M123 (by decide)
  exact r_vret S hr hlk X121 ⟨I124, F125, (((M123.1 23 (by decide) 2).trans ((M109.1 23 (by decide) 2).trans ((C95.1 23 (by decide) 2).trans ((C81.1 23 (by decide) 2).trans ((C67.1 23 (by decide) 2).trans ((C53.1 23 (by decide) 2).trans ((M38.2 23 2 (Or.inr (by decide))).trans ((M29.2 23 2 (Or.inr (by decide))).trans M21.1)))))))).trans (((M13.2 112 2 (Or.inl (by decide))).trans ((M5.2 112 2 (Or.inl (by decide))).trans rfl)).symm.trans z18).symm), (((M123.1 23 (by decide) 0).trans ((M109.1 23 (by decide) 0).trans ((C95.1 23 (by decide) 0).trans ((C81.1 23 (by decide) 0).trans ((C67.1 23 (by decide) 0).trans ((C53.1 23 (by decide) 0).trans ((M38.2 23 0 (Or.inr (by decide))).trans ((M29.2 23 0 (Or.inr (by decide))).trans ((M21.2 23 0 (Or.inr (by decide))).trans ((M13.2 23 0 (Or.inr (by decide))).trans M5.1)))))))))).trans (rfl.symm.trans z2).symm), (((M123.1 23 (by decide) 1).trans ((M109.1 23 (by decide) 1).trans ((C95.1 23 (by decide) 1).trans ((C81.1 23 (by decide) 1).trans ((C67.1 23 (by decide) 1).trans ((C53.1 23 (by decide) 1).trans ((M38.2 23 1 (Or.inr (by decide))).trans ((M29.2 23 1 (Or.inr (by decide))).trans ((M21.2 23 1 (Or.inr (by decide))).trans M13.1))))))))).trans (((M5.2 112 1 (Or.inl (by decide))).trans rfl).symm.trans z10).symm), (((M123.1 23 (by decide) 3).trans ((M109.1 23 (by decide) 3).trans ((C95.1 23 (by decide) 3).trans ((C81.1 23 (by decide) 3).trans ((C67.1 23 (by decide) 3).trans ((C53.1 23 (by decide) 3).trans ((M38.2 23 3 (Or.inr (by decide))).trans M29.1))))))).trans (((M21.2 112 3 (Or.inl (by decide))).trans ((M13.2 112 3 (Or.inl (by decide))).trans ((M5.2 112 3 (Or.inl (by decide))).trans rfl))).symm.trans z26).symm), (((M123.1 23 (by decide) 4).trans ((M109.1 23 (by decide) 4).trans ((C95.1 23 (by decide) 4).trans ((C81.1 23 (by decide) 4).trans ((C67.1 23 (by decide) 4).trans ((C53.1 23 (by decide) 4).trans M38.1)))))).trans (((M29.2 112 4 (Or.inl (by decide))).trans ((M21.2 112 4 (Or.inl (by decide))).trans ((M13.2 112 4 (Or.inl (by decide))).trans ((M5.2 112 4 (Or.inl (by decide))).trans rfl)))).symm.trans z34).symm), ⟨(fun j hj => ((qof_of (k := 28) (fun j => ((M123.1 228 (by decide) j).trans rfl)) j).trans (cpy_at M109 hj)).trans (qof_of (k := 117) (fun j => ((C95.1 317 (by decide) j).trans ((C81.1 317 (by decide) j).trans ((C67.1 317 (by decide) j).trans ((C53.1 317 (by decide) j).trans ((M38.2 317 j (Or.inl (by decide))).trans ((M29.2 317 j (Or.inl (by decide))).trans ((M21.2 317 j (Or.inl (by decide))).trans ((M13.2 317 j (Or.inl (by decide))).trans ((M5.2 317 j (Or.inl (by decide))).trans rfl)))))))))) j)), (fun j hj => ((qof_of (k := 29) (fun j => rfl) j).trans (cpy_at M123 hj)).trans (qof_of (k := 118) (fun j => ((M109.1 318 (by decide) j).trans ((C95.1 318 (by decide) j).trans ((C81.1 318 (by decide) j).trans ((C67.1 318 (by decide) j).trans ((C53.1 318 (by decide) j).trans ((M38.2 318 j (Or.inl (by decide))).trans ((M29.2 318 j (Or.inl (by decide))).trans ((M21.2 318 j (Or.inl (by decide))).trans ((M13.2 318 j (Or.inl (by decide))).trans ((M5.2 318 j (Or.inl (by decide))).trans rfl))))))))))) j))⟩⟩ dX2_copyFrom_148
def po_X10_begin_n (τ : Tau)     (u : Tau) : Prop := Inv u ∧ Fr [(23, 0), (23, 1), (23, 2), (23, 3), (23, 4), (30, 4), (30, 5), (30, 6), (30, 7), (30, 8), (30, 9), (30, 10), (35, 4)] [24, 25, 26, 27, 31, 33, 34, 228, 229] τ u ∧ WI u ∧ u 23 0 = τ 4 0 ∧ u 23 1 = τ 4 1 ∧ u 23 2 = τ 4 2 ∧ u 23 3 = τ 4 3 ∧ u 23 4 = τ 4 4 ∧ NMq u 28 29 τ 9 10
set_option maxHeartbeats 4000000 in
set_option maxRecDepth 100000 in
theorem c_X10_begin_n (l : Launch) (G : Gx) (τ : Tau) (hI : Inv τ) : Cv l G yX10_begin cX10_begin 2 2 81 [.ref (G.2.2.2.1 22), .ref (G.2.2.2.1 4)] τ (po_X10_begin_n τ    ) := by
  unfold Cv
  refine C_of (own := RX10) (by decide) rfl (Nat.le_of_ble_eq_true rfl) ?_
  intro p e s m below meth c ls S hr hlk X hl
  have hl : lv_has ls 2 [(0, .ref (G.2.2.2.1 22)), (1, .ref (G.2.2.2.1 4))] := hl
  refine r_aload_n S dX10_begin_0 rfl (lv_at hl 0 rfl) ?_
  refine r_get (K := 22) (v := .ref (G.2.2.2.1 23)) S X (Nat.le_of_ble_eq_true rfl) rfl lk10_12_8 (fun _ => ⟨_, rfl, rfl⟩) dX10_begin_1 ?_
  refine r_aload_n S dX10_begin_4 rfl (lv_at hl 1 rfl) ?_
  refine r_kv (q_V (As := [.ref (G.2.2.2.1 4)]) (rest := []) (K := 4) (ci := 2) S X (c_pcopyn_23_4 l G τ hI ) ck10_32 (Nat.le_of_ble_eq_true rfl) rfl (fun _ => ⟨_, rfl⟩) ⟨_, _, rfl⟩ ⟨Nat.le_of_ble_eq_true rfl, Nat.le_of_ble_eq_true rfl⟩ rfl hl.1 rfl (Nat.le_of_ble_eq_true rfl) dX10_begin_5 ⟨Nat.le_refl 0, Nat.le_refl 0⟩) X (fun t3 H lc q1 X2 => ?_)
  unfold po_pcopyn_23_4 at q1
  obtain ⟨v4, z5⟩ : ∃ x, τ 4 2 = x := ⟨_, rfl⟩
  have r6 : R (0) (9) v4 := rd hI rfl z5
  obtain ⟨v7, z8⟩ : ∃ x, τ 4 0 = x := ⟨_, rfl⟩
  have r9 : R (0) (8) v7 := rd hI rfl z8
  obtain ⟨v10, z11⟩ : ∃ x, τ 4 1 = x := ⟨_, rfl⟩
  have r12 : R (0) (9) v10 := rd hI rfl z11
  obtain ⟨v13, z14⟩ : ∃ x, τ 4 3 = x := ⟨_, rfl⟩
  have r15 : R (0) (10) v13 := rd hI rfl z14
  obtain ⟨v16, z17⟩ : ∃ x, τ 4 4 = x := ⟨_, rfl⟩
  have r18 := R_any v16
  obtain ⟨q19, q20, q21, q22, q23, q24, q25, q26⟩ := q1
  have F27 : Fr [(23, 0), (23, 1), (23, 2), (23, 3), (23, 4), (30, 4), (30, 5), (30, 6), (30, 7), (30, 8), (30, 9), (30, 10), (35, 4)] [24, 25, 26, 27, 31, 33, 34, 228, 229] τ t3 := Fr_call Fr_rfl q20 (by decide)
  refine r_aload_n S dX10_begin_8 rfl (lv_at hl 0 rfl) ?_
  refine r_get (K := 22) (v := .ref (G.2.2.2.1 30)) S X2 (Nat.le_of_ble_eq_true rfl) rfl lk10_21_8 (fun _ => ⟨_, rfl, rfl⟩) dX10_begin_9 ?_
  refine r_aload_n S dX10_begin_12 rfl (lv_at hl 0 rfl) ?_
  refine r_get (K := 22) (v := .ref (G.2.2.2.1 23)) S X2 (Nat.le_of_ble_eq_true rfl) rfl lk10_12_8 (fun _ => ⟨_, rfl, rfl⟩) dX10_begin_13 ?_
  refine r_kv (q_V (As := [.ref (G.2.2.2.1 23)]) (rest := []) (K := 23) (ci := 3) S X2 (c_X3_begin l G t3 q19 ) ck10_36 (Nat.le_of_ble_eq_true rfl) rfl (fun _ => ⟨_, rfl⟩) ⟨_, _, rfl⟩ ⟨Nat.le_of_ble_eq_true rfl, Nat.le_of_ble_eq_true rfl⟩ rfl hl.1 rfl (Nat.le_of_ble_eq_true rfl) dX10_begin_16 ⟨Nat.le_refl 0, Nat.le_refl 0⟩) X2 (fun t30 H lc q28 X29 => ?_)
  unfold po_X3_begin at q28
  obtain ⟨q31, q32, q33⟩ := q28
  have F34 : Fr [(23, 0), (23, 1), (23, 2), (23, 3), (23, 4), (30, 4), (30, 5), (30, 6), (30, 7), (30, 8), (30, 9), (30, 10), (35, 4)] [24, 25, 26, 27, 31, 33, 34, 228, 229] τ t30 := Fr_call F27 q32 (by decide)
  refine r_aload_n S dX10_begin_19 rfl (lv_at hl 0 rfl) ?_
  refine r_get (K := 22) (v := .ref (G.2.2.2.1 35)) S X29 (Nat.le_of_ble_eq_true rfl) rfl lk10_28_8 (fun _ => ⟨_, rfl, rfl⟩) dX10_begin_20 ?_
  refine r_iconst S dX10_begin_23 (by decide) (fun v35 z36 => ?_)
  have r37 := R_eq z36
  refine r_put (K := 17) (ty := .int) S X29 (Nat.le_of_ble_eq_true rfl) rfl lk10_39_5 (fun _ => ⟨_, rfl, Nat.le_of_ble_eq_true rfl, rfl⟩) (fun _ _ _ h => by cases h; exact ⟨rfl, rfl⟩) rfl rfl dX10_begin_24 (fun t38 H lc M39 X40 => ?_)
  have I41 := Inv_mu q31 M39 (show Rg (kd 35) 4 v35 from (R_of (lo := 0) (hi := 40) r37 rfl))
  have F42 : Fr [(23, 0), (23, 1), (23, 2), (23, 3), (23, 4), (30, 4), (30, 5), (30, 6), (30, 7), (30, 8), (30, 9), (30, 10), (35, 4)] [24, 25, 26, 27, 31, 33, 34, 228, 229] τ t38 := Fr_mu F34 M39 (by decide)
  exact r_vret S hr hlk X40 ⟨I41, F42, (WI_eq q33 ((M39.2 23 2 (Or.inl (by decide))).trans rfl) ((M39.2 30 8 (Or.inl (by decide))).trans rfl)), (((M39.2 23 0 (Or.inl (by decide))).trans ((q32 23 0 (by decide)).trans (q22.trans z8))).trans (rfl.symm.trans z8).symm), (((M39.2 23 1 (Or.inl (by decide))).trans ((q32 23 1 (by decide)).trans (q23.trans z11))).trans (rfl.symm.trans z11).symm), (((M39.2 23 2 (Or.inl (by decide))).trans ((q32 23 2 (by decide)).trans (q21.trans z5))).trans (rfl.symm.trans z5).symm), (((M39.2 23 3 (Or.inl (by decide))).trans ((q32 23 3 (by decide)).trans (q24.trans z14))).trans (rfl.symm.trans z14).symm), (((M39.2 23 4 (Or.inl (by decide))).trans ((q32 23 4 (by decide)).trans (q25.trans z17))).trans (rfl.symm.trans z17).symm), ⟨fun j hj => ((qof_of (k := 28) (fun j => ((M39.2 228 j (Or.inl (by decide))).trans ((q32 228 j (by simp [fz])).trans rfl))) j).trans (q26.1 j hj)).trans (qof_of (k := 9) (fun j => rfl) j), fun j hj => ((qof_of (k := 29) (fun j => ((M39.2 229 j (Or.inl (by decide))).trans ((q32 229 j (by simp [fz])).trans rfl))) j).trans (q26.2 j hj)).trans (qof_of (k := 10) (fun j => rfl) j)⟩⟩ dX10_begin_27
def po_X11_ferry_q (τ : Tau)    (bb : Nat → Int) (nb : Nat) (r : Int32) (u : Tau) : Prop := Inv u ∧ Fr [(3, 1), (3, 2), (3, 5), (3, 6), (4, 0), (4, 1), (4, 2), (4, 3), (4, 4), (1, 3), (1, 4), (1, 5), (1, 7), (1, 8), (3, 4), (1, 2), (1, 1), (0, 12), (0, 9), (23, 0), (23, 1), (23, 2), (23, 3), (23, 4), (30, 4), (30, 5), (30, 6), (30, 7), (30, 8), (30, 9), (30, 10), (35, 4)] [5, 6, 7, 8, 24, 25, 26, 27, 31, 33, 34, 201, 210, 209, 228, 229] τ u ∧ WI u ∧ HI u ∧ (u 1 1).toInt = 0 ∧ QG (sFe bb nb) r (u 0 12).toInt ((∀ j, u 23 j = τ 23 j) ∧ (∀ j, u 228 j = τ 228 j) ∧ ∀ j, u 229 j = τ 229 j) (fun f => PLc u f.2 ∧ PCn u f.2)
set_option maxHeartbeats 4000000 in
set_option maxRecDepth 100000 in
theorem c_X11_ferry_q (l : Launch) (G : Gx) (τ : Tau) (hI : Inv τ) (hWI : WI τ) (hHI : HI τ) (bb : Nat → Int) (nb : Nat) (hB0 : RB0 bb nb τ) : Ci l G yX11_ferry cX11_ferry 2 (some .int) 6 131 [.ref (G.2.2.2.1 0)] τ (po_X11_ferry_q τ    bb nb) := by
  unfold Ci
  refine C_of (own := RX11) (by decide) rfl (Nat.le_of_ble_eq_true rfl) ?_
  intro p e s m below meth c ls S hr hlk X hl
  have hl : lv_has ls 2 [(0, .ref (G.2.2.2.1 0))] := hl
  refine r_aload_n S dX11_ferry_0 rfl (lv_at hl 0 rfl) ?_
  refine r_get (K := 0) (v := .ref (G.2.2.2.1 3)) S X (Nat.le_of_ble_eq_true rfl) rfl lk11_21_9 (fun _ => ⟨_, rfl, rfl⟩) dX11_ferry_1 ?_
  refine r_ki (q_V (As := []) (rest := []) (K := 3) (ci := 0) S X (c_X0_read_q l G τ hI bb nb hB0) ck11_95 (Nat.le_of_ble_eq_true rfl) rfl (fun _ => ⟨_, rfl⟩) ⟨_, _, rfl⟩ ⟨Nat.le_of_ble_eq_true rfl, Nat.le_of_ble_eq_true rfl⟩ rfl hl.1 rfl (Nat.le_of_ble_eq_true rfl) dX11_ferry_4 ⟨Nat.le_refl 0, Nat.le_refl 0⟩) X (fun v4 t3 H lc q1 X2 => ?_)
  unfold po_X0_read_q at q1
  obtain ⟨q5, q6, q7, q8, q9⟩ := q1
  have F10 : Fr [(3, 1), (3, 2), (3, 5), (3, 6), (4, 0), (4, 1), (4, 2), (4, 3), (4, 4), (1, 3), (1, 4), (1, 5), (1, 7), (1, 8), (3, 4), (1, 2), (1, 1), (0, 12), (0, 9), (23, 0), (23, 1), (23, 2), (23, 3), (23, 4), (30, 4), (30, 5), (30, 6), (30, 7), (30, 8), (30, 9), (30, 10), (35, 4)] [5, 6, 7, 8, 24, 25, 26, 27, 31, 33, 34, 201, 210, 209, 228, 229] τ t3 := Fr_call Fr_rfl q6 (by decide)
  refine r_istore_n (lv' := [(1, .int v4), (0, .ref (G.2.2.2.1 0))]) S dX11_ferry_7 rfl hl (by decide) rfl (fun ls hl => ?_)
  refine r_aload_n S dX11_ferry_8 rfl (lv_at hl 1 rfl) ?_
  refine r_aload_n S dX11_ferry_9 rfl (lv_at hl 1 rfl) ?_
  refine r_get (K := 0) (v := .ref (G.2.2.2.1 3)) S X2 (Nat.le_of_ble_eq_true rfl) rfl lk11_21_9 (fun _ => ⟨_, rfl, rfl⟩) dX11_ferry_10 ?_
  refine r_getn (K := 3) S X2 (Nat.le_of_ble_eq_true rfl) rfl lk11_99_0 (fun _ => ⟨_, rfl, rfl⟩) dX11_ferry_13 (fun v11 z12 => ?_)
  have r14 := R_any v11
  refine r_put (K := 0) (ty := .int) S X2 (Nat.le_of_ble_eq_true rfl) rfl lk11_102_9 (fun _ => ⟨_, rfl, Nat.le_of_ble_eq_true rfl, rfl⟩) (fun _ _ _ h => by cases h; exact ⟨rfl, rfl⟩) rfl rfl dX11_ferry_16 (fun t15 H lc M16 X17 => ?_)
  have I18 := Inv_mu q5 M16 (R_any v11)
  have F19 : Fr [(3, 1), (3, 2), (3, 5), (3, 6), (4, 0), (4, 1), (4, 2), (4, 3), (4, 4), (1, 3), (1, 4), (1, 5), (1, 7), (1, 8), (3, 4), (1, 2), (1, 1), (0, 12), (0, 9), (23, 0), (23, 1), (23, 2), (23, 3), (23, 4), (30, 4), (30, 5), (30, 6), (30, 7), (30, 8), (30, 9), (30, 10), (35, 4)] [5, 6, 7, 8, 24, 25, 26, 27, 31, 33, 34, 201, 210, 209, 228, 229] τ t15 := Fr_mu F10 M16 (by decide)
  refine r_aload_n S dX11_ferry_19 rfl (lv_at hl 1 rfl) ?_
  refine r_get (K := 0) (v := .ref (G.2.2.2.1 1)) S X17 (Nat.le_of_ble_eq_true rfl) rfl lk11_12_9 (fun _ => ⟨_, rfl, rfl⟩) dX11_ferry_20 ?_
  refine r_iconst S dX11_ferry_23 (by decide) (fun v20 z21 => ?_)
  have r22 := R_eq z21
  refine r_put (K := 1) (ty := .int) S X17 (Nat.le_of_ble_eq_true rfl) rfl lk11_88_7 (fun _ => ⟨_, rfl, Nat.le_of_ble_eq_true rfl, rfl⟩) (fun _ _ _ h => by cases h; exact ⟨rfl, rfl⟩) rfl rfl dX11_ferry_24 (fun t23 H lc M24 X25 => ?_)
  have I26 := Inv_mu I18 M24 (show Rg (kd 1) 1 v20 from (R_of (lo := 0) (hi := 940) r22 rfl))
  have F27 : Fr [(3, 1), (3, 2), (3, 5), (3, 6), (4, 0), (4, 1), (4, 2), (4, 3), (4, 4), (1, 3), (1, 4), (1, 5), (1, 7), (1, 8), (3, 4), (1, 2), (1, 1), (0, 12), (0, 9), (23, 0), (23, 1), (23, 2), (23, 3), (23, 4), (30, 4), (30, 5), (30, 6), (30, 7), (30, 8), (30, 9), (30, 10), (35, 4)] [5, 6, 7, 8, 24, 25, 26, 27, 31, 33, 34, 201, 210, 209, 228, 229] τ t23 := Fr_mu F19 M24 (by decide)
  refine r_iload_n S dX11_ferry_27 rfl (lv_at hl 0 rfl) ?_
  refine r_if_ne (tgt := 41) S dX11_ferry_28 (by decide) (fun c28 => ?_) (fun c28 => ?_)
  ·
    have r29 : R (1) (1) v4 := ⟨by omega, by omega⟩
    have p30 := q8 (by omega)
    have r31 : R (0) (0) v11 := z12 ▸ p30
    have r32 : R (0) (0) v11 := ⟨by omega, by omega⟩
    have p33 := (QX_1 q9) (by omega)
    obtain ⟨g34, e35, hP36⟩ := p33
    refine r_aload_n S dX11_ferry_41 rfl (lv_at hl 1 rfl) ?_
    refine r_get (K := 0) (v := .ref (G.2.2.2.1 22)) S X25 (Nat.le_of_ble_eq_true rfl) rfl lk11_42_9 (fun _ => ⟨_, rfl, rfl⟩) dX11_ferry_42 ?_
    refine r_aload_n S dX11_ferry_45 rfl (lv_at hl 1 rfl) ?_
    refine r_get (K := 0) (v := .ref (G.2.2.2.1 3)) S X25 (Nat.le_of_ble_eq_true rfl) rfl lk11_21_9 (fun _ => ⟨_, rfl, rfl⟩) dX11_ferry_46 ?_
    refine r_get (K := 3) (v := .ref (G.2.2.2.1 4)) S X25 (Nat.le_of_ble_eq_true rfl) rfl lk11_108_0 (fun _ => ⟨_, rfl, rfl⟩) dX11_ferry_49 ?_
    refine r_kv (q_V (As := [.ref (G.2.2.2.1 4)]) (rest := []) (K := 22) (ci := 8) S X25 (c_X10_begin_n l G t23 I26 ) ck11_112 (Nat.le_of_ble_eq_true rfl) rfl (fun _ => ⟨_, rfl⟩) ⟨_, _, rfl⟩ ⟨Nat.le_of_ble_eq_true rfl, Nat.le_of_ble_eq_true rfl⟩ rfl hl.1 rfl (Nat.le_of_ble_eq_true rfl) dX11_ferry_52 ⟨Nat.le_refl 0, Nat.le_refl 0⟩) X25 (fun t39 H lc q37 X38 => ?_)
    unfold po_X10_begin_n at q37
    obtain ⟨v40, z41⟩ : ∃ x, t23 4 0 = x := ⟨_, rfl⟩
    have r42 : R (0) (8) v40 := rd I26 rfl z41
    obtain ⟨v43, z44⟩ : ∃ x, t23 4 1 = x := ⟨_, rfl⟩
    have r45 : R (0) (9) v43 := rd I26 rfl z44
    obtain ⟨v46, z47⟩ : ∃ x, t23 4 2 = x := ⟨_, rfl⟩
    have r48 : R (0) (9) v46 := rd I26 rfl z47
    obtain ⟨v49, z50⟩ : ∃ x, t23 4 3 = x := ⟨_, rfl⟩
    have r51 : R (0) (10) v49 := rd I26 rfl z50
    obtain ⟨v52, z53⟩ : ∃ x, t23 4 4 = x := ⟨_, rfl⟩
    have r54 := R_any v52
    obtain ⟨q55, q56, q57, q58, q59, q60, q61, q62, q63⟩ := q37
    have F64 : Fr [(3, 1), (3, 2), (3, 5), (3, 6), (4, 0), (4, 1), (4, 2), (4, 3), (4, 4), (1, 3), (1, 4), (1, 5), (1, 7), (1, 8), (3, 4), (1, 2), (1, 1), (0, 12), (0, 9), (23, 0), (23, 1), (23, 2), (23, 3), (23, 4), (30, 4), (30, 5), (30, 6), (30, 7), (30, 8), (30, 9), (30, 10), (35, 4)] [5, 6, 7, 8, 24, 25, 26, 27, 31, 33, 34, 201, 210, 209, 228, 229] τ t39 := Fr_call F27 q56 (by decide)
    refine r_aload_n S dX11_ferry_55 rfl (lv_at hl 1 rfl) ?_
    refine r_iconst S dX11_ferry_56 (by decide) (fun v65 z66 => ?_)
    have r67 := R_eq z66
    refine r_put (K := 0) (ty := .int) S X38 (Nat.le_of_ble_eq_true rfl) rfl lk11_116_9 (fun _ => ⟨_, rfl, Nat.le_of_ble_eq_true rfl, rfl⟩) (fun _ _ _ h => by cases h; exact ⟨rfl, rfl⟩) rfl rfl dX11_ferry_57 (fun t68 H lc M69 X70 => ?_)
    have I71 := Inv_mu q55 M69 (show Rg (kd 0) 9 v65 from (R_of (lo := 0) (hi := 8) r67 rfl))
    have F72 : Fr [(3, 1), (3, 2), (3, 5), (3, 6), (4, 0), (4, 1), (4, 2), (4, 3), (4, 4), (1, 3), (1, 4), (1, 5), (1, 7), (1, 8), (3, 4), (1, 2), (1, 1), (0, 12), (0, 9), (23, 0), (23, 1), (23, 2), (23, 3), (23, 4), (30, 4), (30, 5), (30, 6), (30, 7), (30, 8), (30, 9), (30, 10), (35, 4)] [5, 6, 7, 8, 24, 25, 26, 27, 31, 33, 34, 201, 210, 209, 228, 229] τ t68 := Fr_mu F64 M69 (by decide)
    refine r_aload_n S dX11_ferry_60 rfl (lv_at hl 1 rfl) ?_
    refine r_get (K := 0) (v := .ref (G.2.2.2.1 3)) S X70 (Nat.le_of_ble_eq_true rfl) rfl lk11_21_9 (fun _ => ⟨_, rfl, rfl⟩) dX11_ferry_61 ?_
    refine r_getn (K := 3) S X70 (Nat.le_of_ble_eq_true rfl) rfl lk11_119_0 (fun _ => ⟨_, rfl, rfl⟩) dX11_ferry_64 (fun v73 z74 => ?_)
    have r75 : R (0) (940) v73 := rd I71 rfl z74
    exact r_ret S hr hlk X70 ⟨I71, F72, (WI_eq q57 ((M69.2 23 2 (Or.inl (by decide))).trans rfl) ((M69.2 30 8 (Or.inl (by decide))).trans rfl)), (HI_0 M69.1 (by omega)), (by have h1_0 := congrArg Int32.toInt ((M69.2 1 1 (Or.inl (by decide))).trans ((q56 1 1 (by decide)).trans M24.1)); omega), (QG_r e35 (by have q1 := hP36.1; have q2 := congrArg Int32.toInt z74; have q3 := congrArg Int32.toInt (((M69.2 3 4 (Or.inl (by decide))).trans ((q56 3 4 (by decide)).trans ((M24.2 3 4 (Or.inl (by decide))).trans ((M16.2 3 4 (Or.inl (by decide))).trans rfl)))) : t68 3 4 = t3 3 4); omega) (by have q := congrArg Int32.toInt ((M69.2 0 12 (Or.inr (by decide))).trans ((q56 0 12 (by decide)).trans ((M24.2 0 12 (Or.inl (by decide))).trans M16.1))); omega) ⟨PLc_of hP36.2.2 (fun j hj => match j, hj with | 0, _ => (((M69.2 23 0 (Or.inl (by decide))).trans (q58.trans z41)).trans ((((M24.2 4 0 (Or.inl (by decide))).trans ((M16.2 4 0 (Or.inl (by decide))).trans rfl)).symm.trans z41)).symm) | 1, _ => (((M69.2 23 1 (Or.inl (by decide))).trans (q59.trans z44)).trans ((((M24.2 4 1 (Or.inl (by decide))).trans ((M16.2 4 1 (Or.inl (by decide))).trans rfl)).symm.trans z44)).symm) | 2, _ => (((M69.2 23 2 (Or.inl (by decide))).trans (q60.trans z47)).trans ((((M24.2 4 2 (Or.inl (by decide))).trans ((M16.2 4 2 (Or.inl (by decide))).trans rfl)).symm.trans z47)).symm) | 3, _ => (((M69.2 23 3 (Or.inl (by decide))).trans (q61.trans z50)).trans ((((M24.2 4 3 (Or.inl (by decide))).trans ((M16.2 4 3 (Or.inl (by decide))).trans rfl)).symm.trans z50)).symm) | 4, _ => (((M69.2 23 4 (Or.inl (by decide))).trans (q62.trans z53)).trans ((((M24.2 4 4 (Or.inl (by decide))).trans ((M16.2 4 4 (Or.inl (by decide))).trans rfl)).symm.trans z53)).symm) | n + 5, h => absurd h (by omega)), PCn_of hP36.2.2 (((M69.2 23 2 (Or.inl (by decide))).trans (q60.trans z47)).trans ((((M24.2 4 2 (Or.inl (by decide))).trans ((M16.2 4 2 (Or.inl (by decide))).trans rfl)).symm.trans z47)).symm) (((M69.2 23 3 (Or.inl (by decide))).trans (q61.trans z50)).trans ((((M24.2 4 3 (Or.inl (by decide))).trans ((M16.2 4 3 (Or.inl (by decide))).trans rfl)).symm.trans z50)).symm) ⟨fun j hj => ((qof_of (k := 28) (fun j => ((M69.2 228 j (Or.inl (by decide))).trans rfl)) j).trans (q63.1 j hj)).trans (qof_of (k := 9) (fun j => ((M24.2 209 j (Or.inl (by decide))).trans ((M16.2 209 j (Or.inl (by decide))).trans rfl))) j), fun j hj => ((qof_of (k := 29) (fun j => ((M69.2 229 j (Or.inl (by decide))).trans rfl)) j).trans (q63.2 j hj)).trans (qof_of (k := 10) (fun j => ((M24.2 210 j (Or.inl (by decide))).trans ((M16.2 210 j (Or.inl (by decide))).trans rfl))) j)⟩ (rd (K := 4) q5 rfl rfl) (rd (K := 4) q5 rfl rfl)⟩)⟩ rfl dX11_ferry_67
  ·
    have r76 : R (0) (0) v4 := ⟨by omega, by omega⟩
    have p77 := (QX_0 q9) (by omega)
    obtain ⟨q78, e79, h80, h81⟩ := p77
    refine r_iconst S dX11_ferry_31 (by decide) (fun v82 z83 => ?_)
    have r84 := R_eq z83
    refine r_aload_n S dX11_ferry_32 rfl (lv_at hl 1 rfl) ?_
    refine r_get (K := 0) (v := .ref (G.2.2.2.1 1)) S X25 (Nat.le_of_ble_eq_true rfl) rfl lk11_12_9 (fun _ => ⟨_, rfl, rfl⟩) dX11_ferry_33 ?_
    refine r_getn (K := 1) S X25 (Nat.le_of_ble_eq_true rfl) rfl lk11_105_7 (fun _ => ⟨_, rfl, rfl⟩) dX11_ferry_36 (fun v85 z86 => ?_)
    have r87 : R (0) (940) v85 := rd I26 rfl z86
    refine r_isub S dX11_ferry_39 (fun v88 z89 => ?_)
    obtain ⟨e90, r91⟩ := i_sub (lo := -941) (hi := -1) z89 r84 r87 rfl
    exact r_ret S hr hlk X25 ⟨I26, F27, (WI_eq hWI ((M24.2 23 2 (Or.inl (by decide))).trans ((M16.2 23 2 (Or.inl (by decide))).trans ((q6 23 2 (by decide)).trans rfl))) ((M24.2 30 8 (Or.inl (by decide))).trans ((M16.2 30 8 (Or.inl (by decide))).trans ((q6 30 8 (by decide)).trans rfl)))), (HI_eq hHI ((M24.2 23 2 (Or.inl (by decide))).trans ((M16.2 23 2 (Or.inl (by decide))).trans ((q6 23 2 (by decide)).trans rfl))) ((M24.2 0 8 (Or.inl (by decide))).trans ((M16.2 0 8 (Or.inr (by decide))).trans ((q6 0 8 (by decide)).trans rfl))) ((M24.2 0 9 (Or.inl (by decide))).trans ((M16.2 0 9 (Or.inr (by decide))).trans ((q6 0 9 (by decide)).trans rfl))) ((M24.2 52 8 (Or.inl (by decide))).trans ((M16.2 52 8 (Or.inl (by decide))).trans ((q6 52 8 (by decide)).trans rfl))) ((M24.2 57 8 (Or.inl (by decide))).trans ((M16.2 57 8 (Or.inl (by decide))).trans ((q6 57 8 (by decide)).trans rfl))) ((M24.2 62 8 (Or.inl (by decide))).trans ((M16.2 62 8 (Or.inl (by decide))).trans ((q6 62 8 (by decide)).trans rfl))) ((M24.2 67 8 (Or.inl (by decide))).trans ((M16.2 67 8 (Or.inl (by decide))).trans ((q6 67 8 (by decide)).trans rfl))) ((M24.2 72 8 (Or.inl (by decide))).trans ((M16.2 72 8 (Or.inl (by decide))).trans ((q6 72 8 (by decide)).trans rfl))) ((M24.2 77 8 (Or.inl (by decide))).trans ((M16.2 77 8 (Or.inl (by decide))).trans ((q6 77 8 (by decide)).trans rfl))) ((M24.2 82 8 (Or.inl (by decide))).trans ((M16.2 82 8 (Or.inl (by decide))).trans ((q6 82 8 (by decide)).trans rfl))) ((M24.2 87 8 (Or.inl (by decide))).trans ((M16.2 87 8 (Or.inl (by decide))).trans ((q6 87 8 (by decide)).trans rfl)))), (by have h1_0 := congrArg Int32.toInt M24.1; omega), (QG_l e79 (by have q1 := h81; have q2 := congrArg Int32.toInt z86; have q3 := congrArg Int32.toInt (((M24.2 1 3 (Or.inr (by decide))).trans ((M16.2 1 3 (Or.inl (by decide))).trans rfl)) : t23 1 3 = t3 1 3); omega) (by have q1 := h80; have q2 := congrArg Int32.toInt ((M24.2 0 12 (Or.inl (by decide))).trans M16.1); have q3 := congrArg Int32.toInt z12; omega) ⟨fun j => ((M24.2 23 j (Or.inl (by decide))).trans ((M16.2 23 j (Or.inl (by decide))).trans ((q6 23 j (by simp [fz])).trans rfl))), fun j => ((M24.2 228 j (Or.inl (by decide))).trans ((M16.2 228 j (Or.inl (by decide))).trans ((q6 228 j (by simp [fz])).trans rfl))), fun j => ((M24.2 229 j (Or.inl (by decide))).trans ((M16.2 229 j (Or.inl (by decide))).trans ((q6 229 j (by simp [fz])).trans rfl)))⟩)⟩ rfl dX11_ferry_40
